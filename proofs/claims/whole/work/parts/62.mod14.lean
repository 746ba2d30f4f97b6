/-! the reference: go -/
theorem FrG.rf {V : St} : FrG V V := ⟨Fr.rf, fun _ _ _ => rfl⟩
theorem FrG.u0 {V U : St} (h : FrG V U) {j : Nat} {v : Int32} (hj : (28 ≤ j ∧ j < 31) ∨ j = 32) : FrG V (va_up U 0 (upd (U 0) j v)) := ⟨h.1.up (by decide), fun i a b => by rw [up_s, upd_n (by omega)]; exact h.2 i a b⟩
theorem FrG.up {V U : St} (h : FrG V U) {c : Nat} {f : Nat → Int32} (hc : 17 ≤ c ∧ c ≤ 21) : FrG V (va_up U c f) := ⟨h.1.up (by simp; omega), fun i a b => by rw [up_n (by omega)]; exact h.2 i a b⟩
theorem FrG.mid {V U X : St} (h : FrG V U) (hf : Fr [0, 17, 18, 19] U X) (h0 : ∀ j, ¬ j = 32 → X 0 j = U 0 j) : FrG V X := ⟨h.1.trans (hf.mono (by intro c hc; simp at hc ⊢; omega)), fun i a b => (h0 i b).trans (h.2 i a b)⟩
theorem FrG.trans {V U X : St} (h : FrG V U) (h2 : FrG U X) : FrG V X := ⟨h.1.trans h2.1, fun i a b => (h2.2 i a b).trans (h.2 i a b)⟩
abbrev rmX4_go : Room := { frames := 3, cells := 0, slots := 0, locals := 74 }
theorem lk_X4_go : Lk yX4_go 4 := by decide +kernel
set_option maxHeartbeats 4000000 in
set_option maxRecDepth 100000 in
/-- go(set, watch, from, at) -/
theorem c_X4_go (l : Launch) (D : va_G) (k : Nat → ClassId) (ad : Nat → Nat) (V : St) {n : Nat} (hv : okV n (pq V)) {t : Nat} (ht : t < 1) (x : Int32) (w : Nat) (hw : w < 24) : CtX noX l yX4_go cX4_go 8 (some .int) rmX4_go D (tyL k) (wQ k ad V) [.ref (ad 0), .int x, .int (nI w), .ref (ad 5), .int (nI (4 * t))] (qI D (wQ k ad) (fun r U => pfS (pq V) (fun j => V 5 (4 * t + j)) x w n r (tq U) ∧ FrG V U)) := by
  refine CtX.mk (by decide) (Nat.le_of_ble_eq_true rfl) ?_
  intro p e s m below meth c hx hb hml hown hg hr hlocks hK hN A hA hX hh ls hl
  have hh : Hd D A (wQ k ad V) s.heap s.heap [] := hh
  have hl : lv_has ls 8 [(0, .ref (ad 0)), (1, .int x), (2, .int (nI w)), (3, .ref (ad 5)), (4, .int (nI (4 * t)))] := hl
  have h00 : V 0 0 = nI n := hv.2.1
  have hn24 := hv.1
  refine lv_aload_n hx hb dX4_go_0 rfl (lv_at hl 0 rfl) ?_
  refine lv_aload_n hx hb dX4_go_1 rfl (lv_at hl 3 rfl) ?_
  refine lv_iload hx hb dX4_go_2 (lv_at hl 4 rfl) ?_
  refine callWV (D := D) (wn := fun U0 => wQ k ad U0) (wr := []) (runV hx hb hg hown hml hl.1 ((c_X4_begin l D k ad V hv ht) s.heap.size) [.ref (ad 5), .int (nI (4 * t))] [] (preX (mapSome_sub hh.1 [0, 1, 2, 3, 4, 5, 6, 7, 8, 9, 10, 11, 12, 13, 14, 15, 16, 17, 18, 19, 20, 21, 22] rfl) (hh.2.1.sub [0, 1, 2, 3, 4, 5, 6, 7, 8, 9, 10, 11, 12, 13, 14, 15, 16, 17, 18, 19, 20, 21, 22] (by decide) rfl) hK hN xb0 x0) (va_recv hK hh.1 (ci := 4) (q0 := 0) rfl rfl) wd_805 wd_807 wd_43 wd_53 wd_808 lk_X4_begin ⟨rfl, rfl⟩ ⟨by decide, by decide⟩ ⟨Nat.zero_le _, Nat.zero_le _⟩ rfl (Nat.le_of_ble_eq_true rfl) dX4_go_4) hA hh [0, 1, 2, 3, 4, 5, 6, 7, 8, 9, 10, 11, 12, 13, 14, 15, 16, 17, 18, 19, 20, 21, 22] [] [0, 1, 2, 3, 4, 5, 6, 7, 8, 9, 10, 11, 12, 13, 14, 15, 16, 17, 18, 19, 20, 21, 22] rfl rfl (by decide) (by decide) (by decide) (fun _ => rfl) (fun U0 H locs q_4 hh => ?_)
  obtain ⟨b1, b28, b29, b30, b21, fr⟩ := q_4
  have hrow : ∀ d, d < 4 → ∃ i, i < 4 ∧ U0 20 d = nI i := fun d hd => ⟨_, chR_lt _ _, b1.2.2.2 d hd⟩
  refine lv_iconst (v := 0) hx hb dX4_go_7 (by decide) ?_
  refine lv_istore (lv' := [(5, .int 0), (0, .ref (ad 0)), (1, .int x), (2, .int (nI w)), (3, .ref (ad 5)), (4, .int (nI (4 * t)))]) hx hb dX4_go_8 hl (by decide) rfl (fun ls hl => ?_)
  refine loopW (σ := Nat × Nat × Nat × St) (fun zz9 H locs ls => match zz9 with | (p1, c, s1, U) => Hd D A (wQ k ad U) s.heap H locs ∧ lv_has ls 8 [(0, .ref (ad 0)), (1, .int x), (2, .int (nI w)), (3, .ref (ad 5)), (4, .int (nI (4 * t))), (5, .int (nI p1))] ∧ (p1 ≤ 24) ∧ (s1 ≤ 100) ∧ (c ≤ s1) ∧ (U 0 30 = nI c) ∧ (U 0 28 = nI s1) ∧ (U 0 29 = -4) ∧ (FrG V U) ∧ (U 20 = U0 20) ∧ (rnS (pq V) (fun j => V 5 (4 * t + j)) (U0 20) x w n (100 - s1) (ffS x n p1) (U 17, U 18, U 19, U 21, c, s1) = rnS (pq V) (fun j => V 5 (4 * t + j)) (U0 20) x w n 100 (ffS x n 0) (U0 17, U0 18, U0 19, U0 21, 0, 0))) (fun zz9 => match zz9 with | (p1, c, s1, U) => (100 - s1) * 32 + (31 - p1)) ?_ (0, 0, 0, U0) ⟨hh, (lv_sub hl [1, 2, 3, 4, 5, 0] rfl), (by omega), (by omega), (by omega), b30, b28, b29, fr, rfl, rfl⟩
  intro zz9 H locs ls hI ih
  obtain ⟨p1, c, s1, U⟩ := zz9
  obtain ⟨hh, hl, hp1, hs, hc, h30, h28, h29, hfr, h20, he⟩ := hI
  refine lv_iload hx hb dX4_go_10 (lv_at hl 5 rfl) ?_
  refine lv_aload_n hx hb dX4_go_12 rfl (lv_at hl 0 rfl) ?_
  refine gfl hx hb hg inX4 hown hK hh.1 0 (ci := 4) rfl rfl 0 (by decide) wd_551 rfl dX4_go_13 ?_
  refine topv (nI n) ((hfr.2 0 (by decide) (by decide)).trans h00) ?_
  refine lv_icmp_ge (tgt := 190) hx hb dX4_go_16 (by decide) (fun c_16 => ?_) (fun c_16 => ?_)
  · have c_16 : n ≤ p1 := (nI_leI (a := n) (b := p1) (by omega) (by omega)).mp c_16
    refine lv_iconst (v := 0) hx hb dX4_go_190 (by decide) ?_
    exact retI (Wd := wQ k ad) (v := 0) (U) hx hb hr hlocks dX4_go_191 hh (⟨⟨tq U0, c, s1, 0, b1, by omega, hs, rfl, h30, h28, by show rnS (pq V) (fun j => V 5 (4 * t + j)) (U0 20) x w n 100 (ffS x n 0) (U0 17, U0 18, U0 19, U0 21, 0, 0) = _; rw [← he, ff_end (by omega), rn_end (by omega)]; show ((0 : Nat), (-4 : Int32), _) = (0, U 0 29, _); rw [h29]; rfl⟩, hfr⟩)
  · have c_16 : ¬ n ≤ p1 := fun z => c_16 ((nI_leI (a := n) (b := p1) (by omega) (by omega)).mpr z)
    refine lv_iload_n hx hb dX4_go_19 rfl (lv_at hl 1 rfl) ?_
    refine lv_iload hx hb dX4_go_20 (lv_at hl 5 rfl) ?_
    refine lv_ishr hx hb dX4_go_22 ?_
    refine lv_iconst (v := 1) hx hb dX4_go_23 (by decide) ?_
    refine lv_iand hx hb dX4_go_24 ?_
    refine lv_if_ne (tgt := 34) hx hb dX4_go_25 (by decide) (fun c_25 => ?_) (fun c_25 => ?_)
    · have c_25 : bt x p1 = true := by cases hb9 : bt x p1 with | true => rfl | false => exact absurd ((tS0 x (p := p1) (by omega)).mpr hb9) c_25
      refine lv_aload_n hx hb dX4_go_34 rfl (lv_at hl 0 rfl) ?_
      refine gfl hx hb hg inX4 hown hK hh.1 0 (ci := 4) rfl rfl 28 (by decide) wd_579 rfl dX4_go_35 ?_
      refine topv (nI s1) h28 ?_
      refine lv_bipush (v := 100) hx hb dX4_go_38 (by decide) ?_
      refine lv_icmp_ne (tgt := 45) hx hb dX4_go_40 (by decide) (fun c_40 => ?_) (fun c_40 => ?_)
      · have c_40 : ¬ s1 = 100 := fun z => c_40 ((nI_eq (a := s1) (b := 100) (by omega) (by omega)).mpr z)
        refine lv_aload_n hx hb dX4_go_45 rfl (lv_at hl 0 rfl) ?_
        refine lv_dup hx hb dX4_go_46 rfl ?_
        refine gfl hx hb hg inX4 hown hK hh.1 0 (ci := 4) rfl rfl 28 (by decide) wd_579 rfl dX4_go_47 ?_
        refine topv (nI s1) h28 ?_
        refine lv_iconst (v := 1) hx hb dX4_go_50 (by decide) ?_
        refine lv_iadd hx hb dX4_go_51 ?_
        refine topv (nI (s1 + 1)) (nI_add s1 1) ?_
        refine pfl hx hb hg inX4 tyX4 tyX4_ok nmX4 hown hK hh 0 (ci := 4) rfl rfl 28 (by decide) wd_579 rfl rfl rfl (Nat.le_of_ble_eq_true rfl) dX4_go_52 (wQ k ad (va_up U 0 (upd (U 0) 28 (nI (s1 + 1))))) rfl (fun H locs hh => ?_)
        obtain ⟨U1, eU1⟩ : ∃ z : St, z = va_up U 0 (upd (U 0) 28 (nI (s1 + 1))) := ⟨_, rfl⟩
        rw [← eU1] at hh
        have p1q : pq U1 = pq V := by rw [eU1]; exact (hfr.u0 (Or.inl ⟨by decide, by decide⟩)).pq
        have hv1 : okV n (pq U1) := by rw [p1q]; exact hv
        have e117 : U1 17 = U 17 := by rw [eU1]; rfl
        have e118 : U1 18 = U 18 := by rw [eU1]; rfl
        have e119 : U1 19 = U 19 := by rw [eU1]; rfl
        have e120 : U1 20 = U0 20 := by rw [eU1]; exact h20
        have e121 : U1 21 = U 21 := by rw [eU1]; rfl
        have e1F : U1 5 = V 5 := by rw [eU1]; exact hfr.1 5 (by decide)
        have e128 : U1 0 28 = nI (s1 + 1) := by rw [eU1]; rfl
        have e129 : U1 0 29 = -4 := by rw [eU1]; exact h29
        have e130 : U1 0 30 = nI c := by rw [eU1]; exact h30
        have f1 : FrG V U1 := by rw [eU1]; exact hfr.u0 (Or.inl ⟨by decide, by decide⟩)
        refine lv_aload_n hx hb dX4_go_55 rfl (lv_at hl 0 rfl) ?_
        refine lv_iload hx hb dX4_go_56 (lv_at hl 5 rfl) ?_
        refine lv_aload_n hx hb dX4_go_58 rfl (lv_at hl 3 rfl) ?_
        refine lv_iload hx hb dX4_go_59 (lv_at hl 4 rfl) ?_
        refine callWI (D := D) (wn := fun U2 => wQ k ad U2) (wr := []) (runV hx hb hg hown hml hl.1 ((c_X4_does l D k ad U1 hv1 (q := p1) (by omega) ht (by rw [e120]; exact hrow)) H.size) [.int (nI p1), .ref (ad 5), .int (nI (4 * t))] [] (preX (mapSome_sub hh.1 [0, 1, 2, 3, 4, 5, 6, 7, 8, 9, 10, 11, 12, 13, 14, 15, 16, 17, 18, 19, 20, 21, 22] rfl) (hh.2.1.sub [0, 1, 2, 3, 4, 5, 6, 7, 8, 9, 10, 11, 12, 13, 14, 15, 16, 17, 18, 19, 20, 21, 22] (by decide) rfl) hK hN xb0 x0) (va_recv hK hh.1 (ci := 4) (q0 := 0) rfl rfl) wd_813 wd_815 wd_44 wd_53 wd_816 lk_X4_does ⟨rfl, rfl⟩ ⟨by decide, by decide⟩ ⟨Nat.zero_le _, Nat.zero_le _⟩ rfl (Nat.le_of_ble_eq_true rfl) dX4_go_61) hA hh [0, 1, 2, 3, 4, 5, 6, 7, 8, 9, 10, 11, 12, 13, 14, 15, 16, 17, 18, 19, 20, 21, 22] [] [0, 1, 2, 3, 4, 5, 6, 7, 8, 9, 10, 11, 12, 13, 14, 15, 16, 17, 18, 19, 20, 21, 22] rfl rfl (by decide) (by decide) (by decide) (fun _ => rfl) (fun r_61 U2 H locs q_61 hh => ?_)
        obtain ⟨rfl, t17, t18, t19, t32, tf, t0⟩ := q_61
        rw [p1q, e117, e118, e119, e120, e1F] at t17 t18 t19 t32
        have f2 : FrG V U2 := f1.mid tf t0
        have t20 : U2 20 = U0 20 := (tf 20 (by decide)).trans e120
        have t21 : U2 21 = U 21 := (tf 21 (by decide)).trans e121
        have t28 : U2 0 28 = nI (s1 + 1) := (t0 28 (by decide)).trans e128
        have t29 : U2 0 29 = -4 := (t0 29 (by decide)).trans e129
        have t30 : U2 0 30 = nI c := (t0 30 (by decide)).trans e130
        refine topv (zI (!stF (pq V) (U 17) p1)) (by rw [p1q, e117]) ?_
        refine lv_istore (lv' := [(6, .int (zI (!stF (pq V) (U 17) p1))), (0, .ref (ad 0)), (1, .int x), (2, .int (nI w)), (3, .ref (ad 5)), (4, .int (nI (4 * t))), (5, .int (nI p1))]) hx hb dX4_go_64 hl (by decide) rfl (fun ls hl => ?_)
        refine lv_iload hx hb dX4_go_66 (lv_at hl 6 rfl) ?_
        refine lv_iload_n hx hb dX4_go_68 rfl (lv_at hl 3 rfl) ?_
        refine lv_icmp_ne (tgt := 95) hx hb dX4_go_69 (by decide) (fun c_69 => ?_) (fun c_69 => ?_)
        · have c_69 : ¬ p1 = w := fun z => c_69 ((nI_eq (a := p1) (b := w) (by omega) (by omega)).mpr z)
          obtain ⟨U3, eU3⟩ : ∃ z : St, z = U2 := ⟨_, rfl⟩
          rw [← eU3] at hh
          have e317 : U3 17 = reS (pq V) (fun j => V 5 (4 * t + j)) (U 17) (U 18) (U 19) (U0 20) p1 := by rw [eU3]; exact t17
          have e318 : U3 18 = tiS (pq V) (fun j => V 5 (4 * t + j)) (U 17) (U 18) (U 19) (U0 20) p1 := by rw [eU3]; exact t18
          have e319 : U3 19 = glS (pq V) (fun j => V 5 (4 * t + j)) (U 17) (U 18) (U 19) (U0 20) p1 := by rw [eU3]; exact t19
          have e320 : U3 20 = U0 20 := by rw [eU3]; exact t20
          have e321 : U3 21 = U 21 := by rw [eU3]; exact t21
          have e330 : U3 0 30 = nI (c) := by rw [eU3]; exact t30
          have e328 : U3 0 28 = nI (s1 + 1) := by rw [eU3]; exact t28
          have e329 : U3 0 29 = -4 := by rw [eU3]; exact t29
          have e332 : U3 0 32 = tlS (pq V) (fun j => V 5 (4 * t + j)) (U 17) (U 18) (U 19) (U0 20) p1 := by rw [eU3]; exact t32
          have f3 : FrG V U3 := by rw [eU3]; exact f2
          have hRS : rsS (pq V) (fun j => V 5 (4 * t + j)) (U0 20) w p1 (U 17, U 18, U 19, U 21, c, s1) = (U3 17, U3 18, U3 19, U3 21, c, s1 + 1) := by
            show (reS (pq V) (fun j => V 5 (4 * t + j)) (U 17) (U 18) (U 19) (U0 20) p1, tiS (pq V) (fun j => V 5 (4 * t + j)) (U 17) (U 18) (U 19) (U0 20) p1, glS (pq V) (fun j => V 5 (4 * t + j)) (U 17) (U 18) (U 19) (U0 20) p1, ite _ _ _, ite _ _ _, s1 + 1) = _
            rw [if_neg c_69, if_neg c_69, e317, e318, e319, e321]
          refine lv_iload hx hb dX4_go_95 (lv_at hl 0 rfl) ?_
          refine lv_if_ne (tgt := 108) hx hb dX4_go_97 (by decide) (fun c_97 => ?_) (fun c_97 => ?_)
          · have hF : stF (pq V) (U 17) p1 = false := by cases hb9 : stF (pq V) (U 17) p1 with | false => rfl | true => (rw [hb9] at c_97; exact absurd rfl c_97)
            obtain ⟨j, hk, hj, hlA, hlB, hlC⟩ := hv.2.2.1 p1 (by omega)
            have hk : V 1 p1 = nI j := hk
            have hlB : lim (LB.getD j 0) (V 3 p1) := hlB
            have hkd0 : kd (pq V) p1 = j := kd_of hk hj
            have hk3 : U3 1 p1 = nI j := by rw [f3.1 1 (by decide)]; exact hk
            refine lv_aload_n hx hb dX4_go_108 rfl (lv_at hl 1 rfl) ?_
            refine gfl hx hb hg inX4 hown hK hh.1 0 (ci := 4) rfl rfl 1 (by decide) wd_552 rfl dX4_go_109 ?_
            refine lv_iload hx hb dX4_go_112 (lv_at hl 6 rfl) ?_
            refine ldn hx hb hK hh.1 1 0 rfl rfl (by omega) (by decide) dX4_go_114 ?_
            refine topv (nI j) hk3 ?_
            refine lv_bipush (v := 12) hx hb dX4_go_115 (by decide) ?_
            refine lv_icmp_eq (tgt := 140) hx hb dX4_go_117 (by decide) (fun c_117 => ?_) (fun c_117 => ?_)
            · have c_117 : j = 12 := (nI_eq (a := j) (b := 12) (by omega) (by omega)).mp c_117
              refine lv_iconst (v := 1) hx hb dX4_go_140 (by decide) ?_
              refine lv_goto (tgt := 145) hx hb dX4_go_141 (by decide) ?_
              refine lv_istore (lv' := [(7, .int 1), (6, .int (zI (!stF (pq V) (U 17) p1))), (0, .ref (ad 0)), (1, .int x), (2, .int (nI w)), (3, .ref (ad 5)), (4, .int (nI (4 * t))), (5, .int (nI p1))]) hx hb dX4_go_145 hl (by decide) rfl (fun ls hl => ?_)
              refine lv_aload_n hx hb dX4_go_147 rfl (lv_at hl 2 rfl) ?_
              refine gfl hx hb hg inX4 hown hK hh.1 0 (ci := 4) rfl rfl 1 (by decide) wd_552 rfl dX4_go_148 ?_
              refine lv_iload hx hb dX4_go_151 (lv_at hl 7 rfl) ?_
              refine ldn hx hb hK hh.1 1 0 rfl rfl (by omega) (by decide) dX4_go_153 ?_
              refine topv (nI j) hk3 ?_
              refine lv_bipush (v := 13) hx hb dX4_go_154 (by decide) ?_
              refine lv_icmp_ne (tgt := 166) hx hb dX4_go_156 (by decide) (fun c_156 => ?_) (fun c_156 => ?_)
              · have c_156 : ¬ j = 13 := fun z => c_156 ((nI_eq (a := j) (b := 13) (by omega) (by omega)).mpr z)
                refine lv_iload hx hb dX4_go_166 (lv_at hl 0 rfl) ?_
                refine lv_if_eq (tgt := 181) hx hb dX4_go_168 (by decide) (fun c_168 => ?_) (fun c_168 => ?_)
                · exact absurd (show (1 : Int32) = (0 : Int32) from c_168) (by decide)
                · have hlB25 : lim 25 (V 3 p1) := by rw [c_117] at hlB; exact hlB
                  obtain ⟨b1, hb1, hbe⟩ := lim_nI hlB25 (by decide)
                  have hbq : ix (pq V 3 p1) = b1 := by show ix (V 3 p1) = b1; rw [hbe, ix_nI (by omega)]
                  have hb3 : U3 3 p1 = nI b1 := by rw [f3.1 3 (by decide)]; exact hbe
                  have hkd : kd (pq V) p1 = 12 := hkd0.trans c_117
                  refine lv_aload_n hx hb dX4_go_171 rfl (lv_at hl 2 rfl) ?_
                  refine gfl hx hb hg inX4 hown hK hh.1 0 (ci := 4) rfl rfl 3 (by decide) wd_554 rfl dX4_go_172 ?_
                  refine lv_iload hx hb dX4_go_175 (lv_at hl 7 rfl) ?_
                  refine ldn hx hb hK hh.1 3 0 rfl rfl (by omega) (by decide) dX4_go_177 ?_
                  refine topv (nI b1) hb3 ?_
                  refine lv_goto (tgt := 185) hx hb dX4_go_178 (by decide) ?_
                  refine lv_istore (lv' := [(5, .int (nI b1)), (7, .int 1), (6, .int (zI (!stF (pq V) (U 17) p1))), (0, .ref (ad 0)), (1, .int x), (2, .int (nI w)), (3, .ref (ad 5)), (4, .int (nI (4 * t)))]) hx hb dX4_go_185 hl (by decide) rfl (fun ls hl => ?_)
                  refine lv_goto (tgt := 10) hx hb dX4_go_187 (by decide) ?_
                  exact ih (b1, c, s1 + 1, U3) _ _ _ ⟨hh, (lv_sub hl [3, 4, 5, 6, 7, 0] rfl), (by omega), (by omega), (by omega), e330, e328, e329, f3, e320, (by rw [← he, ff_t c_25, rn_go (m := 100 - s1) (p := p1) (by omega) (by omega) hF, hRS, nw_go hF hkd, hbq, Nat.sub_sub])⟩ (by dsimp only; omega)
              · have c_156 : j = 13 := (nI_eq (a := j) (b := 13) (by omega) (by omega)).mp c_156
                have hkd : kd (pq V) p1 = 13 := hkd0.trans c_156
                exact absurd c_156 (by omega)
            · have c_117 : ¬ j = 12 := fun z => c_117 ((nI_eq (a := j) (b := 12) (by omega) (by omega)).mpr z)
              refine lv_aload_n hx hb dX4_go_120 rfl (lv_at hl 1 rfl) ?_
              refine gfl hx hb hg inX4 hown hK hh.1 0 (ci := 4) rfl rfl 1 (by decide) wd_552 rfl dX4_go_121 ?_
              refine lv_iload hx hb dX4_go_124 (lv_at hl 6 rfl) ?_
              refine ldn hx hb hK hh.1 1 0 rfl rfl (by omega) (by decide) dX4_go_126 ?_
              refine topv (nI j) hk3 ?_
              refine lv_bipush (v := 11) hx hb dX4_go_127 (by decide) ?_
              refine lv_icmp_ne (tgt := 144) hx hb dX4_go_129 (by decide) (fun c_129 => ?_) (fun c_129 => ?_)
              · have c_129 : ¬ j = 11 := fun z => c_129 ((nI_eq (a := j) (b := 11) (by omega) (by omega)).mpr z)
                refine lv_iconst (v := 0) hx hb dX4_go_144 (by decide) ?_
                refine lv_istore (lv' := [(7, .int 0), (6, .int (zI (!stF (pq V) (U 17) p1))), (0, .ref (ad 0)), (1, .int x), (2, .int (nI w)), (3, .ref (ad 5)), (4, .int (nI (4 * t))), (5, .int (nI p1))]) hx hb dX4_go_145 hl (by decide) rfl (fun ls hl => ?_)
                refine lv_aload_n hx hb dX4_go_147 rfl (lv_at hl 2 rfl) ?_
                refine gfl hx hb hg inX4 hown hK hh.1 0 (ci := 4) rfl rfl 1 (by decide) wd_552 rfl dX4_go_148 ?_
                refine lv_iload hx hb dX4_go_151 (lv_at hl 7 rfl) ?_
                refine ldn hx hb hK hh.1 1 0 rfl rfl (by omega) (by decide) dX4_go_153 ?_
                refine topv (nI j) hk3 ?_
                refine lv_bipush (v := 13) hx hb dX4_go_154 (by decide) ?_
                refine lv_icmp_ne (tgt := 166) hx hb dX4_go_156 (by decide) (fun c_156 => ?_) (fun c_156 => ?_)
                · have c_156 : ¬ j = 13 := fun z => c_156 ((nI_eq (a := j) (b := 13) (by omega) (by omega)).mpr z)
                  refine lv_iload hx hb dX4_go_166 (lv_at hl 0 rfl) ?_
                  refine lv_if_eq (tgt := 181) hx hb dX4_go_168 (by decide) (fun c_168 => ?_) (fun c_168 => ?_)
                  · refine lv_iload hx hb dX4_go_181 (lv_at hl 7 rfl) ?_
                    refine lv_iconst (v := 1) hx hb dX4_go_183 (by decide) ?_
                    refine lv_iadd hx hb dX4_go_184 ?_
                    refine topv (nI (p1 + 1)) (nI_add p1 1) ?_
                    refine lv_istore (lv' := [(5, .int (nI (p1 + 1))), (7, .int 0), (6, .int (zI (!stF (pq V) (U 17) p1))), (0, .ref (ad 0)), (1, .int x), (2, .int (nI w)), (3, .ref (ad 5)), (4, .int (nI (4 * t)))]) hx hb dX4_go_185 hl (by decide) rfl (fun ls hl => ?_)
                    refine lv_goto (tgt := 10) hx hb dX4_go_187 (by decide) ?_
                    exact ih (p1 + 1, c, s1 + 1, U3) _ _ _ ⟨hh, (lv_sub hl [3, 4, 5, 6, 7, 0] rfl), (by omega), (by omega), (by omega), e330, e328, e329, f3, e320, (by rw [← he, ff_t c_25, rn_go (m := 100 - s1) (p := p1) (by omega) (by omega) hF, hRS, nw_els hF (by rw [hkd0]; exact c_129) (by rw [hkd0]; exact c_117) (by rw [hkd0]; exact c_156), Nat.sub_sub])⟩ (by dsimp only; omega)
                  · exact absurd (show ¬ (0 : Int32) = (0 : Int32) from c_168) (by decide)
                · have c_156 : j = 13 := (nI_eq (a := j) (b := 13) (by omega) (by omega)).mp c_156
                  have hkd : kd (pq V) p1 = 13 := hkd0.trans c_156
                  refine lv_aload_n hx hb dX4_go_159 rfl (lv_at hl 2 rfl) ?_
                  refine gfl hx hb hg inX4 hown hK hh.1 0 (ci := 4) rfl rfl 0 (by decide) wd_551 rfl dX4_go_160 ?_
                  refine topv (nI n) ((f3.2 0 (by decide) (by decide)).trans h00) ?_
                  refine lv_goto (tgt := 185) hx hb dX4_go_163 (by decide) ?_
                  refine lv_istore (lv' := [(5, .int (nI n)), (7, .int 0), (6, .int (zI (!stF (pq V) (U 17) p1))), (0, .ref (ad 0)), (1, .int x), (2, .int (nI w)), (3, .ref (ad 5)), (4, .int (nI (4 * t)))]) hx hb dX4_go_185 hl (by decide) rfl (fun ls hl => ?_)
                  refine lv_goto (tgt := 10) hx hb dX4_go_187 (by decide) ?_
                  exact ih (n, c, s1 + 1, U3) _ _ _ ⟨hh, (lv_sub hl [3, 4, 5, 6, 7, 0] rfl), (by omega), (by omega), (by omega), e330, e328, e329, f3, e320, (by rw [← he, ff_t c_25, rn_go (m := 100 - s1) (p := p1) (by omega) (by omega) hF, hRS, nw_stop hF hkd, Nat.sub_sub]; exact rn_out (Nat.le_refl _) (by omega))⟩ (by dsimp only; omega)
              · have c_129 : j = 11 := (nI_eq (a := j) (b := 11) (by omega) (by omega)).mp c_129
                refine lv_aload_n hx hb dX4_go_132 rfl (lv_at hl 1 rfl) ?_
                refine gfl hx hb hg inX4 hown hK hh.1 0 (ci := 4) rfl rfl 32 (by decide) wd_583 rfl dX4_go_133 ?_
                refine topv (tlS (pq V) (fun j => V 5 (4 * t + j)) (U 17) (U 18) (U 19) (U0 20) p1) e332 ?_
                refine lv_iconst (v := 1) hx hb dX4_go_136 (by decide) ?_
                refine lv_icmp_ne (tgt := 144) hx hb dX4_go_137 (by decide) (fun c_137 => ?_) (fun c_137 => ?_)
                · have hkd : kd (pq V) p1 = 11 := hkd0.trans c_129
                  refine lv_iconst (v := 0) hx hb dX4_go_144 (by decide) ?_
                  refine lv_istore (lv' := [(7, .int 0), (6, .int (zI (!stF (pq V) (U 17) p1))), (0, .ref (ad 0)), (1, .int x), (2, .int (nI w)), (3, .ref (ad 5)), (4, .int (nI (4 * t))), (5, .int (nI p1))]) hx hb dX4_go_145 hl (by decide) rfl (fun ls hl => ?_)
                  refine lv_aload_n hx hb dX4_go_147 rfl (lv_at hl 2 rfl) ?_
                  refine gfl hx hb hg inX4 hown hK hh.1 0 (ci := 4) rfl rfl 1 (by decide) wd_552 rfl dX4_go_148 ?_
                  refine lv_iload hx hb dX4_go_151 (lv_at hl 7 rfl) ?_
                  refine ldn hx hb hK hh.1 1 0 rfl rfl (by omega) (by decide) dX4_go_153 ?_
                  refine topv (nI j) hk3 ?_
                  refine lv_bipush (v := 13) hx hb dX4_go_154 (by decide) ?_
                  refine lv_icmp_ne (tgt := 166) hx hb dX4_go_156 (by decide) (fun c_156 => ?_) (fun c_156 => ?_)
                  · have c_156 : ¬ j = 13 := fun z => c_156 ((nI_eq (a := j) (b := 13) (by omega) (by omega)).mpr z)
                    refine lv_iload hx hb dX4_go_166 (lv_at hl 0 rfl) ?_
                    refine lv_if_eq (tgt := 181) hx hb dX4_go_168 (by decide) (fun c_168 => ?_) (fun c_168 => ?_)
                    · refine lv_iload hx hb dX4_go_181 (lv_at hl 7 rfl) ?_
                      refine lv_iconst (v := 1) hx hb dX4_go_183 (by decide) ?_
                      refine lv_iadd hx hb dX4_go_184 ?_
                      refine topv (nI (p1 + 1)) (nI_add p1 1) ?_
                      refine lv_istore (lv' := [(5, .int (nI (p1 + 1))), (7, .int 0), (6, .int (zI (!stF (pq V) (U 17) p1))), (0, .ref (ad 0)), (1, .int x), (2, .int (nI w)), (3, .ref (ad 5)), (4, .int (nI (4 * t)))]) hx hb dX4_go_185 hl (by decide) rfl (fun ls hl => ?_)
                      refine lv_goto (tgt := 10) hx hb dX4_go_187 (by decide) ?_
                      exact ih (p1 + 1, c, s1 + 1, U3) _ _ _ ⟨hh, (lv_sub hl [3, 4, 5, 6, 7, 0] rfl), (by omega), (by omega), (by omega), e330, e328, e329, f3, e320, (by rw [← he, ff_t c_25, rn_go (m := 100 - s1) (p := p1) (by omega) (by omega) hF, hRS, nw_if0 hF hkd c_137, Nat.sub_sub])⟩ (by dsimp only; omega)
                    · exact absurd (show ¬ (0 : Int32) = (0 : Int32) from c_168) (by decide)
                  · have c_156 : j = 13 := (nI_eq (a := j) (b := 13) (by omega) (by omega)).mp c_156
                    have hkd : kd (pq V) p1 = 13 := hkd0.trans c_156
                    exact absurd c_156 (by omega)
                · refine lv_iconst (v := 1) hx hb dX4_go_140 (by decide) ?_
                  refine lv_goto (tgt := 145) hx hb dX4_go_141 (by decide) ?_
                  refine lv_istore (lv' := [(7, .int 1), (6, .int (zI (!stF (pq V) (U 17) p1))), (0, .ref (ad 0)), (1, .int x), (2, .int (nI w)), (3, .ref (ad 5)), (4, .int (nI (4 * t))), (5, .int (nI p1))]) hx hb dX4_go_145 hl (by decide) rfl (fun ls hl => ?_)
                  refine lv_aload_n hx hb dX4_go_147 rfl (lv_at hl 2 rfl) ?_
                  refine gfl hx hb hg inX4 hown hK hh.1 0 (ci := 4) rfl rfl 1 (by decide) wd_552 rfl dX4_go_148 ?_
                  refine lv_iload hx hb dX4_go_151 (lv_at hl 7 rfl) ?_
                  refine ldn hx hb hK hh.1 1 0 rfl rfl (by omega) (by decide) dX4_go_153 ?_
                  refine topv (nI j) hk3 ?_
                  refine lv_bipush (v := 13) hx hb dX4_go_154 (by decide) ?_
                  refine lv_icmp_ne (tgt := 166) hx hb dX4_go_156 (by decide) (fun c_156 => ?_) (fun c_156 => ?_)
                  · have c_156 : ¬ j = 13 := fun z => c_156 ((nI_eq (a := j) (b := 13) (by omega) (by omega)).mpr z)
                    refine lv_iload hx hb dX4_go_166 (lv_at hl 0 rfl) ?_
                    refine lv_if_eq (tgt := 181) hx hb dX4_go_168 (by decide) (fun c_168 => ?_) (fun c_168 => ?_)
                    · exact absurd (show (1 : Int32) = (0 : Int32) from c_168) (by decide)
                    · have hlB25 : lim 25 (V 3 p1) := by rw [c_129] at hlB; exact hlB
                      obtain ⟨b1, hb1, hbe⟩ := lim_nI hlB25 (by decide)
                      have hbq : ix (pq V 3 p1) = b1 := by show ix (V 3 p1) = b1; rw [hbe, ix_nI (by omega)]
                      have hb3 : U3 3 p1 = nI b1 := by rw [f3.1 3 (by decide)]; exact hbe
                      have hkd : kd (pq V) p1 = 11 := hkd0.trans c_129
                      refine lv_aload_n hx hb dX4_go_171 rfl (lv_at hl 2 rfl) ?_
                      refine gfl hx hb hg inX4 hown hK hh.1 0 (ci := 4) rfl rfl 3 (by decide) wd_554 rfl dX4_go_172 ?_
                      refine lv_iload hx hb dX4_go_175 (lv_at hl 7 rfl) ?_
                      refine ldn hx hb hK hh.1 3 0 rfl rfl (by omega) (by decide) dX4_go_177 ?_
                      refine topv (nI b1) hb3 ?_
                      refine lv_goto (tgt := 185) hx hb dX4_go_178 (by decide) ?_
                      refine lv_istore (lv' := [(5, .int (nI b1)), (7, .int 1), (6, .int (zI (!stF (pq V) (U 17) p1))), (0, .ref (ad 0)), (1, .int x), (2, .int (nI w)), (3, .ref (ad 5)), (4, .int (nI (4 * t)))]) hx hb dX4_go_185 hl (by decide) rfl (fun ls hl => ?_)
                      refine lv_goto (tgt := 10) hx hb dX4_go_187 (by decide) ?_
                      exact ih (b1, c, s1 + 1, U3) _ _ _ ⟨hh, (lv_sub hl [3, 4, 5, 6, 7, 0] rfl), (by omega), (by omega), (by omega), e330, e328, e329, f3, e320, (by rw [← he, ff_t c_25, rn_go (m := 100 - s1) (p := p1) (by omega) (by omega) hF, hRS, nw_if1 hF hkd c_137, hbq, Nat.sub_sub])⟩ (by dsimp only; omega)
                  · have c_156 : j = 13 := (nI_eq (a := j) (b := 13) (by omega) (by omega)).mp c_156
                    have hkd : kd (pq V) p1 = 13 := hkd0.trans c_156
                    exact absurd c_156 (by omega)
          · have hF : stF (pq V) (U 17) p1 = true := by cases hb9 : stF (pq V) (U 17) p1 with | true => rfl | false => (rw [hb9] at c_97; exact absurd c_97 (by decide))
            refine lv_aload_n hx hb dX4_go_100 rfl (lv_at hl 1 rfl) ?_
            refine lv_iload hx hb dX4_go_101 (lv_at hl 6 rfl) ?_
            refine pfl hx hb hg inX4 tyX4 tyX4_ok nmX4 hown hK hh 0 (ci := 4) rfl rfl 29 (by decide) wd_580 rfl rfl rfl (Nat.le_of_ble_eq_true rfl) dX4_go_103 (wQ k ad (va_up U3 0 (upd (U3 0) 29 (nI p1)))) rfl (fun H locs hh => ?_)
            refine lv_iconst (v := 1) hx hb dX4_go_106 (by decide) ?_
            exact retI (Wd := wQ k ad) (v := 1) (va_up U3 0 (upd (U3 0) 29 (nI p1))) hx hb hr hlocks dX4_go_107 hh (⟨⟨tq U0, c, s1 + 1, 1, b1, by omega, by omega, rfl, e330, e328, by show rnS (pq V) (fun j => V 5 (4 * t + j)) (U0 20) x w n 100 (ffS x n 0) (U0 17, U0 18, U0 19, U0 21, 0, 0) = _; rw [← he, ff_t c_25, rn_fail (m := 100 - s1) (p := p1) (by omega) (by omega) hF, hRS]; rfl⟩, f3.u0 (Or.inl ⟨by decide, by decide⟩)⟩)
        · have c_69 : p1 = w := (nI_eq (a := p1) (b := w) (by omega) (by omega)).mp c_69
          refine lv_aload_n hx hb dX4_go_72 rfl (lv_at hl 1 rfl) ?_
          refine gfl hx hb hg inX4 hown hK hh.1 0 (ci := 4) rfl rfl 31 (by decide) wd_582 rfl dX4_go_73 ?_
          refine lv_aload_n hx hb dX4_go_76 rfl (lv_at hl 1 rfl) ?_
          refine gfl hx hb hg inX4 hown hK hh.1 0 (ci := 4) rfl rfl 30 (by decide) wd_581 rfl dX4_go_77 ?_
          refine topv (nI c) t30 ?_
          refine lv_aload_n hx hb dX4_go_80 rfl (lv_at hl 1 rfl) ?_
          refine gfl hx hb hg inX4 hown hK hh.1 0 (ci := 4) rfl rfl 32 (by decide) wd_583 rfl dX4_go_81 ?_
          refine topv (tlS (pq V) (fun j => V 5 (4 * t + j)) (U 17) (U 18) (U 19) (U0 20) p1) t32 ?_
          refine stn (j := c) hx hb hK hh 21 0 rfl rfl (by omega) (by decide) dX4_go_84 (wQ k ad (va_up U2 21 (upd (U2 21) c (tlS (pq V) (fun j => V 5 (4 * t + j)) (U 17) (U 18) (U 19) (U0 20) p1)))) rfl (fun H locs hh => ?_)
          refine lv_aload_n hx hb dX4_go_85 rfl (lv_at hl 1 rfl) ?_
          refine lv_dup hx hb dX4_go_86 rfl ?_
          refine gfl hx hb hg inX4 hown hK hh.1 0 (ci := 4) rfl rfl 30 (by decide) wd_581 rfl dX4_go_87 ?_
          refine topv (nI c) t30 ?_
          refine lv_iconst (v := 1) hx hb dX4_go_90 (by decide) ?_
          refine lv_iadd hx hb dX4_go_91 ?_
          refine topv (nI (c + 1)) (nI_add c 1) ?_
          refine pfl hx hb hg inX4 tyX4 tyX4_ok nmX4 hown hK hh 0 (ci := 4) rfl rfl 30 (by decide) wd_581 rfl rfl rfl (Nat.le_of_ble_eq_true rfl) dX4_go_92 (wQ k ad (va_up (va_up U2 21 (upd (U2 21) c (tlS (pq V) (fun j => V 5 (4 * t + j)) (U 17) (U 18) (U 19) (U0 20) p1))) 0 (upd ((va_up U2 21 (upd (U2 21) c (tlS (pq V) (fun j => V 5 (4 * t + j)) (U 17) (U 18) (U 19) (U0 20) p1))) 0) 30 (nI (c + 1))))) rfl (fun H locs hh => ?_)
          obtain ⟨U3, eU3⟩ : ∃ z : St, z = va_up (va_up U2 21 (upd (U2 21) c (tlS (pq V) (fun j => V 5 (4 * t + j)) (U 17) (U 18) (U 19) (U0 20) p1))) 0 (upd ((va_up U2 21 (upd (U2 21) c (tlS (pq V) (fun j => V 5 (4 * t + j)) (U 17) (U 18) (U 19) (U0 20) p1))) 0) 30 (nI (c + 1))) := ⟨_, rfl⟩
          rw [← eU3] at hh
          have e317 : U3 17 = reS (pq V) (fun j => V 5 (4 * t + j)) (U 17) (U 18) (U 19) (U0 20) p1 := by rw [eU3]; exact t17
          have e318 : U3 18 = tiS (pq V) (fun j => V 5 (4 * t + j)) (U 17) (U 18) (U 19) (U0 20) p1 := by rw [eU3]; exact t18
          have e319 : U3 19 = glS (pq V) (fun j => V 5 (4 * t + j)) (U 17) (U 18) (U 19) (U0 20) p1 := by rw [eU3]; exact t19
          have e320 : U3 20 = U0 20 := by rw [eU3]; exact t20
          have e321 : U3 21 = upd (U 21) c (tlS (pq V) (fun j => V 5 (4 * t + j)) (U 17) (U 18) (U 19) (U0 20) p1) := by rw [eU3]; rw [← t21]; rfl
          have e330 : U3 0 30 = nI (c + 1) := by rw [eU3]; rfl
          have e328 : U3 0 28 = nI (s1 + 1) := by rw [eU3]; exact t28
          have e329 : U3 0 29 = -4 := by rw [eU3]; exact t29
          have e332 : U3 0 32 = tlS (pq V) (fun j => V 5 (4 * t + j)) (U 17) (U 18) (U 19) (U0 20) p1 := by rw [eU3]; exact t32
          have f3 : FrG V U3 := by rw [eU3]; exact (f2.up ⟨by decide, by decide⟩).u0 (Or.inl ⟨by decide, by decide⟩)
          have hRS : rsS (pq V) (fun j => V 5 (4 * t + j)) (U0 20) w p1 (U 17, U 18, U 19, U 21, c, s1) = (U3 17, U3 18, U3 19, U3 21, c + 1, s1 + 1) := by
            show (reS (pq V) (fun j => V 5 (4 * t + j)) (U 17) (U 18) (U 19) (U0 20) p1, tiS (pq V) (fun j => V 5 (4 * t + j)) (U 17) (U 18) (U 19) (U0 20) p1, glS (pq V) (fun j => V 5 (4 * t + j)) (U 17) (U 18) (U 19) (U0 20) p1, ite _ _ _, ite _ _ _, s1 + 1) = _
            rw [if_pos c_69, if_pos c_69, e317, e318, e319, e321]
          refine lv_iload hx hb dX4_go_95 (lv_at hl 0 rfl) ?_
          refine lv_if_ne (tgt := 108) hx hb dX4_go_97 (by decide) (fun c_97 => ?_) (fun c_97 => ?_)
          · have hF : stF (pq V) (U 17) p1 = false := by cases hb9 : stF (pq V) (U 17) p1 with | false => rfl | true => (rw [hb9] at c_97; exact absurd rfl c_97)
            obtain ⟨j, hk, hj, hlA, hlB, hlC⟩ := hv.2.2.1 p1 (by omega)
            have hk : V 1 p1 = nI j := hk
            have hlB : lim (LB.getD j 0) (V 3 p1) := hlB
            have hkd0 : kd (pq V) p1 = j := kd_of hk hj
            have hk3 : U3 1 p1 = nI j := by rw [f3.1 1 (by decide)]; exact hk
            refine lv_aload_n hx hb dX4_go_108 rfl (lv_at hl 1 rfl) ?_
            refine gfl hx hb hg inX4 hown hK hh.1 0 (ci := 4) rfl rfl 1 (by decide) wd_552 rfl dX4_go_109 ?_
            refine lv_iload hx hb dX4_go_112 (lv_at hl 6 rfl) ?_
            refine ldn hx hb hK hh.1 1 0 rfl rfl (by omega) (by decide) dX4_go_114 ?_
            refine topv (nI j) hk3 ?_
            refine lv_bipush (v := 12) hx hb dX4_go_115 (by decide) ?_
            refine lv_icmp_eq (tgt := 140) hx hb dX4_go_117 (by decide) (fun c_117 => ?_) (fun c_117 => ?_)
            · have c_117 : j = 12 := (nI_eq (a := j) (b := 12) (by omega) (by omega)).mp c_117
              refine lv_iconst (v := 1) hx hb dX4_go_140 (by decide) ?_
              refine lv_goto (tgt := 145) hx hb dX4_go_141 (by decide) ?_
              refine lv_istore (lv' := [(7, .int 1), (6, .int (zI (!stF (pq V) (U 17) p1))), (0, .ref (ad 0)), (1, .int x), (2, .int (nI w)), (3, .ref (ad 5)), (4, .int (nI (4 * t))), (5, .int (nI p1))]) hx hb dX4_go_145 hl (by decide) rfl (fun ls hl => ?_)
              refine lv_aload_n hx hb dX4_go_147 rfl (lv_at hl 2 rfl) ?_
              refine gfl hx hb hg inX4 hown hK hh.1 0 (ci := 4) rfl rfl 1 (by decide) wd_552 rfl dX4_go_148 ?_
              refine lv_iload hx hb dX4_go_151 (lv_at hl 7 rfl) ?_
              refine ldn hx hb hK hh.1 1 0 rfl rfl (by omega) (by decide) dX4_go_153 ?_
              refine topv (nI j) hk3 ?_
              refine lv_bipush (v := 13) hx hb dX4_go_154 (by decide) ?_
              refine lv_icmp_ne (tgt := 166) hx hb dX4_go_156 (by decide) (fun c_156 => ?_) (fun c_156 => ?_)
              · have c_156 : ¬ j = 13 := fun z => c_156 ((nI_eq (a := j) (b := 13) (by omega) (by omega)).mpr z)
                refine lv_iload hx hb dX4_go_166 (lv_at hl 0 rfl) ?_
                refine lv_if_eq (tgt := 181) hx hb dX4_go_168 (by decide) (fun c_168 => ?_) (fun c_168 => ?_)
                · exact absurd (show (1 : Int32) = (0 : Int32) from c_168) (by decide)
                · have hlB25 : lim 25 (V 3 p1) := by rw [c_117] at hlB; exact hlB
                  obtain ⟨b1, hb1, hbe⟩ := lim_nI hlB25 (by decide)
                  have hbq : ix (pq V 3 p1) = b1 := by show ix (V 3 p1) = b1; rw [hbe, ix_nI (by omega)]
                  have hb3 : U3 3 p1 = nI b1 := by rw [f3.1 3 (by decide)]; exact hbe
                  have hkd : kd (pq V) p1 = 12 := hkd0.trans c_117
                  refine lv_aload_n hx hb dX4_go_171 rfl (lv_at hl 2 rfl) ?_
                  refine gfl hx hb hg inX4 hown hK hh.1 0 (ci := 4) rfl rfl 3 (by decide) wd_554 rfl dX4_go_172 ?_
                  refine lv_iload hx hb dX4_go_175 (lv_at hl 7 rfl) ?_
                  refine ldn hx hb hK hh.1 3 0 rfl rfl (by omega) (by decide) dX4_go_177 ?_
                  refine topv (nI b1) hb3 ?_
                  refine lv_goto (tgt := 185) hx hb dX4_go_178 (by decide) ?_
                  refine lv_istore (lv' := [(5, .int (nI b1)), (7, .int 1), (6, .int (zI (!stF (pq V) (U 17) p1))), (0, .ref (ad 0)), (1, .int x), (2, .int (nI w)), (3, .ref (ad 5)), (4, .int (nI (4 * t)))]) hx hb dX4_go_185 hl (by decide) rfl (fun ls hl => ?_)
                  refine lv_goto (tgt := 10) hx hb dX4_go_187 (by decide) ?_
                  exact ih (b1, c + 1, s1 + 1, U3) _ _ _ ⟨hh, (lv_sub hl [3, 4, 5, 6, 7, 0] rfl), (by omega), (by omega), (by omega), e330, e328, e329, f3, e320, (by rw [← he, ff_t c_25, rn_go (m := 100 - s1) (p := p1) (by omega) (by omega) hF, hRS, nw_go hF hkd, hbq, Nat.sub_sub])⟩ (by dsimp only; omega)
              · have c_156 : j = 13 := (nI_eq (a := j) (b := 13) (by omega) (by omega)).mp c_156
                have hkd : kd (pq V) p1 = 13 := hkd0.trans c_156
                exact absurd c_156 (by omega)
            · have c_117 : ¬ j = 12 := fun z => c_117 ((nI_eq (a := j) (b := 12) (by omega) (by omega)).mpr z)
              refine lv_aload_n hx hb dX4_go_120 rfl (lv_at hl 1 rfl) ?_
              refine gfl hx hb hg inX4 hown hK hh.1 0 (ci := 4) rfl rfl 1 (by decide) wd_552 rfl dX4_go_121 ?_
              refine lv_iload hx hb dX4_go_124 (lv_at hl 6 rfl) ?_
              refine ldn hx hb hK hh.1 1 0 rfl rfl (by omega) (by decide) dX4_go_126 ?_
              refine topv (nI j) hk3 ?_
              refine lv_bipush (v := 11) hx hb dX4_go_127 (by decide) ?_
              refine lv_icmp_ne (tgt := 144) hx hb dX4_go_129 (by decide) (fun c_129 => ?_) (fun c_129 => ?_)
              · have c_129 : ¬ j = 11 := fun z => c_129 ((nI_eq (a := j) (b := 11) (by omega) (by omega)).mpr z)
                refine lv_iconst (v := 0) hx hb dX4_go_144 (by decide) ?_
                refine lv_istore (lv' := [(7, .int 0), (6, .int (zI (!stF (pq V) (U 17) p1))), (0, .ref (ad 0)), (1, .int x), (2, .int (nI w)), (3, .ref (ad 5)), (4, .int (nI (4 * t))), (5, .int (nI p1))]) hx hb dX4_go_145 hl (by decide) rfl (fun ls hl => ?_)
                refine lv_aload_n hx hb dX4_go_147 rfl (lv_at hl 2 rfl) ?_
                refine gfl hx hb hg inX4 hown hK hh.1 0 (ci := 4) rfl rfl 1 (by decide) wd_552 rfl dX4_go_148 ?_
                refine lv_iload hx hb dX4_go_151 (lv_at hl 7 rfl) ?_
                refine ldn hx hb hK hh.1 1 0 rfl rfl (by omega) (by decide) dX4_go_153 ?_
                refine topv (nI j) hk3 ?_
                refine lv_bipush (v := 13) hx hb dX4_go_154 (by decide) ?_
                refine lv_icmp_ne (tgt := 166) hx hb dX4_go_156 (by decide) (fun c_156 => ?_) (fun c_156 => ?_)
                · have c_156 : ¬ j = 13 := fun z => c_156 ((nI_eq (a := j) (b := 13) (by omega) (by omega)).mpr z)
                  refine lv_iload hx hb dX4_go_166 (lv_at hl 0 rfl) ?_
                  refine lv_if_eq (tgt := 181) hx hb dX4_go_168 (by decide) (fun c_168 => ?_) (fun c_168 => ?_)
                  · refine lv_iload hx hb dX4_go_181 (lv_at hl 7 rfl) ?_
                    refine lv_iconst (v := 1) hx hb dX4_go_183 (by decide) ?_
                    refine lv_iadd hx hb dX4_go_184 ?_
                    refine topv (nI (p1 + 1)) (nI_add p1 1) ?_
                    refine lv_istore (lv' := [(5, .int (nI (p1 + 1))), (7, .int 0), (6, .int (zI (!stF (pq V) (U 17) p1))), (0, .ref (ad 0)), (1, .int x), (2, .int (nI w)), (3, .ref (ad 5)), (4, .int (nI (4 * t)))]) hx hb dX4_go_185 hl (by decide) rfl (fun ls hl => ?_)
                    refine lv_goto (tgt := 10) hx hb dX4_go_187 (by decide) ?_
                    exact ih (p1 + 1, c + 1, s1 + 1, U3) _ _ _ ⟨hh, (lv_sub hl [3, 4, 5, 6, 7, 0] rfl), (by omega), (by omega), (by omega), e330, e328, e329, f3, e320, (by rw [← he, ff_t c_25, rn_go (m := 100 - s1) (p := p1) (by omega) (by omega) hF, hRS, nw_els hF (by rw [hkd0]; exact c_129) (by rw [hkd0]; exact c_117) (by rw [hkd0]; exact c_156), Nat.sub_sub])⟩ (by dsimp only; omega)
                  · exact absurd (show ¬ (0 : Int32) = (0 : Int32) from c_168) (by decide)
                · have c_156 : j = 13 := (nI_eq (a := j) (b := 13) (by omega) (by omega)).mp c_156
                  have hkd : kd (pq V) p1 = 13 := hkd0.trans c_156
                  refine lv_aload_n hx hb dX4_go_159 rfl (lv_at hl 2 rfl) ?_
                  refine gfl hx hb hg inX4 hown hK hh.1 0 (ci := 4) rfl rfl 0 (by decide) wd_551 rfl dX4_go_160 ?_
                  refine topv (nI n) ((f3.2 0 (by decide) (by decide)).trans h00) ?_
                  refine lv_goto (tgt := 185) hx hb dX4_go_163 (by decide) ?_
                  refine lv_istore (lv' := [(5, .int (nI n)), (7, .int 0), (6, .int (zI (!stF (pq V) (U 17) p1))), (0, .ref (ad 0)), (1, .int x), (2, .int (nI w)), (3, .ref (ad 5)), (4, .int (nI (4 * t)))]) hx hb dX4_go_185 hl (by decide) rfl (fun ls hl => ?_)
                  refine lv_goto (tgt := 10) hx hb dX4_go_187 (by decide) ?_
                  exact ih (n, c + 1, s1 + 1, U3) _ _ _ ⟨hh, (lv_sub hl [3, 4, 5, 6, 7, 0] rfl), (by omega), (by omega), (by omega), e330, e328, e329, f3, e320, (by rw [← he, ff_t c_25, rn_go (m := 100 - s1) (p := p1) (by omega) (by omega) hF, hRS, nw_stop hF hkd, Nat.sub_sub]; exact rn_out (Nat.le_refl _) (by omega))⟩ (by dsimp only; omega)
              · have c_129 : j = 11 := (nI_eq (a := j) (b := 11) (by omega) (by omega)).mp c_129
                refine lv_aload_n hx hb dX4_go_132 rfl (lv_at hl 1 rfl) ?_
                refine gfl hx hb hg inX4 hown hK hh.1 0 (ci := 4) rfl rfl 32 (by decide) wd_583 rfl dX4_go_133 ?_
                refine topv (tlS (pq V) (fun j => V 5 (4 * t + j)) (U 17) (U 18) (U 19) (U0 20) p1) e332 ?_
                refine lv_iconst (v := 1) hx hb dX4_go_136 (by decide) ?_
                refine lv_icmp_ne (tgt := 144) hx hb dX4_go_137 (by decide) (fun c_137 => ?_) (fun c_137 => ?_)
                · have hkd : kd (pq V) p1 = 11 := hkd0.trans c_129
                  refine lv_iconst (v := 0) hx hb dX4_go_144 (by decide) ?_
                  refine lv_istore (lv' := [(7, .int 0), (6, .int (zI (!stF (pq V) (U 17) p1))), (0, .ref (ad 0)), (1, .int x), (2, .int (nI w)), (3, .ref (ad 5)), (4, .int (nI (4 * t))), (5, .int (nI p1))]) hx hb dX4_go_145 hl (by decide) rfl (fun ls hl => ?_)
                  refine lv_aload_n hx hb dX4_go_147 rfl (lv_at hl 2 rfl) ?_
                  refine gfl hx hb hg inX4 hown hK hh.1 0 (ci := 4) rfl rfl 1 (by decide) wd_552 rfl dX4_go_148 ?_
                  refine lv_iload hx hb dX4_go_151 (lv_at hl 7 rfl) ?_
                  refine ldn hx hb hK hh.1 1 0 rfl rfl (by omega) (by decide) dX4_go_153 ?_
                  refine topv (nI j) hk3 ?_
                  refine lv_bipush (v := 13) hx hb dX4_go_154 (by decide) ?_
                  refine lv_icmp_ne (tgt := 166) hx hb dX4_go_156 (by decide) (fun c_156 => ?_) (fun c_156 => ?_)
                  · have c_156 : ¬ j = 13 := fun z => c_156 ((nI_eq (a := j) (b := 13) (by omega) (by omega)).mpr z)
                    refine lv_iload hx hb dX4_go_166 (lv_at hl 0 rfl) ?_
                    refine lv_if_eq (tgt := 181) hx hb dX4_go_168 (by decide) (fun c_168 => ?_) (fun c_168 => ?_)
                    · refine lv_iload hx hb dX4_go_181 (lv_at hl 7 rfl) ?_
                      refine lv_iconst (v := 1) hx hb dX4_go_183 (by decide) ?_
                      refine lv_iadd hx hb dX4_go_184 ?_
                      refine topv (nI (p1 + 1)) (nI_add p1 1) ?_
                      refine lv_istore (lv' := [(5, .int (nI (p1 + 1))), (7, .int 0), (6, .int (zI (!stF (pq V) (U 17) p1))), (0, .ref (ad 0)), (1, .int x), (2, .int (nI w)), (3, .ref (ad 5)), (4, .int (nI (4 * t)))]) hx hb dX4_go_185 hl (by decide) rfl (fun ls hl => ?_)
                      refine lv_goto (tgt := 10) hx hb dX4_go_187 (by decide) ?_
                      exact ih (p1 + 1, c + 1, s1 + 1, U3) _ _ _ ⟨hh, (lv_sub hl [3, 4, 5, 6, 7, 0] rfl), (by omega), (by omega), (by omega), e330, e328, e329, f3, e320, (by rw [← he, ff_t c_25, rn_go (m := 100 - s1) (p := p1) (by omega) (by omega) hF, hRS, nw_if0 hF hkd c_137, Nat.sub_sub])⟩ (by dsimp only; omega)
                    · exact absurd (show ¬ (0 : Int32) = (0 : Int32) from c_168) (by decide)
                  · have c_156 : j = 13 := (nI_eq (a := j) (b := 13) (by omega) (by omega)).mp c_156
                    have hkd : kd (pq V) p1 = 13 := hkd0.trans c_156
                    exact absurd c_156 (by omega)
                · refine lv_iconst (v := 1) hx hb dX4_go_140 (by decide) ?_
                  refine lv_goto (tgt := 145) hx hb dX4_go_141 (by decide) ?_
                  refine lv_istore (lv' := [(7, .int 1), (6, .int (zI (!stF (pq V) (U 17) p1))), (0, .ref (ad 0)), (1, .int x), (2, .int (nI w)), (3, .ref (ad 5)), (4, .int (nI (4 * t))), (5, .int (nI p1))]) hx hb dX4_go_145 hl (by decide) rfl (fun ls hl => ?_)
                  refine lv_aload_n hx hb dX4_go_147 rfl (lv_at hl 2 rfl) ?_
                  refine gfl hx hb hg inX4 hown hK hh.1 0 (ci := 4) rfl rfl 1 (by decide) wd_552 rfl dX4_go_148 ?_
                  refine lv_iload hx hb dX4_go_151 (lv_at hl 7 rfl) ?_
                  refine ldn hx hb hK hh.1 1 0 rfl rfl (by omega) (by decide) dX4_go_153 ?_
                  refine topv (nI j) hk3 ?_
                  refine lv_bipush (v := 13) hx hb dX4_go_154 (by decide) ?_
                  refine lv_icmp_ne (tgt := 166) hx hb dX4_go_156 (by decide) (fun c_156 => ?_) (fun c_156 => ?_)
                  · have c_156 : ¬ j = 13 := fun z => c_156 ((nI_eq (a := j) (b := 13) (by omega) (by omega)).mpr z)
                    refine lv_iload hx hb dX4_go_166 (lv_at hl 0 rfl) ?_
                    refine lv_if_eq (tgt := 181) hx hb dX4_go_168 (by decide) (fun c_168 => ?_) (fun c_168 => ?_)
                    · exact absurd (show (1 : Int32) = (0 : Int32) from c_168) (by decide)
                    · have hlB25 : lim 25 (V 3 p1) := by rw [c_129] at hlB; exact hlB
                      obtain ⟨b1, hb1, hbe⟩ := lim_nI hlB25 (by decide)
                      have hbq : ix (pq V 3 p1) = b1 := by show ix (V 3 p1) = b1; rw [hbe, ix_nI (by omega)]
                      have hb3 : U3 3 p1 = nI b1 := by rw [f3.1 3 (by decide)]; exact hbe
                      have hkd : kd (pq V) p1 = 11 := hkd0.trans c_129
                      refine lv_aload_n hx hb dX4_go_171 rfl (lv_at hl 2 rfl) ?_
                      refine gfl hx hb hg inX4 hown hK hh.1 0 (ci := 4) rfl rfl 3 (by decide) wd_554 rfl dX4_go_172 ?_
                      refine lv_iload hx hb dX4_go_175 (lv_at hl 7 rfl) ?_
                      refine ldn hx hb hK hh.1 3 0 rfl rfl (by omega) (by decide) dX4_go_177 ?_
                      refine topv (nI b1) hb3 ?_
                      refine lv_goto (tgt := 185) hx hb dX4_go_178 (by decide) ?_
                      refine lv_istore (lv' := [(5, .int (nI b1)), (7, .int 1), (6, .int (zI (!stF (pq V) (U 17) p1))), (0, .ref (ad 0)), (1, .int x), (2, .int (nI w)), (3, .ref (ad 5)), (4, .int (nI (4 * t)))]) hx hb dX4_go_185 hl (by decide) rfl (fun ls hl => ?_)
                      refine lv_goto (tgt := 10) hx hb dX4_go_187 (by decide) ?_
                      exact ih (b1, c + 1, s1 + 1, U3) _ _ _ ⟨hh, (lv_sub hl [3, 4, 5, 6, 7, 0] rfl), (by omega), (by omega), (by omega), e330, e328, e329, f3, e320, (by rw [← he, ff_t c_25, rn_go (m := 100 - s1) (p := p1) (by omega) (by omega) hF, hRS, nw_if1 hF hkd c_137, hbq, Nat.sub_sub])⟩ (by dsimp only; omega)
                  · have c_156 : j = 13 := (nI_eq (a := j) (b := 13) (by omega) (by omega)).mp c_156
                    have hkd : kd (pq V) p1 = 13 := hkd0.trans c_156
                    exact absurd c_156 (by omega)
          · have hF : stF (pq V) (U 17) p1 = true := by cases hb9 : stF (pq V) (U 17) p1 with | true => rfl | false => (rw [hb9] at c_97; exact absurd c_97 (by decide))
            refine lv_aload_n hx hb dX4_go_100 rfl (lv_at hl 1 rfl) ?_
            refine lv_iload hx hb dX4_go_101 (lv_at hl 6 rfl) ?_
            refine pfl hx hb hg inX4 tyX4 tyX4_ok nmX4 hown hK hh 0 (ci := 4) rfl rfl 29 (by decide) wd_580 rfl rfl rfl (Nat.le_of_ble_eq_true rfl) dX4_go_103 (wQ k ad (va_up U3 0 (upd (U3 0) 29 (nI p1)))) rfl (fun H locs hh => ?_)
            refine lv_iconst (v := 1) hx hb dX4_go_106 (by decide) ?_
            exact retI (Wd := wQ k ad) (v := 1) (va_up U3 0 (upd (U3 0) 29 (nI p1))) hx hb hr hlocks dX4_go_107 hh (⟨⟨tq U0, c + 1, s1 + 1, 1, b1, by omega, by omega, rfl, e330, e328, by show rnS (pq V) (fun j => V 5 (4 * t + j)) (U0 20) x w n 100 (ffS x n 0) (U0 17, U0 18, U0 19, U0 21, 0, 0) = _; rw [← he, ff_t c_25, rn_fail (m := 100 - s1) (p := p1) (by omega) (by omega) hF, hRS]; rfl⟩, f3.u0 (Or.inl ⟨by decide, by decide⟩)⟩)
      · have c_40 : s1 = 100 := (nI_eq (a := s1) (b := 100) (by omega) (by omega)).mp c_40
        refine lv_iconst (v := 2) hx hb dX4_go_43 (by decide) ?_
        exact retI (Wd := wQ k ad) (v := 2) (U) hx hb hr hlocks dX4_go_44 hh (⟨⟨tq U0, c, s1, 2, b1, by omega, hs, rfl, h30, h28, by show rnS (pq V) (fun j => V 5 (4 * t + j)) (U0 20) x w n 100 (ffS x n 0) (U0 17, U0 18, U0 19, U0 21, 0, 0) = _; rw [← he, show 100 - s1 = 0 by omega, ff_t c_25]; show (if p1 < n then 2 else 0, (-4 : Int32), _) = (2, U 0 29, _); rw [if_pos (by omega), h29]; rfl⟩, hfr⟩)
    · have c_25 := (tS0 x (p := p1) (by omega)).mp c_25
      refine lv_iinc (v := nI (p1 + 1)) (lv' := [(5, .int (nI (p1 + 1))), (0, .ref (ad 0)), (1, .int x), (2, .int (nI w)), (3, .ref (ad 5)), (4, .int (nI (4 * t)))]) hx hb dX4_go_28 hl (k := 5) rfl (nI_succ p1).symm (by decide) rfl (fun ls hl => ?_)
      refine lv_goto (tgt := 10) hx hb dX4_go_31 (by decide) ?_
      exact ih (p1 + 1, c, s1, U) _ _ _ ⟨hh, (lv_sub hl [1, 2, 3, 4, 5, 0] rfl), (by omega), hs, hc, h30, h28, h29, hfr, h20, (by rw [← ff_f (n := n) (x := x) (p := p1) (by omega) c_25]; exact he)⟩ (by dsimp only; omega)
set_option maxHeartbeats 4000000 in
set_option maxRecDepth 100000 in
/-- go(set, watch, from, at) -/
theorem c_X4_go_9 (l : Launch) (D : va_G) (k : Nat → ClassId) (ad : Nat → Nat) (V : St) {n : Nat} (hv : okV n (pq V)) {t : Nat} (ht : t < 3) (x : Int32) (w : Nat) (hw : w < 24) : CtX noX l yX4_go cX4_go 8 (some .int) rmX4_go D (tyL k) (wQ k ad V) [.ref (ad 0), .int x, .int (nI w), .ref (ad 9), .int (nI (4 * t))] (qI D (wQ k ad) (fun r U => pfS (pq V) (fun j => V 9 (4 * t + j)) x w n r (tq U) ∧ FrG V U)) := by
  refine CtX.mk (by decide) (Nat.le_of_ble_eq_true rfl) ?_
  intro p e s m below meth c hx hb hml hown hg hr hlocks hK hN A hA hX hh ls hl
  have hh : Hd D A (wQ k ad V) s.heap s.heap [] := hh
  have hl : lv_has ls 8 [(0, .ref (ad 0)), (1, .int x), (2, .int (nI w)), (3, .ref (ad 9)), (4, .int (nI (4 * t)))] := hl
  have h00 : V 0 0 = nI n := hv.2.1
  have hn24 := hv.1
  refine lv_aload_n hx hb dX4_go_0 rfl (lv_at hl 0 rfl) ?_
  refine lv_aload_n hx hb dX4_go_1 rfl (lv_at hl 3 rfl) ?_
  refine lv_iload hx hb dX4_go_2 (lv_at hl 4 rfl) ?_
  refine callWV (D := D) (wn := fun U0 => wQ k ad U0) (wr := []) (runV hx hb hg hown hml hl.1 ((c_X4_begin_9 l D k ad V hv ht) s.heap.size) [.ref (ad 9), .int (nI (4 * t))] [] (preX (mapSome_sub hh.1 [0, 1, 2, 3, 4, 5, 6, 7, 8, 9, 10, 11, 12, 13, 14, 15, 16, 17, 18, 19, 20, 21, 22] rfl) (hh.2.1.sub [0, 1, 2, 3, 4, 5, 6, 7, 8, 9, 10, 11, 12, 13, 14, 15, 16, 17, 18, 19, 20, 21, 22] (by decide) rfl) hK hN xb0 x0) (va_recv hK hh.1 (ci := 4) (q0 := 0) rfl rfl) wd_805 wd_807 wd_43 wd_53 wd_808 lk_X4_begin ⟨rfl, rfl⟩ ⟨by decide, by decide⟩ ⟨Nat.zero_le _, Nat.zero_le _⟩ rfl (Nat.le_of_ble_eq_true rfl) dX4_go_4) hA hh [0, 1, 2, 3, 4, 5, 6, 7, 8, 9, 10, 11, 12, 13, 14, 15, 16, 17, 18, 19, 20, 21, 22] [] [0, 1, 2, 3, 4, 5, 6, 7, 8, 9, 10, 11, 12, 13, 14, 15, 16, 17, 18, 19, 20, 21, 22] rfl rfl (by decide) (by decide) (by decide) (fun _ => rfl) (fun U0 H locs q_4 hh => ?_)
  obtain ⟨b1, b28, b29, b30, b21, fr⟩ := q_4
  have hrow : ∀ d, d < 4 → ∃ i, i < 4 ∧ U0 20 d = nI i := fun d hd => ⟨_, chR_lt _ _, b1.2.2.2 d hd⟩
  refine lv_iconst (v := 0) hx hb dX4_go_7 (by decide) ?_
  refine lv_istore (lv' := [(5, .int 0), (0, .ref (ad 0)), (1, .int x), (2, .int (nI w)), (3, .ref (ad 9)), (4, .int (nI (4 * t)))]) hx hb dX4_go_8 hl (by decide) rfl (fun ls hl => ?_)
  refine loopW (σ := Nat × Nat × Nat × St) (fun zz9 H locs ls => match zz9 with | (p1, c, s1, U) => Hd D A (wQ k ad U) s.heap H locs ∧ lv_has ls 8 [(0, .ref (ad 0)), (1, .int x), (2, .int (nI w)), (3, .ref (ad 9)), (4, .int (nI (4 * t))), (5, .int (nI p1))] ∧ (p1 ≤ 24) ∧ (s1 ≤ 100) ∧ (c ≤ s1) ∧ (U 0 30 = nI c) ∧ (U 0 28 = nI s1) ∧ (U 0 29 = -4) ∧ (FrG V U) ∧ (U 20 = U0 20) ∧ (rnS (pq V) (fun j => V 9 (4 * t + j)) (U0 20) x w n (100 - s1) (ffS x n p1) (U 17, U 18, U 19, U 21, c, s1) = rnS (pq V) (fun j => V 9 (4 * t + j)) (U0 20) x w n 100 (ffS x n 0) (U0 17, U0 18, U0 19, U0 21, 0, 0))) (fun zz9 => match zz9 with | (p1, c, s1, U) => (100 - s1) * 32 + (31 - p1)) ?_ (0, 0, 0, U0) ⟨hh, (lv_sub hl [1, 2, 3, 4, 5, 0] rfl), (by omega), (by omega), (by omega), b30, b28, b29, fr, rfl, rfl⟩
  intro zz9 H locs ls hI ih
  obtain ⟨p1, c, s1, U⟩ := zz9
  obtain ⟨hh, hl, hp1, hs, hc, h30, h28, h29, hfr, h20, he⟩ := hI
  refine lv_iload hx hb dX4_go_10 (lv_at hl 5 rfl) ?_
  refine lv_aload_n hx hb dX4_go_12 rfl (lv_at hl 0 rfl) ?_
  refine gfl hx hb hg inX4 hown hK hh.1 0 (ci := 4) rfl rfl 0 (by decide) wd_551 rfl dX4_go_13 ?_
  refine topv (nI n) ((hfr.2 0 (by decide) (by decide)).trans h00) ?_
  refine lv_icmp_ge (tgt := 190) hx hb dX4_go_16 (by decide) (fun c_16 => ?_) (fun c_16 => ?_)
  · have c_16 : n ≤ p1 := (nI_leI (a := n) (b := p1) (by omega) (by omega)).mp c_16
    refine lv_iconst (v := 0) hx hb dX4_go_190 (by decide) ?_
    exact retI (Wd := wQ k ad) (v := 0) (U) hx hb hr hlocks dX4_go_191 hh (⟨⟨tq U0, c, s1, 0, b1, by omega, hs, rfl, h30, h28, by show rnS (pq V) (fun j => V 9 (4 * t + j)) (U0 20) x w n 100 (ffS x n 0) (U0 17, U0 18, U0 19, U0 21, 0, 0) = _; rw [← he, ff_end (by omega), rn_end (by omega)]; show ((0 : Nat), (-4 : Int32), _) = (0, U 0 29, _); rw [h29]; rfl⟩, hfr⟩)
  · have c_16 : ¬ n ≤ p1 := fun z => c_16 ((nI_leI (a := n) (b := p1) (by omega) (by omega)).mpr z)
    refine lv_iload_n hx hb dX4_go_19 rfl (lv_at hl 1 rfl) ?_
    refine lv_iload hx hb dX4_go_20 (lv_at hl 5 rfl) ?_
    refine lv_ishr hx hb dX4_go_22 ?_
    refine lv_iconst (v := 1) hx hb dX4_go_23 (by decide) ?_
    refine lv_iand hx hb dX4_go_24 ?_
    refine lv_if_ne (tgt := 34) hx hb dX4_go_25 (by decide) (fun c_25 => ?_) (fun c_25 => ?_)
    · have c_25 : bt x p1 = true := by cases hb9 : bt x p1 with | true => rfl | false => exact absurd ((tS0 x (p := p1) (by omega)).mpr hb9) c_25
      refine lv_aload_n hx hb dX4_go_34 rfl (lv_at hl 0 rfl) ?_
      refine gfl hx hb hg inX4 hown hK hh.1 0 (ci := 4) rfl rfl 28 (by decide) wd_579 rfl dX4_go_35 ?_
      refine topv (nI s1) h28 ?_
      refine lv_bipush (v := 100) hx hb dX4_go_38 (by decide) ?_
      refine lv_icmp_ne (tgt := 45) hx hb dX4_go_40 (by decide) (fun c_40 => ?_) (fun c_40 => ?_)
      · have c_40 : ¬ s1 = 100 := fun z => c_40 ((nI_eq (a := s1) (b := 100) (by omega) (by omega)).mpr z)
        refine lv_aload_n hx hb dX4_go_45 rfl (lv_at hl 0 rfl) ?_
        refine lv_dup hx hb dX4_go_46 rfl ?_
        refine gfl hx hb hg inX4 hown hK hh.1 0 (ci := 4) rfl rfl 28 (by decide) wd_579 rfl dX4_go_47 ?_
        refine topv (nI s1) h28 ?_
        refine lv_iconst (v := 1) hx hb dX4_go_50 (by decide) ?_
        refine lv_iadd hx hb dX4_go_51 ?_
        refine topv (nI (s1 + 1)) (nI_add s1 1) ?_
        refine pfl hx hb hg inX4 tyX4 tyX4_ok nmX4 hown hK hh 0 (ci := 4) rfl rfl 28 (by decide) wd_579 rfl rfl rfl (Nat.le_of_ble_eq_true rfl) dX4_go_52 (wQ k ad (va_up U 0 (upd (U 0) 28 (nI (s1 + 1))))) rfl (fun H locs hh => ?_)
        obtain ⟨U1, eU1⟩ : ∃ z : St, z = va_up U 0 (upd (U 0) 28 (nI (s1 + 1))) := ⟨_, rfl⟩
        rw [← eU1] at hh
        have p1q : pq U1 = pq V := by rw [eU1]; exact (hfr.u0 (Or.inl ⟨by decide, by decide⟩)).pq
        have hv1 : okV n (pq U1) := by rw [p1q]; exact hv
        have e117 : U1 17 = U 17 := by rw [eU1]; rfl
        have e118 : U1 18 = U 18 := by rw [eU1]; rfl
        have e119 : U1 19 = U 19 := by rw [eU1]; rfl
        have e120 : U1 20 = U0 20 := by rw [eU1]; exact h20
        have e121 : U1 21 = U 21 := by rw [eU1]; rfl
        have e1F : U1 9 = V 9 := by rw [eU1]; exact hfr.1 9 (by decide)
        have e128 : U1 0 28 = nI (s1 + 1) := by rw [eU1]; rfl
        have e129 : U1 0 29 = -4 := by rw [eU1]; exact h29
        have e130 : U1 0 30 = nI c := by rw [eU1]; exact h30
        have f1 : FrG V U1 := by rw [eU1]; exact hfr.u0 (Or.inl ⟨by decide, by decide⟩)
        refine lv_aload_n hx hb dX4_go_55 rfl (lv_at hl 0 rfl) ?_
        refine lv_iload hx hb dX4_go_56 (lv_at hl 5 rfl) ?_
        refine lv_aload_n hx hb dX4_go_58 rfl (lv_at hl 3 rfl) ?_
        refine lv_iload hx hb dX4_go_59 (lv_at hl 4 rfl) ?_
        refine callWI (D := D) (wn := fun U2 => wQ k ad U2) (wr := []) (runV hx hb hg hown hml hl.1 ((c_X4_does_9 l D k ad U1 hv1 (q := p1) (by omega) ht (by rw [e120]; exact hrow)) H.size) [.int (nI p1), .ref (ad 9), .int (nI (4 * t))] [] (preX (mapSome_sub hh.1 [0, 1, 2, 3, 4, 5, 6, 7, 8, 9, 10, 11, 12, 13, 14, 15, 16, 17, 18, 19, 20, 21, 22] rfl) (hh.2.1.sub [0, 1, 2, 3, 4, 5, 6, 7, 8, 9, 10, 11, 12, 13, 14, 15, 16, 17, 18, 19, 20, 21, 22] (by decide) rfl) hK hN xb0 x0) (va_recv hK hh.1 (ci := 4) (q0 := 0) rfl rfl) wd_813 wd_815 wd_44 wd_53 wd_816 lk_X4_does ⟨rfl, rfl⟩ ⟨by decide, by decide⟩ ⟨Nat.zero_le _, Nat.zero_le _⟩ rfl (Nat.le_of_ble_eq_true rfl) dX4_go_61) hA hh [0, 1, 2, 3, 4, 5, 6, 7, 8, 9, 10, 11, 12, 13, 14, 15, 16, 17, 18, 19, 20, 21, 22] [] [0, 1, 2, 3, 4, 5, 6, 7, 8, 9, 10, 11, 12, 13, 14, 15, 16, 17, 18, 19, 20, 21, 22] rfl rfl (by decide) (by decide) (by decide) (fun _ => rfl) (fun r_61 U2 H locs q_61 hh => ?_)
        obtain ⟨rfl, t17, t18, t19, t32, tf, t0⟩ := q_61
        rw [p1q, e117, e118, e119, e120, e1F] at t17 t18 t19 t32
        have f2 : FrG V U2 := f1.mid tf t0
        have t20 : U2 20 = U0 20 := (tf 20 (by decide)).trans e120
        have t21 : U2 21 = U 21 := (tf 21 (by decide)).trans e121
        have t28 : U2 0 28 = nI (s1 + 1) := (t0 28 (by decide)).trans e128
        have t29 : U2 0 29 = -4 := (t0 29 (by decide)).trans e129
        have t30 : U2 0 30 = nI c := (t0 30 (by decide)).trans e130
        refine topv (zI (!stF (pq V) (U 17) p1)) (by rw [p1q, e117]) ?_
        refine lv_istore (lv' := [(6, .int (zI (!stF (pq V) (U 17) p1))), (0, .ref (ad 0)), (1, .int x), (2, .int (nI w)), (3, .ref (ad 9)), (4, .int (nI (4 * t))), (5, .int (nI p1))]) hx hb dX4_go_64 hl (by decide) rfl (fun ls hl => ?_)
        refine lv_iload hx hb dX4_go_66 (lv_at hl 6 rfl) ?_
        refine lv_iload_n hx hb dX4_go_68 rfl (lv_at hl 3 rfl) ?_
        refine lv_icmp_ne (tgt := 95) hx hb dX4_go_69 (by decide) (fun c_69 => ?_) (fun c_69 => ?_)
        · have c_69 : ¬ p1 = w := fun z => c_69 ((nI_eq (a := p1) (b := w) (by omega) (by omega)).mpr z)
          obtain ⟨U3, eU3⟩ : ∃ z : St, z = U2 := ⟨_, rfl⟩
          rw [← eU3] at hh
          have e317 : U3 17 = reS (pq V) (fun j => V 9 (4 * t + j)) (U 17) (U 18) (U 19) (U0 20) p1 := by rw [eU3]; exact t17
          have e318 : U3 18 = tiS (pq V) (fun j => V 9 (4 * t + j)) (U 17) (U 18) (U 19) (U0 20) p1 := by rw [eU3]; exact t18
          have e319 : U3 19 = glS (pq V) (fun j => V 9 (4 * t + j)) (U 17) (U 18) (U 19) (U0 20) p1 := by rw [eU3]; exact t19
          have e320 : U3 20 = U0 20 := by rw [eU3]; exact t20
          have e321 : U3 21 = U 21 := by rw [eU3]; exact t21
          have e330 : U3 0 30 = nI (c) := by rw [eU3]; exact t30
          have e328 : U3 0 28 = nI (s1 + 1) := by rw [eU3]; exact t28
          have e329 : U3 0 29 = -4 := by rw [eU3]; exact t29
          have e332 : U3 0 32 = tlS (pq V) (fun j => V 9 (4 * t + j)) (U 17) (U 18) (U 19) (U0 20) p1 := by rw [eU3]; exact t32
          have f3 : FrG V U3 := by rw [eU3]; exact f2
          have hRS : rsS (pq V) (fun j => V 9 (4 * t + j)) (U0 20) w p1 (U 17, U 18, U 19, U 21, c, s1) = (U3 17, U3 18, U3 19, U3 21, c, s1 + 1) := by
            show (reS (pq V) (fun j => V 9 (4 * t + j)) (U 17) (U 18) (U 19) (U0 20) p1, tiS (pq V) (fun j => V 9 (4 * t + j)) (U 17) (U 18) (U 19) (U0 20) p1, glS (pq V) (fun j => V 9 (4 * t + j)) (U 17) (U 18) (U 19) (U0 20) p1, ite _ _ _, ite _ _ _, s1 + 1) = _
            rw [if_neg c_69, if_neg c_69, e317, e318, e319, e321]
          refine lv_iload hx hb dX4_go_95 (lv_at hl 0 rfl) ?_
          refine lv_if_ne (tgt := 108) hx hb dX4_go_97 (by decide) (fun c_97 => ?_) (fun c_97 => ?_)
          · have hF : stF (pq V) (U 17) p1 = false := by cases hb9 : stF (pq V) (U 17) p1 with | false => rfl | true => (rw [hb9] at c_97; exact absurd rfl c_97)
            obtain ⟨j, hk, hj, hlA, hlB, hlC⟩ := hv.2.2.1 p1 (by omega)
            have hk : V 1 p1 = nI j := hk
            have hlB : lim (LB.getD j 0) (V 3 p1) := hlB
            have hkd0 : kd (pq V) p1 = j := kd_of hk hj
            have hk3 : U3 1 p1 = nI j := by rw [f3.1 1 (by decide)]; exact hk
            refine lv_aload_n hx hb dX4_go_108 rfl (lv_at hl 1 rfl) ?_
            refine gfl hx hb hg inX4 hown hK hh.1 0 (ci := 4) rfl rfl 1 (by decide) wd_552 rfl dX4_go_109 ?_
            refine lv_iload hx hb dX4_go_112 (lv_at hl 6 rfl) ?_
            refine ldn hx hb hK hh.1 1 0 rfl rfl (by omega) (by decide) dX4_go_114 ?_
            refine topv (nI j) hk3 ?_
            refine lv_bipush (v := 12) hx hb dX4_go_115 (by decide) ?_
            refine lv_icmp_eq (tgt := 140) hx hb dX4_go_117 (by decide) (fun c_117 => ?_) (fun c_117 => ?_)
            · have c_117 : j = 12 := (nI_eq (a := j) (b := 12) (by omega) (by omega)).mp c_117
              refine lv_iconst (v := 1) hx hb dX4_go_140 (by decide) ?_
              refine lv_goto (tgt := 145) hx hb dX4_go_141 (by decide) ?_
              refine lv_istore (lv' := [(7, .int 1), (6, .int (zI (!stF (pq V) (U 17) p1))), (0, .ref (ad 0)), (1, .int x), (2, .int (nI w)), (3, .ref (ad 9)), (4, .int (nI (4 * t))), (5, .int (nI p1))]) hx hb dX4_go_145 hl (by decide) rfl (fun ls hl => ?_)
              refine lv_aload_n hx hb dX4_go_147 rfl (lv_at hl 2 rfl) ?_
              refine gfl hx hb hg inX4 hown hK hh.1 0 (ci := 4) rfl rfl 1 (by decide) wd_552 rfl dX4_go_148 ?_
              refine lv_iload hx hb dX4_go_151 (lv_at hl 7 rfl) ?_
              refine ldn hx hb hK hh.1 1 0 rfl rfl (by omega) (by decide) dX4_go_153 ?_
              refine topv (nI j) hk3 ?_
              refine lv_bipush (v := 13) hx hb dX4_go_154 (by decide) ?_
              refine lv_icmp_ne (tgt := 166) hx hb dX4_go_156 (by decide) (fun c_156 => ?_) (fun c_156 => ?_)
              · have c_156 : ¬ j = 13 := fun z => c_156 ((nI_eq (a := j) (b := 13) (by omega) (by omega)).mpr z)
                refine lv_iload hx hb dX4_go_166 (lv_at hl 0 rfl) ?_
                refine lv_if_eq (tgt := 181) hx hb dX4_go_168 (by decide) (fun c_168 => ?_) (fun c_168 => ?_)
                · exact absurd (show (1 : Int32) = (0 : Int32) from c_168) (by decide)
                · have hlB25 : lim 25 (V 3 p1) := by rw [c_117] at hlB; exact hlB
                  obtain ⟨b1, hb1, hbe⟩ := lim_nI hlB25 (by decide)
                  have hbq : ix (pq V 3 p1) = b1 := by show ix (V 3 p1) = b1; rw [hbe, ix_nI (by omega)]
                  have hb3 : U3 3 p1 = nI b1 := by rw [f3.1 3 (by decide)]; exact hbe
                  have hkd : kd (pq V) p1 = 12 := hkd0.trans c_117
                  refine lv_aload_n hx hb dX4_go_171 rfl (lv_at hl 2 rfl) ?_
                  refine gfl hx hb hg inX4 hown hK hh.1 0 (ci := 4) rfl rfl 3 (by decide) wd_554 rfl dX4_go_172 ?_
                  refine lv_iload hx hb dX4_go_175 (lv_at hl 7 rfl) ?_
                  refine ldn hx hb hK hh.1 3 0 rfl rfl (by omega) (by decide) dX4_go_177 ?_
                  refine topv (nI b1) hb3 ?_
                  refine lv_goto (tgt := 185) hx hb dX4_go_178 (by decide) ?_
                  refine lv_istore (lv' := [(5, .int (nI b1)), (7, .int 1), (6, .int (zI (!stF (pq V) (U 17) p1))), (0, .ref (ad 0)), (1, .int x), (2, .int (nI w)), (3, .ref (ad 9)), (4, .int (nI (4 * t)))]) hx hb dX4_go_185 hl (by decide) rfl (fun ls hl => ?_)
                  refine lv_goto (tgt := 10) hx hb dX4_go_187 (by decide) ?_
                  exact ih (b1, c, s1 + 1, U3) _ _ _ ⟨hh, (lv_sub hl [3, 4, 5, 6, 7, 0] rfl), (by omega), (by omega), (by omega), e330, e328, e329, f3, e320, (by rw [← he, ff_t c_25, rn_go (m := 100 - s1) (p := p1) (by omega) (by omega) hF, hRS, nw_go hF hkd, hbq, Nat.sub_sub])⟩ (by dsimp only; omega)
              · have c_156 : j = 13 := (nI_eq (a := j) (b := 13) (by omega) (by omega)).mp c_156
                have hkd : kd (pq V) p1 = 13 := hkd0.trans c_156
                exact absurd c_156 (by omega)
            · have c_117 : ¬ j = 12 := fun z => c_117 ((nI_eq (a := j) (b := 12) (by omega) (by omega)).mpr z)
              refine lv_aload_n hx hb dX4_go_120 rfl (lv_at hl 1 rfl) ?_
              refine gfl hx hb hg inX4 hown hK hh.1 0 (ci := 4) rfl rfl 1 (by decide) wd_552 rfl dX4_go_121 ?_
              refine lv_iload hx hb dX4_go_124 (lv_at hl 6 rfl) ?_
              refine ldn hx hb hK hh.1 1 0 rfl rfl (by omega) (by decide) dX4_go_126 ?_
              refine topv (nI j) hk3 ?_
              refine lv_bipush (v := 11) hx hb dX4_go_127 (by decide) ?_
              refine lv_icmp_ne (tgt := 144) hx hb dX4_go_129 (by decide) (fun c_129 => ?_) (fun c_129 => ?_)
              · have c_129 : ¬ j = 11 := fun z => c_129 ((nI_eq (a := j) (b := 11) (by omega) (by omega)).mpr z)
                refine lv_iconst (v := 0) hx hb dX4_go_144 (by decide) ?_
                refine lv_istore (lv' := [(7, .int 0), (6, .int (zI (!stF (pq V) (U 17) p1))), (0, .ref (ad 0)), (1, .int x), (2, .int (nI w)), (3, .ref (ad 9)), (4, .int (nI (4 * t))), (5, .int (nI p1))]) hx hb dX4_go_145 hl (by decide) rfl (fun ls hl => ?_)
                refine lv_aload_n hx hb dX4_go_147 rfl (lv_at hl 2 rfl) ?_
                refine gfl hx hb hg inX4 hown hK hh.1 0 (ci := 4) rfl rfl 1 (by decide) wd_552 rfl dX4_go_148 ?_
                refine lv_iload hx hb dX4_go_151 (lv_at hl 7 rfl) ?_
                refine ldn hx hb hK hh.1 1 0 rfl rfl (by omega) (by decide) dX4_go_153 ?_
                refine topv (nI j) hk3 ?_
                refine lv_bipush (v := 13) hx hb dX4_go_154 (by decide) ?_
                refine lv_icmp_ne (tgt := 166) hx hb dX4_go_156 (by decide) (fun c_156 => ?_) (fun c_156 => ?_)
                · have c_156 : ¬ j = 13 := fun z => c_156 ((nI_eq (a := j) (b := 13) (by omega) (by omega)).mpr z)
                  refine lv_iload hx hb dX4_go_166 (lv_at hl 0 rfl) ?_
                  refine lv_if_eq (tgt := 181) hx hb dX4_go_168 (by decide) (fun c_168 => ?_) (fun c_168 => ?_)
                  · refine lv_iload hx hb dX4_go_181 (lv_at hl 7 rfl) ?_
                    refine lv_iconst (v := 1) hx hb dX4_go_183 (by decide) ?_
                    refine lv_iadd hx hb dX4_go_184 ?_
                    refine topv (nI (p1 + 1)) (nI_add p1 1) ?_
                    refine lv_istore (lv' := [(5, .int (nI (p1 + 1))), (7, .int 0), (6, .int (zI (!stF (pq V) (U 17) p1))), (0, .ref (ad 0)), (1, .int x), (2, .int (nI w)), (3, .ref (ad 9)), (4, .int (nI (4 * t)))]) hx hb dX4_go_185 hl (by decide) rfl (fun ls hl => ?_)
                    refine lv_goto (tgt := 10) hx hb dX4_go_187 (by decide) ?_
                    exact ih (p1 + 1, c, s1 + 1, U3) _ _ _ ⟨hh, (lv_sub hl [3, 4, 5, 6, 7, 0] rfl), (by omega), (by omega), (by omega), e330, e328, e329, f3, e320, (by rw [← he, ff_t c_25, rn_go (m := 100 - s1) (p := p1) (by omega) (by omega) hF, hRS, nw_els hF (by rw [hkd0]; exact c_129) (by rw [hkd0]; exact c_117) (by rw [hkd0]; exact c_156), Nat.sub_sub])⟩ (by dsimp only; omega)
                  · exact absurd (show ¬ (0 : Int32) = (0 : Int32) from c_168) (by decide)
                · have c_156 : j = 13 := (nI_eq (a := j) (b := 13) (by omega) (by omega)).mp c_156
                  have hkd : kd (pq V) p1 = 13 := hkd0.trans c_156
                  refine lv_aload_n hx hb dX4_go_159 rfl (lv_at hl 2 rfl) ?_
                  refine gfl hx hb hg inX4 hown hK hh.1 0 (ci := 4) rfl rfl 0 (by decide) wd_551 rfl dX4_go_160 ?_
                  refine topv (nI n) ((f3.2 0 (by decide) (by decide)).trans h00) ?_
                  refine lv_goto (tgt := 185) hx hb dX4_go_163 (by decide) ?_
                  refine lv_istore (lv' := [(5, .int (nI n)), (7, .int 0), (6, .int (zI (!stF (pq V) (U 17) p1))), (0, .ref (ad 0)), (1, .int x), (2, .int (nI w)), (3, .ref (ad 9)), (4, .int (nI (4 * t)))]) hx hb dX4_go_185 hl (by decide) rfl (fun ls hl => ?_)
                  refine lv_goto (tgt := 10) hx hb dX4_go_187 (by decide) ?_
                  exact ih (n, c, s1 + 1, U3) _ _ _ ⟨hh, (lv_sub hl [3, 4, 5, 6, 7, 0] rfl), (by omega), (by omega), (by omega), e330, e328, e329, f3, e320, (by rw [← he, ff_t c_25, rn_go (m := 100 - s1) (p := p1) (by omega) (by omega) hF, hRS, nw_stop hF hkd, Nat.sub_sub]; exact rn_out (Nat.le_refl _) (by omega))⟩ (by dsimp only; omega)
              · have c_129 : j = 11 := (nI_eq (a := j) (b := 11) (by omega) (by omega)).mp c_129
                refine lv_aload_n hx hb dX4_go_132 rfl (lv_at hl 1 rfl) ?_
                refine gfl hx hb hg inX4 hown hK hh.1 0 (ci := 4) rfl rfl 32 (by decide) wd_583 rfl dX4_go_133 ?_
                refine topv (tlS (pq V) (fun j => V 9 (4 * t + j)) (U 17) (U 18) (U 19) (U0 20) p1) e332 ?_
                refine lv_iconst (v := 1) hx hb dX4_go_136 (by decide) ?_
                refine lv_icmp_ne (tgt := 144) hx hb dX4_go_137 (by decide) (fun c_137 => ?_) (fun c_137 => ?_)
                · have hkd : kd (pq V) p1 = 11 := hkd0.trans c_129
                  refine lv_iconst (v := 0) hx hb dX4_go_144 (by decide) ?_
                  refine lv_istore (lv' := [(7, .int 0), (6, .int (zI (!stF (pq V) (U 17) p1))), (0, .ref (ad 0)), (1, .int x), (2, .int (nI w)), (3, .ref (ad 9)), (4, .int (nI (4 * t))), (5, .int (nI p1))]) hx hb dX4_go_145 hl (by decide) rfl (fun ls hl => ?_)
                  refine lv_aload_n hx hb dX4_go_147 rfl (lv_at hl 2 rfl) ?_
                  refine gfl hx hb hg inX4 hown hK hh.1 0 (ci := 4) rfl rfl 1 (by decide) wd_552 rfl dX4_go_148 ?_
                  refine lv_iload hx hb dX4_go_151 (lv_at hl 7 rfl) ?_
                  refine ldn hx hb hK hh.1 1 0 rfl rfl (by omega) (by decide) dX4_go_153 ?_
                  refine topv (nI j) hk3 ?_
                  refine lv_bipush (v := 13) hx hb dX4_go_154 (by decide) ?_
                  refine lv_icmp_ne (tgt := 166) hx hb dX4_go_156 (by decide) (fun c_156 => ?_) (fun c_156 => ?_)
                  · have c_156 : ¬ j = 13 := fun z => c_156 ((nI_eq (a := j) (b := 13) (by omega) (by omega)).mpr z)
                    refine lv_iload hx hb dX4_go_166 (lv_at hl 0 rfl) ?_
                    refine lv_if_eq (tgt := 181) hx hb dX4_go_168 (by decide) (fun c_168 => ?_) (fun c_168 => ?_)
                    · refine lv_iload hx hb dX4_go_181 (lv_at hl 7 rfl) ?_
                      refine lv_iconst (v := 1) hx hb dX4_go_183 (by decide) ?_
                      refine lv_iadd hx hb dX4_go_184 ?_
                      refine topv (nI (p1 + 1)) (nI_add p1 1) ?_
                      refine lv_istore (lv' := [(5, .int (nI (p1 + 1))), (7, .int 0), (6, .int (zI (!stF (pq V) (U 17) p1))), (0, .ref (ad 0)), (1, .int x), (2, .int (nI w)), (3, .ref (ad 9)), (4, .int (nI (4 * t)))]) hx hb dX4_go_185 hl (by decide) rfl (fun ls hl => ?_)
                      refine lv_goto (tgt := 10) hx hb dX4_go_187 (by decide) ?_
                      exact ih (p1 + 1, c, s1 + 1, U3) _ _ _ ⟨hh, (lv_sub hl [3, 4, 5, 6, 7, 0] rfl), (by omega), (by omega), (by omega), e330, e328, e329, f3, e320, (by rw [← he, ff_t c_25, rn_go (m := 100 - s1) (p := p1) (by omega) (by omega) hF, hRS, nw_if0 hF hkd c_137, Nat.sub_sub])⟩ (by dsimp only; omega)
                    · exact absurd (show ¬ (0 : Int32) = (0 : Int32) from c_168) (by decide)
                  · have c_156 : j = 13 := (nI_eq (a := j) (b := 13) (by omega) (by omega)).mp c_156
                    have hkd : kd (pq V) p1 = 13 := hkd0.trans c_156
                    exact absurd c_156 (by omega)
                · refine lv_iconst (v := 1) hx hb dX4_go_140 (by decide) ?_
                  refine lv_goto (tgt := 145) hx hb dX4_go_141 (by decide) ?_
                  refine lv_istore (lv' := [(7, .int 1), (6, .int (zI (!stF (pq V) (U 17) p1))), (0, .ref (ad 0)), (1, .int x), (2, .int (nI w)), (3, .ref (ad 9)), (4, .int (nI (4 * t))), (5, .int (nI p1))]) hx hb dX4_go_145 hl (by decide) rfl (fun ls hl => ?_)
                  refine lv_aload_n hx hb dX4_go_147 rfl (lv_at hl 2 rfl) ?_
                  refine gfl hx hb hg inX4 hown hK hh.1 0 (ci := 4) rfl rfl 1 (by decide) wd_552 rfl dX4_go_148 ?_
                  refine lv_iload hx hb dX4_go_151 (lv_at hl 7 rfl) ?_
                  refine ldn hx hb hK hh.1 1 0 rfl rfl (by omega) (by decide) dX4_go_153 ?_
                  refine topv (nI j) hk3 ?_
                  refine lv_bipush (v := 13) hx hb dX4_go_154 (by decide) ?_
                  refine lv_icmp_ne (tgt := 166) hx hb dX4_go_156 (by decide) (fun c_156 => ?_) (fun c_156 => ?_)
                  · have c_156 : ¬ j = 13 := fun z => c_156 ((nI_eq (a := j) (b := 13) (by omega) (by omega)).mpr z)
                    refine lv_iload hx hb dX4_go_166 (lv_at hl 0 rfl) ?_
                    refine lv_if_eq (tgt := 181) hx hb dX4_go_168 (by decide) (fun c_168 => ?_) (fun c_168 => ?_)
                    · exact absurd (show (1 : Int32) = (0 : Int32) from c_168) (by decide)
                    · have hlB25 : lim 25 (V 3 p1) := by rw [c_129] at hlB; exact hlB
                      obtain ⟨b1, hb1, hbe⟩ := lim_nI hlB25 (by decide)
                      have hbq : ix (pq V 3 p1) = b1 := by show ix (V 3 p1) = b1; rw [hbe, ix_nI (by omega)]
                      have hb3 : U3 3 p1 = nI b1 := by rw [f3.1 3 (by decide)]; exact hbe
                      have hkd : kd (pq V) p1 = 11 := hkd0.trans c_129
                      refine lv_aload_n hx hb dX4_go_171 rfl (lv_at hl 2 rfl) ?_
                      refine gfl hx hb hg inX4 hown hK hh.1 0 (ci := 4) rfl rfl 3 (by decide) wd_554 rfl dX4_go_172 ?_
                      refine lv_iload hx hb dX4_go_175 (lv_at hl 7 rfl) ?_
                      refine ldn hx hb hK hh.1 3 0 rfl rfl (by omega) (by decide) dX4_go_177 ?_
                      refine topv (nI b1) hb3 ?_
                      refine lv_goto (tgt := 185) hx hb dX4_go_178 (by decide) ?_
                      refine lv_istore (lv' := [(5, .int (nI b1)), (7, .int 1), (6, .int (zI (!stF (pq V) (U 17) p1))), (0, .ref (ad 0)), (1, .int x), (2, .int (nI w)), (3, .ref (ad 9)), (4, .int (nI (4 * t)))]) hx hb dX4_go_185 hl (by decide) rfl (fun ls hl => ?_)
                      refine lv_goto (tgt := 10) hx hb dX4_go_187 (by decide) ?_
                      exact ih (b1, c, s1 + 1, U3) _ _ _ ⟨hh, (lv_sub hl [3, 4, 5, 6, 7, 0] rfl), (by omega), (by omega), (by omega), e330, e328, e329, f3, e320, (by rw [← he, ff_t c_25, rn_go (m := 100 - s1) (p := p1) (by omega) (by omega) hF, hRS, nw_if1 hF hkd c_137, hbq, Nat.sub_sub])⟩ (by dsimp only; omega)
                  · have c_156 : j = 13 := (nI_eq (a := j) (b := 13) (by omega) (by omega)).mp c_156
                    have hkd : kd (pq V) p1 = 13 := hkd0.trans c_156
                    exact absurd c_156 (by omega)
          · have hF : stF (pq V) (U 17) p1 = true := by cases hb9 : stF (pq V) (U 17) p1 with | true => rfl | false => (rw [hb9] at c_97; exact absurd c_97 (by decide))
            refine lv_aload_n hx hb dX4_go_100 rfl (lv_at hl 1 rfl) ?_
            refine lv_iload hx hb dX4_go_101 (lv_at hl 6 rfl) ?_
            refine pfl hx hb hg inX4 tyX4 tyX4_ok nmX4 hown hK hh 0 (ci := 4) rfl rfl 29 (by decide) wd_580 rfl rfl rfl (Nat.le_of_ble_eq_true rfl) dX4_go_103 (wQ k ad (va_up U3 0 (upd (U3 0) 29 (nI p1)))) rfl (fun H locs hh => ?_)
            refine lv_iconst (v := 1) hx hb dX4_go_106 (by decide) ?_
            exact retI (Wd := wQ k ad) (v := 1) (va_up U3 0 (upd (U3 0) 29 (nI p1))) hx hb hr hlocks dX4_go_107 hh (⟨⟨tq U0, c, s1 + 1, 1, b1, by omega, by omega, rfl, e330, e328, by show rnS (pq V) (fun j => V 9 (4 * t + j)) (U0 20) x w n 100 (ffS x n 0) (U0 17, U0 18, U0 19, U0 21, 0, 0) = _; rw [← he, ff_t c_25, rn_fail (m := 100 - s1) (p := p1) (by omega) (by omega) hF, hRS]; rfl⟩, f3.u0 (Or.inl ⟨by decide, by decide⟩)⟩)
        · have c_69 : p1 = w := (nI_eq (a := p1) (b := w) (by omega) (by omega)).mp c_69
          refine lv_aload_n hx hb dX4_go_72 rfl (lv_at hl 1 rfl) ?_
          refine gfl hx hb hg inX4 hown hK hh.1 0 (ci := 4) rfl rfl 31 (by decide) wd_582 rfl dX4_go_73 ?_
          refine lv_aload_n hx hb dX4_go_76 rfl (lv_at hl 1 rfl) ?_
          refine gfl hx hb hg inX4 hown hK hh.1 0 (ci := 4) rfl rfl 30 (by decide) wd_581 rfl dX4_go_77 ?_
          refine topv (nI c) t30 ?_
          refine lv_aload_n hx hb dX4_go_80 rfl (lv_at hl 1 rfl) ?_
          refine gfl hx hb hg inX4 hown hK hh.1 0 (ci := 4) rfl rfl 32 (by decide) wd_583 rfl dX4_go_81 ?_
          refine topv (tlS (pq V) (fun j => V 9 (4 * t + j)) (U 17) (U 18) (U 19) (U0 20) p1) t32 ?_
          refine stn (j := c) hx hb hK hh 21 0 rfl rfl (by omega) (by decide) dX4_go_84 (wQ k ad (va_up U2 21 (upd (U2 21) c (tlS (pq V) (fun j => V 9 (4 * t + j)) (U 17) (U 18) (U 19) (U0 20) p1)))) rfl (fun H locs hh => ?_)
          refine lv_aload_n hx hb dX4_go_85 rfl (lv_at hl 1 rfl) ?_
          refine lv_dup hx hb dX4_go_86 rfl ?_
          refine gfl hx hb hg inX4 hown hK hh.1 0 (ci := 4) rfl rfl 30 (by decide) wd_581 rfl dX4_go_87 ?_
          refine topv (nI c) t30 ?_
          refine lv_iconst (v := 1) hx hb dX4_go_90 (by decide) ?_
          refine lv_iadd hx hb dX4_go_91 ?_
          refine topv (nI (c + 1)) (nI_add c 1) ?_
          refine pfl hx hb hg inX4 tyX4 tyX4_ok nmX4 hown hK hh 0 (ci := 4) rfl rfl 30 (by decide) wd_581 rfl rfl rfl (Nat.le_of_ble_eq_true rfl) dX4_go_92 (wQ k ad (va_up (va_up U2 21 (upd (U2 21) c (tlS (pq V) (fun j => V 9 (4 * t + j)) (U 17) (U 18) (U 19) (U0 20) p1))) 0 (upd ((va_up U2 21 (upd (U2 21) c (tlS (pq V) (fun j => V 9 (4 * t + j)) (U 17) (U 18) (U 19) (U0 20) p1))) 0) 30 (nI (c + 1))))) rfl (fun H locs hh => ?_)
          obtain ⟨U3, eU3⟩ : ∃ z : St, z = va_up (va_up U2 21 (upd (U2 21) c (tlS (pq V) (fun j => V 9 (4 * t + j)) (U 17) (U 18) (U 19) (U0 20) p1))) 0 (upd ((va_up U2 21 (upd (U2 21) c (tlS (pq V) (fun j => V 9 (4 * t + j)) (U 17) (U 18) (U 19) (U0 20) p1))) 0) 30 (nI (c + 1))) := ⟨_, rfl⟩
          rw [← eU3] at hh
          have e317 : U3 17 = reS (pq V) (fun j => V 9 (4 * t + j)) (U 17) (U 18) (U 19) (U0 20) p1 := by rw [eU3]; exact t17
          have e318 : U3 18 = tiS (pq V) (fun j => V 9 (4 * t + j)) (U 17) (U 18) (U 19) (U0 20) p1 := by rw [eU3]; exact t18
          have e319 : U3 19 = glS (pq V) (fun j => V 9 (4 * t + j)) (U 17) (U 18) (U 19) (U0 20) p1 := by rw [eU3]; exact t19
          have e320 : U3 20 = U0 20 := by rw [eU3]; exact t20
          have e321 : U3 21 = upd (U 21) c (tlS (pq V) (fun j => V 9 (4 * t + j)) (U 17) (U 18) (U 19) (U0 20) p1) := by rw [eU3]; rw [← t21]; rfl
          have e330 : U3 0 30 = nI (c + 1) := by rw [eU3]; rfl
          have e328 : U3 0 28 = nI (s1 + 1) := by rw [eU3]; exact t28
          have e329 : U3 0 29 = -4 := by rw [eU3]; exact t29
          have e332 : U3 0 32 = tlS (pq V) (fun j => V 9 (4 * t + j)) (U 17) (U 18) (U 19) (U0 20) p1 := by rw [eU3]; exact t32
          have f3 : FrG V U3 := by rw [eU3]; exact (f2.up ⟨by decide, by decide⟩).u0 (Or.inl ⟨by decide, by decide⟩)
          have hRS : rsS (pq V) (fun j => V 9 (4 * t + j)) (U0 20) w p1 (U 17, U 18, U 19, U 21, c, s1) = (U3 17, U3 18, U3 19, U3 21, c + 1, s1 + 1) := by
            show (reS (pq V) (fun j => V 9 (4 * t + j)) (U 17) (U 18) (U 19) (U0 20) p1, tiS (pq V) (fun j => V 9 (4 * t + j)) (U 17) (U 18) (U 19) (U0 20) p1, glS (pq V) (fun j => V 9 (4 * t + j)) (U 17) (U 18) (U 19) (U0 20) p1, ite _ _ _, ite _ _ _, s1 + 1) = _
            rw [if_pos c_69, if_pos c_69, e317, e318, e319, e321]
          refine lv_iload hx hb dX4_go_95 (lv_at hl 0 rfl) ?_
          refine lv_if_ne (tgt := 108) hx hb dX4_go_97 (by decide) (fun c_97 => ?_) (fun c_97 => ?_)
          · have hF : stF (pq V) (U 17) p1 = false := by cases hb9 : stF (pq V) (U 17) p1 with | false => rfl | true => (rw [hb9] at c_97; exact absurd rfl c_97)
            obtain ⟨j, hk, hj, hlA, hlB, hlC⟩ := hv.2.2.1 p1 (by omega)
            have hk : V 1 p1 = nI j := hk
            have hlB : lim (LB.getD j 0) (V 3 p1) := hlB
            have hkd0 : kd (pq V) p1 = j := kd_of hk hj
            have hk3 : U3 1 p1 = nI j := by rw [f3.1 1 (by decide)]; exact hk
            refine lv_aload_n hx hb dX4_go_108 rfl (lv_at hl 1 rfl) ?_
            refine gfl hx hb hg inX4 hown hK hh.1 0 (ci := 4) rfl rfl 1 (by decide) wd_552 rfl dX4_go_109 ?_
            refine lv_iload hx hb dX4_go_112 (lv_at hl 6 rfl) ?_
            refine ldn hx hb hK hh.1 1 0 rfl rfl (by omega) (by decide) dX4_go_114 ?_
            refine topv (nI j) hk3 ?_
            refine lv_bipush (v := 12) hx hb dX4_go_115 (by decide) ?_
            refine lv_icmp_eq (tgt := 140) hx hb dX4_go_117 (by decide) (fun c_117 => ?_) (fun c_117 => ?_)
            · have c_117 : j = 12 := (nI_eq (a := j) (b := 12) (by omega) (by omega)).mp c_117
              refine lv_iconst (v := 1) hx hb dX4_go_140 (by decide) ?_
              refine lv_goto (tgt := 145) hx hb dX4_go_141 (by decide) ?_
              refine lv_istore (lv' := [(7, .int 1), (6, .int (zI (!stF (pq V) (U 17) p1))), (0, .ref (ad 0)), (1, .int x), (2, .int (nI w)), (3, .ref (ad 9)), (4, .int (nI (4 * t))), (5, .int (nI p1))]) hx hb dX4_go_145 hl (by decide) rfl (fun ls hl => ?_)
              refine lv_aload_n hx hb dX4_go_147 rfl (lv_at hl 2 rfl) ?_
              refine gfl hx hb hg inX4 hown hK hh.1 0 (ci := 4) rfl rfl 1 (by decide) wd_552 rfl dX4_go_148 ?_
              refine lv_iload hx hb dX4_go_151 (lv_at hl 7 rfl) ?_
              refine ldn hx hb hK hh.1 1 0 rfl rfl (by omega) (by decide) dX4_go_153 ?_
              refine topv (nI j) hk3 ?_
              refine lv_bipush (v := 13) hx hb dX4_go_154 (by decide) ?_
              refine lv_icmp_ne (tgt := 166) hx hb dX4_go_156 (by decide) (fun c_156 => ?_) (fun c_156 => ?_)
              · have c_156 : ¬ j = 13 := fun z => c_156 ((nI_eq (a := j) (b := 13) (by omega) (by omega)).mpr z)
                refine lv_iload hx hb dX4_go_166 (lv_at hl 0 rfl) ?_
                refine lv_if_eq (tgt := 181) hx hb dX4_go_168 (by decide) (fun c_168 => ?_) (fun c_168 => ?_)
                · exact absurd (show (1 : Int32) = (0 : Int32) from c_168) (by decide)
                · have hlB25 : lim 25 (V 3 p1) := by rw [c_117] at hlB; exact hlB
                  obtain ⟨b1, hb1, hbe⟩ := lim_nI hlB25 (by decide)
                  have hbq : ix (pq V 3 p1) = b1 := by show ix (V 3 p1) = b1; rw [hbe, ix_nI (by omega)]
                  have hb3 : U3 3 p1 = nI b1 := by rw [f3.1 3 (by decide)]; exact hbe
                  have hkd : kd (pq V) p1 = 12 := hkd0.trans c_117
                  refine lv_aload_n hx hb dX4_go_171 rfl (lv_at hl 2 rfl) ?_
                  refine gfl hx hb hg inX4 hown hK hh.1 0 (ci := 4) rfl rfl 3 (by decide) wd_554 rfl dX4_go_172 ?_
                  refine lv_iload hx hb dX4_go_175 (lv_at hl 7 rfl) ?_
                  refine ldn hx hb hK hh.1 3 0 rfl rfl (by omega) (by decide) dX4_go_177 ?_
                  refine topv (nI b1) hb3 ?_
                  refine lv_goto (tgt := 185) hx hb dX4_go_178 (by decide) ?_
                  refine lv_istore (lv' := [(5, .int (nI b1)), (7, .int 1), (6, .int (zI (!stF (pq V) (U 17) p1))), (0, .ref (ad 0)), (1, .int x), (2, .int (nI w)), (3, .ref (ad 9)), (4, .int (nI (4 * t)))]) hx hb dX4_go_185 hl (by decide) rfl (fun ls hl => ?_)
                  refine lv_goto (tgt := 10) hx hb dX4_go_187 (by decide) ?_
                  exact ih (b1, c + 1, s1 + 1, U3) _ _ _ ⟨hh, (lv_sub hl [3, 4, 5, 6, 7, 0] rfl), (by omega), (by omega), (by omega), e330, e328, e329, f3, e320, (by rw [← he, ff_t c_25, rn_go (m := 100 - s1) (p := p1) (by omega) (by omega) hF, hRS, nw_go hF hkd, hbq, Nat.sub_sub])⟩ (by dsimp only; omega)
              · have c_156 : j = 13 := (nI_eq (a := j) (b := 13) (by omega) (by omega)).mp c_156
                have hkd : kd (pq V) p1 = 13 := hkd0.trans c_156
                exact absurd c_156 (by omega)
            · have c_117 : ¬ j = 12 := fun z => c_117 ((nI_eq (a := j) (b := 12) (by omega) (by omega)).mpr z)
              refine lv_aload_n hx hb dX4_go_120 rfl (lv_at hl 1 rfl) ?_
              refine gfl hx hb hg inX4 hown hK hh.1 0 (ci := 4) rfl rfl 1 (by decide) wd_552 rfl dX4_go_121 ?_
              refine lv_iload hx hb dX4_go_124 (lv_at hl 6 rfl) ?_
              refine ldn hx hb hK hh.1 1 0 rfl rfl (by omega) (by decide) dX4_go_126 ?_
              refine topv (nI j) hk3 ?_
              refine lv_bipush (v := 11) hx hb dX4_go_127 (by decide) ?_
              refine lv_icmp_ne (tgt := 144) hx hb dX4_go_129 (by decide) (fun c_129 => ?_) (fun c_129 => ?_)
              · have c_129 : ¬ j = 11 := fun z => c_129 ((nI_eq (a := j) (b := 11) (by omega) (by omega)).mpr z)
                refine lv_iconst (v := 0) hx hb dX4_go_144 (by decide) ?_
                refine lv_istore (lv' := [(7, .int 0), (6, .int (zI (!stF (pq V) (U 17) p1))), (0, .ref (ad 0)), (1, .int x), (2, .int (nI w)), (3, .ref (ad 9)), (4, .int (nI (4 * t))), (5, .int (nI p1))]) hx hb dX4_go_145 hl (by decide) rfl (fun ls hl => ?_)
                refine lv_aload_n hx hb dX4_go_147 rfl (lv_at hl 2 rfl) ?_
                refine gfl hx hb hg inX4 hown hK hh.1 0 (ci := 4) rfl rfl 1 (by decide) wd_552 rfl dX4_go_148 ?_
                refine lv_iload hx hb dX4_go_151 (lv_at hl 7 rfl) ?_
                refine ldn hx hb hK hh.1 1 0 rfl rfl (by omega) (by decide) dX4_go_153 ?_
                refine topv (nI j) hk3 ?_
                refine lv_bipush (v := 13) hx hb dX4_go_154 (by decide) ?_
                refine lv_icmp_ne (tgt := 166) hx hb dX4_go_156 (by decide) (fun c_156 => ?_) (fun c_156 => ?_)
                · have c_156 : ¬ j = 13 := fun z => c_156 ((nI_eq (a := j) (b := 13) (by omega) (by omega)).mpr z)
                  refine lv_iload hx hb dX4_go_166 (lv_at hl 0 rfl) ?_
                  refine lv_if_eq (tgt := 181) hx hb dX4_go_168 (by decide) (fun c_168 => ?_) (fun c_168 => ?_)
                  · refine lv_iload hx hb dX4_go_181 (lv_at hl 7 rfl) ?_
                    refine lv_iconst (v := 1) hx hb dX4_go_183 (by decide) ?_
                    refine lv_iadd hx hb dX4_go_184 ?_
                    refine topv (nI (p1 + 1)) (nI_add p1 1) ?_
                    refine lv_istore (lv' := [(5, .int (nI (p1 + 1))), (7, .int 0), (6, .int (zI (!stF (pq V) (U 17) p1))), (0, .ref (ad 0)), (1, .int x), (2, .int (nI w)), (3, .ref (ad 9)), (4, .int (nI (4 * t)))]) hx hb dX4_go_185 hl (by decide) rfl (fun ls hl => ?_)
                    refine lv_goto (tgt := 10) hx hb dX4_go_187 (by decide) ?_
                    exact ih (p1 + 1, c + 1, s1 + 1, U3) _ _ _ ⟨hh, (lv_sub hl [3, 4, 5, 6, 7, 0] rfl), (by omega), (by omega), (by omega), e330, e328, e329, f3, e320, (by rw [← he, ff_t c_25, rn_go (m := 100 - s1) (p := p1) (by omega) (by omega) hF, hRS, nw_els hF (by rw [hkd0]; exact c_129) (by rw [hkd0]; exact c_117) (by rw [hkd0]; exact c_156), Nat.sub_sub])⟩ (by dsimp only; omega)
                  · exact absurd (show ¬ (0 : Int32) = (0 : Int32) from c_168) (by decide)
                · have c_156 : j = 13 := (nI_eq (a := j) (b := 13) (by omega) (by omega)).mp c_156
                  have hkd : kd (pq V) p1 = 13 := hkd0.trans c_156
                  refine lv_aload_n hx hb dX4_go_159 rfl (lv_at hl 2 rfl) ?_
                  refine gfl hx hb hg inX4 hown hK hh.1 0 (ci := 4) rfl rfl 0 (by decide) wd_551 rfl dX4_go_160 ?_
                  refine topv (nI n) ((f3.2 0 (by decide) (by decide)).trans h00) ?_
                  refine lv_goto (tgt := 185) hx hb dX4_go_163 (by decide) ?_
                  refine lv_istore (lv' := [(5, .int (nI n)), (7, .int 0), (6, .int (zI (!stF (pq V) (U 17) p1))), (0, .ref (ad 0)), (1, .int x), (2, .int (nI w)), (3, .ref (ad 9)), (4, .int (nI (4 * t)))]) hx hb dX4_go_185 hl (by decide) rfl (fun ls hl => ?_)
                  refine lv_goto (tgt := 10) hx hb dX4_go_187 (by decide) ?_
                  exact ih (n, c + 1, s1 + 1, U3) _ _ _ ⟨hh, (lv_sub hl [3, 4, 5, 6, 7, 0] rfl), (by omega), (by omega), (by omega), e330, e328, e329, f3, e320, (by rw [← he, ff_t c_25, rn_go (m := 100 - s1) (p := p1) (by omega) (by omega) hF, hRS, nw_stop hF hkd, Nat.sub_sub]; exact rn_out (Nat.le_refl _) (by omega))⟩ (by dsimp only; omega)
              · have c_129 : j = 11 := (nI_eq (a := j) (b := 11) (by omega) (by omega)).mp c_129
                refine lv_aload_n hx hb dX4_go_132 rfl (lv_at hl 1 rfl) ?_
                refine gfl hx hb hg inX4 hown hK hh.1 0 (ci := 4) rfl rfl 32 (by decide) wd_583 rfl dX4_go_133 ?_
                refine topv (tlS (pq V) (fun j => V 9 (4 * t + j)) (U 17) (U 18) (U 19) (U0 20) p1) e332 ?_
                refine lv_iconst (v := 1) hx hb dX4_go_136 (by decide) ?_
                refine lv_icmp_ne (tgt := 144) hx hb dX4_go_137 (by decide) (fun c_137 => ?_) (fun c_137 => ?_)
                · have hkd : kd (pq V) p1 = 11 := hkd0.trans c_129
                  refine lv_iconst (v := 0) hx hb dX4_go_144 (by decide) ?_
                  refine lv_istore (lv' := [(7, .int 0), (6, .int (zI (!stF (pq V) (U 17) p1))), (0, .ref (ad 0)), (1, .int x), (2, .int (nI w)), (3, .ref (ad 9)), (4, .int (nI (4 * t))), (5, .int (nI p1))]) hx hb dX4_go_145 hl (by decide) rfl (fun ls hl => ?_)
                  refine lv_aload_n hx hb dX4_go_147 rfl (lv_at hl 2 rfl) ?_
                  refine gfl hx hb hg inX4 hown hK hh.1 0 (ci := 4) rfl rfl 1 (by decide) wd_552 rfl dX4_go_148 ?_
                  refine lv_iload hx hb dX4_go_151 (lv_at hl 7 rfl) ?_
                  refine ldn hx hb hK hh.1 1 0 rfl rfl (by omega) (by decide) dX4_go_153 ?_
                  refine topv (nI j) hk3 ?_
                  refine lv_bipush (v := 13) hx hb dX4_go_154 (by decide) ?_
                  refine lv_icmp_ne (tgt := 166) hx hb dX4_go_156 (by decide) (fun c_156 => ?_) (fun c_156 => ?_)
                  · have c_156 : ¬ j = 13 := fun z => c_156 ((nI_eq (a := j) (b := 13) (by omega) (by omega)).mpr z)
                    refine lv_iload hx hb dX4_go_166 (lv_at hl 0 rfl) ?_
                    refine lv_if_eq (tgt := 181) hx hb dX4_go_168 (by decide) (fun c_168 => ?_) (fun c_168 => ?_)
                    · refine lv_iload hx hb dX4_go_181 (lv_at hl 7 rfl) ?_
                      refine lv_iconst (v := 1) hx hb dX4_go_183 (by decide) ?_
                      refine lv_iadd hx hb dX4_go_184 ?_
                      refine topv (nI (p1 + 1)) (nI_add p1 1) ?_
                      refine lv_istore (lv' := [(5, .int (nI (p1 + 1))), (7, .int 0), (6, .int (zI (!stF (pq V) (U 17) p1))), (0, .ref (ad 0)), (1, .int x), (2, .int (nI w)), (3, .ref (ad 9)), (4, .int (nI (4 * t)))]) hx hb dX4_go_185 hl (by decide) rfl (fun ls hl => ?_)
                      refine lv_goto (tgt := 10) hx hb dX4_go_187 (by decide) ?_
                      exact ih (p1 + 1, c + 1, s1 + 1, U3) _ _ _ ⟨hh, (lv_sub hl [3, 4, 5, 6, 7, 0] rfl), (by omega), (by omega), (by omega), e330, e328, e329, f3, e320, (by rw [← he, ff_t c_25, rn_go (m := 100 - s1) (p := p1) (by omega) (by omega) hF, hRS, nw_if0 hF hkd c_137, Nat.sub_sub])⟩ (by dsimp only; omega)
                    · exact absurd (show ¬ (0 : Int32) = (0 : Int32) from c_168) (by decide)
                  · have c_156 : j = 13 := (nI_eq (a := j) (b := 13) (by omega) (by omega)).mp c_156
                    have hkd : kd (pq V) p1 = 13 := hkd0.trans c_156
                    exact absurd c_156 (by omega)
                · refine lv_iconst (v := 1) hx hb dX4_go_140 (by decide) ?_
                  refine lv_goto (tgt := 145) hx hb dX4_go_141 (by decide) ?_
                  refine lv_istore (lv' := [(7, .int 1), (6, .int (zI (!stF (pq V) (U 17) p1))), (0, .ref (ad 0)), (1, .int x), (2, .int (nI w)), (3, .ref (ad 9)), (4, .int (nI (4 * t))), (5, .int (nI p1))]) hx hb dX4_go_145 hl (by decide) rfl (fun ls hl => ?_)
                  refine lv_aload_n hx hb dX4_go_147 rfl (lv_at hl 2 rfl) ?_
                  refine gfl hx hb hg inX4 hown hK hh.1 0 (ci := 4) rfl rfl 1 (by decide) wd_552 rfl dX4_go_148 ?_
                  refine lv_iload hx hb dX4_go_151 (lv_at hl 7 rfl) ?_
                  refine ldn hx hb hK hh.1 1 0 rfl rfl (by omega) (by decide) dX4_go_153 ?_
                  refine topv (nI j) hk3 ?_
                  refine lv_bipush (v := 13) hx hb dX4_go_154 (by decide) ?_
                  refine lv_icmp_ne (tgt := 166) hx hb dX4_go_156 (by decide) (fun c_156 => ?_) (fun c_156 => ?_)
                  · have c_156 : ¬ j = 13 := fun z => c_156 ((nI_eq (a := j) (b := 13) (by omega) (by omega)).mpr z)
                    refine lv_iload hx hb dX4_go_166 (lv_at hl 0 rfl) ?_
                    refine lv_if_eq (tgt := 181) hx hb dX4_go_168 (by decide) (fun c_168 => ?_) (fun c_168 => ?_)
                    · exact absurd (show (1 : Int32) = (0 : Int32) from c_168) (by decide)
                    · have hlB25 : lim 25 (V 3 p1) := by rw [c_129] at hlB; exact hlB
                      obtain ⟨b1, hb1, hbe⟩ := lim_nI hlB25 (by decide)
                      have hbq : ix (pq V 3 p1) = b1 := by show ix (V 3 p1) = b1; rw [hbe, ix_nI (by omega)]
                      have hb3 : U3 3 p1 = nI b1 := by rw [f3.1 3 (by decide)]; exact hbe
                      have hkd : kd (pq V) p1 = 11 := hkd0.trans c_129
                      refine lv_aload_n hx hb dX4_go_171 rfl (lv_at hl 2 rfl) ?_
                      refine gfl hx hb hg inX4 hown hK hh.1 0 (ci := 4) rfl rfl 3 (by decide) wd_554 rfl dX4_go_172 ?_
                      refine lv_iload hx hb dX4_go_175 (lv_at hl 7 rfl) ?_
                      refine ldn hx hb hK hh.1 3 0 rfl rfl (by omega) (by decide) dX4_go_177 ?_
                      refine topv (nI b1) hb3 ?_
                      refine lv_goto (tgt := 185) hx hb dX4_go_178 (by decide) ?_
                      refine lv_istore (lv' := [(5, .int (nI b1)), (7, .int 1), (6, .int (zI (!stF (pq V) (U 17) p1))), (0, .ref (ad 0)), (1, .int x), (2, .int (nI w)), (3, .ref (ad 9)), (4, .int (nI (4 * t)))]) hx hb dX4_go_185 hl (by decide) rfl (fun ls hl => ?_)
                      refine lv_goto (tgt := 10) hx hb dX4_go_187 (by decide) ?_
                      exact ih (b1, c + 1, s1 + 1, U3) _ _ _ ⟨hh, (lv_sub hl [3, 4, 5, 6, 7, 0] rfl), (by omega), (by omega), (by omega), e330, e328, e329, f3, e320, (by rw [← he, ff_t c_25, rn_go (m := 100 - s1) (p := p1) (by omega) (by omega) hF, hRS, nw_if1 hF hkd c_137, hbq, Nat.sub_sub])⟩ (by dsimp only; omega)
                  · have c_156 : j = 13 := (nI_eq (a := j) (b := 13) (by omega) (by omega)).mp c_156
                    have hkd : kd (pq V) p1 = 13 := hkd0.trans c_156
                    exact absurd c_156 (by omega)
          · have hF : stF (pq V) (U 17) p1 = true := by cases hb9 : stF (pq V) (U 17) p1 with | true => rfl | false => (rw [hb9] at c_97; exact absurd c_97 (by decide))
            refine lv_aload_n hx hb dX4_go_100 rfl (lv_at hl 1 rfl) ?_
            refine lv_iload hx hb dX4_go_101 (lv_at hl 6 rfl) ?_
            refine pfl hx hb hg inX4 tyX4 tyX4_ok nmX4 hown hK hh 0 (ci := 4) rfl rfl 29 (by decide) wd_580 rfl rfl rfl (Nat.le_of_ble_eq_true rfl) dX4_go_103 (wQ k ad (va_up U3 0 (upd (U3 0) 29 (nI p1)))) rfl (fun H locs hh => ?_)
            refine lv_iconst (v := 1) hx hb dX4_go_106 (by decide) ?_
            exact retI (Wd := wQ k ad) (v := 1) (va_up U3 0 (upd (U3 0) 29 (nI p1))) hx hb hr hlocks dX4_go_107 hh (⟨⟨tq U0, c + 1, s1 + 1, 1, b1, by omega, by omega, rfl, e330, e328, by show rnS (pq V) (fun j => V 9 (4 * t + j)) (U0 20) x w n 100 (ffS x n 0) (U0 17, U0 18, U0 19, U0 21, 0, 0) = _; rw [← he, ff_t c_25, rn_fail (m := 100 - s1) (p := p1) (by omega) (by omega) hF, hRS]; rfl⟩, f3.u0 (Or.inl ⟨by decide, by decide⟩)⟩)
      · have c_40 : s1 = 100 := (nI_eq (a := s1) (b := 100) (by omega) (by omega)).mp c_40
        refine lv_iconst (v := 2) hx hb dX4_go_43 (by decide) ?_
        exact retI (Wd := wQ k ad) (v := 2) (U) hx hb hr hlocks dX4_go_44 hh (⟨⟨tq U0, c, s1, 2, b1, by omega, hs, rfl, h30, h28, by show rnS (pq V) (fun j => V 9 (4 * t + j)) (U0 20) x w n 100 (ffS x n 0) (U0 17, U0 18, U0 19, U0 21, 0, 0) = _; rw [← he, show 100 - s1 = 0 by omega, ff_t c_25]; show (if p1 < n then 2 else 0, (-4 : Int32), _) = (2, U 0 29, _); rw [if_pos (by omega), h29]; rfl⟩, hfr⟩)
    · have c_25 := (tS0 x (p := p1) (by omega)).mp c_25
      refine lv_iinc (v := nI (p1 + 1)) (lv' := [(5, .int (nI (p1 + 1))), (0, .ref (ad 0)), (1, .int x), (2, .int (nI w)), (3, .ref (ad 9)), (4, .int (nI (4 * t)))]) hx hb dX4_go_28 hl (k := 5) rfl (nI_succ p1).symm (by decide) rfl (fun ls hl => ?_)
      refine lv_goto (tgt := 10) hx hb dX4_go_31 (by decide) ?_
      exact ih (p1 + 1, c, s1, U) _ _ _ ⟨hh, (lv_sub hl [1, 2, 3, 4, 5, 0] rfl), (by omega), hs, hc, h30, h28, h29, hfr, h20, (by rw [← ff_f (n := n) (x := x) (p := p1) (by omega) c_25]; exact he)⟩ (by dsimp only; omega)
