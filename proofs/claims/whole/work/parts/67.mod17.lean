/-! the reference: way -/
theorem FarD.b {n : Nat} {P : St} {u d p v : Nat} (h : FarD n P u d p v) (hd : d ≤ 99) : v ≤ 99 := by
  rcases h with ⟨a, _, _⟩ | ⟨a, _⟩ <;> omega
theorem farP {n : Nat} {P : St} {u d p1 v3 q3 : Nat} {f : Nat → Nat} (hn : n ≤ 24) (hd : 1 ≤ d) (hd2 : d ≤ 24) (hp : p1 < n) (hF : ∀ p, p < n → FarD n P u (d - 1) p (f p)) {m : Int32} (hm : isM m (HA n P p1)) (h : (v3 = f p1 ∧ (f p1 = 99 → ∀ j, j < q3 → ¬ (bt m j = true ∧ f j = d - 1))) ∨ (f p1 = 99 ∧ v3 = d ∧ ∃ j, j < n ∧ bt m j = true ∧ f j = d - 1)) (hx : n ≤ q3 ∨ ¬ v3 = 99) : FarD n P u d p1 v3 ∧ (v3 = f p1 ∨ (f p1 = 99 ∧ v3 = d)) := by
  have e : d - 1 + 1 = d := by omega
  have h1 := hF p1 hp
  rcases h with ⟨h2, h3⟩ | ⟨h2, h3, j, hj, hb, hj2⟩
  · refine ⟨?_, Or.inl h2⟩
    by_cases h9 : f p1 = 99
    · have hq : n ≤ q3 := by
        rcases hx with hx | hx
        · exact hx
        · exact absurd (h2.trans h9) hx
      rw [h9] at h1 h2
      have h4 := h1.none hn (by omega) hF (fun j hj z => h3 h9 j (by omega) ⟨(hm j).mpr z.1, z.2⟩)
      rw [e] at h4
      rw [h2]; exact h4
    · have h4 := h1.keep h9
      rw [e] at h4
      rw [h2]; exact h4
  · refine ⟨?_, Or.inr ⟨h2, h3⟩⟩
    rw [h2] at h1
    have h5 := hF j hj
    rw [hj2] at h5
    have h4 := h1.set hn (by omega) hp ((hm j).mp hb) h5
    rw [e] at h4
    rw [h3]; exact h4
abbrev FrY : St → St → Prop := FrX [0, 12, 13, 14, 15, 16] [17, 22]
theorem FrQ.y {V U : St} (h : FrQ V U) : FrY V U := ⟨fun c hc => h.1 c (by simp at hc; omega) (by simp at hc; omega), fun j hj => h.2 j (by simp at hj; omega)⟩
abbrev rmX4_way : Room := { frames := 7, cells := 0, slots := 0, locals := 171 }
theorem lk_X4_way : Lk yX4_way 2 := by decide +kernel
set_option maxHeartbeats 4000000 in
set_option maxRecDepth 100000 in
/-- way(v, u) -/
theorem c_X4_way (l : Launch) (D : va_G) (k : Nat → ClassId) (ad : Nat → Nat) (V : St) {n : Nat} (hv : okV n (pq V)) (hc : Cq n V) (x y : Int32) : CtX noX l yX4_way cX4_way 7 (some .int) rmX4_way D (tyL k) (wQ k ad V) [.ref (ad 0), .int x, .int y] (qI D (wQ k ad) (fun r U => wayR n (pq V) x y r (V 0 17) (U 0 17) (V 12) (U 12) ∧ FrY V U ∧ Cq n U)) := by
  refine CtX.mk (by decide) (Nat.le_of_ble_eq_true rfl) ?_
  intro p e s m below meth c hx hb hml hown hg hr hlocks hK hN A hA hX hh ls hl
  have hh : Hd D A (wQ k ad V) s.heap s.heap [] := hh
  have hl : lv_has ls 7 [(0, .ref (ad 0)), (1, .int x), (2, .int y)] := hl
  have h00 : V 0 0 = nI n := hv.2.1
  have hn24 := hv.1
  refine lv_aload_n hx hb dX4_way_0 rfl (lv_at hl 0 rfl) ?_
  refine lv_iload_n hx hb dX4_way_1 rfl (lv_at hl 1 rfl) ?_
  refine callR (runV hx hb hg hown hml hl.1 (c_X4_isPlace l D k ad V hv (x)) [.int x] [] (preR (mapSome_sub hh.1 [0, 1, 2, 3, 4, 5, 6, 7, 8, 9, 10, 11, 12, 13, 14, 15, 16, 17, 18, 19, 20, 21, 22] rfl) hK hN xb0 x0) (va_recv hK hh.1 (ci := 4) (q0 := 0) rfl rfl) wd_681 wd_683 wd_25 wd_53 wd_684 lk_X4_isPlace ⟨rfl, rfl⟩ ⟨by decide, by decide⟩ ⟨Nat.zero_le _, Nat.zero_le _⟩ rfl (Nat.le_of_ble_eq_true rfl) dX4_way_2) (fun r_2 q_2 => ?_)
  obtain ⟨bP1, rfl, hP1⟩ := q_2
  refine lv_if_eq (tgt := 16) hx hb dX4_way_5 (by decide) (fun c_5 => ?_) (fun c_5 => ?_)
  · have c_5 := zI_0.mp c_5
    have c_5 : ¬ rgt x n := fun z => by rw [hP1.mpr z] at c_5; cases c_5
    refine lv_iconst (v := (-1)) hx hb dX4_way_16 (by decide) ?_
    exact retI (Wd := wQ k ad) (v := (-1)) (V) hx hb hr hlocks dX4_way_17 hh (⟨Or.inl ⟨fun z => c_5 z.1, rfl, rfl, rfl⟩, FrX.rf, hc⟩)
  · obtain ⟨q, hq, hxe⟩ := hP1.mp (zI_ne c_5)
    refine lv_aload_n hx hb dX4_way_8 rfl (lv_at hl 0 rfl) ?_
    refine lv_iload_n hx hb dX4_way_9 rfl (lv_at hl 2 rfl) ?_
    refine callR (runV hx hb hg hown hml hl.1 (c_X4_isPlace l D k ad V hv (y)) [.int y] [] (preR (mapSome_sub hh.1 [0, 1, 2, 3, 4, 5, 6, 7, 8, 9, 10, 11, 12, 13, 14, 15, 16, 17, 18, 19, 20, 21, 22] rfl) hK hN xb0 x0) (va_recv hK hh.1 (ci := 4) (q0 := 0) rfl rfl) wd_681 wd_683 wd_25 wd_53 wd_684 lk_X4_isPlace ⟨rfl, rfl⟩ ⟨by decide, by decide⟩ ⟨Nat.zero_le _, Nat.zero_le _⟩ rfl (Nat.le_of_ble_eq_true rfl) dX4_way_10) (fun r_10 q_10 => ?_)
    obtain ⟨bP2, rfl, hP2⟩ := q_10
    refine lv_if_ne (tgt := 18) hx hb dX4_way_13 (by decide) (fun c_13 => ?_) (fun c_13 => ?_)
    · obtain ⟨q2, hq2, hye⟩ := hP2.mp (zI_ne c_13)
      refine lv_aload_n hx hb dX4_way_18 rfl (lv_at hl 0 rfl) ?_
      refine callWV (D := D) (wn := fun U => wQ k ad U) (wr := []) (runV hx hb hg hown hml hl.1 ((c_X4_look l D k ad V hv hc) s.heap.size) [] [] (preX (mapSome_sub hh.1 [0, 1, 2, 3, 4, 5, 6, 7, 8, 9, 10, 11, 12, 13, 14, 15, 16, 17, 18, 19, 20, 21, 22] rfl) (hh.2.1.sub [0, 1, 2, 3, 4, 5, 6, 7, 8, 9, 10, 11, 12, 13, 14, 15, 16, 17, 18, 19, 20, 21, 22] (by decide) rfl) hK hN xb0 x0) (va_recv hK hh.1 (ci := 4) (q0 := 0) rfl rfl) wd_731 wd_733 wd_31 wd_53 wd_734 lk_X4_look ⟨rfl, rfl⟩ ⟨by decide, by decide⟩ ⟨Nat.zero_le _, Nat.zero_le _⟩ rfl (Nat.le_of_ble_eq_true rfl) dX4_way_19) hA hh [0, 1, 2, 3, 4, 5, 6, 7, 8, 9, 10, 11, 12, 13, 14, 15, 16, 17, 18, 19, 20, 21, 22] [] [0, 1, 2, 3, 4, 5, 6, 7, 8, 9, 10, 11, 12, 13, 14, 15, 16, 17, 18, 19, 20, 21, 22] rfl rfl (by decide) (by decide) (by decide) (fun _ => rfl) (fun U H locs q_19 hh => ?_)
      obtain ⟨fU, o22, hMG⟩ := q_19
      have hvU : okV n (pq U) := by rw [fU.pq]; exact hv
      have hMU : MG n (pq U) U := by rw [fU.pq]; exact hMG
      refine lv_iconst (v := 0) hx hb dX4_way_22 (by decide) ?_
      refine lv_istore_n (lv' := [(3, .int 0), (0, .ref (ad 0)), (1, .int x), (2, .int y)]) hx hb dX4_way_23 rfl hl (by decide) rfl (fun ls hl => ?_)
      refine loopW (σ := Nat × St) (fun zz9 H locs ls => match zz9 with | (i, U1) => Hd D A (wQ k ad U1) s.heap H locs ∧ lv_has ls 7 [(0, .ref (ad 0)), (1, .int x), (2, .int y), (3, .int (nI i))] ∧ (i ≤ 24) ∧ (Fr [16] U U1) ∧ (∀ p, p < i → U1 16 p = nI (if p = q2 then 0 else 99))) (fun zz9 => match zz9 with | (i, U1) => 24 - i) ?_ (0, U) ⟨hh, (lv_sub hl [1, 2, 3, 0] rfl), (by omega), Fr.rf, (fun p hp => absurd hp (Nat.not_lt_zero _))⟩
      intro zz9 H locs ls hI ih
      obtain ⟨i, U1⟩ := zz9
      obtain ⟨hh, hl, hi, f1, hz⟩ := hI
      refine lv_iload_n hx hb dX4_way_24 rfl (lv_at hl 3 rfl) ?_
      refine lv_bipush (v := 24) hx hb dX4_way_25 (by decide) ?_
      refine lv_icmp_ge (tgt := 53) hx hb dX4_way_27 (by decide) (fun c_27 => ?_) (fun c_27 => ?_)
      · have c_27 : 24 ≤ i := (nI_leI (a := 24) (b := i) (by omega) (by omega)).mp c_27
        refine lv_iconst (v := 1) hx hb dX4_way_53 (by decide) ?_
        refine lv_istore_n (lv' := [(3, .int 1), (0, .ref (ad 0)), (1, .int x), (2, .int y)]) hx hb dX4_way_54 rfl hl (by decide) rfl (fun ls hl => ?_)
        refine loopW (σ := Nat × (Nat → Nat) × St) (fun zz9 H locs ls => match zz9 with | (d, f, U2) => Hd D A (wQ k ad U2) s.heap H locs ∧ lv_has ls 7 [(0, .ref (ad 0)), (1, .int x), (2, .int y), (3, .int (nI d))] ∧ (1 ≤ d ∧ d ≤ 24) ∧ (Fr [16] U U2) ∧ (∀ p, p < n → U2 16 p = nI (f p) ∧ FarD n (pq V) q2 (d - 1) p (f p))) (fun zz9 => match zz9 with | (d, f, U2) => 24 - d) ?_ (1, (fun p => if p = q2 then 0 else 99), U1) ⟨hh, (lv_sub hl [1, 2, 3, 0] rfl), ⟨by omega, by omega⟩, f1, (fun p hp => ⟨hz p (by omega), far_0 (by omega) p⟩)⟩
        intro zz9 H locs ls hI ih
        obtain ⟨d, f, U2⟩ := zz9
        obtain ⟨hh, hl, hd, f2, hF⟩ := hI
        have ihd := ih; clear ih
        refine lv_iload_n hx hb dX4_way_55 rfl (lv_at hl 3 rfl) ?_
        refine lv_bipush (v := 24) hx hb dX4_way_56 (by decide) ?_
        refine lv_icmp_ge (tgt := 161) hx hb dX4_way_58 (by decide) (fun c_58 => ?_) (fun c_58 => ?_)
        · have c_58 : 24 ≤ d := (nI_leI (a := 24) (b := d) (by omega) (by omega)).mp c_58
          have hd24 : d = 24 := by omega
          have hF23 : ∀ p, p < n → FarD n (pq V) q2 23 p (f p) := fun p hp => by have h9 := (hF p hp).2; rw [hd24] at h9; exact h9
          have hFv := hF23 q hq
          have hfq := hFv.b (by omega)
          refine lv_aload_n hx hb dX4_way_161 rfl (lv_at hl 0 rfl) ?_
          refine gfl hx hb hg inX4 hown hK hh.1 0 (ci := 4) rfl rfl 23 (by decide) wd_574 rfl dX4_way_162 ?_
          refine lv_iload_n hx hb dX4_way_165 rfl (lv_at hl 1 rfl) ?_
          refine topv (nI q) hxe ?_
          refine ldn hx hb hK hh.1 16 0 rfl rfl (by omega) (by decide) dX4_way_166 ?_
          refine topv (nI (f q)) (hF q hq).1 ?_
          refine lv_bipush (v := 99) hx hb dX4_way_167 (by decide) ?_
          refine lv_icmp_ne (tgt := 175) hx hb dX4_way_169 (by decide) (fun c_169 => ?_) (fun c_169 => ?_)
          · have c_169 : ¬ f q = 99 := fun z => c_169 ((nI_eq (a := f q) (b := 99) (by omega) (by omega)).mpr z)
            have hD := far_ds hFv c_169
            have hBk : Bk n (pq V) q q2 := Classical.byContradiction fun z => c_169 ((far_Bk hn24 hq hq2 hFv).mpr z)
            refine lv_aload_n hx hb dX4_way_175 rfl (lv_at hl 0 rfl) ?_
            refine lv_iconst (v := 0) hx hb dX4_way_176 (by decide) ?_
            refine pfl hx hb hg inX4 tyX4 tyX4_ok nmX4 hown hK hh 0 (ci := 4) rfl rfl 17 (by decide) wd_568 rfl rfl rfl (Nat.le_of_ble_eq_true rfl) dX4_way_177 (wQ k ad (va_up U2 0 (upd (U2 0) 17 0))) rfl (fun H locs hh => ?_)
            refine lv_iload_n hx hb dX4_way_180 rfl (lv_at hl 1 rfl) ?_
            refine topv (nI q) hxe ?_
            refine lv_istore_n (lv' := [(3, .int (nI q)), (0, .ref (ad 0)), (1, .int x), (2, .int y)]) hx hb dX4_way_181 rfl hl (by decide) rfl (fun ls hl => ?_)
            refine lv_aload_n hx hb dX4_way_182 rfl (lv_at hl 1 rfl) ?_
            refine gfl hx hb hg inX4 hown hK hh.1 0 (ci := 4) rfl rfl 18 (by decide) wd_569 rfl dX4_way_183 ?_
            refine lv_iconst (v := 0) hx hb dX4_way_186 (by decide) ?_
            refine lv_iload_n hx hb dX4_way_187 rfl (lv_at hl 2 rfl) ?_
            refine topv (nI q) hxe ?_
            refine stn (j := 0) hx hb hK hh 12 0 rfl rfl (by omega) (by decide) dX4_way_188 (wQ k ad (va_up (va_up U2 0 (upd (U2 0) 17 0)) 12 (upd (U2 12) 0 (nI q)))) rfl (fun H locs hh => ?_)
            refine lv_aload_n hx hb dX4_way_189 rfl (lv_at hl 1 rfl) ?_
            refine lv_iconst (v := 1) hx hb dX4_way_190 (by decide) ?_
            refine pfl hx hb hg inX4 tyX4 tyX4_ok nmX4 hown hK hh 0 (ci := 4) rfl rfl 17 (by decide) wd_568 rfl rfl rfl (Nat.le_of_ble_eq_true rfl) dX4_way_191 (wQ k ad (va_up (va_up (va_up U2 0 (upd (U2 0) 17 0)) 12 (upd (U2 12) 0 (nI q))) 0 (upd ((va_up (va_up U2 0 (upd (U2 0) 17 0)) 12 (upd (U2 12) 0 (nI q))) 0) 17 1))) rfl (fun H locs hh => ?_)
            refine loopW (σ := Nat × Nat × St) (fun zz9 H locs ls => match zz9 with | (k9, at1, U5) => Hd D A (wQ k ad U5) s.heap H locs ∧ lv_has ls 7 [(0, .ref (ad 0)), (1, .int x), (2, .int y), (3, .int (nI at1))] ∧ (k9 ≤ dF n (pq V) q q2) ∧ (at1 = wF n (pq V) q q2 k9) ∧ (at1 < n) ∧ (FrX [0, 12] [17] U2 U5) ∧ (U5 0 17 = nI (k9 + 1)) ∧ (∀ j, j < k9 + 1 → U5 12 j = nI (wF n (pq V) q q2 j)) ∧ (f at1 = dF n (pq V) q q2 - k9)) (fun zz9 => match zz9 with | (k9, at1, U5) => dF n (pq V) q q2 - k9) ?_ (0, q, va_up (va_up (va_up U2 0 (upd (U2 0) 17 0)) 12 (upd (U2 12) 0 (nI q))) 0 (upd ((va_up (va_up U2 0 (upd (U2 0) 17 0)) 12 (upd (U2 12) 0 (nI q))) 0) 17 1)) ⟨hh, (lv_sub hl [1, 2, 3, 0] rfl), (Nat.zero_le _), rfl, hq, (((FrX.rf.u0 (by decide) (by decide)).up (by decide) (by decide)).u0 (by decide) (by decide)), rfl, (fun j hj => by rw [show j = 0 by omega]; rfl), hD⟩
            intro zz9 H locs ls hI ih
            obtain ⟨k9, at1, U5⟩ := zz9
            obtain ⟨hh, hl, hk9, hat, hatn, f5, h17, hW, hfat⟩ := hI
            have iho := ih; clear ih
            have p5 : pq U5 = pq V := (f5.pq (by intro i a b; simp; omega) (by decide)).trans ((pq_eq (by rw [f2 0 (by decide)]) (fun i a b => f2 i (by simp; omega))).trans fU.pq)
            have hv5 : okV n (pq U5) := by rw [p5]; exact hv
            have hM5 : MG n (pq U5) U5 := by rw [p5]; exact hMG.eq ((f5.1 13 (by decide)).trans (f2 13 (by decide))) ((f5.1 14 (by decide)).trans (f2 14 (by decide))) ((f5.1 15 (by decide)).trans (f2 15 (by decide)))
            refine lv_iload_n hx hb dX4_way_194 rfl (lv_at hl 3 rfl) ?_
            refine lv_iload_n hx hb dX4_way_195 rfl (lv_at hl 2 rfl) ?_
            refine topv (nI q2) hye ?_
            refine lv_icmp_eq (tgt := 271) hx hb dX4_way_196 (by decide) (fun c_196 => ?_) (fun c_196 => ?_)
            · have c_196 : at1 = q2 := (nI_eq (a := at1) (b := q2) (by omega) (by omega)).mp c_196
              have h8 := FarD.at (by omega) (show FarD n (pq V) q2 23 q2 (dF n (pq V) q q2 - k9) by have h7 := hF23 at1 hatn; rw [hfat, c_196] at h7; exact h7)
              have hkD : k9 = dF n (pq V) q q2 := by omega
              refine lv_aload_n hx hb dX4_way_271 rfl (lv_at hl 0 rfl) ?_
              refine gfl hx hb hg inX4 hown hK hh.1 0 (ci := 4) rfl rfl 17 (by decide) wd_568 rfl dX4_way_272 ?_
              refine topv (nI (k9 + 1)) h17 ?_
              exact retI (Wd := wQ k ad) (v := nI (k9 + 1)) (U5) hx hb hr hlocks dX4_way_275 hh (⟨Or.inr ⟨q, q2, hq, hq2, hxe, hye, Or.inr ⟨hBk, by rw [hkD], h17, fun j hj => hW j (by omega)⟩⟩, (fU.y.trans ((Fr.x (ss := []) f2 (by decide)).mono (by intro c hc; simp at hc ⊢; omega) (by simp))).trans (f5.mono (by intro c hc; simp at hc ⊢; omega) (by intro c hc; simp at hc ⊢; omega)), Or.inr ⟨(f5.2 22 (by decide)).trans (by rw [f2 0 (by decide)]; exact o22), hM5⟩⟩)
            · have c_196 : ¬ at1 = q2 := fun z => c_196 ((nI_eq (a := at1) (b := q2) (by omega) (by omega)).mpr z)
              obtain ⟨e9, he9⟩ : ∃ z, dF n (pq V) q q2 - k9 = z + 1 := ⟨dF n (pq V) q q2 - k9 - 1, by have h8 : ¬ dF n (pq V) q q2 - k9 = 0 := fun z => c_196 (FarD.u0 (by omega) (by have h7 := hF23 at1 hatn; rw [hfat, z] at h7; exact h7)); omega⟩
              have hfa : FarD n (pq V) q2 23 at1 (e9 + 1) := by have h7 := hF23 at1 hatn; rw [hfat, he9] at h7; exact h7
              have hd23 := ds_le (n := n) (P := pq V) (v := q) (u := q2)
              have he23 : e9 + 1 ≤ 23 := by omega
              have hDk : dF n (pq V) q q2 - (k9 + 1) = e9 := by omega
              obtain ⟨qs, hqs, hqb⟩ := far_ex hn24 hfa he23
              have hqc := (far_cause hn24 hfa he23 hatn (hF23 qs hqs)).mpr hqb
              refine lv_aload_n hx hb dX4_way_199 rfl (lv_at hl 0 rfl) ?_
              refine lv_iload_n hx hb dX4_way_200 rfl (lv_at hl 3 rfl) ?_
              refine lv_iconst (v := 0) hx hb dX4_way_201 (by decide) ?_
              refine callR (runV hx hb hg hown hml hl.1 (c_X4_on l D k ad U5 hv5 hM5 (v := at1) hatn) [.int (nI at1), .int 0] [] (preR (mapSome_sub hh.1 [0, 1, 2, 3, 4, 5, 6, 7, 8, 9, 10, 11, 12, 13, 14, 15, 16, 17, 18, 19, 20, 21, 22] rfl) hK hN xb0 x0) (va_recv hK hh.1 (ci := 4) (q0 := 0) rfl rfl) wd_768 wd_770 wd_40 wd_53 wd_771 lk_X4_on ⟨rfl, rfl⟩ ⟨by decide, by decide⟩ ⟨Nat.zero_le _, Nat.zero_le _⟩ rfl (Nat.le_of_ble_eq_true rfl) dX4_way_202) (fun r_202 q_202 => ?_)
              rw [p5] at q_202
              refine lv_istore (lv' := [(4, .int r_202), (0, .ref (ad 0)), (1, .int x), (2, .int y), (3, .int (nI at1))]) hx hb dX4_way_205 hl (by decide) rfl (fun ls hl => ?_)
              refine lv_iconst (v := 0) hx hb dX4_way_207 (by decide) ?_
              refine lv_istore (lv' := [(5, .int 0), (4, .int r_202), (0, .ref (ad 0)), (1, .int x), (2, .int y), (3, .int (nI at1))]) hx hb dX4_way_208 hl (by decide) rfl (fun ls hl => ?_)
              refine loopW (σ := Nat) (fun q6 H locs ls => Hd D A (wQ k ad U5) s.heap H locs ∧ lv_has ls 7 [(0, .ref (ad 0)), (1, .int x), (2, .int y), (3, .int (nI at1)), (4, .int r_202), (5, .int (nI q6))] ∧ (q6 ≤ qs) ∧ (∀ j, j < q6 → ¬ (HA n (pq V) at1 j ∧ f j = e9))) (fun q6 => qs - q6) ?_ (0) ⟨hh, (lv_sub hl [2, 3, 4, 5, 1, 0] rfl), (Nat.zero_le _), (fun j h => absurd h (Nat.not_lt_zero _))⟩
              intro zz9 H locs ls hI ih
              obtain ⟨q6, rfl⟩ : ∃ z, z = zz9 := ⟨_, rfl⟩
              obtain ⟨hh, hl, hq6, hno⟩ := hI
              refine lv_iload hx hb dX4_way_210 (lv_at hl 4 rfl) ?_
              refine lv_iload hx hb dX4_way_212 (lv_at hl 5 rfl) ?_
              refine lv_ishr hx hb dX4_way_214 ?_
              refine lv_iconst (v := 1) hx hb dX4_way_215 (by decide) ?_
              refine lv_iand hx hb dX4_way_216 ?_
              refine lv_if_eq (tgt := 238) hx hb dX4_way_217 (by decide) (fun c_217 => ?_) (fun c_217 => ?_)
              · have c_217 := (tS0 r_202 (p := q6) (by omega)).mp c_217
                refine lv_iinc (v := nI (q6 + 1)) (lv' := [(5, .int (nI (q6 + 1))), (0, .ref (ad 0)), (1, .int x), (2, .int y), (3, .int (nI at1)), (4, .int r_202)]) hx hb dX4_way_238 hl (k := 5) rfl (nI_succ q6).symm (by decide) rfl (fun ls hl => ?_)
                refine lv_goto (tgt := 210) hx hb dX4_way_241 (by decide) ?_
                have hbad : ¬ (HA n (pq V) at1 q6 ∧ f q6 = e9) := fun z => by rw [(q_202 q6).mpr z.1] at c_217; cases c_217
                have hne6 : ¬ q6 = qs := fun e => by rw [e] at hbad; exact hbad hqc
                exact ih (q6 + 1) _ _ _ ⟨hh, (lv_sub hl [1, 2, 3, 4, 5, 0] rfl), (by omega), (fun j hj z => by rcases Classical.em (j = q6) with e | e; (rw [e] at z; exact hbad z); exact hno j (by omega) z)⟩ (by omega)
              · have c_217 : bt r_202 q6 = true := by cases hb9 : bt r_202 q6 with | true => rfl | false => exact absurd ((tS0 r_202 (p := q6) (by omega)).mpr hb9) c_217
                have hf6 := (hF q6 (by omega)).2.b (by omega)
                refine lv_aload_n hx hb dX4_way_220 rfl (lv_at hl 0 rfl) ?_
                refine gfl hx hb hg inX4 hown hK hh.1 0 (ci := 4) rfl rfl 23 (by decide) wd_574 rfl dX4_way_221 ?_
                refine lv_iload hx hb dX4_way_224 (lv_at hl 5 rfl) ?_
                refine ldn hx hb hK hh.1 16 0 rfl rfl (by omega) (by decide) dX4_way_226 ?_
                refine topv (nI (f q6)) (by rw [show U5 16 = U2 16 from f5.1 16 (by decide)]; exact (hF q6 (by omega)).1) ?_
                refine lv_aload_n hx hb dX4_way_227 rfl (lv_at hl 0 rfl) ?_
                refine gfl hx hb hg inX4 hown hK hh.1 0 (ci := 4) rfl rfl 23 (by decide) wd_574 rfl dX4_way_228 ?_
                refine lv_iload_n hx hb dX4_way_231 rfl (lv_at hl 3 rfl) ?_
                refine ldn hx hb hK hh.1 16 0 rfl rfl (by omega) (by decide) dX4_way_232 ?_
                refine topv (nI (e9 + 1)) (by rw [show U5 16 = U2 16 from f5.1 16 (by decide), (hF at1 hatn).1, hfat, he9]) ?_
                refine lv_iconst (v := 1) hx hb dX4_way_233 (by decide) ?_
                refine lv_isub hx hb dX4_way_234 ?_
                refine topv (nI (e9 + 1 - 1)) (pk_sub (a := e9 + 1) (b := 1) (by omega)) ?_
                refine lv_icmp_eq (tgt := 244) hx hb dX4_way_235 (by decide) (fun c_235 => ?_) (fun c_235 => ?_)
                · have c_235 : f q6 = e9 + 1 - 1 := (nI_eq (a := f q6) (b := e9 + 1 - 1) (by omega) (by omega)).mp c_235
                  refine lv_iload hx hb dX4_way_244 (lv_at hl 5 rfl) ?_
                  refine lv_istore_n (lv' := [(3, .int (nI q6)), (0, .ref (ad 0)), (1, .int x), (2, .int y), (4, .int r_202), (5, .int (nI q6))]) hx hb dX4_way_246 rfl hl (by decide) rfl (fun ls hl => ?_)
                  refine lv_aload_n hx hb dX4_way_247 rfl (lv_at hl 1 rfl) ?_
                  refine gfl hx hb hg inX4 hown hK hh.1 0 (ci := 4) rfl rfl 18 (by decide) wd_569 rfl dX4_way_248 ?_
                  refine lv_aload_n hx hb dX4_way_251 rfl (lv_at hl 1 rfl) ?_
                  refine gfl hx hb hg inX4 hown hK hh.1 0 (ci := 4) rfl rfl 17 (by decide) wd_568 rfl dX4_way_252 ?_
                  refine topv (nI (k9 + 1)) h17 ?_
                  refine lv_iload hx hb dX4_way_255 (lv_at hl 5 rfl) ?_
                  refine stn (j := (k9 + 1)) hx hb hK hh 12 0 rfl rfl (by omega) (by decide) dX4_way_257 (wQ k ad (va_up U5 12 (upd (U5 12) (k9 + 1) (nI q6)))) rfl (fun H locs hh => ?_)
                  refine lv_aload_n hx hb dX4_way_258 rfl (lv_at hl 1 rfl) ?_
                  refine lv_dup hx hb dX4_way_259 rfl ?_
                  refine gfl hx hb hg inX4 hown hK hh.1 0 (ci := 4) rfl rfl 17 (by decide) wd_568 rfl dX4_way_260 ?_
                  refine topv (nI (k9 + 1)) h17 ?_
                  refine lv_iconst (v := 1) hx hb dX4_way_263 (by decide) ?_
                  refine lv_iadd hx hb dX4_way_264 ?_
                  refine topv (nI (k9 + 1 + 1)) (nI_add (k9 + 1) 1) ?_
                  refine pfl hx hb hg inX4 tyX4 tyX4_ok nmX4 hown hK hh 0 (ci := 4) rfl rfl 17 (by decide) wd_568 rfl rfl rfl (Nat.le_of_ble_eq_true rfl) dX4_way_265 (wQ k ad (va_up (va_up U5 12 (upd (U5 12) (k9 + 1) (nI q6))) 0 (upd ((va_up U5 12 (upd (U5 12) (k9 + 1) (nI q6))) 0) 17 (nI (k9 + 1 + 1))))) rfl (fun H locs hh => ?_)
                  refine lv_goto (tgt := 194) hx hb dX4_way_268 (by decide) ?_
                  have hfe : f q6 = e9 := by omega
                  have hqw : q6 = wF n (pq V) q q2 (k9 + 1) := wF_next hat (by omega) (by rw [hDk]; exact (far_cause hn24 hfa he23 hatn (hF23 q6 (by omega))).mp ⟨(q_202 q6).mp c_217, hfe⟩) (fun j hj z => by rw [hDk] at z; exact hno j hj ((far_cause hn24 hfa he23 hatn (hF23 j (by omega))).mpr z))
                  exact iho (k9 + 1, q6, va_up (va_up U5 12 (upd (U5 12) (k9 + 1) (nI q6))) 0 (upd ((va_up U5 12 (upd (U5 12) (k9 + 1) (nI q6))) 0) 17 (nI (k9 + 1 + 1)))) _ _ _ ⟨hh, (lv_sub hl [1, 2, 3, 0] rfl), (by omega), hqw, (by omega), ((f5.up (by decide) (by decide)).u0 (by decide) (by decide)), (by rw [up_s, upd_s]), (fun j hj => by rw [up_n (by decide), up_s]; rcases Classical.em (j = k9 + 1) with e | e; (rw [e, upd_s, ← hqw]); (rw [upd_n e]; exact hW j (by omega))), (by omega)⟩ (by dsimp only; omega)
                · have c_235 : ¬ f q6 = e9 + 1 - 1 := fun z => c_235 ((nI_eq (a := f q6) (b := e9 + 1 - 1) (by omega) (by omega)).mpr z)
                  refine lv_iinc (v := nI (q6 + 1)) (lv' := [(5, .int (nI (q6 + 1))), (0, .ref (ad 0)), (1, .int x), (2, .int y), (3, .int (nI at1)), (4, .int r_202)]) hx hb dX4_way_238 hl (k := 5) rfl (nI_succ q6).symm (by decide) rfl (fun ls hl => ?_)
                  refine lv_goto (tgt := 210) hx hb dX4_way_241 (by decide) ?_
                  have hbad : ¬ (HA n (pq V) at1 q6 ∧ f q6 = e9) := fun z => by omega
                  have hne6 : ¬ q6 = qs := fun e => by rw [e] at hbad; exact hbad hqc
                  exact ih (q6 + 1) _ _ _ ⟨hh, (lv_sub hl [1, 2, 3, 4, 5, 0] rfl), (by omega), (fun j hj z => by rcases Classical.em (j = q6) with e | e; (rw [e] at z; exact hbad z); exact hno j (by omega) z)⟩ (by omega)
          · have c_169 : f q = 99 := (nI_eq (a := f q) (b := 99) (by omega) (by omega)).mp c_169
            refine lv_bipush (v := (-4)) hx hb dX4_way_172 (by decide) ?_
            exact retI (Wd := wQ k ad) (v := (-4)) (U2) hx hb hr hlocks dX4_way_174 hh (⟨Or.inr ⟨q, q2, hq, hq2, hxe, hye, Or.inl ⟨(far_Bk hn24 hq hq2 hFv).mp c_169, rfl, by rw [f2 0 (by decide)]; exact fU.2 17 (by decide), by rw [f2 12 (by decide)]; exact fU.1 12 (by omega) (by omega)⟩⟩, fU.y.trans ((Fr.x (ss := []) f2 (by decide)).mono (by intro c hc; simp at hc ⊢; omega) (by simp)), Or.inr ⟨by rw [f2 0 (by decide)]; exact o22, by rw [show pq U2 = pq V from (pq_eq (by rw [f2 0 (by decide)]) (fun i a b => f2 i (by simp; omega))).trans fU.pq]; exact hMG.eq (f2 13 (by decide)) (f2 14 (by decide)) (f2 15 (by decide))⟩⟩)
        · have c_58 : ¬ 24 ≤ d := fun z => c_58 ((nI_leI (a := 24) (b := d) (by omega) (by omega)).mpr z)
          refine lv_iconst (v := 0) hx hb dX4_way_61 (by decide) ?_
          refine lv_istore (lv' := [(4, .int 0), (0, .ref (ad 0)), (1, .int x), (2, .int y), (3, .int (nI d))]) hx hb dX4_way_62 hl (by decide) rfl (fun ls hl => ?_)
          refine loopW (σ := Nat × (Nat → Nat) × St) (fun zz9 H locs ls => match zz9 with | (p1, g1, U3) => Hd D A (wQ k ad U3) s.heap H locs ∧ lv_has ls 7 [(0, .ref (ad 0)), (1, .int x), (2, .int y), (3, .int (nI d)), (4, .int (nI p1))] ∧ (p1 ≤ n) ∧ (Fr [16] U U3) ∧ (∀ p, p < n → U3 16 p = nI (g1 p) ∧ (p1 ≤ p → g1 p = f p) ∧ (p < p1 → FarD n (pq V) q2 d p (g1 p)) ∧ (g1 p = f p ∨ (f p = 99 ∧ g1 p = d)))) (fun zz9 => match zz9 with | (p1, g1, U3) => n - p1) ?_ (0, f, U2) ⟨hh, (lv_sub hl [1, 2, 3, 4, 0] rfl), (by omega), f2, (fun p hp => ⟨(hF p hp).1, fun _ => rfl, fun z => absurd z (Nat.not_lt_zero _), Or.inl rfl⟩)⟩
          intro zz9 H locs ls hI ih
          obtain ⟨p1, g1, U3⟩ := zz9
          obtain ⟨hh, hl, hp1, f3, hG⟩ := hI
          have ihp := ih; clear ih
          have pU3 : pq U3 = pq V := (pq_eq (by rw [f3 0 (by decide)]) (fun i a b => f3 i (by simp; omega))).trans fU.pq
          have hU3 : okV n (pq U3) := by rw [pU3]; exact hv
          have hMU3 : MG n (pq U3) U3 := by rw [pU3]; exact hMG.eq (f3 13 (by decide)) (f3 14 (by decide)) (f3 15 (by decide))
          have h0U3 : U3 0 0 = nI n := hU3.2.1
          refine lv_iload hx hb dX4_way_64 (lv_at hl 4 rfl) ?_
          refine lv_aload_n hx hb dX4_way_66 rfl (lv_at hl 0 rfl) ?_
          refine gfl hx hb hg inX4 hown hK hh.1 0 (ci := 4) rfl rfl 0 (by decide) wd_551 rfl dX4_way_67 ?_
          refine topv (nI n) h0U3 ?_
          refine lv_icmp_ge (tgt := 155) hx hb dX4_way_70 (by decide) (fun c_70 => ?_) (fun c_70 => ?_)
          · have c_70 : n ≤ p1 := (nI_leI (a := n) (b := p1) (by omega) (by omega)).mp c_70
            refine lv_iinc (v := nI (d + 1)) (lv' := [(3, .int (nI (d + 1))), (0, .ref (ad 0)), (1, .int x), (2, .int y), (4, .int (nI p1))]) hx hb dX4_way_155 hl (k := 3) rfl (nI_succ d).symm (by decide) rfl (fun ls hl => ?_)
            refine lv_goto (tgt := 55) hx hb dX4_way_158 (by decide) ?_
            exact ihd (d + 1, g1, U3) _ _ _ ⟨hh, (lv_sub hl [1, 2, 3, 0] rfl), ⟨by omega, by omega⟩, f3, (fun p hp => ⟨(hG p hp).1, (hG p hp).2.2.1 (by omega)⟩)⟩ (by dsimp only; omega)
          · have c_70 : ¬ n ≤ p1 := fun z => c_70 ((nI_leI (a := n) (b := p1) (by omega) (by omega)).mpr z)
            refine lv_aload_n hx hb dX4_way_73 rfl (lv_at hl 0 rfl) ?_
            refine lv_iload hx hb dX4_way_74 (lv_at hl 4 rfl) ?_
            refine lv_iconst (v := 0) hx hb dX4_way_76 (by decide) ?_
            refine callR (runV hx hb hg hown hml hl.1 (c_X4_on l D k ad U3 hU3 hMU3 (v := p1) (by omega)) [.int (nI p1), .int 0] [] (preR (mapSome_sub hh.1 [0, 1, 2, 3, 4, 5, 6, 7, 8, 9, 10, 11, 12, 13, 14, 15, 16, 17, 18, 19, 20, 21, 22] rfl) hK hN xb0 x0) (va_recv hK hh.1 (ci := 4) (q0 := 0) rfl rfl) wd_768 wd_770 wd_40 wd_53 wd_771 lk_X4_on ⟨rfl, rfl⟩ ⟨by decide, by decide⟩ ⟨Nat.zero_le _, Nat.zero_le _⟩ rfl (Nat.le_of_ble_eq_true rfl) dX4_way_77) (fun r_77 q_77 => ?_)
            rw [pU3] at q_77
            refine lv_istore (lv' := [(5, .int r_77), (0, .ref (ad 0)), (1, .int x), (2, .int y), (3, .int (nI d)), (4, .int (nI p1))]) hx hb dX4_way_80 hl (by decide) rfl (fun ls hl => ?_)
            refine lv_iconst (v := 0) hx hb dX4_way_82 (by decide) ?_
            refine lv_istore (lv' := [(6, .int 0), (5, .int r_77), (0, .ref (ad 0)), (1, .int x), (2, .int y), (3, .int (nI d)), (4, .int (nI p1))]) hx hb dX4_way_83 hl (by decide) rfl (fun ls hl => ?_)
            refine loopW (σ := Nat × Nat × St) (fun zz9 H locs ls => match zz9 with | (q3, v3, U4) => Hd D A (wQ k ad U4) s.heap H locs ∧ lv_has ls 7 [(0, .ref (ad 0)), (1, .int x), (2, .int y), (3, .int (nI d)), (4, .int (nI p1)), (5, .int r_77), (6, .int (nI q3))] ∧ (q3 ≤ n) ∧ (Fr [16] U3 U4) ∧ (∀ p, ¬ p = p1 → U4 16 p = U3 16 p) ∧ (U4 16 p1 = nI v3) ∧ ((v3 = f p1 ∧ (f p1 = 99 → ∀ j, j < q3 → ¬ (bt r_77 j = true ∧ f j = d - 1))) ∨ (f p1 = 99 ∧ v3 = d ∧ ∃ j, j < n ∧ bt r_77 j = true ∧ f j = d - 1))) (fun zz9 => match zz9 with | (q3, v3, U4) => n - q3) ?_ (0, f p1, U3) ⟨hh, (lv_sub hl [2, 3, 4, 5, 6, 1, 0] rfl), (by omega), Fr.rf, (fun _ _ => rfl), ((hG p1 (by omega)).1.trans (by rw [(hG p1 (by omega)).2.1 (Nat.le_refl _)])), (Or.inl ⟨rfl, fun _ j h => absurd h (Nat.not_lt_zero _)⟩)⟩
            intro zz9 H locs ls hI ih
            obtain ⟨q3, v3, U4⟩ := zz9
            obtain ⟨hh, hl, hq3, f4, h4o, h4p, hv3⟩ := hI
            refine lv_iload hx hb dX4_way_85 (lv_at hl 6 rfl) ?_
            refine lv_aload_n hx hb dX4_way_87 rfl (lv_at hl 0 rfl) ?_
            refine gfl hx hb hg inX4 hown hK hh.1 0 (ci := 4) rfl rfl 0 (by decide) wd_551 rfl dX4_way_88 ?_
            refine topv (nI n) ((f4.at 0 (by decide) 0).trans h0U3) ?_
            refine lv_icmp_ge (tgt := 149) hx hb dX4_way_91 (by decide) (fun c_91 => ?_) (fun c_91 => ?_)
            · have c_91 : n ≤ q3 := (nI_leI (a := n) (b := q3) (by omega) (by omega)).mp c_91
              refine lv_iinc (v := nI (p1 + 1)) (lv' := [(4, .int (nI (p1 + 1))), (0, .ref (ad 0)), (1, .int x), (2, .int y), (3, .int (nI d)), (5, .int r_77), (6, .int (nI q3))]) hx hb dX4_way_149 hl (k := 4) rfl (nI_succ p1).symm (by decide) rfl (fun ls hl => ?_)
              refine lv_goto (tgt := 64) hx hb dX4_way_152 (by decide) ?_
              have hFP := farP hn24 hd.1 hd.2 (by omega) (fun p hp => (hF p hp).2) q_77 hv3 (Or.inl (by omega))
              exact ihp (p1 + 1, (fun p => if p = p1 then v3 else g1 p), U4) _ _ _ ⟨hh, (lv_sub hl [1, 2, 3, 4, 0] rfl), (by omega), (f3.trans f4), (fun p hp => by rcases Classical.em (p = p1) with e | e; (dsimp only; rw [e, if_pos rfl]; exact ⟨h4p, fun z => absurd z (by omega), fun _ => hFP.1, hFP.2⟩); (dsimp only; rw [if_neg e, h4o p e]; exact ⟨(hG p hp).1, fun z => (hG p hp).2.1 (by omega), fun z => (hG p hp).2.2.1 (by omega), (hG p hp).2.2.2⟩))⟩ (by dsimp only; omega)
            · have c_91 : ¬ n ≤ q3 := fun z => c_91 ((nI_leI (a := n) (b := q3) (by omega) (by omega)).mpr z)
              refine lv_aload_n hx hb dX4_way_94 rfl (lv_at hl 0 rfl) ?_
              refine gfl hx hb hg inX4 hown hK hh.1 0 (ci := 4) rfl rfl 23 (by decide) wd_574 rfl dX4_way_95 ?_
              refine lv_iload hx hb dX4_way_98 (lv_at hl 4 rfl) ?_
              refine ldn hx hb hK hh.1 16 0 rfl rfl (by omega) (by decide) dX4_way_100 ?_
              have hv99 : v3 ≤ 99 := by have h8 := (hF p1 (by omega)).2.b (by omega); rcases hv3 with ⟨a, _⟩ | ⟨_, a, _⟩ <;> omega
              refine topv (nI v3) h4p ?_
              refine lv_bipush (v := 99) hx hb dX4_way_101 (by decide) ?_
              refine lv_icmp_ne (tgt := 149) hx hb dX4_way_103 (by decide) (fun c_103 => ?_) (fun c_103 => ?_)
              · have c_103 : ¬ v3 = 99 := fun z => c_103 ((nI_eq (a := v3) (b := 99) (by omega) (by omega)).mpr z)
                refine lv_iinc (v := nI (p1 + 1)) (lv' := [(4, .int (nI (p1 + 1))), (0, .ref (ad 0)), (1, .int x), (2, .int y), (3, .int (nI d)), (5, .int r_77), (6, .int (nI q3))]) hx hb dX4_way_149 hl (k := 4) rfl (nI_succ p1).symm (by decide) rfl (fun ls hl => ?_)
                refine lv_goto (tgt := 64) hx hb dX4_way_152 (by decide) ?_
                have hFP := farP hn24 hd.1 hd.2 (by omega) (fun p hp => (hF p hp).2) q_77 hv3 (Or.inr c_103)
                exact ihp (p1 + 1, (fun p => if p = p1 then v3 else g1 p), U4) _ _ _ ⟨hh, (lv_sub hl [1, 2, 3, 4, 0] rfl), (by omega), (f3.trans f4), (fun p hp => by rcases Classical.em (p = p1) with e | e; (dsimp only; rw [e, if_pos rfl]; exact ⟨h4p, fun z => absurd z (by omega), fun _ => hFP.1, hFP.2⟩); (dsimp only; rw [if_neg e, h4o p e]; exact ⟨(hG p hp).1, fun z => (hG p hp).2.1 (by omega), fun z => (hG p hp).2.2.1 (by omega), (hG p hp).2.2.2⟩))⟩ (by dsimp only; omega)
              · have c_103 : v3 = 99 := (nI_eq (a := v3) (b := 99) (by omega) (by omega)).mp c_103
                obtain ⟨h99, hno⟩ : f p1 = 99 ∧ ∀ j, j < q3 → ¬ (bt r_77 j = true ∧ f j = d - 1) := by rcases hv3 with ⟨a, b⟩ | ⟨_, b, _⟩; exact ⟨by omega, b (by omega)⟩; exact absurd c_103 (by omega)
                have hf3 := (hF q3 (by omega)).2.b (by omega)
                have hg3 : g1 q3 ≤ 99 := by rcases (hG q3 (by omega)).2.2.2 with e | e <;> omega
                refine lv_aload_n hx hb dX4_way_106 rfl (lv_at hl 0 rfl) ?_
                refine gfl hx hb hg inX4 hown hK hh.1 0 (ci := 4) rfl rfl 23 (by decide) wd_574 rfl dX4_way_107 ?_
                refine lv_iload hx hb dX4_way_110 (lv_at hl 4 rfl) ?_
                refine lv_iload hx hb dX4_way_112 (lv_at hl 5 rfl) ?_
                refine lv_iload hx hb dX4_way_114 (lv_at hl 6 rfl) ?_
                refine lv_ishr hx hb dX4_way_116 ?_
                refine lv_iconst (v := 1) hx hb dX4_way_117 (by decide) ?_
                refine lv_iand hx hb dX4_way_118 ?_
                refine lv_iconst (v := 1) hx hb dX4_way_119 (by decide) ?_
                refine lv_icmp_ne (tgt := 140) hx hb dX4_way_120 (by decide) (fun c_120 => ?_) (fun c_120 => ?_)
                · have c_120 := sh1_f (x := r_77) (i := q3) (by omega) c_120
                  refine lv_bipush (v := 99) hx hb dX4_way_140 (by decide) ?_
                  refine stn (j := p1) hx hb hK hh 16 0 rfl rfl (by omega) (by decide) dX4_way_142 (wQ k ad (va_up U4 16 (upd (U4 16) p1 99))) rfl (fun H locs hh => ?_)
                  refine lv_iinc (v := nI (q3 + 1)) (lv' := [(6, .int (nI (q3 + 1))), (0, .ref (ad 0)), (1, .int x), (2, .int y), (3, .int (nI d)), (4, .int (nI p1)), (5, .int r_77)]) hx hb dX4_way_143 hl (k := 6) rfl (nI_succ q3).symm (by decide) rfl (fun ls hl => ?_)
                  refine lv_goto (tgt := 85) hx hb dX4_way_146 (by decide) ?_
                  exact ih (q3 + 1, 99, va_up U4 16 (upd (U4 16) p1 99)) _ _ _ ⟨hh, (lv_sub hl [1, 2, 3, 4, 5, 6, 0] rfl), (by omega), (f4.up (by decide)), (fun p hp => by rw [up_s, upd_n hp]; exact h4o p hp), (by rw [up_s, upd_s]; first | done | rfl), (Or.inl ⟨h99.symm, fun _ j hj z => by rcases Classical.em (j = q3) with e | e; (rw [e, c_120] at z; cases z.1); exact hno j (by omega) z⟩)⟩ (by dsimp only; omega)
                · have c_120 := (tS1 r_77 (p := q3) (by omega)).mp c_120
                  refine lv_aload_n hx hb dX4_way_123 rfl (lv_at hl 0 rfl) ?_
                  refine gfl hx hb hg inX4 hown hK hh.1 0 (ci := 4) rfl rfl 23 (by decide) wd_574 rfl dX4_way_124 ?_
                  refine lv_iload hx hb dX4_way_127 (lv_at hl 6 rfl) ?_
                  refine ldn hx hb hK hh.1 16 0 rfl rfl (by omega) (by decide) dX4_way_129 ?_
                  refine topv (nI (g1 q3)) (by rcases Classical.em (q3 = p1) with e | e; (rw [e, h4p, (hG p1 (by omega)).2.1 (Nat.le_refl _), h99, c_103]); (rw [h4o q3 e]; exact (hG q3 (by omega)).1)) ?_
                  refine lv_iload_n hx hb dX4_way_130 rfl (lv_at hl 3 rfl) ?_
                  refine lv_iconst (v := 1) hx hb dX4_way_131 (by decide) ?_
                  refine lv_isub hx hb dX4_way_132 ?_
                  refine topv (nI (d - 1)) (pk_sub (a := d) (b := 1) (by omega)) ?_
                  refine lv_icmp_ne (tgt := 140) hx hb dX4_way_133 (by decide) (fun c_133 => ?_) (fun c_133 => ?_)
                  · have c_133 : ¬ g1 q3 = d - 1 := fun z => c_133 ((nI_eq (a := g1 q3) (b := d - 1) (by omega) (by omega)).mpr z)
                    refine lv_bipush (v := 99) hx hb dX4_way_140 (by decide) ?_
                    refine stn (j := p1) hx hb hK hh 16 0 rfl rfl (by omega) (by decide) dX4_way_142 (wQ k ad (va_up U4 16 (upd (U4 16) p1 99))) rfl (fun H locs hh => ?_)
                    refine lv_iinc (v := nI (q3 + 1)) (lv' := [(6, .int (nI (q3 + 1))), (0, .ref (ad 0)), (1, .int x), (2, .int y), (3, .int (nI d)), (4, .int (nI p1)), (5, .int r_77)]) hx hb dX4_way_143 hl (k := 6) rfl (nI_succ q3).symm (by decide) rfl (fun ls hl => ?_)
                    refine lv_goto (tgt := 85) hx hb dX4_way_146 (by decide) ?_
                    exact ih (q3 + 1, 99, va_up U4 16 (upd (U4 16) p1 99)) _ _ _ ⟨hh, (lv_sub hl [1, 2, 3, 4, 5, 6, 0] rfl), (by omega), (f4.up (by decide)), (fun p hp => by rw [up_s, upd_n hp]; exact h4o p hp), (by rw [up_s, upd_s]; first | done | rfl), (Or.inl ⟨h99.symm, fun _ j hj z => by rcases Classical.em (j = q3) with e | e; (rw [e] at z; rcases (hG q3 (by omega)).2.2.2 with e2 | e2 <;> omega); exact hno j (by omega) z⟩)⟩ (by dsimp only; omega)
                  · have c_133 : g1 q3 = d - 1 := (nI_eq (a := g1 q3) (b := d - 1) (by omega) (by omega)).mp c_133
                    refine lv_iload_n hx hb dX4_way_136 rfl (lv_at hl 3 rfl) ?_
                    refine lv_goto (tgt := 142) hx hb dX4_way_137 (by decide) ?_
                    refine stn (j := p1) hx hb hK hh 16 0 rfl rfl (by omega) (by decide) dX4_way_142 (wQ k ad (va_up U4 16 (upd (U4 16) p1 (nI d)))) rfl (fun H locs hh => ?_)
                    refine lv_iinc (v := nI (q3 + 1)) (lv' := [(6, .int (nI (q3 + 1))), (0, .ref (ad 0)), (1, .int x), (2, .int y), (3, .int (nI d)), (4, .int (nI p1)), (5, .int r_77)]) hx hb dX4_way_143 hl (k := 6) rfl (nI_succ q3).symm (by decide) rfl (fun ls hl => ?_)
                    refine lv_goto (tgt := 85) hx hb dX4_way_146 (by decide) ?_
                    exact ih (q3 + 1, d, va_up U4 16 (upd (U4 16) p1 (nI d))) _ _ _ ⟨hh, (lv_sub hl [1, 2, 3, 4, 5, 6, 0] rfl), (by omega), (f4.up (by decide)), (fun p hp => by rw [up_s, upd_n hp]; exact h4o p hp), (by rw [up_s, upd_s]; first | done | rfl), (Or.inr ⟨h99, rfl, q3, by omega, c_120, by rcases (hG q3 (by omega)).2.2.2 with e | e <;> omega⟩)⟩ (by dsimp only; omega)
      · have c_27 : ¬ 24 ≤ i := fun z => c_27 ((nI_leI (a := 24) (b := i) (by omega) (by omega)).mpr z)
        refine lv_aload_n hx hb dX4_way_30 rfl (lv_at hl 0 rfl) ?_
        refine gfl hx hb hg inX4 hown hK hh.1 0 (ci := 4) rfl rfl 23 (by decide) wd_574 rfl dX4_way_31 ?_
        refine lv_iload_n hx hb dX4_way_34 rfl (lv_at hl 3 rfl) ?_
        refine lv_iload_n hx hb dX4_way_35 rfl (lv_at hl 3 rfl) ?_
        refine lv_iload_n hx hb dX4_way_36 rfl (lv_at hl 2 rfl) ?_
        refine topv (nI q2) hye ?_
        refine lv_icmp_ne (tgt := 44) hx hb dX4_way_37 (by decide) (fun c_37 => ?_) (fun c_37 => ?_)
        · have c_37 : ¬ i = q2 := fun z => c_37 ((nI_eq (a := i) (b := q2) (by omega) (by omega)).mpr z)
          refine lv_bipush (v := 99) hx hb dX4_way_44 (by decide) ?_
          refine stn (j := i) hx hb hK hh 16 0 rfl rfl (by omega) (by decide) dX4_way_46 (wQ k ad (va_up U1 16 (upd (U1 16) i 99))) rfl (fun H locs hh => ?_)
          refine lv_iinc (v := nI (i + 1)) (lv' := [(3, .int (nI (i + 1))), (0, .ref (ad 0)), (1, .int x), (2, .int y)]) hx hb dX4_way_47 hl (k := 3) rfl (nI_succ i).symm (by decide) rfl (fun ls hl => ?_)
          refine lv_goto (tgt := 24) hx hb dX4_way_50 (by decide) ?_
          exact ih (i + 1, va_up U1 16 (upd (U1 16) i 99)) _ _ _ ⟨hh, (lv_sub hl [1, 2, 3, 0] rfl), (by omega), (f1.up (by decide)), (fun p hp => by rcases Classical.em (p = i) with e | e; (rw [e, up_s, upd_s, if_neg c_37]; rfl); (rw [up_s, upd_n e]; exact hz p (by omega)))⟩ (by dsimp only; omega)
        · have c_37 : i = q2 := (nI_eq (a := i) (b := q2) (by omega) (by omega)).mp c_37
          refine lv_iconst (v := 0) hx hb dX4_way_40 (by decide) ?_
          refine lv_goto (tgt := 46) hx hb dX4_way_41 (by decide) ?_
          refine stn (j := i) hx hb hK hh 16 0 rfl rfl (by omega) (by decide) dX4_way_46 (wQ k ad (va_up U1 16 (upd (U1 16) i 0))) rfl (fun H locs hh => ?_)
          refine lv_iinc (v := nI (i + 1)) (lv' := [(3, .int (nI (i + 1))), (0, .ref (ad 0)), (1, .int x), (2, .int y)]) hx hb dX4_way_47 hl (k := 3) rfl (nI_succ i).symm (by decide) rfl (fun ls hl => ?_)
          refine lv_goto (tgt := 24) hx hb dX4_way_50 (by decide) ?_
          exact ih (i + 1, va_up U1 16 (upd (U1 16) i 0)) _ _ _ ⟨hh, (lv_sub hl [1, 2, 3, 0] rfl), (by omega), (f1.up (by decide)), (fun p hp => by rcases Classical.em (p = i) with e | e; (rw [e, up_s, upd_s, if_pos c_37]; rfl); (rw [up_s, upd_n e]; exact hz p (by omega)))⟩ (by dsimp only; omega)
    · have c_13 := zI_0.mp c_13
      have c_13 : ¬ rgt y n := fun z => by rw [hP2.mpr z] at c_13; cases c_13
      refine lv_iconst (v := (-1)) hx hb dX4_way_16 (by decide) ?_
      exact retI (Wd := wQ k ad) (v := (-1)) (V) hx hb hr hlocks dX4_way_17 hh (⟨Or.inl ⟨fun z => c_13 z.2, rfl, rfl, rfl⟩, FrX.rf, hc⟩)
