/-! the class SliceWhy: test, causes, way -/
theorem FrX.pj {cs ss : List Nat} {V U : St} (h : FrX cs ss V U) (hc : ∀ i, i < 8 → 8 + i ∉ cs) : pj U = pj V := pj_eq (fun i hi => h.1 (8 + i) (hc i hi))
theorem FrX.ca {cs ss : List Nat} {n : Nat} {V U : St} (h : FrX cs ss V U) (hc : ∀ i, i < 23 → 8 + i ∉ cs) (h2 : 2 ∉ ss) (h0 : Ca n V) : Ca n U := by
  unfold Ca at h0 ⊢
  rw [h.2 2 h2, h.pj (fun i hi => hc i (by omega)), show tr 16 15 U = tr 16 15 V from tr_eq (fun i hi => by have := h.1 (8 + (8 + i)) (hc (8 + i) (by omega)); rw [show 16 + i = 8 + (8 + i) by omega]; exact this)]
  exact h0
theorem FrS.x {V U : St} (h : FrS V U) : FrX [0, 16, 17, 18, 19, 20, 21, 22, 23, 24, 25, 26, 27, 28, 29, 30] [2] V U := ⟨fun c hc => h.1 c (by simp at hc; omega) (by simp at hc; omega), fun j hj => h.2 j (by simp at hj; omega)⟩
theorem put_x {b m : Nat} {V u : St} {cs : List Nat} (h : ∀ i, i < m → b + i ∈ cs) (h0 : 0 < b) : FrX cs [] V (put b m V u) := ⟨fun c hc => put_out (fun z => hc (by have := h (c - b) (by omega); rw [show b + (c - b) = c by omega] at this; exact this)), fun j _ => by rw [put_out (by omega)]⟩
theorem all_m1 {n : Nat} (hn : n ≤ 24) : ∀ j, j < n → bt (bitI n - 1) j = bt (-1) j := fun j hj => by rw [all_bt hn j hj, b_m1 j (by omega)]
theorem zor1 (b : Bool) : zI b ||| 1 = zI true := by cases b <;> decide
theorem zor0 (b : Bool) : zI b ||| 0 = zI b := by cases b <;> decide
/-- Machine j of the wholes holds what the whole told -/
def hld (P : St) (Is : Nat → Nat → Int32) (w n : Nat) (V : St) (j : Nat) : Prop := V (37 + 6 * j) 5 = nI (tcF P (Is j) (-1) w n) ∧ ∀ i, i < tcF P (Is j) (-1) w n → V (37 + 6 * j + 5) i = tdF P (Is j) (-1) w n i
section B7
variable {p : Program} {l : Launch} {e : Env} {R : Room} {s : State} {m : MethodId} {args : Array Value} {below : List Frame} {meth : Method} {c : Code} {H : Heap} {locs : List Loc} {cells slots : Nat} {Q : State → Prop}
variable {cc : ByteArray} {pc : Nat} {ls : Array Slot} {rest : List Value} {D : va_G} {A : Nat → Prop} {a : Nat} {tys : List (ClassId × FieldType)} {w : va_W} {H0 : Heap}
theorem cpi (hx : p.tables.exec = Jvm.exec) (hb : c.code = cc) (hml : c.maxLocals = ls.size) {own : String} {index : Nat} (hown : s.vm.findClass own = some m.cls) (hlink : (Cond.methodLink own index arraycopyName).before args s = true) (hnat : (Cond.native arraycopyName).before args s = true) (hstat : (Cond.static arraycopyName).before args s = true) (hini : (Cond.initialized "java/lang/System").before args s = true)
    (hK : va_K D vwCl tys s) (hh : Hd D A w H0 H locs) (q0 q1 t0 : Nat) {a0 : Nat} {c0 : ClassId} {f g : Nat → Int32} (ha0 : w[q0]? = some (a0, .inl (c0, 4, .inl f))) (ha1 : w[q1]? = some (a, .inl (c0, 4, .inl g))) (ht0 : tys[t0]? = some (c0, .int)) (hframes : 1 ≤ R.frames) (hlocals : (rest.map fun v => v.category).sum + (nativeFrameWords "java/lang/System" "arraycopy" 5 + 11) ≤ R.locals) (hdg : decode cc pc = .ok (.invokestatic index, 3)) (w' : va_W) (hw' : w.set q1 (a, .inl (c0, 4, .inl (va_cpy f g 0 0 4))) = w')
    (kk : ∀ (H1 : Heap) (locs1 : List Loc), Hd D A w' H0 H1 locs1 → W p l e R s m args below meth c H1 locs1 cells slots Q (F0 m (pc + 3) ls rest)) : W p l e R s m args below meth c H locs cells slots Q (F0 m pc ls (.int 4 :: .int 0 :: .ref a :: .int 0 :: .ref a0 :: rest)) :=
  va_copyi hx hb hml hown hlink hnat hstat hini hK hh.1 hh.2.1 hh.2.2 q0 q1 t0 t0 ha0 ha1 ht0 ht0 rfl (sp := 0) (dp := 0) (n := 4) (by decide) (by decide) (by decide) (by decide) (by decide) (fun i _ => rfl) hframes hlocals hdg (fun H1 locs1 h1 h2 h3 => kk H1 locs1 (hw' ▸ ⟨h1, h2, h3⟩))
end B7
abbrev rmX3_test : Room := { frames := 1, cells := 0, slots := 0, locals := 26 }
theorem lk_X3_test : Lk yX3_test 0 := by decide +kernel
set_option maxHeartbeats 4000000 in
set_option maxRecDepth 100000 in
/-- test() -/
theorem c_X3_test (l : Launch) (D : va_G) (k : Nat → ClassId) (ad : Nat → Nat) (V : St) {t : Nat} (h5 : V 0 5 = nI t) (ht : t ≤ 3) : CtX noX l yX3_test cX3_test 1 (some .int) rmX3_test D (tyL k) (wS k ad V) [.ref (ad 0)] (qI D (wS k ad) (fun r U => (t = 3 ∧ r = -2 ∧ U = V) ∨ (t < 3 ∧ r = nI t ∧ (∀ c, ¬ c = 0 → ¬ c = 5 + t → U c = V c) ∧ (∀ j, ¬ j = 5 → U 0 j = V 0 j) ∧ U 0 5 = nI (t + 1) ∧ ∀ j, j < 4 → U (5 + t) j = V 1 j))) := by
  refine CtX.mk (by decide) (Nat.le_of_ble_eq_true rfl) ?_
  intro p e s m below meth c hx hb hml hown hg hr hlocks hK hN A hA hX hh ls hl
  have hh : Hd D A (wS k ad V) s.heap s.heap [] := hh
  have hl : lv_has ls 1 [(0, .ref (ad 0))] := hl
  refine lv_aload_n hx hb dX3_test_0 rfl (lv_at hl 0 rfl) ?_
  refine gfl hx hb hg inX3 hown hK hh.1 0 (ci := 3) rfl rfl 5 (by decide) wd_196 rfl dX3_test_1 ?_
  refine topv (nI t) h5 ?_
  refine lv_iconst (v := 3) hx hb dX3_test_4 (by decide) ?_
  refine lv_icmp_lt (tgt := 11) hx hb dX3_test_5 (by decide) (fun c_5 => ?_) (fun c_5 => ?_)
  · have c_5 : t < 3 := (nI_ltI (a := t) (b := 3) (by omega) (by omega)).mp c_5
    rcases (show t = 0 ∨ t = 1 ∨ t = 2 by omega) with e9 | e9 | e9
    · refine lv_aload_n hx hb dX3_test_11 rfl (lv_at hl 0 rfl) ?_
      refine gfl hx hb hg inX3 hown hK hh.1 0 (ci := 3) rfl rfl 3 (by decide) wd_194 rfl dX3_test_12 ?_
      refine lv_iconst (v := 0) hx hb dX3_test_15 (by decide) ?_
      refine lv_aload_n hx hb dX3_test_16 rfl (lv_at hl 0 rfl) ?_
      refine gfl hx hb hg inX3 hown hK hh.1 0 (ci := 3) rfl rfl 4 (by decide) wd_195 rfl dX3_test_17 ?_
      refine lv_aload_n hx hb dX3_test_20 rfl (lv_at hl 0 rfl) ?_
      refine gfl hx hb hg inX3 hown hK hh.1 0 (ci := 3) rfl rfl 5 (by decide) wd_196 rfl dX3_test_21 ?_
      refine topv (0) (by rw [h5, e9]; rfl) ?_
      refine topv (nI 0) rfl ?_
      refine ldq (x := ad (5 + 0)) hx hb hK hh.1 2 2 rfl rfl rfl (by omega) (by decide) rfl dX3_test_24 ?_
      refine lv_iconst (v := 0) hx hb dX3_test_25 (by decide) ?_
      refine lv_iconst (v := 4) hx hb dX3_test_26 (by decide) ?_
      refine cpi hx hb (hml.trans hl.1.symm) hown (hg _ wd_518) (hg _ wd_520) (hg _ wd_519) (hg _ wd_55) hK hh 1 5 0 rfl rfl rfl (by decide) (by decide +kernel) dX3_test_27 (wS k ad (va_up V 5 (va_cpy (V 1) (V 5) 0 0 4))) rfl (fun H locs hh => ?_)
      refine lv_aload_n hx hb dX3_test_30 rfl (lv_at hl 0 rfl) ?_
      refine lv_dup hx hb dX3_test_31 rfl ?_
      refine gfl hx hb hg inX3 hown hK hh.1 0 (ci := 3) rfl rfl 5 (by decide) wd_196 rfl dX3_test_32 ?_
      refine topv (nI t) h5 ?_
      refine lv_iconst (v := 1) hx hb dX3_test_35 (by decide) ?_
      refine lv_iadd hx hb dX3_test_36 ?_
      refine topv (nI (t + 1)) (nI_add t 1) ?_
      refine pfl hx hb hg inX3 tyX3 tyX3_ok nmX3 hown hK hh 0 (ci := 3) rfl rfl 5 (by decide) wd_196 rfl rfl rfl (Nat.le_of_ble_eq_true rfl) dX3_test_37 (wS k ad (va_up (va_up V 5 (va_cpy (V 1) (V 5) 0 0 4)) 0 (upd ((va_up V 5 (va_cpy (V 1) (V 5) 0 0 4)) 0) 5 (nI (t + 1))))) rfl (fun H locs hh => ?_)
      refine lv_aload_n hx hb dX3_test_40 rfl (lv_at hl 0 rfl) ?_
      refine gfl hx hb hg inX3 hown hK hh.1 0 (ci := 3) rfl rfl 5 (by decide) wd_196 rfl dX3_test_41 ?_
      refine lv_iconst (v := 1) hx hb dX3_test_44 (by decide) ?_
      refine lv_isub hx hb dX3_test_45 ?_
      refine topv (nI (t + 1 - 1)) (pk_sub (a := t + 1) (b := 1) (by omega)) ?_
      exact retI (Wd := wS k ad) (v := nI (t + 1 - 1)) (va_up (va_up V 5 (va_cpy (V 1) (V 5) 0 0 4)) 0 (upd ((va_up V 5 (va_cpy (V 1) (V 5) 0 0 4)) 0) 5 (nI (t + 1)))) hx hb hr hlocks dX3_test_46 hh (Or.inr ⟨by omega, rfl, fun c a b => by rw [up_n a, up_n (by omega)], fun j a => by rw [up_s, upd_n a]; rfl, by rw [up_s, upd_s, e9], fun j hj => by rw [e9]; show va_cpy (V 1) (V 5) 0 0 4 j = _; unfold va_cpy; rw [if_pos (by omega)]; simp⟩)
    · refine lv_aload_n hx hb dX3_test_11 rfl (lv_at hl 0 rfl) ?_
      refine gfl hx hb hg inX3 hown hK hh.1 0 (ci := 3) rfl rfl 3 (by decide) wd_194 rfl dX3_test_12 ?_
      refine lv_iconst (v := 0) hx hb dX3_test_15 (by decide) ?_
      refine lv_aload_n hx hb dX3_test_16 rfl (lv_at hl 0 rfl) ?_
      refine gfl hx hb hg inX3 hown hK hh.1 0 (ci := 3) rfl rfl 4 (by decide) wd_195 rfl dX3_test_17 ?_
      refine lv_aload_n hx hb dX3_test_20 rfl (lv_at hl 0 rfl) ?_
      refine gfl hx hb hg inX3 hown hK hh.1 0 (ci := 3) rfl rfl 5 (by decide) wd_196 rfl dX3_test_21 ?_
      refine topv (1) (by rw [h5, e9]; rfl) ?_
      refine topv (nI 1) rfl ?_
      refine ldq (x := ad (5 + 1)) hx hb hK hh.1 2 2 rfl rfl rfl (by omega) (by decide) rfl dX3_test_24 ?_
      refine lv_iconst (v := 0) hx hb dX3_test_25 (by decide) ?_
      refine lv_iconst (v := 4) hx hb dX3_test_26 (by decide) ?_
      refine cpi hx hb (hml.trans hl.1.symm) hown (hg _ wd_518) (hg _ wd_520) (hg _ wd_519) (hg _ wd_55) hK hh 1 6 0 rfl rfl rfl (by decide) (by decide +kernel) dX3_test_27 (wS k ad (va_up V 6 (va_cpy (V 1) (V 6) 0 0 4))) rfl (fun H locs hh => ?_)
      refine lv_aload_n hx hb dX3_test_30 rfl (lv_at hl 0 rfl) ?_
      refine lv_dup hx hb dX3_test_31 rfl ?_
      refine gfl hx hb hg inX3 hown hK hh.1 0 (ci := 3) rfl rfl 5 (by decide) wd_196 rfl dX3_test_32 ?_
      refine topv (nI t) h5 ?_
      refine lv_iconst (v := 1) hx hb dX3_test_35 (by decide) ?_
      refine lv_iadd hx hb dX3_test_36 ?_
      refine topv (nI (t + 1)) (nI_add t 1) ?_
      refine pfl hx hb hg inX3 tyX3 tyX3_ok nmX3 hown hK hh 0 (ci := 3) rfl rfl 5 (by decide) wd_196 rfl rfl rfl (Nat.le_of_ble_eq_true rfl) dX3_test_37 (wS k ad (va_up (va_up V 6 (va_cpy (V 1) (V 6) 0 0 4)) 0 (upd ((va_up V 6 (va_cpy (V 1) (V 6) 0 0 4)) 0) 5 (nI (t + 1))))) rfl (fun H locs hh => ?_)
      refine lv_aload_n hx hb dX3_test_40 rfl (lv_at hl 0 rfl) ?_
      refine gfl hx hb hg inX3 hown hK hh.1 0 (ci := 3) rfl rfl 5 (by decide) wd_196 rfl dX3_test_41 ?_
      refine lv_iconst (v := 1) hx hb dX3_test_44 (by decide) ?_
      refine lv_isub hx hb dX3_test_45 ?_
      refine topv (nI (t + 1 - 1)) (pk_sub (a := t + 1) (b := 1) (by omega)) ?_
      exact retI (Wd := wS k ad) (v := nI (t + 1 - 1)) (va_up (va_up V 6 (va_cpy (V 1) (V 6) 0 0 4)) 0 (upd ((va_up V 6 (va_cpy (V 1) (V 6) 0 0 4)) 0) 5 (nI (t + 1)))) hx hb hr hlocks dX3_test_46 hh (Or.inr ⟨by omega, rfl, fun c a b => by rw [up_n a, up_n (by omega)], fun j a => by rw [up_s, upd_n a]; rfl, by rw [up_s, upd_s, e9], fun j hj => by rw [e9]; show va_cpy (V 1) (V 6) 0 0 4 j = _; unfold va_cpy; rw [if_pos (by omega)]; simp⟩)
    · refine lv_aload_n hx hb dX3_test_11 rfl (lv_at hl 0 rfl) ?_
      refine gfl hx hb hg inX3 hown hK hh.1 0 (ci := 3) rfl rfl 3 (by decide) wd_194 rfl dX3_test_12 ?_
      refine lv_iconst (v := 0) hx hb dX3_test_15 (by decide) ?_
      refine lv_aload_n hx hb dX3_test_16 rfl (lv_at hl 0 rfl) ?_
      refine gfl hx hb hg inX3 hown hK hh.1 0 (ci := 3) rfl rfl 4 (by decide) wd_195 rfl dX3_test_17 ?_
      refine lv_aload_n hx hb dX3_test_20 rfl (lv_at hl 0 rfl) ?_
      refine gfl hx hb hg inX3 hown hK hh.1 0 (ci := 3) rfl rfl 5 (by decide) wd_196 rfl dX3_test_21 ?_
      refine topv (2) (by rw [h5, e9]; rfl) ?_
      refine topv (nI 2) rfl ?_
      refine ldq (x := ad (5 + 2)) hx hb hK hh.1 2 2 rfl rfl rfl (by omega) (by decide) rfl dX3_test_24 ?_
      refine lv_iconst (v := 0) hx hb dX3_test_25 (by decide) ?_
      refine lv_iconst (v := 4) hx hb dX3_test_26 (by decide) ?_
      refine cpi hx hb (hml.trans hl.1.symm) hown (hg _ wd_518) (hg _ wd_520) (hg _ wd_519) (hg _ wd_55) hK hh 1 7 0 rfl rfl rfl (by decide) (by decide +kernel) dX3_test_27 (wS k ad (va_up V 7 (va_cpy (V 1) (V 7) 0 0 4))) rfl (fun H locs hh => ?_)
      refine lv_aload_n hx hb dX3_test_30 rfl (lv_at hl 0 rfl) ?_
      refine lv_dup hx hb dX3_test_31 rfl ?_
      refine gfl hx hb hg inX3 hown hK hh.1 0 (ci := 3) rfl rfl 5 (by decide) wd_196 rfl dX3_test_32 ?_
      refine topv (nI t) h5 ?_
      refine lv_iconst (v := 1) hx hb dX3_test_35 (by decide) ?_
      refine lv_iadd hx hb dX3_test_36 ?_
      refine topv (nI (t + 1)) (nI_add t 1) ?_
      refine pfl hx hb hg inX3 tyX3 tyX3_ok nmX3 hown hK hh 0 (ci := 3) rfl rfl 5 (by decide) wd_196 rfl rfl rfl (Nat.le_of_ble_eq_true rfl) dX3_test_37 (wS k ad (va_up (va_up V 7 (va_cpy (V 1) (V 7) 0 0 4)) 0 (upd ((va_up V 7 (va_cpy (V 1) (V 7) 0 0 4)) 0) 5 (nI (t + 1))))) rfl (fun H locs hh => ?_)
      refine lv_aload_n hx hb dX3_test_40 rfl (lv_at hl 0 rfl) ?_
      refine gfl hx hb hg inX3 hown hK hh.1 0 (ci := 3) rfl rfl 5 (by decide) wd_196 rfl dX3_test_41 ?_
      refine lv_iconst (v := 1) hx hb dX3_test_44 (by decide) ?_
      refine lv_isub hx hb dX3_test_45 ?_
      refine topv (nI (t + 1 - 1)) (pk_sub (a := t + 1) (b := 1) (by omega)) ?_
      exact retI (Wd := wS k ad) (v := nI (t + 1 - 1)) (va_up (va_up V 7 (va_cpy (V 1) (V 7) 0 0 4)) 0 (upd ((va_up V 7 (va_cpy (V 1) (V 7) 0 0 4)) 0) 5 (nI (t + 1)))) hx hb hr hlocks dX3_test_46 hh (Or.inr ⟨by omega, rfl, fun c a b => by rw [up_n a, up_n (by omega)], fun j a => by rw [up_s, upd_n a]; rfl, by rw [up_s, upd_s, e9], fun j hj => by rw [e9]; show va_cpy (V 1) (V 7) 0 0 4 j = _; unfold va_cpy; rw [if_pos (by omega)]; simp⟩)
  · have c_5 : ¬ t < 3 := fun z => c_5 ((nI_ltI (a := t) (b := 3) (by omega) (by omega)).mpr z)
    refine lv_bipush (v := (-2)) hx hb dX3_test_8 (by decide) ?_
    exact retI (Wd := wS k ad) (v := (-2)) (V) hx hb hr hlocks dX3_test_10 hh (Or.inl ⟨by omega, rfl, rfl⟩)
abbrev rmX2_howManyCauses : Room := { frames := 1, cells := 0, slots := 0, locals := 20 }
theorem lk_X2_howManyCauses : Lk yX2_howManyCauses 1 := by decide +kernel
set_option maxHeartbeats 4000000 in
set_option maxRecDepth 100000 in
/-- howManyCauses(p) -/
theorem c_X2_howManyCauses (l : Launch) (D : va_G) (k : Nat → ClassId) (ad : Nat → Nat) (V : St) {q : Nat} (hq : q < 24) : CtR noX l yX2_howManyCauses cX2_howManyCauses 4 (some .int) rmX2_howManyCauses D (tyL k) (wR k ad V) [.ref (ad 0), .int (nI q)] (fun r => r = bcI (V 11 q) + bcI (V 12 q) + bcI (V 13 q) + bcI (V 14 q)) := by
  refine CtR.mk (by decide) (Nat.le_of_ble_eq_true rfl) ?_
  intro p e s m below meth c hx hb hml hown hg hr hlocks hK hN hX H hH hP ls hl
  have hl : lv_has ls 4 [(0, .ref (ad 0)), (1, .int (nI q))] := hl
  refine lv_iconst (v := 0) hx hb dX2_howManyCauses_0 (by decide) ?_
  refine lv_istore_n (lv' := [(2, .int 0), (0, .ref (ad 0)), (1, .int (nI q))]) hx hb dX2_howManyCauses_1 rfl hl (by decide) rfl (fun ls hl => ?_)
  refine lv_iconst (v := 1) hx hb dX2_howManyCauses_2 (by decide) ?_
  refine lv_istore_n (lv' := [(3, .int 1), (2, .int 0), (0, .ref (ad 0)), (1, .int (nI q))]) hx hb dX2_howManyCauses_3 rfl hl (by decide) rfl (fun ls hl => ?_)
  refine lv_iload_n hx hb dX2_howManyCauses_4 rfl (lv_at hl 0 rfl) ?_
  refine lv_iconst (v := 4) hx hb dX2_howManyCauses_5 (by decide) ?_
  refine lv_icmp_gt (tgt := 29) hx hb dX2_howManyCauses_6 (by decide) (fun c_6 => ?_) (fun c_6 => ?_)
  · exact absurd (show (4 : Int32) < (1 : Int32) from c_6) (by decide)
  · refine lv_iload_n hx hb dX2_howManyCauses_9 rfl (lv_at hl 1 rfl) ?_
    refine lv_aload_n hx hb dX2_howManyCauses_10 rfl (lv_at hl 2 rfl) ?_
    refine gfl hx hb hg inX2 hown hK hP 0 (ci := 2) rfl rfl 4 (by decide) wd_123 rfl dX2_howManyCauses_11 ?_
    refine lv_iload_n hx hb dX2_howManyCauses_14 rfl (lv_at hl 0 rfl) ?_
    refine topv (nI 1) rfl ?_
    refine ldq (x := ad (10 + 1)) hx hb hK hP 4 2 rfl rfl rfl (by omega) (by decide) rfl dX2_howManyCauses_15 ?_
    refine lv_iload_n hx hb dX2_howManyCauses_16 rfl (lv_at hl 3 rfl) ?_
    refine ldn hx hb hK hP 11 0 rfl rfl (by omega) (by decide) dX2_howManyCauses_17 ?_
    refine callR (runS hx hb hg hown hml hl.1 (c_J6_bitCount_0f7a4 l D k ((V 11) q)) [.int ((V 11) q)] [.int 0] (preR (mapSome_sub hP [] rfl) hK hN xb0 x0) wd_469 wd_394 wd_54 wd_395 lk_J6_bitCount_0f7a4 ⟨rfl, rfl⟩ ⟨by decide, by decide⟩ ⟨Nat.zero_le _, Nat.zero_le _⟩ rfl (Nat.le_of_ble_eq_true rfl) dX2_howManyCauses_18) (fun r_18 q_18 => ?_)
    obtain rfl := q_18
    refine lv_iadd hx hb dX2_howManyCauses_21 ?_
    refine lv_istore_n (lv' := [(2, .int (0 + (bcI ((V 11) q)))), (3, .int 1), (0, .ref (ad 0)), (1, .int (nI q))]) hx hb dX2_howManyCauses_22 rfl hl (by decide) rfl (fun ls hl => ?_)
    refine lv_iinc (v := 2) (lv' := [(3, .int 2), (2, .int (0 + (bcI ((V 11) q)))), (0, .ref (ad 0)), (1, .int (nI q))]) hx hb dX2_howManyCauses_23 hl (k := 1) rfl (by decide) (by decide) rfl (fun ls hl => ?_)
    refine lv_goto (tgt := 4) hx hb dX2_howManyCauses_26 (by decide) ?_
    refine lv_iload_n hx hb dX2_howManyCauses_4 rfl (lv_at hl 0 rfl) ?_
    refine lv_iconst (v := 4) hx hb dX2_howManyCauses_5 (by decide) ?_
    refine lv_icmp_gt (tgt := 29) hx hb dX2_howManyCauses_6 (by decide) (fun c_6 => ?_) (fun c_6 => ?_)
    · exact absurd (show (4 : Int32) < (2 : Int32) from c_6) (by decide)
    · refine lv_iload_n hx hb dX2_howManyCauses_9 rfl (lv_at hl 1 rfl) ?_
      refine lv_aload_n hx hb dX2_howManyCauses_10 rfl (lv_at hl 2 rfl) ?_
      refine gfl hx hb hg inX2 hown hK hP 0 (ci := 2) rfl rfl 4 (by decide) wd_123 rfl dX2_howManyCauses_11 ?_
      refine lv_iload_n hx hb dX2_howManyCauses_14 rfl (lv_at hl 0 rfl) ?_
      refine topv (nI 2) rfl ?_
      refine ldq (x := ad (10 + 2)) hx hb hK hP 4 2 rfl rfl rfl (by omega) (by decide) rfl dX2_howManyCauses_15 ?_
      refine lv_iload_n hx hb dX2_howManyCauses_16 rfl (lv_at hl 3 rfl) ?_
      refine ldn hx hb hK hP 12 0 rfl rfl (by omega) (by decide) dX2_howManyCauses_17 ?_
      refine callR (runS hx hb hg hown hml hl.1 (c_J6_bitCount_0f7a4 l D k ((V 12) q)) [.int ((V 12) q)] [.int (0 + (bcI ((V 11) q)))] (preR (mapSome_sub hP [] rfl) hK hN xb0 x0) wd_469 wd_394 wd_54 wd_395 lk_J6_bitCount_0f7a4 ⟨rfl, rfl⟩ ⟨by decide, by decide⟩ ⟨Nat.zero_le _, Nat.zero_le _⟩ rfl (Nat.le_of_ble_eq_true rfl) dX2_howManyCauses_18) (fun r_18 q_18 => ?_)
      obtain rfl := q_18
      refine lv_iadd hx hb dX2_howManyCauses_21 ?_
      refine lv_istore_n (lv' := [(2, .int ((0 + (bcI ((V 11) q))) + (bcI ((V 12) q)))), (3, .int 2), (0, .ref (ad 0)), (1, .int (nI q))]) hx hb dX2_howManyCauses_22 rfl hl (by decide) rfl (fun ls hl => ?_)
      refine lv_iinc (v := 3) (lv' := [(3, .int 3), (2, .int ((0 + (bcI ((V 11) q))) + (bcI ((V 12) q)))), (0, .ref (ad 0)), (1, .int (nI q))]) hx hb dX2_howManyCauses_23 hl (k := 1) rfl (by decide) (by decide) rfl (fun ls hl => ?_)
      refine lv_goto (tgt := 4) hx hb dX2_howManyCauses_26 (by decide) ?_
      refine lv_iload_n hx hb dX2_howManyCauses_4 rfl (lv_at hl 0 rfl) ?_
      refine lv_iconst (v := 4) hx hb dX2_howManyCauses_5 (by decide) ?_
      refine lv_icmp_gt (tgt := 29) hx hb dX2_howManyCauses_6 (by decide) (fun c_6 => ?_) (fun c_6 => ?_)
      · exact absurd (show (4 : Int32) < (3 : Int32) from c_6) (by decide)
      · refine lv_iload_n hx hb dX2_howManyCauses_9 rfl (lv_at hl 1 rfl) ?_
        refine lv_aload_n hx hb dX2_howManyCauses_10 rfl (lv_at hl 2 rfl) ?_
        refine gfl hx hb hg inX2 hown hK hP 0 (ci := 2) rfl rfl 4 (by decide) wd_123 rfl dX2_howManyCauses_11 ?_
        refine lv_iload_n hx hb dX2_howManyCauses_14 rfl (lv_at hl 0 rfl) ?_
        refine topv (nI 3) rfl ?_
        refine ldq (x := ad (10 + 3)) hx hb hK hP 4 2 rfl rfl rfl (by omega) (by decide) rfl dX2_howManyCauses_15 ?_
        refine lv_iload_n hx hb dX2_howManyCauses_16 rfl (lv_at hl 3 rfl) ?_
        refine ldn hx hb hK hP 13 0 rfl rfl (by omega) (by decide) dX2_howManyCauses_17 ?_
        refine callR (runS hx hb hg hown hml hl.1 (c_J6_bitCount_0f7a4 l D k ((V 13) q)) [.int ((V 13) q)] [.int ((0 + (bcI ((V 11) q))) + (bcI ((V 12) q)))] (preR (mapSome_sub hP [] rfl) hK hN xb0 x0) wd_469 wd_394 wd_54 wd_395 lk_J6_bitCount_0f7a4 ⟨rfl, rfl⟩ ⟨by decide, by decide⟩ ⟨Nat.zero_le _, Nat.zero_le _⟩ rfl (Nat.le_of_ble_eq_true rfl) dX2_howManyCauses_18) (fun r_18 q_18 => ?_)
        obtain rfl := q_18
        refine lv_iadd hx hb dX2_howManyCauses_21 ?_
        refine lv_istore_n (lv' := [(2, .int (((0 + (bcI ((V 11) q))) + (bcI ((V 12) q))) + (bcI ((V 13) q)))), (3, .int 3), (0, .ref (ad 0)), (1, .int (nI q))]) hx hb dX2_howManyCauses_22 rfl hl (by decide) rfl (fun ls hl => ?_)
        refine lv_iinc (v := 4) (lv' := [(3, .int 4), (2, .int (((0 + (bcI ((V 11) q))) + (bcI ((V 12) q))) + (bcI ((V 13) q)))), (0, .ref (ad 0)), (1, .int (nI q))]) hx hb dX2_howManyCauses_23 hl (k := 1) rfl (by decide) (by decide) rfl (fun ls hl => ?_)
        refine lv_goto (tgt := 4) hx hb dX2_howManyCauses_26 (by decide) ?_
        refine lv_iload_n hx hb dX2_howManyCauses_4 rfl (lv_at hl 0 rfl) ?_
        refine lv_iconst (v := 4) hx hb dX2_howManyCauses_5 (by decide) ?_
        refine lv_icmp_gt (tgt := 29) hx hb dX2_howManyCauses_6 (by decide) (fun c_6 => ?_) (fun c_6 => ?_)
        · exact absurd (show (4 : Int32) < (4 : Int32) from c_6) (by decide)
        · refine lv_iload_n hx hb dX2_howManyCauses_9 rfl (lv_at hl 1 rfl) ?_
          refine lv_aload_n hx hb dX2_howManyCauses_10 rfl (lv_at hl 2 rfl) ?_
          refine gfl hx hb hg inX2 hown hK hP 0 (ci := 2) rfl rfl 4 (by decide) wd_123 rfl dX2_howManyCauses_11 ?_
          refine lv_iload_n hx hb dX2_howManyCauses_14 rfl (lv_at hl 0 rfl) ?_
          refine topv (nI 4) rfl ?_
          refine ldq (x := ad (10 + 4)) hx hb hK hP 4 2 rfl rfl rfl (by omega) (by decide) rfl dX2_howManyCauses_15 ?_
          refine lv_iload_n hx hb dX2_howManyCauses_16 rfl (lv_at hl 3 rfl) ?_
          refine ldn hx hb hK hP 14 0 rfl rfl (by omega) (by decide) dX2_howManyCauses_17 ?_
          refine callR (runS hx hb hg hown hml hl.1 (c_J6_bitCount_0f7a4 l D k ((V 14) q)) [.int ((V 14) q)] [.int (((0 + (bcI ((V 11) q))) + (bcI ((V 12) q))) + (bcI ((V 13) q)))] (preR (mapSome_sub hP [] rfl) hK hN xb0 x0) wd_469 wd_394 wd_54 wd_395 lk_J6_bitCount_0f7a4 ⟨rfl, rfl⟩ ⟨by decide, by decide⟩ ⟨Nat.zero_le _, Nat.zero_le _⟩ rfl (Nat.le_of_ble_eq_true rfl) dX2_howManyCauses_18) (fun r_18 q_18 => ?_)
          obtain rfl := q_18
          refine lv_iadd hx hb dX2_howManyCauses_21 ?_
          refine lv_istore_n (lv' := [(2, .int ((((0 + (bcI ((V 11) q))) + (bcI ((V 12) q))) + (bcI ((V 13) q))) + (bcI ((V 14) q)))), (3, .int 4), (0, .ref (ad 0)), (1, .int (nI q))]) hx hb dX2_howManyCauses_22 rfl hl (by decide) rfl (fun ls hl => ?_)
          refine lv_iinc (v := 5) (lv' := [(3, .int 5), (2, .int ((((0 + (bcI ((V 11) q))) + (bcI ((V 12) q))) + (bcI ((V 13) q))) + (bcI ((V 14) q)))), (0, .ref (ad 0)), (1, .int (nI q))]) hx hb dX2_howManyCauses_23 hl (k := 1) rfl (by decide) (by decide) rfl (fun ls hl => ?_)
          refine lv_goto (tgt := 4) hx hb dX2_howManyCauses_26 (by decide) ?_
          refine lv_iload_n hx hb dX2_howManyCauses_4 rfl (lv_at hl 0 rfl) ?_
          refine lv_iconst (v := 4) hx hb dX2_howManyCauses_5 (by decide) ?_
          refine lv_icmp_gt (tgt := 29) hx hb dX2_howManyCauses_6 (by decide) (fun c_6 => ?_) (fun c_6 => ?_)
          · refine lv_iload_n hx hb dX2_howManyCauses_29 rfl (lv_at hl 1 rfl) ?_
            exact retRI (v := (((0 + (bcI ((V 11) q))) + (bcI ((V 12) q))) + (bcI ((V 13) q))) + (bcI ((V 14) q))) hx hb hr hlocks hH dX2_howManyCauses_30 (by rw [Int32.zero_add])
          · exact absurd (show ¬ ((4 : Int32) < (5 : Int32)) from c_6) (by decide)
abbrev rmX3_causes : Room := { frames := 6, cells := 0, slots := 0, locals := 133 }
theorem lk_X3_causes : Lk yX3_causes 1 := by decide +kernel
set_option maxHeartbeats 4000000 in
set_option maxRecDepth 100000 in
/-- causes(p) -/
theorem c_X3_causes (l : Launch) (D : va_G) (k : Nat → ClassId) (ad : Nat → Nat) (V : St) {n : Nat} (hv : okV n (pj V)) (hc : Ca n V) (x : Int32) : CtX noX l yX3_causes cX3_causes 2 (some .int) rmX3_causes D (tyL k) (wS k ad V) [.ref (ad 0), .int x] (qI D (wS k ad) (fun r U => CaS n V U ∧ csR n (pj V) x r)) := by
  refine CtX.mk (by decide) (Nat.le_of_ble_eq_true rfl) ?_
  intro p e s m below meth c hx hb hml hown hg hr hlocks hK hN A hA hX hh ls hl
  have hh : Hd D A (wS k ad V) s.heap s.heap [] := hh
  have hl : lv_has ls 2 [(0, .ref (ad 0)), (1, .int x)] := hl
  have hn24 := hv.1
  refine lv_aload_n hx hb dX3_causes_0 rfl (lv_at hl 0 rfl) ?_
  refine gfl hx hb hg inX3 hown hK hh.1 0 (ci := 3) rfl rfl 0 (by decide) wd_191 rfl dX3_causes_1 ?_
  refine lv_iload_n hx hb dX3_causes_4 rfl (lv_at hl 1 rfl) ?_
  refine callR (runV hx hb hg hown hml hl.1 (c_X1_has l D k (sh 8 ad) (pj V) x) [.int x] [] (preR (mapSome_sub hh.1 [8, 9, 10, 11, 12, 13, 14, 15] rfl) hK hN xb0 x0) (va_recv hK hh.1 (ci := 1) (q0 := 8) rfl rfl) wd_252 wd_253 wd_254 wd_50 wd_255 lk_X1_has ⟨rfl, rfl⟩ ⟨by decide, by decide⟩ ⟨Nat.zero_le _, Nat.zero_le _⟩ rfl (Nat.le_of_ble_eq_true rfl) dX3_causes_5) (fun r_5 q_5 => ?_)
  obtain rfl := q_5
  refine lv_if_eq (tgt := 22) hx hb dX3_causes_8 (by decide) (fun c_8 => ?_) (fun c_8 => ?_)
  · have c_8 := has_no hv c_8
    refine lv_iconst (v := (-1)) hx hb dX3_causes_22 (by decide) ?_
    exact retI (Wd := wS k ad) (v := (-1)) (V) hx hb hr hlocks dX3_causes_23 hh (⟨CaS.rf hc, Or.inl ⟨c_8, rfl⟩⟩)
  · obtain ⟨q, hq, hxe⟩ := has_yes hv c_8
    refine lv_aload_n hx hb dX3_causes_11 rfl (lv_at hl 0 rfl) ?_
    refine callWA (D := D) (wn := fun U => wS k ad U) (wr := []) (runV hx hb hg hown hml hl.1 ((c_X3_reasonsNow l D k ad V hv hc) s.heap.size) [] [] (preX (mapSome_sub hh.1 [0, 1, 2, 3, 4, 5, 6, 7, 8, 9, 10, 11, 12, 13, 14, 15, 16, 17, 18, 19, 20, 21, 22, 23, 24, 25, 26, 27, 28, 29, 30, 31, 32, 33, 34, 35, 36, 37, 38, 39, 40, 41, 42, 43, 44, 45, 46, 47, 48, 49, 50, 51, 52, 53, 54, 55, 56, 57, 58, 59, 60] rfl) (hh.2.1.sub [0, 1, 2, 3, 4, 5, 6, 7, 8, 9, 10, 11, 12, 13, 14, 15, 16, 17, 18, 19, 20, 21, 22, 23, 24, 25, 26, 27, 28, 29, 30, 31, 32, 33, 34, 35, 36, 37, 38, 39, 40, 41, 42, 43, 44, 45, 46, 47, 48, 49, 50, 51, 52, 53, 54, 55, 56, 57, 58, 59, 60] (by decide) rfl) hK hN xb0 x0) (va_recv hK hh.1 (ci := 3) (q0 := 0) rfl rfl) wd_280 wd_282 wd_0 wd_49 wd_283 lk_X3_reasonsNow ⟨rfl, rfl⟩ ⟨by decide, by decide⟩ ⟨Nat.zero_le _, Nat.zero_le _⟩ rfl (Nat.le_of_ble_eq_true rfl) dX3_causes_12) hA hh [0, 1, 2, 3, 4, 5, 6, 7, 8, 9, 10, 11, 12, 13, 14, 15, 16, 17, 18, 19, 20, 21, 22, 23, 24, 25, 26, 27, 28, 29, 30, 31, 32, 33, 34, 35, 36, 37, 38, 39, 40, 41, 42, 43, 44, 45, 46, 47, 48, 49, 50, 51, 52, 53, 54, 55, 56, 57, 58, 59, 60] [] [0, 1, 2, 3, 4, 5, 6, 7, 8, 9, 10, 11, 12, 13, 14, 15, 16, 17, 18, 19, 20, 21, 22, 23, 24, 25, 26, 27, 28, 29, 30, 31, 32, 33, 34, 35, 36, 37, 38, 39, 40, 41, 42, 43, 44, 45, 46, 47, 48, 49, 50, 51, 52, 53, 54, 55, 56, 57, 58, 59, 60] rfl rfl (by decide) (by decide) (by decide) (fun _ => rfl) (fun U H locs q_12 hh => ?_)
    obtain ⟨fU, o2, hRG⟩ := q_12
    refine lv_iload_n hx hb dX3_causes_15 rfl (lv_at hl 1 rfl) ?_
    refine topv (nI q) hxe ?_
    refine callR (runV hx hb hg hown hml hl.1 (c_X2_howManyCauses l D k (sh 16 ad) (tr 16 15 U) (q := q) (by omega)) [.int (nI q)] [] (preR (mapSome_sub hh.1 [16, 17, 18, 19, 20, 21, 22, 23, 24, 25, 26, 27, 28, 29, 30] rfl) hK hN xb0 x0) (va_recv hK hh.1 (ci := 2) (q0 := 16) rfl rfl) wd_465 wd_466 wd_467 wd_51 wd_468 lk_X2_howManyCauses ⟨rfl, rfl⟩ ⟨by decide, by decide⟩ ⟨Nat.zero_le _, Nat.zero_le _⟩ rfl (Nat.le_of_ble_eq_true rfl) dX3_causes_16) (fun r_16 q_16 => ?_)
    obtain rfl := q_16
    refine lv_goto (tgt := 23) hx hb dX3_causes_19 (by decide) ?_
    exact retI (Wd := wS k ad) (v := bcI (tr 16 15 U 11 q) + bcI (tr 16 15 U 12 q) + bcI (tr 16 15 U 13 q) + bcI (tr 16 15 U 14 q)) (U) hx hb hr hlocks dX3_causes_23 hh (⟨CaS.of fU o2 hRG, Or.inr ⟨q, hq, hxe, (fun k => tr 16 15 U (11 + k) q), fun k hk j => hRG.row hq hk j, by rw [bcI_24 (x := tr 16 15 U 11 q) (fun i hi => by have := pH_lt ((hRG.row hq (k := 0) (by decide) i).mp hi); omega), bcI_24 (x := tr 16 15 U 12 q) (fun i hi => by have := pH_lt ((hRG.row hq (k := 1) (by decide) i).mp hi); omega), bcI_24 (x := tr 16 15 U 13 q) (fun i hi => by have := pH_lt ((hRG.row hq (k := 2) (by decide) i).mp hi); omega), bcI_24 (x := tr 16 15 U 14 q) (fun i hi => by have := pH_lt ((hRG.row hq (k := 3) (by decide) i).mp hi); omega), nI_add, nI_add, nI_add]⟩⟩)
theorem wayF {V U : St} {z : St × (Nat → Int32)} {v : Int32} (f : FrS V U) : FrX [0, 4, 16, 17, 18, 19, 20, 21, 22, 23, 24, 25, 26, 27, 28, 29, 30] [2, 11] V (va_up (put 16 15 (va_up U 4 z.2) z.1) 0 (upd (put 16 15 (va_up U 4 z.2) z.1 0) 11 v)) := ⟨fun c hc => by
    simp at hc
    rw [up_n (by omega), put_out (by omega), up_n (by omega)]; exact f.1 c (by omega) (by omega), fun j hj => by
    simp at hj
    rw [up_s, upd_n (by omega), put_out (by omega), up_n (by omega)]; exact f.2 j (by omega)⟩
theorem wayC {n : Nat} {V U : St} {z : St × (Nat → Int32)} {v : Int32} (f : FrS V U) (o : U 0 2 = 0) (h : RG n (pj V) (tr 16 15 U)) (h9 : Fr [9] (tr 16 15 U) z.1) : Ca n (va_up (put 16 15 (va_up U 4 z.2) z.1) 0 (upd (put 16 15 (va_up U 4 z.2) z.1 0) 11 v)) := by
  refine Or.inr ⟨?_, ?_⟩
  · rw [up_s, upd_n (by decide), put_out (by omega), up_n (by decide)]; exact o
  · have e1 : pj (va_up (put 16 15 (va_up U 4 z.2) z.1) 0 (upd (put 16 15 (va_up U 4 z.2) z.1 0) 11 v)) = pj V := (pj_eq (fun i hi => by rw [up_n (by omega), put_out (by omega), up_n (by omega)])).trans f.pj
    have e2 : ∀ i, i < 15 → tr 16 15 (va_up (put 16 15 (va_up U 4 z.2) z.1) 0 (upd (put 16 15 (va_up U 4 z.2) z.1 0) 11 v)) i = z.1 i := fun i hi => by rw [tr_in hi, up_n (by omega), put_in hi]
    rw [e1]
    have h5 : RG n (pj V) z.1 := by
      obtain ⟨a, b, c, d, e, g, i⟩ := h
      refine ⟨?_, ?_, ?_, ?_, ?_, ?_, ?_⟩
      · rw [h9 0 (by decide)]; exact a
      · rw [h9 1 (by decide), h9 2 (by decide)]; exact b
      · rw [h9 3 (by decide), h9 2 (by decide)]; exact c
      · rw [h9 1 (by decide), h9 2 (by decide), h9 3 (by decide), h9 11 (by decide), h9 12 (by decide), h9 13 (by decide), h9 14 (by decide)]; exact d
      · rw [h9 5 (by decide), h9 11 (by decide), h9 12 (by decide), h9 13 (by decide), h9 14 (by decide)]; exact e
      · rw [h9 6 (by decide), h9 1 (by decide)]; exact g
      · rw [h9 7 (by decide), h9 8 (by decide), h9 5 (by decide), h9 6 (by decide)]; exact i
    exact h5.congr e2
abbrev rmX3_way : Room := { frames := 6, cells := 0, slots := 0, locals := 133 }
theorem lk_X3_way : Lk yX3_way 2 := by decide +kernel
set_option maxHeartbeats 4000000 in
set_option maxRecDepth 100000 in
/-- way(v, u) -/
theorem c_X3_way (l : Launch) (D : va_G) (k : Nat → ClassId) (ad : Nat → Nat) (V : St) {n : Nat} (hv : okV n (pj V)) (hc : Ca n V) (x y : Int32) : CtX noX l yX3_way cX3_way 3 (some .int) rmX3_way D (tyL k) (wS k ad V) [.ref (ad 0), .int x, .int y] (qI D (wS k ad) (fun r U => wayR n (pj V) x y r (V 0 11) (U 0 11) (V 4) (U 4) ∧ FrX [0, 4, 16, 17, 18, 19, 20, 21, 22, 23, 24, 25, 26, 27, 28, 29, 30] [2, 11] V U ∧ Ca n U)) := by
  refine CtX.mk (by decide) (Nat.le_of_ble_eq_true rfl) ?_
  intro p e s m below meth c hx hb hml hown hg hr hlocks hK hN A hA hX hh ls hl
  have hh : Hd D A (wS k ad V) s.heap s.heap [] := hh
  have hl : lv_has ls 3 [(0, .ref (ad 0)), (1, .int x), (2, .int y)] := hl
  have hn24 := hv.1
  refine lv_aload_n hx hb dX3_way_0 rfl (lv_at hl 0 rfl) ?_
  refine gfl hx hb hg inX3 hown hK hh.1 0 (ci := 3) rfl rfl 0 (by decide) wd_191 rfl dX3_way_1 ?_
  refine lv_iload_n hx hb dX3_way_4 rfl (lv_at hl 1 rfl) ?_
  refine callR (runV hx hb hg hown hml hl.1 (c_X1_has l D k (sh 8 ad) (pj V) x) [.int x] [] (preR (mapSome_sub hh.1 [8, 9, 10, 11, 12, 13, 14, 15] rfl) hK hN xb0 x0) (va_recv hK hh.1 (ci := 1) (q0 := 8) rfl rfl) wd_252 wd_253 wd_254 wd_50 wd_255 lk_X1_has ⟨rfl, rfl⟩ ⟨by decide, by decide⟩ ⟨Nat.zero_le _, Nat.zero_le _⟩ rfl (Nat.le_of_ble_eq_true rfl) dX3_way_5) (fun r_5 q_5 => ?_)
  obtain rfl := q_5
  refine lv_if_eq (tgt := 22) hx hb dX3_way_8 (by decide) (fun c_8 => ?_) (fun c_8 => ?_)
  · have c_8 := has_no hv c_8
    refine lv_iconst (v := (-1)) hx hb dX3_way_22 (by decide) ?_
    exact retI (Wd := wS k ad) (v := (-1)) (V) hx hb hr hlocks dX3_way_23 hh (⟨Or.inl ⟨fun z => c_8 z.1, rfl, rfl, rfl⟩, FrX.rf, hc⟩)
  · obtain ⟨q, hq, hxe⟩ := has_yes hv c_8
    refine lv_aload_n hx hb dX3_way_11 rfl (lv_at hl 0 rfl) ?_
    refine gfl hx hb hg inX3 hown hK hh.1 0 (ci := 3) rfl rfl 0 (by decide) wd_191 rfl dX3_way_12 ?_
    refine lv_iload_n hx hb dX3_way_15 rfl (lv_at hl 2 rfl) ?_
    refine callR (runV hx hb hg hown hml hl.1 (c_X1_has l D k (sh 8 ad) (pj V) y) [.int y] [] (preR (mapSome_sub hh.1 [8, 9, 10, 11, 12, 13, 14, 15] rfl) hK hN xb0 x0) (va_recv hK hh.1 (ci := 1) (q0 := 8) rfl rfl) wd_252 wd_253 wd_254 wd_50 wd_255 lk_X1_has ⟨rfl, rfl⟩ ⟨by decide, by decide⟩ ⟨Nat.zero_le _, Nat.zero_le _⟩ rfl (Nat.le_of_ble_eq_true rfl) dX3_way_16) (fun r_16 q_16 => ?_)
    obtain rfl := q_16
    refine lv_if_ne (tgt := 24) hx hb dX3_way_19 (by decide) (fun c_19 => ?_) (fun c_19 => ?_)
    · obtain ⟨q2, hq2, hye⟩ := has_yes hv c_19
      refine lv_aload_n hx hb dX3_way_24 rfl (lv_at hl 0 rfl) ?_
      refine callWA (D := D) (wn := fun U => wS k ad U) (wr := []) (runV hx hb hg hown hml hl.1 ((c_X3_reasonsNow l D k ad V hv hc) s.heap.size) [] [] (preX (mapSome_sub hh.1 [0, 1, 2, 3, 4, 5, 6, 7, 8, 9, 10, 11, 12, 13, 14, 15, 16, 17, 18, 19, 20, 21, 22, 23, 24, 25, 26, 27, 28, 29, 30, 31, 32, 33, 34, 35, 36, 37, 38, 39, 40, 41, 42, 43, 44, 45, 46, 47, 48, 49, 50, 51, 52, 53, 54, 55, 56, 57, 58, 59, 60] rfl) (hh.2.1.sub [0, 1, 2, 3, 4, 5, 6, 7, 8, 9, 10, 11, 12, 13, 14, 15, 16, 17, 18, 19, 20, 21, 22, 23, 24, 25, 26, 27, 28, 29, 30, 31, 32, 33, 34, 35, 36, 37, 38, 39, 40, 41, 42, 43, 44, 45, 46, 47, 48, 49, 50, 51, 52, 53, 54, 55, 56, 57, 58, 59, 60] (by decide) rfl) hK hN xb0 x0) (va_recv hK hh.1 (ci := 3) (q0 := 0) rfl rfl) wd_280 wd_282 wd_0 wd_49 wd_283 lk_X3_reasonsNow ⟨rfl, rfl⟩ ⟨by decide, by decide⟩ ⟨Nat.zero_le _, Nat.zero_le _⟩ rfl (Nat.le_of_ble_eq_true rfl) dX3_way_25) hA hh [0, 1, 2, 3, 4, 5, 6, 7, 8, 9, 10, 11, 12, 13, 14, 15, 16, 17, 18, 19, 20, 21, 22, 23, 24, 25, 26, 27, 28, 29, 30, 31, 32, 33, 34, 35, 36, 37, 38, 39, 40, 41, 42, 43, 44, 45, 46, 47, 48, 49, 50, 51, 52, 53, 54, 55, 56, 57, 58, 59, 60] [] [0, 1, 2, 3, 4, 5, 6, 7, 8, 9, 10, 11, 12, 13, 14, 15, 16, 17, 18, 19, 20, 21, 22, 23, 24, 25, 26, 27, 28, 29, 30, 31, 32, 33, 34, 35, 36, 37, 38, 39, 40, 41, 42, 43, 44, 45, 46, 47, 48, 49, 50, 51, 52, 53, 54, 55, 56, 57, 58, 59, 60] rfl rfl (by decide) (by decide) (by decide) (fun _ => rfl) (fun U H locs q_25 hh => ?_)
      obtain ⟨fU, o2, hRG⟩ := q_25
      have hvU : okV n (pj U) := by rw [fU.pj]; exact hv
      refine lv_iload_n hx hb dX3_way_28 rfl (lv_at hl 1 rfl) ?_
      refine topv (nI q) hxe ?_
      refine callR (runV hx hb hg hown hml hl.1 (c_X2_backOf l D k (sh 16 ad) (tr 16 15 U) (q := q) (by omega)) [.int (nI q)] [] (preR (mapSome_sub hh.1 [16, 17, 18, 19, 20, 21, 22, 23, 24, 25, 26, 27, 28, 29, 30] rfl) hK hN xb0 x0) (va_recv hK hh.1 (ci := 2) (q0 := 16) rfl rfl) wd_377 wd_378 wd_379 wd_51 wd_380 lk_X2_backOf ⟨rfl, rfl⟩ ⟨by decide, by decide⟩ ⟨Nat.zero_le _, Nat.zero_le _⟩ rfl (Nat.le_of_ble_eq_true rfl) dX3_way_29) (fun r_29 q_29 => ?_)
      obtain rfl := q_29
      refine lv_iload_n hx hb dX3_way_32 rfl (lv_at hl 2 rfl) ?_
      refine topv (nI q2) hye ?_
      refine callR (runS hx hb hg hown hml hl.1 (c_X3_holds l D k (tr 16 15 U 7 q) (q := q2) (by omega)) [.int (tr 16 15 U 7 q), .int (nI q2)] [] (preR (mapSome_sub hh.1 [] rfl) hK hN xb0 x0) wd_486 wd_324 wd_49 wd_325 lk_X3_holds ⟨rfl, rfl⟩ ⟨by decide, by decide⟩ ⟨Nat.zero_le _, Nat.zero_le _⟩ rfl (Nat.le_of_ble_eq_true rfl) dX3_way_33) (fun r_33 q_33 => ?_)
      obtain rfl := q_33
      refine lv_if_ne (tgt := 42) hx hb dX3_way_36 (by decide) (fun c_36 => ?_) (fun c_36 => ?_)
      · have hBk : Bk n (pj V) q q2 := (hRG.back hq q2).mp (zI_ne c_36)
        refine lv_aload_n hx hb dX3_way_42 rfl (lv_at hl 0 rfl) ?_
        refine lv_aload_n hx hb dX3_way_43 rfl (lv_at hl 0 rfl) ?_
        refine callWA (D := D) (wn := fun U2 => wS k ad U2) (wr := []) (runV hx hb hg hown hml hl.1 ((c_X3_reasonsNow l D k ad U hvU (CaS.of fU o2 hRG).2) H.size) [] [.ref (ad 0)] (preX (mapSome_sub hh.1 [0, 1, 2, 3, 4, 5, 6, 7, 8, 9, 10, 11, 12, 13, 14, 15, 16, 17, 18, 19, 20, 21, 22, 23, 24, 25, 26, 27, 28, 29, 30, 31, 32, 33, 34, 35, 36, 37, 38, 39, 40, 41, 42, 43, 44, 45, 46, 47, 48, 49, 50, 51, 52, 53, 54, 55, 56, 57, 58, 59, 60] rfl) (hh.2.1.sub [0, 1, 2, 3, 4, 5, 6, 7, 8, 9, 10, 11, 12, 13, 14, 15, 16, 17, 18, 19, 20, 21, 22, 23, 24, 25, 26, 27, 28, 29, 30, 31, 32, 33, 34, 35, 36, 37, 38, 39, 40, 41, 42, 43, 44, 45, 46, 47, 48, 49, 50, 51, 52, 53, 54, 55, 56, 57, 58, 59, 60] (by decide) rfl) hK hN xb0 x0) (va_recv hK hh.1 (ci := 3) (q0 := 0) rfl rfl) wd_280 wd_282 wd_0 wd_49 wd_283 lk_X3_reasonsNow ⟨rfl, rfl⟩ ⟨by decide, by decide⟩ ⟨Nat.zero_le _, Nat.zero_le _⟩ rfl (Nat.le_of_ble_eq_true rfl) dX3_way_44) hA hh [0, 1, 2, 3, 4, 5, 6, 7, 8, 9, 10, 11, 12, 13, 14, 15, 16, 17, 18, 19, 20, 21, 22, 23, 24, 25, 26, 27, 28, 29, 30, 31, 32, 33, 34, 35, 36, 37, 38, 39, 40, 41, 42, 43, 44, 45, 46, 47, 48, 49, 50, 51, 52, 53, 54, 55, 56, 57, 58, 59, 60] [] [0, 1, 2, 3, 4, 5, 6, 7, 8, 9, 10, 11, 12, 13, 14, 15, 16, 17, 18, 19, 20, 21, 22, 23, 24, 25, 26, 27, 28, 29, 30, 31, 32, 33, 34, 35, 36, 37, 38, 39, 40, 41, 42, 43, 44, 45, 46, 47, 48, 49, 50, 51, 52, 53, 54, 55, 56, 57, 58, 59, 60] rfl rfl (by decide) (by decide) (by decide) (fun _ => rfl) (fun U2 H locs q_44 hh => ?_)
        obtain ⟨fU2, o22, hRG2⟩ := q_44
        rw [fU.pj] at hRG2
        refine lv_iload_n hx hb dX3_way_47 rfl (lv_at hl 1 rfl) ?_
        refine topv (nI q) hxe ?_
        refine lv_iload_n hx hb dX3_way_48 rfl (lv_at hl 2 rfl) ?_
        refine topv (nI q2) hye ?_
        refine lv_aload_n hx hb dX3_way_49 rfl (lv_at hl 0 rfl) ?_
        refine gfl hx hb hg inX3 hown hK hh.1 0 (ci := 3) rfl rfl 10 (by decide) wd_201 rfl dX3_way_50 ?_
        refine callWI (D := D) (wn := fun z9 => wS k ad (put 16 15 (va_up U2 4 z9.2) z9.1)) (wr := [(ad 0, .inr (3, [.ref (ad 8), .ref (ad 16), .int (U2 0 2), .ref (ad 1), .ref (ad 2), .int (U2 0 5), .ref (ad 31), .int (U2 0 7), .ref (ad 3), .ref (ad 55), .ref (ad 4), .int (U2 0 11)])), (ad 1, aI k 4 (U2 1)), (ad 2, aR (k 2) 3 (fun i => some (ad (5 + i)))), (ad 3, aR (k 3) 3 (fun i => some (ad (37 + 6 * i)))), (ad 5, aI k 4 (U2 5)), (ad 6, aI k 4 (U2 6)), (ad 7, aI k 4 (U2 7)), (ad 8, .inr (1, [.ref (ad 9), .ref (ad 10), .ref (ad 11), .ref (ad 12), .ref (ad 13), .ref (ad 14), .ref (ad 15), .int (U2 8 7)])), (ad 9, aI k 24 (U2 9)), (ad 10, aI k 24 (U2 10)), (ad 11, aI k 24 (U2 11)), (ad 12, aI k 24 (U2 12)), (ad 13, aI k 4 (U2 13)), (ad 14, aZ k 4 (U2 14)), (ad 15, aI k 4 (U2 15)), (ad 31, .inr (0, [.ref (ad 32), .ref (ad 33), .ref (ad 34), .ref (ad 35), .ref (ad 36), .int (U2 31 5), .int (U2 31 6), .int (U2 31 7), .int (U2 31 8)])), (ad 32, aI k 8 (U2 32)), (ad 33, aI k 32 (U2 33)), (ad 34, aI k 4 (U2 34)), (ad 35, aI k 4 (U2 35)), (ad 36, aI k 100 (U2 36)), (ad 37, .inr (0, [.ref (ad 38), .ref (ad 39), .ref (ad 40), .ref (ad 41), .ref (ad 42), .int (U2 37 5), .int (U2 37 6), .int (U2 37 7), .int (U2 37 8)])), (ad 38, aI k 8 (U2 38)), (ad 39, aI k 32 (U2 39)), (ad 40, aI k 4 (U2 40)), (ad 41, aI k 4 (U2 41)), (ad 42, aI k 100 (U2 42)), (ad 43, .inr (0, [.ref (ad 44), .ref (ad 45), .ref (ad 46), .ref (ad 47), .ref (ad 48), .int (U2 43 5), .int (U2 43 6), .int (U2 43 7), .int (U2 43 8)])), (ad 44, aI k 8 (U2 44)), (ad 45, aI k 32 (U2 45)), (ad 46, aI k 4 (U2 46)), (ad 47, aI k 4 (U2 47)), (ad 48, aI k 100 (U2 48)), (ad 49, .inr (0, [.ref (ad 50), .ref (ad 51), .ref (ad 52), .ref (ad 53), .ref (ad 54), .int (U2 49 5), .int (U2 49 6), .int (U2 49 7), .int (U2 49 8)])), (ad 50, aI k 8 (U2 50)), (ad 51, aI k 32 (U2 51)), (ad 52, aI k 4 (U2 52)), (ad 53, aI k 4 (U2 53)), (ad 54, aI k 100 (U2 54)), (ad 55, .inr (0, [.ref (ad 56), .ref (ad 57), .ref (ad 58), .ref (ad 59), .ref (ad 60), .int (U2 55 5), .int (U2 55 6), .int (U2 55 7), .int (U2 55 8)])), (ad 56, aI k 8 (U2 56)), (ad 57, aI k 32 (U2 57)), (ad 58, aI k 4 (U2 58)), (ad 59, aI k 4 (U2 59)), (ad 60, aI k 100 (U2 60))]) (runV hx hb hg hown hml hl.1 ((c_X2_shortestWay l D k (sh 16 ad) (tr 16 15 U2) hRG2.1 hn24 (v := q) (by omega) (u := q2) (by omega) (ad 4) (U2 4)) H.size) [.int (nI q), .int (nI q2), .ref (ad 4)] [.ref (ad 0)] (preX (mapSome_sub hh.1 [16, 17, 18, 19, 20, 21, 22, 23, 24, 25, 26, 27, 28, 29, 30, 4] rfl) (hh.2.1.sub [16, 17, 18, 19, 20, 21, 22, 23, 24, 25, 26, 27, 28, 29, 30, 4] (by decide) rfl) hK hN xb0 x0) (va_recv hK hh.1 (ci := 2) (q0 := 16) rfl rfl) wd_487 wd_488 wd_489 wd_51 wd_490 lk_X2_shortestWay ⟨rfl, rfl⟩ ⟨by decide, by decide⟩ ⟨Nat.zero_le _, Nat.zero_le _⟩ rfl (Nat.le_of_ble_eq_true rfl) dX3_way_53) hA hh [16, 17, 18, 19, 20, 21, 22, 23, 24, 25, 26, 27, 28, 29, 30, 4] [0, 1, 2, 3, 5, 6, 7, 8, 9, 10, 11, 12, 13, 14, 15, 31, 32, 33, 34, 35, 36, 37, 38, 39, 40, 41, 42, 43, 44, 45, 46, 47, 48, 49, 50, 51, 52, 53, 54, 55, 56, 57, 58, 59, 60] [0, 1, 2, 3, 60, 4, 5, 6, 7, 8, 9, 10, 11, 12, 13, 14, 45, 46, 47, 48, 49, 50, 51, 52, 53, 54, 55, 56, 57, 58, 59, 15, 16, 17, 18, 19, 20, 21, 22, 23, 24, 25, 26, 27, 28, 29, 30, 31, 32, 33, 34, 35, 36, 37, 38, 39, 40, 41, 42, 43, 44] rfl rfl (by decide) (by decide) (by decide) (fun _ => rfl) (fun r_53 z9 H locs q_53 hh => ?_)
        obtain ⟨rfl, z1, z2⟩ := q_53
        obtain ⟨w1, w2⟩ := wy_c (h5 := tr 16 15 U2 5) hn24 hq hq2 (fun p hp => isM_u (hRG2.all hp) (hA_M hn24 p)) hBk
        rw [w1] at z2
        refine pfl hx hb hg inX3 tyX3 tyX3_ok nmX3 hown hK hh 0 (ci := 3) rfl rfl 11 (by decide) wd_202 rfl rfl rfl (Nat.le_of_ble_eq_true rfl) dX3_way_56 (wS k ad (va_up (put 16 15 (va_up U2 4 z9.2) z9.1) 0 (upd ((put 16 15 (va_up U2 4 z9.2) z9.1) 0) 11 (nI (dsS n (tr 16 15 U2 5) q q2 + 1))))) rfl (fun H locs hh => ?_)
        refine lv_aload_n hx hb dX3_way_59 rfl (lv_at hl 0 rfl) ?_
        refine gfl hx hb hg inX3 hown hK hh.1 0 (ci := 3) rfl rfl 11 (by decide) wd_202 rfl dX3_way_60 ?_
        exact retI (Wd := wS k ad) (v := nI (dsS n (tr 16 15 U2 5) q q2 + 1)) (va_up (put 16 15 (va_up U2 4 z9.2) z9.1) 0 (upd ((put 16 15 (va_up U2 4 z9.2) z9.1) 0) 11 (nI (dsS n (tr 16 15 U2 5) q q2 + 1)))) hx hb hr hlocks dX3_way_63 hh (⟨Or.inr ⟨q, q2, hq, hq2, hxe, hye, Or.inr ⟨hBk, by rw [w1], by rw [up_s, upd_s], fun j hj => by rw [up_n (by decide), put_out (by omega), up_s, z2 j (by omega), (w2 j (by omega)).1]⟩⟩, wayF (fU.trans fU2), wayC (fU.trans fU2) o22 hRG2 z1⟩)
      · have hBk : ¬ Bk n (pj V) q q2 := fun z => by rw [show bt (tr 16 15 U 7 q) q2 = true from (hRG.back hq q2).mpr z] at c_36; exact absurd c_36 (by decide)
        refine lv_bipush (v := (-4)) hx hb dX3_way_39 (by decide) ?_
        exact retI (Wd := wS k ad) (v := (-4)) (U) hx hb hr hlocks dX3_way_41 hh (⟨Or.inr ⟨q, q2, hq, hq2, hxe, hye, Or.inl ⟨hBk, rfl, fU.2 11 (by decide), fU.1 4 (by decide) (by decide)⟩⟩, fU.x.mono (by intro c hc; simp at hc ⊢; omega) (by intro c hc; simp at hc ⊢; omega), (CaS.of fU o2 hRG).2⟩)
    · have c_19 := has_no hv c_19
      refine lv_iconst (v := (-1)) hx hb dX3_way_22 (by decide) ?_
      exact retI (Wd := wS k ad) (v := (-1)) (V) hx hb hr hlocks dX3_way_23 hh (⟨Or.inl ⟨fun z => c_19 z.2, rfl, rfl, rfl⟩, FrX.rf, hc⟩)
