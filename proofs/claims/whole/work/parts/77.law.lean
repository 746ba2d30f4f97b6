/-! the law: one call of the script, on both sides -/
theorem sta_at {A : Nat → Prop} {s : State} {H : Heap} {locs : List Loc} (h : Sta A s s.heap) (hS : va_S A s.heap H locs) : ∀ U : State, U.heap = H → s.WarmedH U.vm → staX U := fun U hU hW => by
  obtain ⟨t0, t1, t2, ⟨a0, b0⟩, ⟨a1, b1⟩, ⟨a2, b2⟩⟩ := h
  have hq : ∀ a : Nat, a < s.heap.size → ¬ A a → H[a]? = s.heap[a]? := hS.2.1
  unfold staX
  rw [hU]
  refine Sta.moved hW.alike ⟨t0, t1, t2, ⟨(a0.kept hq).narrow (fun _ z => z.elim), (b0.kept hq).narrow (fun _ z => z.elim)⟩, ⟨(a1.kept hq).narrow (fun _ z => z.elim), (b1.kept hq).narrow (fun _ z => z.elim)⟩, ⟨(a2.kept hq).narrow (fun _ z => z.elim), (b2.kept hq).narrow (fun _ z => z.elim)⟩⟩
theorem sld {p : Program} {l : Launch} {e : Env} {R : Room} {s : State} {m : MethodId} {args : Array Value} {below : List Frame} {meth : Method} {c : Code} {H : Heap} {locs : List Loc} {cells slots : Nat} {Q : State → Prop} {cc : ByteArray} {pc : Nat} {ls : Array Slot} {rest : List Value} {D : va_G} {A : Nat → Prop} {w : va_W} {b L : Nat} {xs : Nat → Int32} (hx : p.tables.exec = Jvm.exec) (hb : c.code = cc) (hX : va_X b L xs s s.heap) (hbl : b < s.heap.size) (hbA : ¬ A b) (hh : Hd D A w s.heap H locs) {j : Nat} (hj : j < L) (hL : L < 2 ^ 31) (hdg : decode cc pc = .ok (.iaload, 1))
    (kk : W p l e R s m args below meth c H locs cells slots Q (F0 m (pc + 1) ls (.int (xs j) :: rest))) : W p l e R s m args below meth c H locs cells slots Q (F0 m pc ls (.int (nI j) :: .ref b :: rest)) := by
  refine va_sld hx hb hX hbl hbA hh.2.2 (vp_in_nI hj hL) hdg ?_
  rw [nI_clamp (Nat.lt_trans hj hL)]
  exact kk
set_option maxHeartbeats 4000000 in
set_option maxRecDepth 100000 in
theorem law_0 {p : Program} {l : Launch} {e : Env} {s : State} {m : MethodId} {below : List Frame} {meth : Method} {c : Code} {b L : Nat} {xs : Nat → Int32} {D : va_G} {k : Nat → ClassId} {ad bd : Nat → Nat} {A : Nat → Prop} {cells slots : Nat} {Z : State → Prop} (hx : p.tables.exec = Jvm.exec) (hb : c.code = code) (hg : ∀ w ∈ Gw, w.before #[Value.ref b] s = true) (hml : c.maxLocals = 4) (hown : s.vm.findClass "SliceWhyLaw" = some m.cls) (hK : va_K D vwCl (tyL k) s) (hN : NstU s) (hA : ∀ q, s.heap.size ≤ q → A q) (hX : va_X b L xs s s.heap) (hbl : b < s.heap.size) (hbA : ¬ A b) (hL : L ≤ 3072) (hcs : cells ≤ 600000 ∧ slots ≤ 7302249) (hSt : Sta A s s.heap) {i : Nat} (hi : i + 6 ≤ L) {n t c9 wl : Nat} {V Q : St} (hR : Rel n t c9 wl V Q) {H : Heap} {locs : List Loc} {ls : Array Slot} (hh : Hd D A (wS k ad V ++ wQ k bd Q) s.heap H locs) (hl : lv_has ls 4 [(0, .ref b), (1, .ref (ad 0)), (2, .ref (bd 0)), (3, .int (nI i))]) (kk : ∀ (n t c9 wl : Nat) (V Q : St) (H : Heap) (locs : List Loc) (ls : Array Slot), Rel n t c9 wl V Q → Hd D A (wS k ad V ++ wQ k bd Q) s.heap H locs → lv_has ls 4 [(0, .ref b), (1, .ref (ad 0)), (2, .ref (bd 0)), (3, .int (nI i))] → W p l e room_1 s m #[Value.ref b] below meth c H locs cells slots Z (F0 m 788 ls [])) : W p l e room_1 s m #[Value.ref b] below meth c H locs cells slots Z (F0 m 136 ls []) := by
  have hv := hR.1.1
  have hpq := hR.1.2.1
  have hca := hR.1.2.2.1
  have hcq := hR.1.2.2.2
  have hvq : okV n (pq Q) := by rw [← hpq]; exact hv
  refine lv_aload_n hx hb dL_law_136 rfl (lv_at hl 1 rfl) ?_
  refine lv_aload_n hx hb dL_law_137 rfl (lv_at hl 0 rfl) ?_
  refine lv_iload_n hx hb dL_law_138 rfl (lv_at hl 3 rfl) ?_
  refine lv_iconst (v := 1) hx hb dL_law_139 (by decide) ?_
  refine lv_iadd hx hb dL_law_140 ?_
  refine topv (nI (i + 1)) (nI_add i 1) ?_
  refine sld hx hb hX hbl hbA hh (by omega) (by omega) dL_law_141 ?_
  refine lv_aload_n hx hb dL_law_142 rfl (lv_at hl 0 rfl) ?_
  refine lv_iload_n hx hb dL_law_143 rfl (lv_at hl 3 rfl) ?_
  refine lv_iconst (v := 2) hx hb dL_law_144 (by decide) ?_
  refine lv_iadd hx hb dL_law_145 ?_
  refine topv (nI (i + 2)) (nI_add i 2) ?_
  refine sld hx hb hX hbl hbA hh (by omega) (by omega) dL_law_146 ?_
  refine lv_aload_n hx hb dL_law_147 rfl (lv_at hl 0 rfl) ?_
  refine lv_iload_n hx hb dL_law_148 rfl (lv_at hl 3 rfl) ?_
  refine lv_iconst (v := 3) hx hb dL_law_149 (by decide) ?_
  refine lv_iadd hx hb dL_law_150 ?_
  refine topv (nI (i + 3)) (nI_add i 3) ?_
  refine sld hx hb hX hbl hbA hh (by omega) (by omega) dL_law_151 ?_
  refine lv_aload_n hx hb dL_law_152 rfl (lv_at hl 0 rfl) ?_
  refine lv_iload_n hx hb dL_law_153 rfl (lv_at hl 3 rfl) ?_
  refine lv_iconst (v := 4) hx hb dL_law_154 (by decide) ?_
  refine lv_iadd hx hb dL_law_155 ?_
  refine topv (nI (i + 4)) (nI_add i 4) ?_
  refine sld hx hb hX hbl hbA hh (by omega) (by omega) dL_law_156 ?_
  refine callWI (D := D) (wn := fun V1 => wS k ad V1 ++ wQ k bd Q) (wr := wQ k bd Q) (runV hx hb hg hown hml hl.1 ((c_X3_line l D k ad V hv (xs (i + 1)) (xs (i + 2)) (xs (i + 3)) (xs (i + 4))) H.size) [.int (xs (i + 1)), .int (xs (i + 2)), .int (xs (i + 3)), .int (xs (i + 4))] [] (preX (mapSome_sub hh.1 (0 :: 1 :: 2 :: 3 :: 4 :: 5 :: 6 :: 7 :: 8 :: 9 :: 10 :: 11 :: 12 :: 13 :: 14 :: 15 :: 16 :: 17 :: 18 :: 19 :: 20 :: 21 :: 22 :: 23 :: 24 :: 25 :: 26 :: 27 :: 28 :: 29 :: 30 :: 31 :: 32 :: 33 :: 34 :: 35 :: 36 :: 37 :: 38 :: 39 :: 40 :: 41 :: 42 :: 43 :: 44 :: 45 :: 46 :: 47 :: 48 :: 49 :: 50 :: 51 :: 52 :: 53 :: 54 :: 55 :: 56 :: 57 :: 58 :: 59 :: 60 :: []) rfl) (hh.2.1.sub (0 :: 1 :: 2 :: 3 :: 4 :: 5 :: 6 :: 7 :: 8 :: 9 :: 10 :: 11 :: 12 :: 13 :: 14 :: 15 :: 16 :: 17 :: 18 :: 19 :: 20 :: 21 :: 22 :: 23 :: 24 :: 25 :: 26 :: 27 :: 28 :: 29 :: 30 :: 31 :: 32 :: 33 :: 34 :: 35 :: 36 :: 37 :: 38 :: 39 :: 40 :: 41 :: 42 :: 43 :: 44 :: 45 :: 46 :: 47 :: 48 :: 49 :: 50 :: 51 :: 52 :: 53 :: 54 :: 55 :: 56 :: 57 :: 58 :: 59 :: 60 :: []) (by decide) rfl) hK hN staX_b (sta_at hSt hh.2.2)) (va_recv hK hh.1 (ci := 3) (q0 := 0) rfl rfl) wd_228 wd_229 wd_230 wd_49 wd_231 lk_X3_line ⟨rfl, rfl⟩ ⟨by decide, by decide⟩ hcs rfl (Nat.le_of_ble_eq_true rfl) dL_law_157) hA hh (0 :: 1 :: 2 :: 3 :: 4 :: 5 :: 6 :: 7 :: 8 :: 9 :: 10 :: 11 :: 12 :: 13 :: 14 :: 15 :: 16 :: 17 :: 18 :: 19 :: 20 :: 21 :: 22 :: 23 :: 24 :: 25 :: 26 :: 27 :: 28 :: 29 :: 30 :: 31 :: 32 :: 33 :: 34 :: 35 :: 36 :: 37 :: 38 :: 39 :: 40 :: 41 :: 42 :: 43 :: 44 :: 45 :: 46 :: 47 :: 48 :: 49 :: 50 :: 51 :: 52 :: 53 :: 54 :: 55 :: 56 :: 57 :: 58 :: 59 :: 60 :: []) [61, 62, 63, 64, 65, 66, 67, 68, 69, 70, 71, 72, 73, 74, 75, 76, 77, 78, 79, 80, 81, 82, 83] (23 :: 24 :: 25 :: 26 :: 27 :: 28 :: 29 :: 30 :: 31 :: 32 :: 33 :: 34 :: 35 :: 36 :: 37 :: 38 :: 39 :: 40 :: 41 :: 42 :: 43 :: 44 :: 45 :: 46 :: 47 :: 48 :: 49 :: 50 :: 51 :: 52 :: 53 :: 54 :: 55 :: 56 :: 57 :: 58 :: 59 :: 60 :: 61 :: 62 :: 63 :: 64 :: 65 :: 66 :: 67 :: 68 :: 69 :: 70 :: 71 :: 72 :: 73 :: 74 :: 75 :: 76 :: 77 :: 78 :: 79 :: 80 :: 81 :: 82 :: 83 :: 0 :: 1 :: 2 :: 3 :: 4 :: 5 :: 6 :: 7 :: 8 :: 9 :: 10 :: 11 :: 12 :: 13 :: 14 :: 15 :: 16 :: 17 :: 18 :: 19 :: 20 :: 21 :: 22 :: []) rfl rfl (by decide) (by decide) (by decide) (fun _ => rfl) (fun r1 V1 H locs q1 hh => ?_)
  refine lv_aload_n hx hb dL_law_160 rfl (lv_at hl 2 rfl) ?_
  refine lv_aload_n hx hb dL_law_161 rfl (lv_at hl 0 rfl) ?_
  refine lv_iload_n hx hb dL_law_162 rfl (lv_at hl 3 rfl) ?_
  refine lv_iconst (v := 1) hx hb dL_law_163 (by decide) ?_
  refine lv_iadd hx hb dL_law_164 ?_
  refine topv (nI (i + 1)) (nI_add i 1) ?_
  refine sld hx hb hX hbl hbA hh (by omega) (by omega) dL_law_165 ?_
  refine lv_aload_n hx hb dL_law_166 rfl (lv_at hl 0 rfl) ?_
  refine lv_iload_n hx hb dL_law_167 rfl (lv_at hl 3 rfl) ?_
  refine lv_iconst (v := 2) hx hb dL_law_168 (by decide) ?_
  refine lv_iadd hx hb dL_law_169 ?_
  refine topv (nI (i + 2)) (nI_add i 2) ?_
  refine sld hx hb hX hbl hbA hh (by omega) (by omega) dL_law_170 ?_
  refine lv_aload_n hx hb dL_law_171 rfl (lv_at hl 0 rfl) ?_
  refine lv_iload_n hx hb dL_law_172 rfl (lv_at hl 3 rfl) ?_
  refine lv_iconst (v := 3) hx hb dL_law_173 (by decide) ?_
  refine lv_iadd hx hb dL_law_174 ?_
  refine topv (nI (i + 3)) (nI_add i 3) ?_
  refine sld hx hb hX hbl hbA hh (by omega) (by omega) dL_law_175 ?_
  refine lv_aload_n hx hb dL_law_176 rfl (lv_at hl 0 rfl) ?_
  refine lv_iload_n hx hb dL_law_177 rfl (lv_at hl 3 rfl) ?_
  refine lv_iconst (v := 4) hx hb dL_law_178 (by decide) ?_
  refine lv_iadd hx hb dL_law_179 ?_
  refine topv (nI (i + 4)) (nI_add i 4) ?_
  refine sld hx hb hX hbl hbA hh (by omega) (by omega) dL_law_180 ?_
  refine callWI (D := D) (wn := fun Q1 => wS k ad V1 ++ wQ k bd Q1) (wr := wS k ad V1) (runV hx hb hg hown hml hl.1 ((c_X4_line l D k bd Q hvq (xs (i + 1)) (xs (i + 2)) (xs (i + 3)) (xs (i + 4))) H.size) [.int (xs (i + 1)), .int (xs (i + 2)), .int (xs (i + 3)), .int (xs (i + 4))] [.int r1] (preX (mapSome_sub hh.1 [61, 62, 63, 64, 65, 66, 67, 68, 69, 70, 71, 72, 73, 74, 75, 76, 77, 78, 79, 80, 81, 82, 83] rfl) (hh.2.1.sub [61, 62, 63, 64, 65, 66, 67, 68, 69, 70, 71, 72, 73, 74, 75, 76, 77, 78, 79, 80, 81, 82, 83] (by decide) rfl) hK hN xb0 x0) (va_recv hK hh.1 (ci := 4) (q0 := 61) rfl rfl) wd_657 wd_658 wd_659 wd_53 wd_660 lk_X4_line ⟨rfl, rfl⟩ ⟨by decide, by decide⟩ hcs rfl (Nat.le_of_ble_eq_true rfl) dL_law_181) hA hh [61, 62, 63, 64, 65, 66, 67, 68, 69, 70, 71, 72, 73, 74, 75, 76, 77, 78, 79, 80, 81, 82, 83] (0 :: 1 :: 2 :: 3 :: 4 :: 5 :: 6 :: 7 :: 8 :: 9 :: 10 :: 11 :: 12 :: 13 :: 14 :: 15 :: 16 :: 17 :: 18 :: 19 :: 20 :: 21 :: 22 :: 23 :: 24 :: 25 :: 26 :: 27 :: 28 :: 29 :: 30 :: 31 :: 32 :: 33 :: 34 :: 35 :: 36 :: 37 :: 38 :: 39 :: 40 :: 41 :: 42 :: 43 :: 44 :: 45 :: 46 :: 47 :: 48 :: 49 :: 50 :: 51 :: 52 :: 53 :: 54 :: 55 :: 56 :: 57 :: 58 :: 59 :: 60 :: []) (0 :: 1 :: 2 :: 3 :: 4 :: 5 :: 6 :: 7 :: 8 :: 9 :: 10 :: 11 :: 12 :: 13 :: 14 :: 15 :: 16 :: 17 :: 18 :: 19 :: 20 :: 21 :: 22 :: 23 :: 24 :: 25 :: 26 :: 27 :: 28 :: 29 :: 30 :: 31 :: 32 :: 33 :: 34 :: 35 :: 36 :: 37 :: 38 :: 39 :: 40 :: 41 :: 42 :: 43 :: 44 :: 45 :: 46 :: 47 :: 48 :: 49 :: 50 :: 51 :: 52 :: 53 :: 54 :: 55 :: 56 :: 57 :: 58 :: 59 :: 60 :: 61 :: 62 :: 63 :: 64 :: 65 :: 66 :: 67 :: 68 :: 69 :: 70 :: 71 :: 72 :: 73 :: 74 :: 75 :: 76 :: 77 :: 78 :: 79 :: 80 :: 81 :: 82 :: 83 :: []) rfl rfl (by decide) (by decide) (by decide) (fun _ => rfl) (fun r2 Q1 H locs q2 hh => ?_)
  obtain ⟨hE, n1, hR1⟩ := op_line hR q1 q2
  refine lv_icmp_eq (tgt := 788) hx hb dL_law_184 (by decide) (fun c9 => ?_) (fun c9 => absurd hE c9)
  exact kk _ _ _ _ V1 Q1 H locs ls hR1 hh hl
set_option maxHeartbeats 4000000 in
set_option maxRecDepth 100000 in
theorem law_1 {p : Program} {l : Launch} {e : Env} {s : State} {m : MethodId} {below : List Frame} {meth : Method} {c : Code} {b L : Nat} {xs : Nat → Int32} {D : va_G} {k : Nat → ClassId} {ad bd : Nat → Nat} {A : Nat → Prop} {cells slots : Nat} {Z : State → Prop} (hx : p.tables.exec = Jvm.exec) (hb : c.code = code) (hg : ∀ w ∈ Gw, w.before #[Value.ref b] s = true) (hml : c.maxLocals = 4) (hown : s.vm.findClass "SliceWhyLaw" = some m.cls) (hK : va_K D vwCl (tyL k) s) (hN : NstU s) (hA : ∀ q, s.heap.size ≤ q → A q) (hX : va_X b L xs s s.heap) (hbl : b < s.heap.size) (hbA : ¬ A b) (hL : L ≤ 3072) (hcs : cells ≤ 600000 ∧ slots ≤ 7302249) (hSt : Sta A s s.heap) {i : Nat} (hi : i + 6 ≤ L) {n t c9 wl : Nat} {V Q : St} (hR : Rel n t c9 wl V Q) {H : Heap} {locs : List Loc} {ls : Array Slot} (hh : Hd D A (wS k ad V ++ wQ k bd Q) s.heap H locs) (hl : lv_has ls 4 [(0, .ref b), (1, .ref (ad 0)), (2, .ref (bd 0)), (3, .int (nI i))]) (kk : ∀ (n t c9 wl : Nat) (V Q : St) (H : Heap) (locs : List Loc) (ls : Array Slot), Rel n t c9 wl V Q → Hd D A (wS k ad V ++ wQ k bd Q) s.heap H locs → lv_has ls 4 [(0, .ref b), (1, .ref (ad 0)), (2, .ref (bd 0)), (3, .int (nI i))] → W p l e room_1 s m #[Value.ref b] below meth c H locs cells slots Z (F0 m 788 ls [])) : W p l e room_1 s m #[Value.ref b] below meth c H locs cells slots Z (F0 m 189 ls []) := by
  have hv := hR.1.1
  have hpq := hR.1.2.1
  have hca := hR.1.2.2.1
  have hcq := hR.1.2.2.2
  have hvq : okV n (pq Q) := by rw [← hpq]; exact hv
  refine lv_aload_n hx hb dL_law_189 rfl (lv_at hl 1 rfl) ?_
  refine lv_aload_n hx hb dL_law_190 rfl (lv_at hl 0 rfl) ?_
  refine lv_iload_n hx hb dL_law_191 rfl (lv_at hl 3 rfl) ?_
  refine lv_iconst (v := 1) hx hb dL_law_192 (by decide) ?_
  refine lv_iadd hx hb dL_law_193 ?_
  refine topv (nI (i + 1)) (nI_add i 1) ?_
  refine sld hx hb hX hbl hbA hh (by omega) (by omega) dL_law_194 ?_
  refine lv_aload_n hx hb dL_law_195 rfl (lv_at hl 0 rfl) ?_
  refine lv_iload_n hx hb dL_law_196 rfl (lv_at hl 3 rfl) ?_
  refine lv_iconst (v := 2) hx hb dL_law_197 (by decide) ?_
  refine lv_iadd hx hb dL_law_198 ?_
  refine topv (nI (i + 2)) (nI_add i 2) ?_
  refine sld hx hb hX hbl hbA hh (by omega) (by omega) dL_law_199 ?_
  refine lv_aload_n hx hb dL_law_200 rfl (lv_at hl 0 rfl) ?_
  refine lv_iload_n hx hb dL_law_201 rfl (lv_at hl 3 rfl) ?_
  refine lv_iconst (v := 3) hx hb dL_law_202 (by decide) ?_
  refine lv_iadd hx hb dL_law_203 ?_
  refine topv (nI (i + 3)) (nI_add i 3) ?_
  refine sld hx hb hX hbl hbA hh (by omega) (by omega) dL_law_204 ?_
  refine lv_aload_n hx hb dL_law_205 rfl (lv_at hl 0 rfl) ?_
  refine lv_iload_n hx hb dL_law_206 rfl (lv_at hl 3 rfl) ?_
  refine lv_iconst (v := 4) hx hb dL_law_207 (by decide) ?_
  refine lv_iadd hx hb dL_law_208 ?_
  refine topv (nI (i + 4)) (nI_add i 4) ?_
  refine sld hx hb hX hbl hbA hh (by omega) (by omega) dL_law_209 ?_
  refine lv_aload_n hx hb dL_law_210 rfl (lv_at hl 0 rfl) ?_
  refine lv_iload_n hx hb dL_law_211 rfl (lv_at hl 3 rfl) ?_
  refine lv_iconst (v := 5) hx hb dL_law_212 (by decide) ?_
  refine lv_iadd hx hb dL_law_213 ?_
  refine topv (nI (i + 5)) (nI_add i 5) ?_
  refine sld hx hb hX hbl hbA hh (by omega) (by omega) dL_law_214 ?_
  refine callWI (D := D) (wn := fun V1 => wS k ad V1 ++ wQ k bd Q) (wr := wQ k bd Q) (runV hx hb hg hown hml hl.1 ((c_X3_change l D k ad V hv (xs (i + 1)) (xs (i + 2)) (xs (i + 3)) (xs (i + 4)) (xs (i + 5))) H.size) [.int (xs (i + 1)), .int (xs (i + 2)), .int (xs (i + 3)), .int (xs (i + 4)), .int (xs (i + 5))] [] (preX (mapSome_sub hh.1 (0 :: 1 :: 2 :: 3 :: 4 :: 5 :: 6 :: 7 :: 8 :: 9 :: 10 :: 11 :: 12 :: 13 :: 14 :: 15 :: 16 :: 17 :: 18 :: 19 :: 20 :: 21 :: 22 :: 23 :: 24 :: 25 :: 26 :: 27 :: 28 :: 29 :: 30 :: 31 :: 32 :: 33 :: 34 :: 35 :: 36 :: 37 :: 38 :: 39 :: 40 :: 41 :: 42 :: 43 :: 44 :: 45 :: 46 :: 47 :: 48 :: 49 :: 50 :: 51 :: 52 :: 53 :: 54 :: 55 :: 56 :: 57 :: 58 :: 59 :: 60 :: []) rfl) (hh.2.1.sub (0 :: 1 :: 2 :: 3 :: 4 :: 5 :: 6 :: 7 :: 8 :: 9 :: 10 :: 11 :: 12 :: 13 :: 14 :: 15 :: 16 :: 17 :: 18 :: 19 :: 20 :: 21 :: 22 :: 23 :: 24 :: 25 :: 26 :: 27 :: 28 :: 29 :: 30 :: 31 :: 32 :: 33 :: 34 :: 35 :: 36 :: 37 :: 38 :: 39 :: 40 :: 41 :: 42 :: 43 :: 44 :: 45 :: 46 :: 47 :: 48 :: 49 :: 50 :: 51 :: 52 :: 53 :: 54 :: 55 :: 56 :: 57 :: 58 :: 59 :: 60 :: []) (by decide) rfl) hK hN staX_b (sta_at hSt hh.2.2)) (va_recv hK hh.1 (ci := 3) (q0 := 0) rfl rfl) wd_248 wd_249 wd_250 wd_49 wd_251 lk_X3_change ⟨rfl, rfl⟩ ⟨by decide, by decide⟩ hcs rfl (Nat.le_of_ble_eq_true rfl) dL_law_215) hA hh (0 :: 1 :: 2 :: 3 :: 4 :: 5 :: 6 :: 7 :: 8 :: 9 :: 10 :: 11 :: 12 :: 13 :: 14 :: 15 :: 16 :: 17 :: 18 :: 19 :: 20 :: 21 :: 22 :: 23 :: 24 :: 25 :: 26 :: 27 :: 28 :: 29 :: 30 :: 31 :: 32 :: 33 :: 34 :: 35 :: 36 :: 37 :: 38 :: 39 :: 40 :: 41 :: 42 :: 43 :: 44 :: 45 :: 46 :: 47 :: 48 :: 49 :: 50 :: 51 :: 52 :: 53 :: 54 :: 55 :: 56 :: 57 :: 58 :: 59 :: 60 :: []) [61, 62, 63, 64, 65, 66, 67, 68, 69, 70, 71, 72, 73, 74, 75, 76, 77, 78, 79, 80, 81, 82, 83] (23 :: 24 :: 25 :: 26 :: 27 :: 28 :: 29 :: 30 :: 31 :: 32 :: 33 :: 34 :: 35 :: 36 :: 37 :: 38 :: 39 :: 40 :: 41 :: 42 :: 43 :: 44 :: 45 :: 46 :: 47 :: 48 :: 49 :: 50 :: 51 :: 52 :: 53 :: 54 :: 55 :: 56 :: 57 :: 58 :: 59 :: 60 :: 61 :: 62 :: 63 :: 64 :: 65 :: 66 :: 67 :: 68 :: 69 :: 70 :: 71 :: 72 :: 73 :: 74 :: 75 :: 76 :: 77 :: 78 :: 79 :: 80 :: 81 :: 82 :: 83 :: 0 :: 1 :: 2 :: 3 :: 4 :: 5 :: 6 :: 7 :: 8 :: 9 :: 10 :: 11 :: 12 :: 13 :: 14 :: 15 :: 16 :: 17 :: 18 :: 19 :: 20 :: 21 :: 22 :: []) rfl rfl (by decide) (by decide) (by decide) (fun _ => rfl) (fun r1 V1 H locs q1 hh => ?_)
  refine lv_aload_n hx hb dL_law_218 rfl (lv_at hl 2 rfl) ?_
  refine lv_aload_n hx hb dL_law_219 rfl (lv_at hl 0 rfl) ?_
  refine lv_iload_n hx hb dL_law_220 rfl (lv_at hl 3 rfl) ?_
  refine lv_iconst (v := 1) hx hb dL_law_221 (by decide) ?_
  refine lv_iadd hx hb dL_law_222 ?_
  refine topv (nI (i + 1)) (nI_add i 1) ?_
  refine sld hx hb hX hbl hbA hh (by omega) (by omega) dL_law_223 ?_
  refine lv_aload_n hx hb dL_law_224 rfl (lv_at hl 0 rfl) ?_
  refine lv_iload_n hx hb dL_law_225 rfl (lv_at hl 3 rfl) ?_
  refine lv_iconst (v := 2) hx hb dL_law_226 (by decide) ?_
  refine lv_iadd hx hb dL_law_227 ?_
  refine topv (nI (i + 2)) (nI_add i 2) ?_
  refine sld hx hb hX hbl hbA hh (by omega) (by omega) dL_law_228 ?_
  refine lv_aload_n hx hb dL_law_229 rfl (lv_at hl 0 rfl) ?_
  refine lv_iload_n hx hb dL_law_230 rfl (lv_at hl 3 rfl) ?_
  refine lv_iconst (v := 3) hx hb dL_law_231 (by decide) ?_
  refine lv_iadd hx hb dL_law_232 ?_
  refine topv (nI (i + 3)) (nI_add i 3) ?_
  refine sld hx hb hX hbl hbA hh (by omega) (by omega) dL_law_233 ?_
  refine lv_aload_n hx hb dL_law_234 rfl (lv_at hl 0 rfl) ?_
  refine lv_iload_n hx hb dL_law_235 rfl (lv_at hl 3 rfl) ?_
  refine lv_iconst (v := 4) hx hb dL_law_236 (by decide) ?_
  refine lv_iadd hx hb dL_law_237 ?_
  refine topv (nI (i + 4)) (nI_add i 4) ?_
  refine sld hx hb hX hbl hbA hh (by omega) (by omega) dL_law_238 ?_
  refine lv_aload_n hx hb dL_law_239 rfl (lv_at hl 0 rfl) ?_
  refine lv_iload_n hx hb dL_law_240 rfl (lv_at hl 3 rfl) ?_
  refine lv_iconst (v := 5) hx hb dL_law_241 (by decide) ?_
  refine lv_iadd hx hb dL_law_242 ?_
  refine topv (nI (i + 5)) (nI_add i 5) ?_
  refine sld hx hb hX hbl hbA hh (by omega) (by omega) dL_law_243 ?_
  refine callWI (D := D) (wn := fun Q1 => wS k ad V1 ++ wQ k bd Q1) (wr := wS k ad V1) (runV hx hb hg hown hml hl.1 ((c_X4_change l D k bd Q hvq (xs (i + 1)) (xs (i + 2)) (xs (i + 3)) (xs (i + 4)) (xs (i + 5))) H.size) [.int (xs (i + 1)), .int (xs (i + 2)), .int (xs (i + 3)), .int (xs (i + 4)), .int (xs (i + 5))] [.int r1] (preX (mapSome_sub hh.1 [61, 62, 63, 64, 65, 66, 67, 68, 69, 70, 71, 72, 73, 74, 75, 76, 77, 78, 79, 80, 81, 82, 83] rfl) (hh.2.1.sub [61, 62, 63, 64, 65, 66, 67, 68, 69, 70, 71, 72, 73, 74, 75, 76, 77, 78, 79, 80, 81, 82, 83] (by decide) rfl) hK hN xb0 x0) (va_recv hK hh.1 (ci := 4) (q0 := 61) rfl rfl) wd_677 wd_678 wd_679 wd_53 wd_680 lk_X4_change ⟨rfl, rfl⟩ ⟨by decide, by decide⟩ hcs rfl (Nat.le_of_ble_eq_true rfl) dL_law_244) hA hh [61, 62, 63, 64, 65, 66, 67, 68, 69, 70, 71, 72, 73, 74, 75, 76, 77, 78, 79, 80, 81, 82, 83] (0 :: 1 :: 2 :: 3 :: 4 :: 5 :: 6 :: 7 :: 8 :: 9 :: 10 :: 11 :: 12 :: 13 :: 14 :: 15 :: 16 :: 17 :: 18 :: 19 :: 20 :: 21 :: 22 :: 23 :: 24 :: 25 :: 26 :: 27 :: 28 :: 29 :: 30 :: 31 :: 32 :: 33 :: 34 :: 35 :: 36 :: 37 :: 38 :: 39 :: 40 :: 41 :: 42 :: 43 :: 44 :: 45 :: 46 :: 47 :: 48 :: 49 :: 50 :: 51 :: 52 :: 53 :: 54 :: 55 :: 56 :: 57 :: 58 :: 59 :: 60 :: []) (0 :: 1 :: 2 :: 3 :: 4 :: 5 :: 6 :: 7 :: 8 :: 9 :: 10 :: 11 :: 12 :: 13 :: 14 :: 15 :: 16 :: 17 :: 18 :: 19 :: 20 :: 21 :: 22 :: 23 :: 24 :: 25 :: 26 :: 27 :: 28 :: 29 :: 30 :: 31 :: 32 :: 33 :: 34 :: 35 :: 36 :: 37 :: 38 :: 39 :: 40 :: 41 :: 42 :: 43 :: 44 :: 45 :: 46 :: 47 :: 48 :: 49 :: 50 :: 51 :: 52 :: 53 :: 54 :: 55 :: 56 :: 57 :: 58 :: 59 :: 60 :: 61 :: 62 :: 63 :: 64 :: 65 :: 66 :: 67 :: 68 :: 69 :: 70 :: 71 :: 72 :: 73 :: 74 :: 75 :: 76 :: 77 :: 78 :: 79 :: 80 :: 81 :: 82 :: 83 :: []) rfl rfl (by decide) (by decide) (by decide) (fun _ => rfl) (fun r2 Q1 H locs q2 hh => ?_)
  obtain ⟨hE, hR1⟩ := op_change hR q1 q2
  refine lv_icmp_eq (tgt := 788) hx hb dL_law_247 (by decide) (fun c9 => ?_) (fun c9 => absurd hE c9)
  exact kk _ _ _ _ V1 Q1 H locs ls hR1 hh hl
set_option maxHeartbeats 4000000 in
set_option maxRecDepth 100000 in
theorem law_2 {p : Program} {l : Launch} {e : Env} {s : State} {m : MethodId} {below : List Frame} {meth : Method} {c : Code} {b L : Nat} {xs : Nat → Int32} {D : va_G} {k : Nat → ClassId} {ad bd : Nat → Nat} {A : Nat → Prop} {cells slots : Nat} {Z : State → Prop} (hx : p.tables.exec = Jvm.exec) (hb : c.code = code) (hg : ∀ w ∈ Gw, w.before #[Value.ref b] s = true) (hml : c.maxLocals = 4) (hown : s.vm.findClass "SliceWhyLaw" = some m.cls) (hK : va_K D vwCl (tyL k) s) (hN : NstU s) (hA : ∀ q, s.heap.size ≤ q → A q) (hX : va_X b L xs s s.heap) (hbl : b < s.heap.size) (hbA : ¬ A b) (hL : L ≤ 3072) (hcs : cells ≤ 600000 ∧ slots ≤ 7302249) (hSt : Sta A s s.heap) {i : Nat} (hi : i + 6 ≤ L) {n t c9 wl : Nat} {V Q : St} (hR : Rel n t c9 wl V Q) {H : Heap} {locs : List Loc} {ls : Array Slot} (hh : Hd D A (wS k ad V ++ wQ k bd Q) s.heap H locs) (hl : lv_has ls 4 [(0, .ref b), (1, .ref (ad 0)), (2, .ref (bd 0)), (3, .int (nI i))]) (kk : ∀ (n t c9 wl : Nat) (V Q : St) (H : Heap) (locs : List Loc) (ls : Array Slot), Rel n t c9 wl V Q → Hd D A (wS k ad V ++ wQ k bd Q) s.heap H locs → lv_has ls 4 [(0, .ref b), (1, .ref (ad 0)), (2, .ref (bd 0)), (3, .int (nI i))] → W p l e room_1 s m #[Value.ref b] below meth c H locs cells slots Z (F0 m 788 ls [])) : W p l e room_1 s m #[Value.ref b] below meth c H locs cells slots Z (F0 m 252 ls []) := by
  have hv := hR.1.1
  have hpq := hR.1.2.1
  have hca := hR.1.2.2.1
  have hcq := hR.1.2.2.2
  have hvq : okV n (pq Q) := by rw [← hpq]; exact hv
  refine lv_aload_n hx hb dL_law_252 rfl (lv_at hl 1 rfl) ?_
  refine callWI (D := D) (wn := fun V1 => wS k ad V1 ++ wQ k bd Q) (wr := wQ k bd Q) (runV hx hb hg hown hml hl.1 ((c_X3_drop l D k ad V hv) H.size) [] [] (preX (mapSome_sub hh.1 (0 :: 1 :: 2 :: 3 :: 4 :: 5 :: 6 :: 7 :: 8 :: 9 :: 10 :: 11 :: 12 :: 13 :: 14 :: 15 :: 16 :: 17 :: 18 :: 19 :: 20 :: 21 :: 22 :: 23 :: 24 :: 25 :: 26 :: 27 :: 28 :: 29 :: 30 :: 31 :: 32 :: 33 :: 34 :: 35 :: 36 :: 37 :: 38 :: 39 :: 40 :: 41 :: 42 :: 43 :: 44 :: 45 :: 46 :: 47 :: 48 :: 49 :: 50 :: 51 :: 52 :: 53 :: 54 :: 55 :: 56 :: 57 :: 58 :: 59 :: 60 :: []) rfl) (hh.2.1.sub (0 :: 1 :: 2 :: 3 :: 4 :: 5 :: 6 :: 7 :: 8 :: 9 :: 10 :: 11 :: 12 :: 13 :: 14 :: 15 :: 16 :: 17 :: 18 :: 19 :: 20 :: 21 :: 22 :: 23 :: 24 :: 25 :: 26 :: 27 :: 28 :: 29 :: 30 :: 31 :: 32 :: 33 :: 34 :: 35 :: 36 :: 37 :: 38 :: 39 :: 40 :: 41 :: 42 :: 43 :: 44 :: 45 :: 46 :: 47 :: 48 :: 49 :: 50 :: 51 :: 52 :: 53 :: 54 :: 55 :: 56 :: 57 :: 58 :: 59 :: 60 :: []) (by decide) rfl) hK hN xb0 x0) (va_recv hK hh.1 (ci := 3) (q0 := 0) rfl rfl) wd_256 wd_257 wd_258 wd_49 wd_259 lk_X3_drop ⟨rfl, rfl⟩ ⟨by decide, by decide⟩ hcs rfl (Nat.le_of_ble_eq_true rfl) dL_law_253) hA hh (0 :: 1 :: 2 :: 3 :: 4 :: 5 :: 6 :: 7 :: 8 :: 9 :: 10 :: 11 :: 12 :: 13 :: 14 :: 15 :: 16 :: 17 :: 18 :: 19 :: 20 :: 21 :: 22 :: 23 :: 24 :: 25 :: 26 :: 27 :: 28 :: 29 :: 30 :: 31 :: 32 :: 33 :: 34 :: 35 :: 36 :: 37 :: 38 :: 39 :: 40 :: 41 :: 42 :: 43 :: 44 :: 45 :: 46 :: 47 :: 48 :: 49 :: 50 :: 51 :: 52 :: 53 :: 54 :: 55 :: 56 :: 57 :: 58 :: 59 :: 60 :: []) [61, 62, 63, 64, 65, 66, 67, 68, 69, 70, 71, 72, 73, 74, 75, 76, 77, 78, 79, 80, 81, 82, 83] (23 :: 24 :: 25 :: 26 :: 27 :: 28 :: 29 :: 30 :: 31 :: 32 :: 33 :: 34 :: 35 :: 36 :: 37 :: 38 :: 39 :: 40 :: 41 :: 42 :: 43 :: 44 :: 45 :: 46 :: 47 :: 48 :: 49 :: 50 :: 51 :: 52 :: 53 :: 54 :: 55 :: 56 :: 57 :: 58 :: 59 :: 60 :: 61 :: 62 :: 63 :: 64 :: 65 :: 66 :: 67 :: 68 :: 69 :: 70 :: 71 :: 72 :: 73 :: 74 :: 75 :: 76 :: 77 :: 78 :: 79 :: 80 :: 81 :: 82 :: 83 :: 0 :: 1 :: 2 :: 3 :: 4 :: 5 :: 6 :: 7 :: 8 :: 9 :: 10 :: 11 :: 12 :: 13 :: 14 :: 15 :: 16 :: 17 :: 18 :: 19 :: 20 :: 21 :: 22 :: []) rfl rfl (by decide) (by decide) (by decide) (fun _ => rfl) (fun r1 V1 H locs q1 hh => ?_)
  refine lv_aload_n hx hb dL_law_256 rfl (lv_at hl 2 rfl) ?_
  refine callWI (D := D) (wn := fun Q1 => wS k ad V1 ++ wQ k bd Q1) (wr := wS k ad V1) (runV hx hb hg hown hml hl.1 ((c_X4_drop l D k bd Q hvq) H.size) [] [.int r1] (preX (mapSome_sub hh.1 [61, 62, 63, 64, 65, 66, 67, 68, 69, 70, 71, 72, 73, 74, 75, 76, 77, 78, 79, 80, 81, 82, 83] rfl) (hh.2.1.sub [61, 62, 63, 64, 65, 66, 67, 68, 69, 70, 71, 72, 73, 74, 75, 76, 77, 78, 79, 80, 81, 82, 83] (by decide) rfl) hK hN xb0 x0) (va_recv hK hh.1 (ci := 4) (q0 := 61) rfl rfl) wd_685 wd_686 wd_687 wd_53 wd_688 lk_X4_drop ⟨rfl, rfl⟩ ⟨by decide, by decide⟩ hcs rfl (Nat.le_of_ble_eq_true rfl) dL_law_257) hA hh [61, 62, 63, 64, 65, 66, 67, 68, 69, 70, 71, 72, 73, 74, 75, 76, 77, 78, 79, 80, 81, 82, 83] (0 :: 1 :: 2 :: 3 :: 4 :: 5 :: 6 :: 7 :: 8 :: 9 :: 10 :: 11 :: 12 :: 13 :: 14 :: 15 :: 16 :: 17 :: 18 :: 19 :: 20 :: 21 :: 22 :: 23 :: 24 :: 25 :: 26 :: 27 :: 28 :: 29 :: 30 :: 31 :: 32 :: 33 :: 34 :: 35 :: 36 :: 37 :: 38 :: 39 :: 40 :: 41 :: 42 :: 43 :: 44 :: 45 :: 46 :: 47 :: 48 :: 49 :: 50 :: 51 :: 52 :: 53 :: 54 :: 55 :: 56 :: 57 :: 58 :: 59 :: 60 :: []) (0 :: 1 :: 2 :: 3 :: 4 :: 5 :: 6 :: 7 :: 8 :: 9 :: 10 :: 11 :: 12 :: 13 :: 14 :: 15 :: 16 :: 17 :: 18 :: 19 :: 20 :: 21 :: 22 :: 23 :: 24 :: 25 :: 26 :: 27 :: 28 :: 29 :: 30 :: 31 :: 32 :: 33 :: 34 :: 35 :: 36 :: 37 :: 38 :: 39 :: 40 :: 41 :: 42 :: 43 :: 44 :: 45 :: 46 :: 47 :: 48 :: 49 :: 50 :: 51 :: 52 :: 53 :: 54 :: 55 :: 56 :: 57 :: 58 :: 59 :: 60 :: 61 :: 62 :: 63 :: 64 :: 65 :: 66 :: 67 :: 68 :: 69 :: 70 :: 71 :: 72 :: 73 :: 74 :: 75 :: 76 :: 77 :: 78 :: 79 :: 80 :: 81 :: 82 :: 83 :: []) rfl rfl (by decide) (by decide) (by decide) (fun _ => rfl) (fun r2 Q1 H locs q2 hh => ?_)
  obtain ⟨hE, n1, hR1⟩ := op_drop hR q1 q2
  refine lv_icmp_eq (tgt := 788) hx hb dL_law_260 (by decide) (fun c9 => ?_) (fun c9 => absurd hE c9)
  exact kk _ _ _ _ V1 Q1 H locs ls hR1 hh hl
set_option maxHeartbeats 4000000 in
set_option maxRecDepth 100000 in
theorem law_3 {p : Program} {l : Launch} {e : Env} {s : State} {m : MethodId} {below : List Frame} {meth : Method} {c : Code} {b L : Nat} {xs : Nat → Int32} {D : va_G} {k : Nat → ClassId} {ad bd : Nat → Nat} {A : Nat → Prop} {cells slots : Nat} {Z : State → Prop} (hx : p.tables.exec = Jvm.exec) (hb : c.code = code) (hg : ∀ w ∈ Gw, w.before #[Value.ref b] s = true) (hml : c.maxLocals = 4) (hown : s.vm.findClass "SliceWhyLaw" = some m.cls) (hK : va_K D vwCl (tyL k) s) (hN : NstU s) (hA : ∀ q, s.heap.size ≤ q → A q) (hX : va_X b L xs s s.heap) (hbl : b < s.heap.size) (hbA : ¬ A b) (hL : L ≤ 3072) (hcs : cells ≤ 600000 ∧ slots ≤ 7302249) (hSt : Sta A s s.heap) {i : Nat} (hi : i + 6 ≤ L) {n t c9 wl : Nat} {V Q : St} (hR : Rel n t c9 wl V Q) {H : Heap} {locs : List Loc} {ls : Array Slot} (hh : Hd D A (wS k ad V ++ wQ k bd Q) s.heap H locs) (hl : lv_has ls 4 [(0, .ref b), (1, .ref (ad 0)), (2, .ref (bd 0)), (3, .int (nI i))]) (kk : ∀ (n t c9 wl : Nat) (V Q : St) (H : Heap) (locs : List Loc) (ls : Array Slot), Rel n t c9 wl V Q → Hd D A (wS k ad V ++ wQ k bd Q) s.heap H locs → lv_has ls 4 [(0, .ref b), (1, .ref (ad 0)), (2, .ref (bd 0)), (3, .int (nI i))] → W p l e room_1 s m #[Value.ref b] below meth c H locs cells slots Z (F0 m 788 ls [])) : W p l e room_1 s m #[Value.ref b] below meth c H locs cells slots Z (F0 m 265 ls []) := by
  have hv := hR.1.1
  have hpq := hR.1.2.1
  have hca := hR.1.2.2.1
  have hcq := hR.1.2.2.2
  have hvq : okV n (pq Q) := by rw [← hpq]; exact hv
  refine lv_aload_n hx hb dL_law_265 rfl (lv_at hl 1 rfl) ?_
  refine lv_aload_n hx hb dL_law_266 rfl (lv_at hl 0 rfl) ?_
  refine lv_iload_n hx hb dL_law_267 rfl (lv_at hl 3 rfl) ?_
  refine lv_iconst (v := 1) hx hb dL_law_268 (by decide) ?_
  refine lv_iadd hx hb dL_law_269 ?_
  refine topv (nI (i + 1)) (nI_add i 1) ?_
  refine sld hx hb hX hbl hbA hh (by omega) (by omega) dL_law_270 ?_
  refine lv_aload_n hx hb dL_law_271 rfl (lv_at hl 0 rfl) ?_
  refine lv_iload_n hx hb dL_law_272 rfl (lv_at hl 3 rfl) ?_
  refine lv_iconst (v := 2) hx hb dL_law_273 (by decide) ?_
  refine lv_iadd hx hb dL_law_274 ?_
  refine topv (nI (i + 2)) (nI_add i 2) ?_
  refine sld hx hb hX hbl hbA hh (by omega) (by omega) dL_law_275 ?_
  refine lv_aload_n hx hb dL_law_276 rfl (lv_at hl 0 rfl) ?_
  refine lv_iload_n hx hb dL_law_277 rfl (lv_at hl 3 rfl) ?_
  refine lv_iconst (v := 3) hx hb dL_law_278 (by decide) ?_
  refine lv_iadd hx hb dL_law_279 ?_
  refine topv (nI (i + 3)) (nI_add i 3) ?_
  refine sld hx hb hX hbl hbA hh (by omega) (by omega) dL_law_280 ?_
  refine lv_if_eq (tgt := 288) hx hb dL_law_281 (by decide) (fun c_281 => ?_) (fun c_281 => ?_)
  · refine lv_iconst (v := 0) hx hb dL_law_288 (by decide) ?_
    refine topv (zI false) rfl ?_
    refine callWI (D := D) (wn := fun V1 => wS k ad V1 ++ wQ k bd Q) (wr := wQ k bd Q) (runV hx hb hg hown hml hl.1 ((c_X3_start l D k ad V (xs (i + 1)) (xs (i + 2)) false) H.size) [.int (xs (i + 1)), .int (xs (i + 2)), .int (zI false)] [] (preX (mapSome_sub hh.1 (0 :: 1 :: 2 :: 3 :: 4 :: 5 :: 6 :: 7 :: 8 :: 9 :: 10 :: 11 :: 12 :: 13 :: 14 :: 15 :: 16 :: 17 :: 18 :: 19 :: 20 :: 21 :: 22 :: 23 :: 24 :: 25 :: 26 :: 27 :: 28 :: 29 :: 30 :: 31 :: 32 :: 33 :: 34 :: 35 :: 36 :: 37 :: 38 :: 39 :: 40 :: 41 :: 42 :: 43 :: 44 :: 45 :: 46 :: 47 :: 48 :: 49 :: 50 :: 51 :: 52 :: 53 :: 54 :: 55 :: 56 :: 57 :: 58 :: 59 :: 60 :: []) rfl) (hh.2.1.sub (0 :: 1 :: 2 :: 3 :: 4 :: 5 :: 6 :: 7 :: 8 :: 9 :: 10 :: 11 :: 12 :: 13 :: 14 :: 15 :: 16 :: 17 :: 18 :: 19 :: 20 :: 21 :: 22 :: 23 :: 24 :: 25 :: 26 :: 27 :: 28 :: 29 :: 30 :: 31 :: 32 :: 33 :: 34 :: 35 :: 36 :: 37 :: 38 :: 39 :: 40 :: 41 :: 42 :: 43 :: 44 :: 45 :: 46 :: 47 :: 48 :: 49 :: 50 :: 51 :: 52 :: 53 :: 54 :: 55 :: 56 :: 57 :: 58 :: 59 :: 60 :: []) (by decide) rfl) hK hN xb0 x0) (va_recv hK hh.1 (ci := 3) (q0 := 0) rfl rfl) wd_260 wd_261 wd_262 wd_49 wd_263 lk_X3_start ⟨rfl, rfl⟩ ⟨by decide, by decide⟩ hcs rfl (Nat.le_of_ble_eq_true rfl) dL_law_289) hA hh (0 :: 1 :: 2 :: 3 :: 4 :: 5 :: 6 :: 7 :: 8 :: 9 :: 10 :: 11 :: 12 :: 13 :: 14 :: 15 :: 16 :: 17 :: 18 :: 19 :: 20 :: 21 :: 22 :: 23 :: 24 :: 25 :: 26 :: 27 :: 28 :: 29 :: 30 :: 31 :: 32 :: 33 :: 34 :: 35 :: 36 :: 37 :: 38 :: 39 :: 40 :: 41 :: 42 :: 43 :: 44 :: 45 :: 46 :: 47 :: 48 :: 49 :: 50 :: 51 :: 52 :: 53 :: 54 :: 55 :: 56 :: 57 :: 58 :: 59 :: 60 :: []) [61, 62, 63, 64, 65, 66, 67, 68, 69, 70, 71, 72, 73, 74, 75, 76, 77, 78, 79, 80, 81, 82, 83] (23 :: 24 :: 25 :: 26 :: 27 :: 28 :: 29 :: 30 :: 31 :: 32 :: 33 :: 34 :: 35 :: 36 :: 37 :: 38 :: 39 :: 40 :: 41 :: 42 :: 43 :: 44 :: 45 :: 46 :: 47 :: 48 :: 49 :: 50 :: 51 :: 52 :: 53 :: 54 :: 55 :: 56 :: 57 :: 58 :: 59 :: 60 :: 61 :: 62 :: 63 :: 64 :: 65 :: 66 :: 67 :: 68 :: 69 :: 70 :: 71 :: 72 :: 73 :: 74 :: 75 :: 76 :: 77 :: 78 :: 79 :: 80 :: 81 :: 82 :: 83 :: 0 :: 1 :: 2 :: 3 :: 4 :: 5 :: 6 :: 7 :: 8 :: 9 :: 10 :: 11 :: 12 :: 13 :: 14 :: 15 :: 16 :: 17 :: 18 :: 19 :: 20 :: 21 :: 22 :: []) rfl rfl (by decide) (by decide) (by decide) (fun _ => rfl) (fun r1 V1 H locs q1 hh => ?_)
    refine lv_aload_n hx hb dL_law_292 rfl (lv_at hl 2 rfl) ?_
    refine lv_aload_n hx hb dL_law_293 rfl (lv_at hl 0 rfl) ?_
    refine lv_iload_n hx hb dL_law_294 rfl (lv_at hl 3 rfl) ?_
    refine lv_iconst (v := 1) hx hb dL_law_295 (by decide) ?_
    refine lv_iadd hx hb dL_law_296 ?_
    refine topv (nI (i + 1)) (nI_add i 1) ?_
    refine sld hx hb hX hbl hbA hh (by omega) (by omega) dL_law_297 ?_
    refine lv_aload_n hx hb dL_law_298 rfl (lv_at hl 0 rfl) ?_
    refine lv_iload_n hx hb dL_law_299 rfl (lv_at hl 3 rfl) ?_
    refine lv_iconst (v := 2) hx hb dL_law_300 (by decide) ?_
    refine lv_iadd hx hb dL_law_301 ?_
    refine topv (nI (i + 2)) (nI_add i 2) ?_
    refine sld hx hb hX hbl hbA hh (by omega) (by omega) dL_law_302 ?_
    refine lv_aload_n hx hb dL_law_303 rfl (lv_at hl 0 rfl) ?_
    refine lv_iload_n hx hb dL_law_304 rfl (lv_at hl 3 rfl) ?_
    refine lv_iconst (v := 3) hx hb dL_law_305 (by decide) ?_
    refine lv_iadd hx hb dL_law_306 ?_
    refine topv (nI (i + 3)) (nI_add i 3) ?_
    refine sld hx hb hX hbl hbA hh (by omega) (by omega) dL_law_307 ?_
    refine lv_if_eq (tgt := 315) hx hb dL_law_308 (by decide) (fun c_308 => ?_) (fun c_308 => ?_)
    · refine lv_iconst (v := 0) hx hb dL_law_315 (by decide) ?_
      refine topv (zI false) rfl ?_
      refine callWI (D := D) (wn := fun Q1 => wS k ad V1 ++ wQ k bd Q1) (wr := wS k ad V1) (runV hx hb hg hown hml hl.1 ((c_X4_start l D k bd Q (xs (i + 1)) (xs (i + 2)) false) H.size) [.int (xs (i + 1)), .int (xs (i + 2)), .int (zI false)] [.int r1] (preX (mapSome_sub hh.1 [61, 62, 63, 64, 65, 66, 67, 68, 69, 70, 71, 72, 73, 74, 75, 76, 77, 78, 79, 80, 81, 82, 83] rfl) (hh.2.1.sub [61, 62, 63, 64, 65, 66, 67, 68, 69, 70, 71, 72, 73, 74, 75, 76, 77, 78, 79, 80, 81, 82, 83] (by decide) rfl) hK hN xb0 x0) (va_recv hK hh.1 (ci := 4) (q0 := 61) rfl rfl) wd_689 wd_690 wd_691 wd_53 wd_692 lk_X4_start ⟨rfl, rfl⟩ ⟨by decide, by decide⟩ hcs rfl (Nat.le_of_ble_eq_true rfl) dL_law_316) hA hh [61, 62, 63, 64, 65, 66, 67, 68, 69, 70, 71, 72, 73, 74, 75, 76, 77, 78, 79, 80, 81, 82, 83] (0 :: 1 :: 2 :: 3 :: 4 :: 5 :: 6 :: 7 :: 8 :: 9 :: 10 :: 11 :: 12 :: 13 :: 14 :: 15 :: 16 :: 17 :: 18 :: 19 :: 20 :: 21 :: 22 :: 23 :: 24 :: 25 :: 26 :: 27 :: 28 :: 29 :: 30 :: 31 :: 32 :: 33 :: 34 :: 35 :: 36 :: 37 :: 38 :: 39 :: 40 :: 41 :: 42 :: 43 :: 44 :: 45 :: 46 :: 47 :: 48 :: 49 :: 50 :: 51 :: 52 :: 53 :: 54 :: 55 :: 56 :: 57 :: 58 :: 59 :: 60 :: []) (0 :: 1 :: 2 :: 3 :: 4 :: 5 :: 6 :: 7 :: 8 :: 9 :: 10 :: 11 :: 12 :: 13 :: 14 :: 15 :: 16 :: 17 :: 18 :: 19 :: 20 :: 21 :: 22 :: 23 :: 24 :: 25 :: 26 :: 27 :: 28 :: 29 :: 30 :: 31 :: 32 :: 33 :: 34 :: 35 :: 36 :: 37 :: 38 :: 39 :: 40 :: 41 :: 42 :: 43 :: 44 :: 45 :: 46 :: 47 :: 48 :: 49 :: 50 :: 51 :: 52 :: 53 :: 54 :: 55 :: 56 :: 57 :: 58 :: 59 :: 60 :: 61 :: 62 :: 63 :: 64 :: 65 :: 66 :: 67 :: 68 :: 69 :: 70 :: 71 :: 72 :: 73 :: 74 :: 75 :: 76 :: 77 :: 78 :: 79 :: 80 :: 81 :: 82 :: 83 :: []) rfl rfl (by decide) (by decide) (by decide) (fun _ => rfl) (fun r2 Q1 H locs q2 hh => ?_)
      obtain ⟨hE, hR1⟩ := op_start hR q1 q2
      refine lv_icmp_eq (tgt := 788) hx hb dL_law_319 (by decide) (fun c9 => ?_) (fun c9 => absurd hE c9)
      exact kk _ _ _ _ V1 Q1 H locs ls hR1 hh hl
    · exact absurd c_281 c_308
  · refine lv_iconst (v := 1) hx hb dL_law_284 (by decide) ?_
    refine topv (zI true) rfl ?_
    refine lv_goto (tgt := 289) hx hb dL_law_285 (by decide) ?_
    refine callWI (D := D) (wn := fun V1 => wS k ad V1 ++ wQ k bd Q) (wr := wQ k bd Q) (runV hx hb hg hown hml hl.1 ((c_X3_start l D k ad V (xs (i + 1)) (xs (i + 2)) true) H.size) [.int (xs (i + 1)), .int (xs (i + 2)), .int (zI true)] [] (preX (mapSome_sub hh.1 (0 :: 1 :: 2 :: 3 :: 4 :: 5 :: 6 :: 7 :: 8 :: 9 :: 10 :: 11 :: 12 :: 13 :: 14 :: 15 :: 16 :: 17 :: 18 :: 19 :: 20 :: 21 :: 22 :: 23 :: 24 :: 25 :: 26 :: 27 :: 28 :: 29 :: 30 :: 31 :: 32 :: 33 :: 34 :: 35 :: 36 :: 37 :: 38 :: 39 :: 40 :: 41 :: 42 :: 43 :: 44 :: 45 :: 46 :: 47 :: 48 :: 49 :: 50 :: 51 :: 52 :: 53 :: 54 :: 55 :: 56 :: 57 :: 58 :: 59 :: 60 :: []) rfl) (hh.2.1.sub (0 :: 1 :: 2 :: 3 :: 4 :: 5 :: 6 :: 7 :: 8 :: 9 :: 10 :: 11 :: 12 :: 13 :: 14 :: 15 :: 16 :: 17 :: 18 :: 19 :: 20 :: 21 :: 22 :: 23 :: 24 :: 25 :: 26 :: 27 :: 28 :: 29 :: 30 :: 31 :: 32 :: 33 :: 34 :: 35 :: 36 :: 37 :: 38 :: 39 :: 40 :: 41 :: 42 :: 43 :: 44 :: 45 :: 46 :: 47 :: 48 :: 49 :: 50 :: 51 :: 52 :: 53 :: 54 :: 55 :: 56 :: 57 :: 58 :: 59 :: 60 :: []) (by decide) rfl) hK hN xb0 x0) (va_recv hK hh.1 (ci := 3) (q0 := 0) rfl rfl) wd_260 wd_261 wd_262 wd_49 wd_263 lk_X3_start ⟨rfl, rfl⟩ ⟨by decide, by decide⟩ hcs rfl (Nat.le_of_ble_eq_true rfl) dL_law_289) hA hh (0 :: 1 :: 2 :: 3 :: 4 :: 5 :: 6 :: 7 :: 8 :: 9 :: 10 :: 11 :: 12 :: 13 :: 14 :: 15 :: 16 :: 17 :: 18 :: 19 :: 20 :: 21 :: 22 :: 23 :: 24 :: 25 :: 26 :: 27 :: 28 :: 29 :: 30 :: 31 :: 32 :: 33 :: 34 :: 35 :: 36 :: 37 :: 38 :: 39 :: 40 :: 41 :: 42 :: 43 :: 44 :: 45 :: 46 :: 47 :: 48 :: 49 :: 50 :: 51 :: 52 :: 53 :: 54 :: 55 :: 56 :: 57 :: 58 :: 59 :: 60 :: []) [61, 62, 63, 64, 65, 66, 67, 68, 69, 70, 71, 72, 73, 74, 75, 76, 77, 78, 79, 80, 81, 82, 83] (23 :: 24 :: 25 :: 26 :: 27 :: 28 :: 29 :: 30 :: 31 :: 32 :: 33 :: 34 :: 35 :: 36 :: 37 :: 38 :: 39 :: 40 :: 41 :: 42 :: 43 :: 44 :: 45 :: 46 :: 47 :: 48 :: 49 :: 50 :: 51 :: 52 :: 53 :: 54 :: 55 :: 56 :: 57 :: 58 :: 59 :: 60 :: 61 :: 62 :: 63 :: 64 :: 65 :: 66 :: 67 :: 68 :: 69 :: 70 :: 71 :: 72 :: 73 :: 74 :: 75 :: 76 :: 77 :: 78 :: 79 :: 80 :: 81 :: 82 :: 83 :: 0 :: 1 :: 2 :: 3 :: 4 :: 5 :: 6 :: 7 :: 8 :: 9 :: 10 :: 11 :: 12 :: 13 :: 14 :: 15 :: 16 :: 17 :: 18 :: 19 :: 20 :: 21 :: 22 :: []) rfl rfl (by decide) (by decide) (by decide) (fun _ => rfl) (fun r1 V1 H locs q1 hh => ?_)
    refine lv_aload_n hx hb dL_law_292 rfl (lv_at hl 2 rfl) ?_
    refine lv_aload_n hx hb dL_law_293 rfl (lv_at hl 0 rfl) ?_
    refine lv_iload_n hx hb dL_law_294 rfl (lv_at hl 3 rfl) ?_
    refine lv_iconst (v := 1) hx hb dL_law_295 (by decide) ?_
    refine lv_iadd hx hb dL_law_296 ?_
    refine topv (nI (i + 1)) (nI_add i 1) ?_
    refine sld hx hb hX hbl hbA hh (by omega) (by omega) dL_law_297 ?_
    refine lv_aload_n hx hb dL_law_298 rfl (lv_at hl 0 rfl) ?_
    refine lv_iload_n hx hb dL_law_299 rfl (lv_at hl 3 rfl) ?_
    refine lv_iconst (v := 2) hx hb dL_law_300 (by decide) ?_
    refine lv_iadd hx hb dL_law_301 ?_
    refine topv (nI (i + 2)) (nI_add i 2) ?_
    refine sld hx hb hX hbl hbA hh (by omega) (by omega) dL_law_302 ?_
    refine lv_aload_n hx hb dL_law_303 rfl (lv_at hl 0 rfl) ?_
    refine lv_iload_n hx hb dL_law_304 rfl (lv_at hl 3 rfl) ?_
    refine lv_iconst (v := 3) hx hb dL_law_305 (by decide) ?_
    refine lv_iadd hx hb dL_law_306 ?_
    refine topv (nI (i + 3)) (nI_add i 3) ?_
    refine sld hx hb hX hbl hbA hh (by omega) (by omega) dL_law_307 ?_
    refine lv_if_eq (tgt := 315) hx hb dL_law_308 (by decide) (fun c_308 => ?_) (fun c_308 => ?_)
    · exact absurd c_308 c_281
    · refine lv_iconst (v := 1) hx hb dL_law_311 (by decide) ?_
      refine topv (zI true) rfl ?_
      refine lv_goto (tgt := 316) hx hb dL_law_312 (by decide) ?_
      refine callWI (D := D) (wn := fun Q1 => wS k ad V1 ++ wQ k bd Q1) (wr := wS k ad V1) (runV hx hb hg hown hml hl.1 ((c_X4_start l D k bd Q (xs (i + 1)) (xs (i + 2)) true) H.size) [.int (xs (i + 1)), .int (xs (i + 2)), .int (zI true)] [.int r1] (preX (mapSome_sub hh.1 [61, 62, 63, 64, 65, 66, 67, 68, 69, 70, 71, 72, 73, 74, 75, 76, 77, 78, 79, 80, 81, 82, 83] rfl) (hh.2.1.sub [61, 62, 63, 64, 65, 66, 67, 68, 69, 70, 71, 72, 73, 74, 75, 76, 77, 78, 79, 80, 81, 82, 83] (by decide) rfl) hK hN xb0 x0) (va_recv hK hh.1 (ci := 4) (q0 := 61) rfl rfl) wd_689 wd_690 wd_691 wd_53 wd_692 lk_X4_start ⟨rfl, rfl⟩ ⟨by decide, by decide⟩ hcs rfl (Nat.le_of_ble_eq_true rfl) dL_law_316) hA hh [61, 62, 63, 64, 65, 66, 67, 68, 69, 70, 71, 72, 73, 74, 75, 76, 77, 78, 79, 80, 81, 82, 83] (0 :: 1 :: 2 :: 3 :: 4 :: 5 :: 6 :: 7 :: 8 :: 9 :: 10 :: 11 :: 12 :: 13 :: 14 :: 15 :: 16 :: 17 :: 18 :: 19 :: 20 :: 21 :: 22 :: 23 :: 24 :: 25 :: 26 :: 27 :: 28 :: 29 :: 30 :: 31 :: 32 :: 33 :: 34 :: 35 :: 36 :: 37 :: 38 :: 39 :: 40 :: 41 :: 42 :: 43 :: 44 :: 45 :: 46 :: 47 :: 48 :: 49 :: 50 :: 51 :: 52 :: 53 :: 54 :: 55 :: 56 :: 57 :: 58 :: 59 :: 60 :: []) (0 :: 1 :: 2 :: 3 :: 4 :: 5 :: 6 :: 7 :: 8 :: 9 :: 10 :: 11 :: 12 :: 13 :: 14 :: 15 :: 16 :: 17 :: 18 :: 19 :: 20 :: 21 :: 22 :: 23 :: 24 :: 25 :: 26 :: 27 :: 28 :: 29 :: 30 :: 31 :: 32 :: 33 :: 34 :: 35 :: 36 :: 37 :: 38 :: 39 :: 40 :: 41 :: 42 :: 43 :: 44 :: 45 :: 46 :: 47 :: 48 :: 49 :: 50 :: 51 :: 52 :: 53 :: 54 :: 55 :: 56 :: 57 :: 58 :: 59 :: 60 :: 61 :: 62 :: 63 :: 64 :: 65 :: 66 :: 67 :: 68 :: 69 :: 70 :: 71 :: 72 :: 73 :: 74 :: 75 :: 76 :: 77 :: 78 :: 79 :: 80 :: 81 :: 82 :: 83 :: []) rfl rfl (by decide) (by decide) (by decide) (fun _ => rfl) (fun r2 Q1 H locs q2 hh => ?_)
      obtain ⟨hE, hR1⟩ := op_start hR q1 q2
      refine lv_icmp_eq (tgt := 788) hx hb dL_law_319 (by decide) (fun c9 => ?_) (fun c9 => absurd hE c9)
      exact kk _ _ _ _ V1 Q1 H locs ls hR1 hh hl
set_option maxHeartbeats 4000000 in
set_option maxRecDepth 100000 in
theorem law_4 {p : Program} {l : Launch} {e : Env} {s : State} {m : MethodId} {below : List Frame} {meth : Method} {c : Code} {b L : Nat} {xs : Nat → Int32} {D : va_G} {k : Nat → ClassId} {ad bd : Nat → Nat} {A : Nat → Prop} {cells slots : Nat} {Z : State → Prop} (hx : p.tables.exec = Jvm.exec) (hb : c.code = code) (hg : ∀ w ∈ Gw, w.before #[Value.ref b] s = true) (hml : c.maxLocals = 4) (hown : s.vm.findClass "SliceWhyLaw" = some m.cls) (hK : va_K D vwCl (tyL k) s) (hN : NstU s) (hA : ∀ q, s.heap.size ≤ q → A q) (hX : va_X b L xs s s.heap) (hbl : b < s.heap.size) (hbA : ¬ A b) (hL : L ≤ 3072) (hcs : cells ≤ 600000 ∧ slots ≤ 7302249) (hSt : Sta A s s.heap) {i : Nat} (hi : i + 6 ≤ L) {n t c9 wl : Nat} {V Q : St} (hR : Rel n t c9 wl V Q) {H : Heap} {locs : List Loc} {ls : Array Slot} (hh : Hd D A (wS k ad V ++ wQ k bd Q) s.heap H locs) (hl : lv_has ls 4 [(0, .ref b), (1, .ref (ad 0)), (2, .ref (bd 0)), (3, .int (nI i))]) (kk : ∀ (n t c9 wl : Nat) (V Q : St) (H : Heap) (locs : List Loc) (ls : Array Slot), Rel n t c9 wl V Q → Hd D A (wS k ad V ++ wQ k bd Q) s.heap H locs → lv_has ls 4 [(0, .ref b), (1, .ref (ad 0)), (2, .ref (bd 0)), (3, .int (nI i))] → W p l e room_1 s m #[Value.ref b] below meth c H locs cells slots Z (F0 m 788 ls [])) : W p l e room_1 s m #[Value.ref b] below meth c H locs cells slots Z (F0 m 324 ls []) := by
  have hv := hR.1.1
  have hpq := hR.1.2.1
  have hca := hR.1.2.2.1
  have hcq := hR.1.2.2.2
  have hvq : okV n (pq Q) := by rw [← hpq]; exact hv
  refine lv_aload_n hx hb dL_law_324 rfl (lv_at hl 1 rfl) ?_
  refine lv_aload_n hx hb dL_law_325 rfl (lv_at hl 0 rfl) ?_
  refine lv_iload_n hx hb dL_law_326 rfl (lv_at hl 3 rfl) ?_
  refine lv_iconst (v := 1) hx hb dL_law_327 (by decide) ?_
  refine lv_iadd hx hb dL_law_328 ?_
  refine topv (nI (i + 1)) (nI_add i 1) ?_
  refine sld hx hb hX hbl hbA hh (by omega) (by omega) dL_law_329 ?_
  refine lv_aload_n hx hb dL_law_330 rfl (lv_at hl 0 rfl) ?_
  refine lv_iload_n hx hb dL_law_331 rfl (lv_at hl 3 rfl) ?_
  refine lv_iconst (v := 2) hx hb dL_law_332 (by decide) ?_
  refine lv_iadd hx hb dL_law_333 ?_
  refine topv (nI (i + 2)) (nI_add i 2) ?_
  refine sld hx hb hX hbl hbA hh (by omega) (by omega) dL_law_334 ?_
  refine callWI (D := D) (wn := fun V1 => wS k ad V1 ++ wQ k bd Q) (wr := wQ k bd Q) (runV hx hb hg hown hml hl.1 ((c_X3_points l D k ad V (xs (i + 1)) (xs (i + 2))) H.size) [.int (xs (i + 1)), .int (xs (i + 2))] [] (preX (mapSome_sub hh.1 (0 :: 1 :: 2 :: 3 :: 4 :: 5 :: 6 :: 7 :: 8 :: 9 :: 10 :: 11 :: 12 :: 13 :: 14 :: 15 :: 16 :: 17 :: 18 :: 19 :: 20 :: 21 :: 22 :: 23 :: 24 :: 25 :: 26 :: 27 :: 28 :: 29 :: 30 :: 31 :: 32 :: 33 :: 34 :: 35 :: 36 :: 37 :: 38 :: 39 :: 40 :: 41 :: 42 :: 43 :: 44 :: 45 :: 46 :: 47 :: 48 :: 49 :: 50 :: 51 :: 52 :: 53 :: 54 :: 55 :: 56 :: 57 :: 58 :: 59 :: 60 :: []) rfl) (hh.2.1.sub (0 :: 1 :: 2 :: 3 :: 4 :: 5 :: 6 :: 7 :: 8 :: 9 :: 10 :: 11 :: 12 :: 13 :: 14 :: 15 :: 16 :: 17 :: 18 :: 19 :: 20 :: 21 :: 22 :: 23 :: 24 :: 25 :: 26 :: 27 :: 28 :: 29 :: 30 :: 31 :: 32 :: 33 :: 34 :: 35 :: 36 :: 37 :: 38 :: 39 :: 40 :: 41 :: 42 :: 43 :: 44 :: 45 :: 46 :: 47 :: 48 :: 49 :: 50 :: 51 :: 52 :: 53 :: 54 :: 55 :: 56 :: 57 :: 58 :: 59 :: 60 :: []) (by decide) rfl) hK hN xb0 x0) (va_recv hK hh.1 (ci := 3) (q0 := 0) rfl rfl) wd_264 wd_265 wd_266 wd_49 wd_267 lk_X3_points ⟨rfl, rfl⟩ ⟨by decide, by decide⟩ hcs rfl (Nat.le_of_ble_eq_true rfl) dL_law_335) hA hh (0 :: 1 :: 2 :: 3 :: 4 :: 5 :: 6 :: 7 :: 8 :: 9 :: 10 :: 11 :: 12 :: 13 :: 14 :: 15 :: 16 :: 17 :: 18 :: 19 :: 20 :: 21 :: 22 :: 23 :: 24 :: 25 :: 26 :: 27 :: 28 :: 29 :: 30 :: 31 :: 32 :: 33 :: 34 :: 35 :: 36 :: 37 :: 38 :: 39 :: 40 :: 41 :: 42 :: 43 :: 44 :: 45 :: 46 :: 47 :: 48 :: 49 :: 50 :: 51 :: 52 :: 53 :: 54 :: 55 :: 56 :: 57 :: 58 :: 59 :: 60 :: []) [61, 62, 63, 64, 65, 66, 67, 68, 69, 70, 71, 72, 73, 74, 75, 76, 77, 78, 79, 80, 81, 82, 83] (23 :: 24 :: 25 :: 26 :: 27 :: 28 :: 29 :: 30 :: 31 :: 32 :: 33 :: 34 :: 35 :: 36 :: 37 :: 38 :: 39 :: 40 :: 41 :: 42 :: 43 :: 44 :: 45 :: 46 :: 47 :: 48 :: 49 :: 50 :: 51 :: 52 :: 53 :: 54 :: 55 :: 56 :: 57 :: 58 :: 59 :: 60 :: 61 :: 62 :: 63 :: 64 :: 65 :: 66 :: 67 :: 68 :: 69 :: 70 :: 71 :: 72 :: 73 :: 74 :: 75 :: 76 :: 77 :: 78 :: 79 :: 80 :: 81 :: 82 :: 83 :: 0 :: 1 :: 2 :: 3 :: 4 :: 5 :: 6 :: 7 :: 8 :: 9 :: 10 :: 11 :: 12 :: 13 :: 14 :: 15 :: 16 :: 17 :: 18 :: 19 :: 20 :: 21 :: 22 :: []) rfl rfl (by decide) (by decide) (by decide) (fun _ => rfl) (fun r1 V1 H locs q1 hh => ?_)
  refine lv_aload_n hx hb dL_law_338 rfl (lv_at hl 2 rfl) ?_
  refine lv_aload_n hx hb dL_law_339 rfl (lv_at hl 0 rfl) ?_
  refine lv_iload_n hx hb dL_law_340 rfl (lv_at hl 3 rfl) ?_
  refine lv_iconst (v := 1) hx hb dL_law_341 (by decide) ?_
  refine lv_iadd hx hb dL_law_342 ?_
  refine topv (nI (i + 1)) (nI_add i 1) ?_
  refine sld hx hb hX hbl hbA hh (by omega) (by omega) dL_law_343 ?_
  refine lv_aload_n hx hb dL_law_344 rfl (lv_at hl 0 rfl) ?_
  refine lv_iload_n hx hb dL_law_345 rfl (lv_at hl 3 rfl) ?_
  refine lv_iconst (v := 2) hx hb dL_law_346 (by decide) ?_
  refine lv_iadd hx hb dL_law_347 ?_
  refine topv (nI (i + 2)) (nI_add i 2) ?_
  refine sld hx hb hX hbl hbA hh (by omega) (by omega) dL_law_348 ?_
  refine callWI (D := D) (wn := fun Q1 => wS k ad V1 ++ wQ k bd Q1) (wr := wS k ad V1) (runV hx hb hg hown hml hl.1 ((c_X4_points l D k bd Q (xs (i + 1)) (xs (i + 2))) H.size) [.int (xs (i + 1)), .int (xs (i + 2))] [.int r1] (preX (mapSome_sub hh.1 [61, 62, 63, 64, 65, 66, 67, 68, 69, 70, 71, 72, 73, 74, 75, 76, 77, 78, 79, 80, 81, 82, 83] rfl) (hh.2.1.sub [61, 62, 63, 64, 65, 66, 67, 68, 69, 70, 71, 72, 73, 74, 75, 76, 77, 78, 79, 80, 81, 82, 83] (by decide) rfl) hK hN xb0 x0) (va_recv hK hh.1 (ci := 4) (q0 := 61) rfl rfl) wd_693 wd_694 wd_695 wd_53 wd_696 lk_X4_points ⟨rfl, rfl⟩ ⟨by decide, by decide⟩ hcs rfl (Nat.le_of_ble_eq_true rfl) dL_law_349) hA hh [61, 62, 63, 64, 65, 66, 67, 68, 69, 70, 71, 72, 73, 74, 75, 76, 77, 78, 79, 80, 81, 82, 83] (0 :: 1 :: 2 :: 3 :: 4 :: 5 :: 6 :: 7 :: 8 :: 9 :: 10 :: 11 :: 12 :: 13 :: 14 :: 15 :: 16 :: 17 :: 18 :: 19 :: 20 :: 21 :: 22 :: 23 :: 24 :: 25 :: 26 :: 27 :: 28 :: 29 :: 30 :: 31 :: 32 :: 33 :: 34 :: 35 :: 36 :: 37 :: 38 :: 39 :: 40 :: 41 :: 42 :: 43 :: 44 :: 45 :: 46 :: 47 :: 48 :: 49 :: 50 :: 51 :: 52 :: 53 :: 54 :: 55 :: 56 :: 57 :: 58 :: 59 :: 60 :: []) (0 :: 1 :: 2 :: 3 :: 4 :: 5 :: 6 :: 7 :: 8 :: 9 :: 10 :: 11 :: 12 :: 13 :: 14 :: 15 :: 16 :: 17 :: 18 :: 19 :: 20 :: 21 :: 22 :: 23 :: 24 :: 25 :: 26 :: 27 :: 28 :: 29 :: 30 :: 31 :: 32 :: 33 :: 34 :: 35 :: 36 :: 37 :: 38 :: 39 :: 40 :: 41 :: 42 :: 43 :: 44 :: 45 :: 46 :: 47 :: 48 :: 49 :: 50 :: 51 :: 52 :: 53 :: 54 :: 55 :: 56 :: 57 :: 58 :: 59 :: 60 :: 61 :: 62 :: 63 :: 64 :: 65 :: 66 :: 67 :: 68 :: 69 :: 70 :: 71 :: 72 :: 73 :: 74 :: 75 :: 76 :: 77 :: 78 :: 79 :: 80 :: 81 :: 82 :: 83 :: []) rfl rfl (by decide) (by decide) (by decide) (fun _ => rfl) (fun r2 Q1 H locs q2 hh => ?_)
  obtain ⟨hE, hR1⟩ := op_points hR q1 q2
  refine lv_icmp_eq (tgt := 788) hx hb dL_law_352 (by decide) (fun c9 => ?_) (fun c9 => absurd hE c9)
  exact kk _ _ _ _ V1 Q1 H locs ls hR1 hh hl
set_option maxHeartbeats 4000000 in
set_option maxRecDepth 100000 in
theorem law_5 {p : Program} {l : Launch} {e : Env} {s : State} {m : MethodId} {below : List Frame} {meth : Method} {c : Code} {b L : Nat} {xs : Nat → Int32} {D : va_G} {k : Nat → ClassId} {ad bd : Nat → Nat} {A : Nat → Prop} {cells slots : Nat} {Z : State → Prop} (hx : p.tables.exec = Jvm.exec) (hb : c.code = code) (hg : ∀ w ∈ Gw, w.before #[Value.ref b] s = true) (hml : c.maxLocals = 4) (hown : s.vm.findClass "SliceWhyLaw" = some m.cls) (hK : va_K D vwCl (tyL k) s) (hN : NstU s) (hA : ∀ q, s.heap.size ≤ q → A q) (hX : va_X b L xs s s.heap) (hbl : b < s.heap.size) (hbA : ¬ A b) (hL : L ≤ 3072) (hcs : cells ≤ 600000 ∧ slots ≤ 7302249) (hSt : Sta A s s.heap) {i : Nat} (hi : i + 6 ≤ L) {n t c9 wl : Nat} {V Q : St} (hR : Rel n t c9 wl V Q) {H : Heap} {locs : List Loc} {ls : Array Slot} (hh : Hd D A (wS k ad V ++ wQ k bd Q) s.heap H locs) (hl : lv_has ls 4 [(0, .ref b), (1, .ref (ad 0)), (2, .ref (bd 0)), (3, .int (nI i))]) (kk : ∀ (n t c9 wl : Nat) (V Q : St) (H : Heap) (locs : List Loc) (ls : Array Slot), Rel n t c9 wl V Q → Hd D A (wS k ad V ++ wQ k bd Q) s.heap H locs → lv_has ls 4 [(0, .ref b), (1, .ref (ad 0)), (2, .ref (bd 0)), (3, .int (nI i))] → W p l e room_1 s m #[Value.ref b] below meth c H locs cells slots Z (F0 m 788 ls [])) : W p l e room_1 s m #[Value.ref b] below meth c H locs cells slots Z (F0 m 357 ls []) := by
  have hv := hR.1.1
  have hpq := hR.1.2.1
  have hca := hR.1.2.2.1
  have hcq := hR.1.2.2.2
  have hvq : okV n (pq Q) := by rw [← hpq]; exact hv
  refine lv_aload_n hx hb dL_law_357 rfl (lv_at hl 1 rfl) ?_
  refine lv_aload_n hx hb dL_law_358 rfl (lv_at hl 0 rfl) ?_
  refine lv_iload_n hx hb dL_law_359 rfl (lv_at hl 3 rfl) ?_
  refine lv_iconst (v := 1) hx hb dL_law_360 (by decide) ?_
  refine lv_iadd hx hb dL_law_361 ?_
  refine topv (nI (i + 1)) (nI_add i 1) ?_
  refine sld hx hb hX hbl hbA hh (by omega) (by omega) dL_law_362 ?_
  refine lv_aload_n hx hb dL_law_363 rfl (lv_at hl 0 rfl) ?_
  refine lv_iload_n hx hb dL_law_364 rfl (lv_at hl 3 rfl) ?_
  refine lv_iconst (v := 2) hx hb dL_law_365 (by decide) ?_
  refine lv_iadd hx hb dL_law_366 ?_
  refine topv (nI (i + 2)) (nI_add i 2) ?_
  refine sld hx hb hX hbl hbA hh (by omega) (by omega) dL_law_367 ?_
  refine callWI (D := D) (wn := fun V1 => wS k ad V1 ++ wQ k bd Q) (wr := wQ k bd Q) (runV hx hb hg hown hml hl.1 ((c_X3_input l D k ad V (xs (i + 1)) (xs (i + 2))) H.size) [.int (xs (i + 1)), .int (xs (i + 2))] [] (preX (mapSome_sub hh.1 (0 :: 1 :: 2 :: 3 :: 4 :: 5 :: 6 :: 7 :: 8 :: 9 :: 10 :: 11 :: 12 :: 13 :: 14 :: 15 :: 16 :: 17 :: 18 :: 19 :: 20 :: 21 :: 22 :: 23 :: 24 :: 25 :: 26 :: 27 :: 28 :: 29 :: 30 :: 31 :: 32 :: 33 :: 34 :: 35 :: 36 :: 37 :: 38 :: 39 :: 40 :: 41 :: 42 :: 43 :: 44 :: 45 :: 46 :: 47 :: 48 :: 49 :: 50 :: 51 :: 52 :: 53 :: 54 :: 55 :: 56 :: 57 :: 58 :: 59 :: 60 :: []) rfl) (hh.2.1.sub (0 :: 1 :: 2 :: 3 :: 4 :: 5 :: 6 :: 7 :: 8 :: 9 :: 10 :: 11 :: 12 :: 13 :: 14 :: 15 :: 16 :: 17 :: 18 :: 19 :: 20 :: 21 :: 22 :: 23 :: 24 :: 25 :: 26 :: 27 :: 28 :: 29 :: 30 :: 31 :: 32 :: 33 :: 34 :: 35 :: 36 :: 37 :: 38 :: 39 :: 40 :: 41 :: 42 :: 43 :: 44 :: 45 :: 46 :: 47 :: 48 :: 49 :: 50 :: 51 :: 52 :: 53 :: 54 :: 55 :: 56 :: 57 :: 58 :: 59 :: 60 :: []) (by decide) rfl) hK hN xb0 x0) (va_recv hK hh.1 (ci := 3) (q0 := 0) rfl rfl) wd_268 wd_269 wd_270 wd_49 wd_271 lk_X3_input ⟨rfl, rfl⟩ ⟨by decide, by decide⟩ hcs rfl (Nat.le_of_ble_eq_true rfl) dL_law_368) hA hh (0 :: 1 :: 2 :: 3 :: 4 :: 5 :: 6 :: 7 :: 8 :: 9 :: 10 :: 11 :: 12 :: 13 :: 14 :: 15 :: 16 :: 17 :: 18 :: 19 :: 20 :: 21 :: 22 :: 23 :: 24 :: 25 :: 26 :: 27 :: 28 :: 29 :: 30 :: 31 :: 32 :: 33 :: 34 :: 35 :: 36 :: 37 :: 38 :: 39 :: 40 :: 41 :: 42 :: 43 :: 44 :: 45 :: 46 :: 47 :: 48 :: 49 :: 50 :: 51 :: 52 :: 53 :: 54 :: 55 :: 56 :: 57 :: 58 :: 59 :: 60 :: []) [61, 62, 63, 64, 65, 66, 67, 68, 69, 70, 71, 72, 73, 74, 75, 76, 77, 78, 79, 80, 81, 82, 83] (23 :: 24 :: 25 :: 26 :: 27 :: 28 :: 29 :: 30 :: 31 :: 32 :: 33 :: 34 :: 35 :: 36 :: 37 :: 38 :: 39 :: 40 :: 41 :: 42 :: 43 :: 44 :: 45 :: 46 :: 47 :: 48 :: 49 :: 50 :: 51 :: 52 :: 53 :: 54 :: 55 :: 56 :: 57 :: 58 :: 59 :: 60 :: 61 :: 62 :: 63 :: 64 :: 65 :: 66 :: 67 :: 68 :: 69 :: 70 :: 71 :: 72 :: 73 :: 74 :: 75 :: 76 :: 77 :: 78 :: 79 :: 80 :: 81 :: 82 :: 83 :: 0 :: 1 :: 2 :: 3 :: 4 :: 5 :: 6 :: 7 :: 8 :: 9 :: 10 :: 11 :: 12 :: 13 :: 14 :: 15 :: 16 :: 17 :: 18 :: 19 :: 20 :: 21 :: 22 :: []) rfl rfl (by decide) (by decide) (by decide) (fun _ => rfl) (fun r1 V1 H locs q1 hh => ?_)
  refine lv_aload_n hx hb dL_law_371 rfl (lv_at hl 2 rfl) ?_
  refine lv_aload_n hx hb dL_law_372 rfl (lv_at hl 0 rfl) ?_
  refine lv_iload_n hx hb dL_law_373 rfl (lv_at hl 3 rfl) ?_
  refine lv_iconst (v := 1) hx hb dL_law_374 (by decide) ?_
  refine lv_iadd hx hb dL_law_375 ?_
  refine topv (nI (i + 1)) (nI_add i 1) ?_
  refine sld hx hb hX hbl hbA hh (by omega) (by omega) dL_law_376 ?_
  refine lv_aload_n hx hb dL_law_377 rfl (lv_at hl 0 rfl) ?_
  refine lv_iload_n hx hb dL_law_378 rfl (lv_at hl 3 rfl) ?_
  refine lv_iconst (v := 2) hx hb dL_law_379 (by decide) ?_
  refine lv_iadd hx hb dL_law_380 ?_
  refine topv (nI (i + 2)) (nI_add i 2) ?_
  refine sld hx hb hX hbl hbA hh (by omega) (by omega) dL_law_381 ?_
  refine callWI (D := D) (wn := fun Q1 => wS k ad V1 ++ wQ k bd Q1) (wr := wS k ad V1) (runV hx hb hg hown hml hl.1 ((c_X4_input l D k bd Q (xs (i + 1)) (xs (i + 2))) H.size) [.int (xs (i + 1)), .int (xs (i + 2))] [.int r1] (preX (mapSome_sub hh.1 [61, 62, 63, 64, 65, 66, 67, 68, 69, 70, 71, 72, 73, 74, 75, 76, 77, 78, 79, 80, 81, 82, 83] rfl) (hh.2.1.sub [61, 62, 63, 64, 65, 66, 67, 68, 69, 70, 71, 72, 73, 74, 75, 76, 77, 78, 79, 80, 81, 82, 83] (by decide) rfl) hK hN xb0 x0) (va_recv hK hh.1 (ci := 4) (q0 := 61) rfl rfl) wd_698 wd_699 wd_700 wd_53 wd_701 lk_X4_input ⟨rfl, rfl⟩ ⟨by decide, by decide⟩ hcs rfl (Nat.le_of_ble_eq_true rfl) dL_law_382) hA hh [61, 62, 63, 64, 65, 66, 67, 68, 69, 70, 71, 72, 73, 74, 75, 76, 77, 78, 79, 80, 81, 82, 83] (0 :: 1 :: 2 :: 3 :: 4 :: 5 :: 6 :: 7 :: 8 :: 9 :: 10 :: 11 :: 12 :: 13 :: 14 :: 15 :: 16 :: 17 :: 18 :: 19 :: 20 :: 21 :: 22 :: 23 :: 24 :: 25 :: 26 :: 27 :: 28 :: 29 :: 30 :: 31 :: 32 :: 33 :: 34 :: 35 :: 36 :: 37 :: 38 :: 39 :: 40 :: 41 :: 42 :: 43 :: 44 :: 45 :: 46 :: 47 :: 48 :: 49 :: 50 :: 51 :: 52 :: 53 :: 54 :: 55 :: 56 :: 57 :: 58 :: 59 :: 60 :: []) (0 :: 1 :: 2 :: 3 :: 4 :: 5 :: 6 :: 7 :: 8 :: 9 :: 10 :: 11 :: 12 :: 13 :: 14 :: 15 :: 16 :: 17 :: 18 :: 19 :: 20 :: 21 :: 22 :: 23 :: 24 :: 25 :: 26 :: 27 :: 28 :: 29 :: 30 :: 31 :: 32 :: 33 :: 34 :: 35 :: 36 :: 37 :: 38 :: 39 :: 40 :: 41 :: 42 :: 43 :: 44 :: 45 :: 46 :: 47 :: 48 :: 49 :: 50 :: 51 :: 52 :: 53 :: 54 :: 55 :: 56 :: 57 :: 58 :: 59 :: 60 :: 61 :: 62 :: 63 :: 64 :: 65 :: 66 :: 67 :: 68 :: 69 :: 70 :: 71 :: 72 :: 73 :: 74 :: 75 :: 76 :: 77 :: 78 :: 79 :: 80 :: 81 :: 82 :: 83 :: []) rfl rfl (by decide) (by decide) (by decide) (fun _ => rfl) (fun r2 Q1 H locs q2 hh => ?_)
  obtain ⟨hE, hR1⟩ := op_input hR q1 q2
  refine lv_icmp_eq (tgt := 788) hx hb dL_law_385 (by decide) (fun c9 => ?_) (fun c9 => absurd hE c9)
  exact kk _ _ _ _ V1 Q1 H locs ls hR1 hh hl
set_option maxHeartbeats 4000000 in
set_option maxRecDepth 100000 in
theorem law_6 {p : Program} {l : Launch} {e : Env} {s : State} {m : MethodId} {below : List Frame} {meth : Method} {c : Code} {b L : Nat} {xs : Nat → Int32} {D : va_G} {k : Nat → ClassId} {ad bd : Nat → Nat} {A : Nat → Prop} {cells slots : Nat} {Z : State → Prop} (hx : p.tables.exec = Jvm.exec) (hb : c.code = code) (hg : ∀ w ∈ Gw, w.before #[Value.ref b] s = true) (hml : c.maxLocals = 4) (hown : s.vm.findClass "SliceWhyLaw" = some m.cls) (hK : va_K D vwCl (tyL k) s) (hN : NstU s) (hA : ∀ q, s.heap.size ≤ q → A q) (hX : va_X b L xs s s.heap) (hbl : b < s.heap.size) (hbA : ¬ A b) (hL : L ≤ 3072) (hcs : cells ≤ 600000 ∧ slots ≤ 7302249) (hSt : Sta A s s.heap) {i : Nat} (hi : i + 6 ≤ L) {n t c9 wl : Nat} {V Q : St} (hR : Rel n t c9 wl V Q) {H : Heap} {locs : List Loc} {ls : Array Slot} (hh : Hd D A (wS k ad V ++ wQ k bd Q) s.heap H locs) (hl : lv_has ls 4 [(0, .ref b), (1, .ref (ad 0)), (2, .ref (bd 0)), (3, .int (nI i))]) (kk : ∀ (n t c9 wl : Nat) (V Q : St) (H : Heap) (locs : List Loc) (ls : Array Slot), Rel n t c9 wl V Q → Hd D A (wS k ad V ++ wQ k bd Q) s.heap H locs → lv_has ls 4 [(0, .ref b), (1, .ref (ad 0)), (2, .ref (bd 0)), (3, .int (nI i))] → W p l e room_1 s m #[Value.ref b] below meth c H locs cells slots Z (F0 m 788 ls [])) : W p l e room_1 s m #[Value.ref b] below meth c H locs cells slots Z (F0 m 390 ls []) := by
  have hv := hR.1.1
  have hpq := hR.1.2.1
  have hca := hR.1.2.2.1
  have hcq := hR.1.2.2.2
  have hvq : okV n (pq Q) := by rw [← hpq]; exact hv
  refine lv_aload_n hx hb dL_law_390 rfl (lv_at hl 1 rfl) ?_
  refine lv_aload_n hx hb dL_law_391 rfl (lv_at hl 0 rfl) ?_
  refine lv_iload_n hx hb dL_law_392 rfl (lv_at hl 3 rfl) ?_
  refine lv_iconst (v := 1) hx hb dL_law_393 (by decide) ?_
  refine lv_iadd hx hb dL_law_394 ?_
  refine topv (nI (i + 1)) (nI_add i 1) ?_
  refine sld hx hb hX hbl hbA hh (by omega) (by omega) dL_law_395 ?_
  refine lv_aload_n hx hb dL_law_396 rfl (lv_at hl 0 rfl) ?_
  refine lv_iload_n hx hb dL_law_397 rfl (lv_at hl 3 rfl) ?_
  refine lv_iconst (v := 2) hx hb dL_law_398 (by decide) ?_
  refine lv_iadd hx hb dL_law_399 ?_
  refine topv (nI (i + 2)) (nI_add i 2) ?_
  refine sld hx hb hX hbl hbA hh (by omega) (by omega) dL_law_400 ?_
  refine callWI (D := D) (wn := fun V1 => wS k ad V1 ++ wQ k bd Q) (wr := wQ k bd Q) (runV hx hb hg hown hml hl.1 ((c_X3_run l D k ad V hv hca (xs (i + 1)) (xs (i + 2))) H.size) [.int (xs (i + 1)), .int (xs (i + 2))] [] (preX (mapSome_sub hh.1 (0 :: 1 :: 2 :: 3 :: 4 :: 5 :: 6 :: 7 :: 8 :: 9 :: 10 :: 11 :: 12 :: 13 :: 14 :: 15 :: 16 :: 17 :: 18 :: 19 :: 20 :: 21 :: 22 :: 23 :: 24 :: 25 :: 26 :: 27 :: 28 :: 29 :: 30 :: 31 :: 32 :: 33 :: 34 :: 35 :: 36 :: 37 :: 38 :: 39 :: 40 :: 41 :: 42 :: 43 :: 44 :: 45 :: 46 :: 47 :: 48 :: 49 :: 50 :: 51 :: 52 :: 53 :: 54 :: 55 :: 56 :: 57 :: 58 :: 59 :: 60 :: []) rfl) (hh.2.1.sub (0 :: 1 :: 2 :: 3 :: 4 :: 5 :: 6 :: 7 :: 8 :: 9 :: 10 :: 11 :: 12 :: 13 :: 14 :: 15 :: 16 :: 17 :: 18 :: 19 :: 20 :: 21 :: 22 :: 23 :: 24 :: 25 :: 26 :: 27 :: 28 :: 29 :: 30 :: 31 :: 32 :: 33 :: 34 :: 35 :: 36 :: 37 :: 38 :: 39 :: 40 :: 41 :: 42 :: 43 :: 44 :: 45 :: 46 :: 47 :: 48 :: 49 :: 50 :: 51 :: 52 :: 53 :: 54 :: 55 :: 56 :: 57 :: 58 :: 59 :: 60 :: []) (by decide) rfl) hK hN xb0 x0) (va_recv hK hh.1 (ci := 3) (q0 := 0) rfl rfl) wd_272 wd_273 wd_274 wd_49 wd_275 lk_X3_run ⟨rfl, rfl⟩ ⟨by decide, by decide⟩ hcs rfl (Nat.le_of_ble_eq_true rfl) dL_law_401) hA hh (0 :: 1 :: 2 :: 3 :: 4 :: 5 :: 6 :: 7 :: 8 :: 9 :: 10 :: 11 :: 12 :: 13 :: 14 :: 15 :: 16 :: 17 :: 18 :: 19 :: 20 :: 21 :: 22 :: 23 :: 24 :: 25 :: 26 :: 27 :: 28 :: 29 :: 30 :: 31 :: 32 :: 33 :: 34 :: 35 :: 36 :: 37 :: 38 :: 39 :: 40 :: 41 :: 42 :: 43 :: 44 :: 45 :: 46 :: 47 :: 48 :: 49 :: 50 :: 51 :: 52 :: 53 :: 54 :: 55 :: 56 :: 57 :: 58 :: 59 :: 60 :: []) [61, 62, 63, 64, 65, 66, 67, 68, 69, 70, 71, 72, 73, 74, 75, 76, 77, 78, 79, 80, 81, 82, 83] (23 :: 24 :: 25 :: 26 :: 27 :: 28 :: 29 :: 30 :: 31 :: 32 :: 33 :: 34 :: 35 :: 36 :: 37 :: 38 :: 39 :: 40 :: 41 :: 42 :: 43 :: 44 :: 45 :: 46 :: 47 :: 48 :: 49 :: 50 :: 51 :: 52 :: 53 :: 54 :: 55 :: 56 :: 57 :: 58 :: 59 :: 60 :: 61 :: 62 :: 63 :: 64 :: 65 :: 66 :: 67 :: 68 :: 69 :: 70 :: 71 :: 72 :: 73 :: 74 :: 75 :: 76 :: 77 :: 78 :: 79 :: 80 :: 81 :: 82 :: 83 :: 0 :: 1 :: 2 :: 3 :: 4 :: 5 :: 6 :: 7 :: 8 :: 9 :: 10 :: 11 :: 12 :: 13 :: 14 :: 15 :: 16 :: 17 :: 18 :: 19 :: 20 :: 21 :: 22 :: []) rfl rfl (by decide) (by decide) (by decide) (fun _ => rfl) (fun r1 V1 H locs q1 hh => ?_)
  refine lv_aload_n hx hb dL_law_404 rfl (lv_at hl 2 rfl) ?_
  refine lv_aload_n hx hb dL_law_405 rfl (lv_at hl 0 rfl) ?_
  refine lv_iload_n hx hb dL_law_406 rfl (lv_at hl 3 rfl) ?_
  refine lv_iconst (v := 1) hx hb dL_law_407 (by decide) ?_
  refine lv_iadd hx hb dL_law_408 ?_
  refine topv (nI (i + 1)) (nI_add i 1) ?_
  refine sld hx hb hX hbl hbA hh (by omega) (by omega) dL_law_409 ?_
  refine lv_aload_n hx hb dL_law_410 rfl (lv_at hl 0 rfl) ?_
  refine lv_iload_n hx hb dL_law_411 rfl (lv_at hl 3 rfl) ?_
  refine lv_iconst (v := 2) hx hb dL_law_412 (by decide) ?_
  refine lv_iadd hx hb dL_law_413 ?_
  refine topv (nI (i + 2)) (nI_add i 2) ?_
  refine sld hx hb hX hbl hbA hh (by omega) (by omega) dL_law_414 ?_
  refine callWI (D := D) (wn := fun Q1 => wS k ad V1 ++ wQ k bd Q1) (wr := wS k ad V1) (runV hx hb hg hown hml hl.1 ((c_X4_run l D k bd Q hvq hcq (xs (i + 1)) (xs (i + 2))) H.size) [.int (xs (i + 1)), .int (xs (i + 2))] [.int r1] (preX (mapSome_sub hh.1 [61, 62, 63, 64, 65, 66, 67, 68, 69, 70, 71, 72, 73, 74, 75, 76, 77, 78, 79, 80, 81, 82, 83] rfl) (hh.2.1.sub [61, 62, 63, 64, 65, 66, 67, 68, 69, 70, 71, 72, 73, 74, 75, 76, 77, 78, 79, 80, 81, 82, 83] (by decide) rfl) hK hN xb0 x0) (va_recv hK hh.1 (ci := 4) (q0 := 61) rfl rfl) wd_796 wd_797 wd_798 wd_53 wd_799 lk_X4_run ⟨rfl, rfl⟩ ⟨by decide, by decide⟩ hcs rfl (Nat.le_of_ble_eq_true rfl) dL_law_415) hA hh [61, 62, 63, 64, 65, 66, 67, 68, 69, 70, 71, 72, 73, 74, 75, 76, 77, 78, 79, 80, 81, 82, 83] (0 :: 1 :: 2 :: 3 :: 4 :: 5 :: 6 :: 7 :: 8 :: 9 :: 10 :: 11 :: 12 :: 13 :: 14 :: 15 :: 16 :: 17 :: 18 :: 19 :: 20 :: 21 :: 22 :: 23 :: 24 :: 25 :: 26 :: 27 :: 28 :: 29 :: 30 :: 31 :: 32 :: 33 :: 34 :: 35 :: 36 :: 37 :: 38 :: 39 :: 40 :: 41 :: 42 :: 43 :: 44 :: 45 :: 46 :: 47 :: 48 :: 49 :: 50 :: 51 :: 52 :: 53 :: 54 :: 55 :: 56 :: 57 :: 58 :: 59 :: 60 :: []) (0 :: 1 :: 2 :: 3 :: 4 :: 5 :: 6 :: 7 :: 8 :: 9 :: 10 :: 11 :: 12 :: 13 :: 14 :: 15 :: 16 :: 17 :: 18 :: 19 :: 20 :: 21 :: 22 :: 23 :: 24 :: 25 :: 26 :: 27 :: 28 :: 29 :: 30 :: 31 :: 32 :: 33 :: 34 :: 35 :: 36 :: 37 :: 38 :: 39 :: 40 :: 41 :: 42 :: 43 :: 44 :: 45 :: 46 :: 47 :: 48 :: 49 :: 50 :: 51 :: 52 :: 53 :: 54 :: 55 :: 56 :: 57 :: 58 :: 59 :: 60 :: 61 :: 62 :: 63 :: 64 :: 65 :: 66 :: 67 :: 68 :: 69 :: 70 :: 71 :: 72 :: 73 :: 74 :: 75 :: 76 :: 77 :: 78 :: 79 :: 80 :: 81 :: 82 :: 83 :: []) rfl rfl (by decide) (by decide) (by decide) (fun _ => rfl) (fun r2 Q1 H locs q2 hh => ?_)
  obtain ⟨hE, n1, hR1⟩ := op_run hR q1 q2
  refine lv_icmp_eq (tgt := 788) hx hb dL_law_418 (by decide) (fun c9 => ?_) (fun c9 => absurd hE c9)
  exact kk _ _ _ _ V1 Q1 H locs ls hR1 hh hl
set_option maxHeartbeats 4000000 in
set_option maxRecDepth 100000 in
theorem law_7 {p : Program} {l : Launch} {e : Env} {s : State} {m : MethodId} {below : List Frame} {meth : Method} {c : Code} {b L : Nat} {xs : Nat → Int32} {D : va_G} {k : Nat → ClassId} {ad bd : Nat → Nat} {A : Nat → Prop} {cells slots : Nat} {Z : State → Prop} (hx : p.tables.exec = Jvm.exec) (hb : c.code = code) (hg : ∀ w ∈ Gw, w.before #[Value.ref b] s = true) (hml : c.maxLocals = 4) (hown : s.vm.findClass "SliceWhyLaw" = some m.cls) (hK : va_K D vwCl (tyL k) s) (hN : NstU s) (hA : ∀ q, s.heap.size ≤ q → A q) (hX : va_X b L xs s s.heap) (hbl : b < s.heap.size) (hbA : ¬ A b) (hL : L ≤ 3072) (hcs : cells ≤ 600000 ∧ slots ≤ 7302249) (hSt : Sta A s s.heap) {i : Nat} (hi : i + 6 ≤ L) {n t c9 wl : Nat} {V Q : St} (hR : Rel n t c9 wl V Q) {H : Heap} {locs : List Loc} {ls : Array Slot} (hh : Hd D A (wS k ad V ++ wQ k bd Q) s.heap H locs) (hl : lv_has ls 4 [(0, .ref b), (1, .ref (ad 0)), (2, .ref (bd 0)), (3, .int (nI i))]) (kk : ∀ (n t c9 wl : Nat) (V Q : St) (H : Heap) (locs : List Loc) (ls : Array Slot), Rel n t c9 wl V Q → Hd D A (wS k ad V ++ wQ k bd Q) s.heap H locs → lv_has ls 4 [(0, .ref b), (1, .ref (ad 0)), (2, .ref (bd 0)), (3, .int (nI i))] → W p l e room_1 s m #[Value.ref b] below meth c H locs cells slots Z (F0 m 788 ls [])) : W p l e room_1 s m #[Value.ref b] below meth c H locs cells slots Z (F0 m 423 ls []) := by
  have hv := hR.1.1
  have hpq := hR.1.2.1
  have hca := hR.1.2.2.1
  have hcq := hR.1.2.2.2
  have hvq : okV n (pq Q) := by rw [← hpq]; exact hv
  refine lv_aload_n hx hb dL_law_423 rfl (lv_at hl 1 rfl) ?_
  refine callR (runV hx hb hg hown hml hl.1 (c_X3_seen l D k ad V) [] [] (preR (mapSome_sub hh.1 (0 :: 1 :: 2 :: 3 :: 4 :: 5 :: 6 :: 7 :: 8 :: 9 :: 10 :: 11 :: 12 :: 13 :: 14 :: 15 :: 16 :: 17 :: 18 :: 19 :: 20 :: 21 :: 22 :: 23 :: 24 :: 25 :: 26 :: 27 :: 28 :: 29 :: 30 :: 31 :: 32 :: 33 :: 34 :: 35 :: 36 :: 37 :: 38 :: 39 :: 40 :: 41 :: 42 :: 43 :: 44 :: 45 :: 46 :: 47 :: 48 :: 49 :: 50 :: 51 :: 52 :: 53 :: 54 :: 55 :: 56 :: 57 :: 58 :: 59 :: 60 :: []) rfl) hK hN xb0 x0) (va_recv hK hh.1 (ci := 3) (q0 := 0) rfl rfl) wd_421 wd_422 wd_423 wd_49 wd_424 lk_X3_seen ⟨rfl, rfl⟩ ⟨by decide, by decide⟩ hcs rfl (Nat.le_of_ble_eq_true rfl) dL_law_424) (fun r1 q1 => ?_)
  refine lv_aload_n hx hb dL_law_427 rfl (lv_at hl 2 rfl) ?_
  refine callR (runV hx hb hg hown hml hl.1 (c_X4_seen l D k bd Q) [] [.int r1] (preR (mapSome_sub hh.1 [61, 62, 63, 64, 65, 66, 67, 68, 69, 70, 71, 72, 73, 74, 75, 76, 77, 78, 79, 80, 81, 82, 83] rfl) hK hN xb0 x0) (va_recv hK hh.1 (ci := 4) (q0 := 61) rfl rfl) wd_818 wd_819 wd_820 wd_53 wd_821 lk_X4_seen ⟨rfl, rfl⟩ ⟨by decide, by decide⟩ hcs rfl (Nat.le_of_ble_eq_true rfl) dL_law_428) (fun r2 q2 => ?_)
  have hE := op_seen hR q1 q2
  have hR1 := hR
  refine lv_icmp_eq (tgt := 788) hx hb dL_law_431 (by decide) (fun c9 => ?_) (fun c9 => absurd hE c9)
  exact kk _ _ _ _ V Q H locs ls hR1 hh hl
set_option maxHeartbeats 4000000 in
set_option maxRecDepth 100000 in
theorem law_8 {p : Program} {l : Launch} {e : Env} {s : State} {m : MethodId} {below : List Frame} {meth : Method} {c : Code} {b L : Nat} {xs : Nat → Int32} {D : va_G} {k : Nat → ClassId} {ad bd : Nat → Nat} {A : Nat → Prop} {cells slots : Nat} {Z : State → Prop} (hx : p.tables.exec = Jvm.exec) (hb : c.code = code) (hg : ∀ w ∈ Gw, w.before #[Value.ref b] s = true) (hml : c.maxLocals = 4) (hown : s.vm.findClass "SliceWhyLaw" = some m.cls) (hK : va_K D vwCl (tyL k) s) (hN : NstU s) (hA : ∀ q, s.heap.size ≤ q → A q) (hX : va_X b L xs s s.heap) (hbl : b < s.heap.size) (hbA : ¬ A b) (hL : L ≤ 3072) (hcs : cells ≤ 600000 ∧ slots ≤ 7302249) (hSt : Sta A s s.heap) {i : Nat} (hi : i + 6 ≤ L) {n t c9 wl : Nat} {V Q : St} (hR : Rel n t c9 wl V Q) {H : Heap} {locs : List Loc} {ls : Array Slot} (hh : Hd D A (wS k ad V ++ wQ k bd Q) s.heap H locs) (hl : lv_has ls 4 [(0, .ref b), (1, .ref (ad 0)), (2, .ref (bd 0)), (3, .int (nI i))]) (kk : ∀ (n t c9 wl : Nat) (V Q : St) (H : Heap) (locs : List Loc) (ls : Array Slot), Rel n t c9 wl V Q → Hd D A (wS k ad V ++ wQ k bd Q) s.heap H locs → lv_has ls 4 [(0, .ref b), (1, .ref (ad 0)), (2, .ref (bd 0)), (3, .int (nI i))] → W p l e room_1 s m #[Value.ref b] below meth c H locs cells slots Z (F0 m 788 ls [])) : W p l e room_1 s m #[Value.ref b] below meth c H locs cells slots Z (F0 m 436 ls []) := by
  have hv := hR.1.1
  have hpq := hR.1.2.1
  have hca := hR.1.2.2.1
  have hcq := hR.1.2.2.2
  have hvq : okV n (pq Q) := by rw [← hpq]; exact hv
  refine lv_aload_n hx hb dL_law_436 rfl (lv_at hl 1 rfl) ?_
  refine lv_aload_n hx hb dL_law_437 rfl (lv_at hl 0 rfl) ?_
  refine lv_iload_n hx hb dL_law_438 rfl (lv_at hl 3 rfl) ?_
  refine lv_iconst (v := 1) hx hb dL_law_439 (by decide) ?_
  refine lv_iadd hx hb dL_law_440 ?_
  refine topv (nI (i + 1)) (nI_add i 1) ?_
  refine sld hx hb hX hbl hbA hh (by omega) (by omega) dL_law_441 ?_
  refine callR (runV hx hb hg hown hml hl.1 (c_X3_saw l D k ad V hR.2.2.2.2.1.1 hR.2.2.2.2.1.2.2.1 (xs (i + 1))) [.int (xs (i + 1))] [] (preR (mapSome_sub hh.1 (0 :: 1 :: 2 :: 3 :: 4 :: 5 :: 6 :: 7 :: 8 :: 9 :: 10 :: 11 :: 12 :: 13 :: 14 :: 15 :: 16 :: 17 :: 18 :: 19 :: 20 :: 21 :: 22 :: 23 :: 24 :: 25 :: 26 :: 27 :: 28 :: 29 :: 30 :: 31 :: 32 :: 33 :: 34 :: 35 :: 36 :: 37 :: 38 :: 39 :: 40 :: 41 :: 42 :: 43 :: 44 :: 45 :: 46 :: 47 :: 48 :: 49 :: 50 :: 51 :: 52 :: 53 :: 54 :: 55 :: 56 :: 57 :: 58 :: 59 :: 60 :: []) rfl) hK hN xb0 x0) (va_recv hK hh.1 (ci := 3) (q0 := 0) rfl rfl) wd_425 wd_426 wd_427 wd_49 wd_428 lk_X3_saw ⟨rfl, rfl⟩ ⟨by decide, by decide⟩ hcs rfl (Nat.le_of_ble_eq_true rfl) dL_law_442) (fun r1 q1 => ?_)
  refine lv_aload_n hx hb dL_law_445 rfl (lv_at hl 2 rfl) ?_
  refine lv_aload_n hx hb dL_law_446 rfl (lv_at hl 0 rfl) ?_
  refine lv_iload_n hx hb dL_law_447 rfl (lv_at hl 3 rfl) ?_
  refine lv_iconst (v := 1) hx hb dL_law_448 (by decide) ?_
  refine lv_iadd hx hb dL_law_449 ?_
  refine topv (nI (i + 1)) (nI_add i 1) ?_
  refine sld hx hb hX hbl hbA hh (by omega) (by omega) dL_law_450 ?_
  refine callR (runV hx hb hg hown hml hl.1 (c_X4_saw l D k bd Q hR.2.2.2.2.1.2.1 hR.2.2.2.2.1.2.2.1 (xs (i + 1))) [.int (xs (i + 1))] [.int r1] (preR (mapSome_sub hh.1 [61, 62, 63, 64, 65, 66, 67, 68, 69, 70, 71, 72, 73, 74, 75, 76, 77, 78, 79, 80, 81, 82, 83] rfl) hK hN xb0 x0) (va_recv hK hh.1 (ci := 4) (q0 := 61) rfl rfl) wd_822 wd_823 wd_824 wd_53 wd_825 lk_X4_saw ⟨rfl, rfl⟩ ⟨by decide, by decide⟩ hcs rfl (Nat.le_of_ble_eq_true rfl) dL_law_451) (fun r2 q2 => ?_)
  have hE := op_saw hR q1 q2
  have hR1 := hR
  refine lv_icmp_eq (tgt := 788) hx hb dL_law_454 (by decide) (fun c9 => ?_) (fun c9 => absurd hE c9)
  exact kk _ _ _ _ V Q H locs ls hR1 hh hl
set_option maxHeartbeats 4000000 in
set_option maxRecDepth 100000 in
theorem law_9 {p : Program} {l : Launch} {e : Env} {s : State} {m : MethodId} {below : List Frame} {meth : Method} {c : Code} {b L : Nat} {xs : Nat → Int32} {D : va_G} {k : Nat → ClassId} {ad bd : Nat → Nat} {A : Nat → Prop} {cells slots : Nat} {Z : State → Prop} (hx : p.tables.exec = Jvm.exec) (hb : c.code = code) (hg : ∀ w ∈ Gw, w.before #[Value.ref b] s = true) (hml : c.maxLocals = 4) (hown : s.vm.findClass "SliceWhyLaw" = some m.cls) (hK : va_K D vwCl (tyL k) s) (hN : NstU s) (hA : ∀ q, s.heap.size ≤ q → A q) (hX : va_X b L xs s s.heap) (hbl : b < s.heap.size) (hbA : ¬ A b) (hL : L ≤ 3072) (hcs : cells ≤ 600000 ∧ slots ≤ 7302249) (hSt : Sta A s s.heap) {i : Nat} (hi : i + 6 ≤ L) {n t c9 wl : Nat} {V Q : St} (hR : Rel n t c9 wl V Q) {H : Heap} {locs : List Loc} {ls : Array Slot} (hh : Hd D A (wS k ad V ++ wQ k bd Q) s.heap H locs) (hl : lv_has ls 4 [(0, .ref b), (1, .ref (ad 0)), (2, .ref (bd 0)), (3, .int (nI i))]) (kk : ∀ (n t c9 wl : Nat) (V Q : St) (H : Heap) (locs : List Loc) (ls : Array Slot), Rel n t c9 wl V Q → Hd D A (wS k ad V ++ wQ k bd Q) s.heap H locs → lv_has ls 4 [(0, .ref b), (1, .ref (ad 0)), (2, .ref (bd 0)), (3, .int (nI i))] → W p l e room_1 s m #[Value.ref b] below meth c H locs cells slots Z (F0 m 788 ls [])) : W p l e room_1 s m #[Value.ref b] below meth c H locs cells slots Z (F0 m 459 ls []) := by
  have hv := hR.1.1
  have hpq := hR.1.2.1
  have hca := hR.1.2.2.1
  have hcq := hR.1.2.2.2
  have hvq : okV n (pq Q) := by rw [← hpq]; exact hv
  refine lv_aload_n hx hb dL_law_459 rfl (lv_at hl 1 rfl) ?_
  refine lv_aload_n hx hb dL_law_460 rfl (lv_at hl 0 rfl) ?_
  refine lv_iload_n hx hb dL_law_461 rfl (lv_at hl 3 rfl) ?_
  refine lv_iconst (v := 1) hx hb dL_law_462 (by decide) ?_
  refine lv_iadd hx hb dL_law_463 ?_
  refine topv (nI (i + 1)) (nI_add i 1) ?_
  refine sld hx hb hX hbl hbA hh (by omega) (by omega) dL_law_464 ?_
  refine callR (runV hx hb hg hown hml hl.1 (c_X3_left l D k ad V (xs (i + 1))) [.int (xs (i + 1))] [] (preR (mapSome_sub hh.1 (0 :: 1 :: 2 :: 3 :: 4 :: 5 :: 6 :: 7 :: 8 :: 9 :: 10 :: 11 :: 12 :: 13 :: 14 :: 15 :: 16 :: 17 :: 18 :: 19 :: 20 :: 21 :: 22 :: 23 :: 24 :: 25 :: 26 :: 27 :: 28 :: 29 :: 30 :: 31 :: 32 :: 33 :: 34 :: 35 :: 36 :: 37 :: 38 :: 39 :: 40 :: 41 :: 42 :: 43 :: 44 :: 45 :: 46 :: 47 :: 48 :: 49 :: 50 :: 51 :: 52 :: 53 :: 54 :: 55 :: 56 :: 57 :: 58 :: 59 :: 60 :: []) rfl) hK hN xb0 x0) (va_recv hK hh.1 (ci := 3) (q0 := 0) rfl rfl) wd_429 wd_430 wd_431 wd_49 wd_432 lk_X3_left ⟨rfl, rfl⟩ ⟨by decide, by decide⟩ hcs rfl (Nat.le_of_ble_eq_true rfl) dL_law_465) (fun r1 q1 => ?_)
  refine lv_aload_n hx hb dL_law_468 rfl (lv_at hl 2 rfl) ?_
  refine lv_aload_n hx hb dL_law_469 rfl (lv_at hl 0 rfl) ?_
  refine lv_iload_n hx hb dL_law_470 rfl (lv_at hl 3 rfl) ?_
  refine lv_iconst (v := 1) hx hb dL_law_471 (by decide) ?_
  refine lv_iadd hx hb dL_law_472 ?_
  refine topv (nI (i + 1)) (nI_add i 1) ?_
  refine sld hx hb hX hbl hbA hh (by omega) (by omega) dL_law_473 ?_
  refine callR (runV hx hb hg hown hml hl.1 (c_X4_left l D k bd Q (xs (i + 1))) [.int (xs (i + 1))] [.int r1] (preR (mapSome_sub hh.1 [61, 62, 63, 64, 65, 66, 67, 68, 69, 70, 71, 72, 73, 74, 75, 76, 77, 78, 79, 80, 81, 82, 83] rfl) hK hN xb0 x0) (va_recv hK hh.1 (ci := 4) (q0 := 61) rfl rfl) wd_826 wd_827 wd_828 wd_53 wd_829 lk_X4_left ⟨rfl, rfl⟩ ⟨by decide, by decide⟩ hcs rfl (Nat.le_of_ble_eq_true rfl) dL_law_474) (fun r2 q2 => ?_)
  have hE := op_left hR q1 q2
  have hR1 := hR
  refine lv_icmp_eq (tgt := 788) hx hb dL_law_477 (by decide) (fun c9 => ?_) (fun c9 => absurd hE c9)
  exact kk _ _ _ _ V Q H locs ls hR1 hh hl
set_option maxHeartbeats 4000000 in
set_option maxRecDepth 100000 in
theorem law_10 {p : Program} {l : Launch} {e : Env} {s : State} {m : MethodId} {below : List Frame} {meth : Method} {c : Code} {b L : Nat} {xs : Nat → Int32} {D : va_G} {k : Nat → ClassId} {ad bd : Nat → Nat} {A : Nat → Prop} {cells slots : Nat} {Z : State → Prop} (hx : p.tables.exec = Jvm.exec) (hb : c.code = code) (hg : ∀ w ∈ Gw, w.before #[Value.ref b] s = true) (hml : c.maxLocals = 4) (hown : s.vm.findClass "SliceWhyLaw" = some m.cls) (hK : va_K D vwCl (tyL k) s) (hN : NstU s) (hA : ∀ q, s.heap.size ≤ q → A q) (hX : va_X b L xs s s.heap) (hbl : b < s.heap.size) (hbA : ¬ A b) (hL : L ≤ 3072) (hcs : cells ≤ 600000 ∧ slots ≤ 7302249) (hSt : Sta A s s.heap) {i : Nat} (hi : i + 6 ≤ L) {n t c9 wl : Nat} {V Q : St} (hR : Rel n t c9 wl V Q) {H : Heap} {locs : List Loc} {ls : Array Slot} (hh : Hd D A (wS k ad V ++ wQ k bd Q) s.heap H locs) (hl : lv_has ls 4 [(0, .ref b), (1, .ref (ad 0)), (2, .ref (bd 0)), (3, .int (nI i))]) (kk : ∀ (n t c9 wl : Nat) (V Q : St) (H : Heap) (locs : List Loc) (ls : Array Slot), Rel n t c9 wl V Q → Hd D A (wS k ad V ++ wQ k bd Q) s.heap H locs → lv_has ls 4 [(0, .ref b), (1, .ref (ad 0)), (2, .ref (bd 0)), (3, .int (nI i))] → W p l e room_1 s m #[Value.ref b] below meth c H locs cells slots Z (F0 m 788 ls [])) : W p l e room_1 s m #[Value.ref b] below meth c H locs cells slots Z (F0 m 482 ls []) := by
  have hv := hR.1.1
  have hpq := hR.1.2.1
  have hca := hR.1.2.2.1
  have hcq := hR.1.2.2.2
  have hvq : okV n (pq Q) := by rw [← hpq]; exact hv
  refine lv_aload_n hx hb dL_law_482 rfl (lv_at hl 1 rfl) ?_
  refine lv_aload_n hx hb dL_law_483 rfl (lv_at hl 0 rfl) ?_
  refine lv_iload_n hx hb dL_law_484 rfl (lv_at hl 3 rfl) ?_
  refine lv_iconst (v := 1) hx hb dL_law_485 (by decide) ?_
  refine lv_iadd hx hb dL_law_486 ?_
  refine topv (nI (i + 1)) (nI_add i 1) ?_
  refine sld hx hb hX hbl hbA hh (by omega) (by omega) dL_law_487 ?_
  refine lv_aload_n hx hb dL_law_488 rfl (lv_at hl 0 rfl) ?_
  refine lv_iload_n hx hb dL_law_489 rfl (lv_at hl 3 rfl) ?_
  refine lv_iconst (v := 2) hx hb dL_law_490 (by decide) ?_
  refine lv_iadd hx hb dL_law_491 ?_
  refine topv (nI (i + 2)) (nI_add i 2) ?_
  refine sld hx hb hX hbl hbA hh (by omega) (by omega) dL_law_492 ?_
  refine callWI (D := D) (wn := fun V1 => wS k ad V1 ++ wQ k bd Q) (wr := wQ k bd Q) (runV hx hb hg hown hml hl.1 ((c_X3_slice l D k ad V hv hca (xs (i + 1)) (xs (i + 2))) H.size) [.int (xs (i + 1)), .int (xs (i + 2))] [] (preX (mapSome_sub hh.1 (0 :: 1 :: 2 :: 3 :: 4 :: 5 :: 6 :: 7 :: 8 :: 9 :: 10 :: 11 :: 12 :: 13 :: 14 :: 15 :: 16 :: 17 :: 18 :: 19 :: 20 :: 21 :: 22 :: 23 :: 24 :: 25 :: 26 :: 27 :: 28 :: 29 :: 30 :: 31 :: 32 :: 33 :: 34 :: 35 :: 36 :: 37 :: 38 :: 39 :: 40 :: 41 :: 42 :: 43 :: 44 :: 45 :: 46 :: 47 :: 48 :: 49 :: 50 :: 51 :: 52 :: 53 :: 54 :: 55 :: 56 :: 57 :: 58 :: 59 :: 60 :: []) rfl) (hh.2.1.sub (0 :: 1 :: 2 :: 3 :: 4 :: 5 :: 6 :: 7 :: 8 :: 9 :: 10 :: 11 :: 12 :: 13 :: 14 :: 15 :: 16 :: 17 :: 18 :: 19 :: 20 :: 21 :: 22 :: 23 :: 24 :: 25 :: 26 :: 27 :: 28 :: 29 :: 30 :: 31 :: 32 :: 33 :: 34 :: 35 :: 36 :: 37 :: 38 :: 39 :: 40 :: 41 :: 42 :: 43 :: 44 :: 45 :: 46 :: 47 :: 48 :: 49 :: 50 :: 51 :: 52 :: 53 :: 54 :: 55 :: 56 :: 57 :: 58 :: 59 :: 60 :: []) (by decide) rfl) hK hN xb0 x0) (va_recv hK hh.1 (ci := 3) (q0 := 0) rfl rfl) wd_433 wd_434 wd_435 wd_49 wd_436 lk_X3_slice ⟨rfl, rfl⟩ ⟨by decide, by decide⟩ hcs rfl (Nat.le_of_ble_eq_true rfl) dL_law_493) hA hh (0 :: 1 :: 2 :: 3 :: 4 :: 5 :: 6 :: 7 :: 8 :: 9 :: 10 :: 11 :: 12 :: 13 :: 14 :: 15 :: 16 :: 17 :: 18 :: 19 :: 20 :: 21 :: 22 :: 23 :: 24 :: 25 :: 26 :: 27 :: 28 :: 29 :: 30 :: 31 :: 32 :: 33 :: 34 :: 35 :: 36 :: 37 :: 38 :: 39 :: 40 :: 41 :: 42 :: 43 :: 44 :: 45 :: 46 :: 47 :: 48 :: 49 :: 50 :: 51 :: 52 :: 53 :: 54 :: 55 :: 56 :: 57 :: 58 :: 59 :: 60 :: []) [61, 62, 63, 64, 65, 66, 67, 68, 69, 70, 71, 72, 73, 74, 75, 76, 77, 78, 79, 80, 81, 82, 83] (23 :: 24 :: 25 :: 26 :: 27 :: 28 :: 29 :: 30 :: 31 :: 32 :: 33 :: 34 :: 35 :: 36 :: 37 :: 38 :: 39 :: 40 :: 41 :: 42 :: 43 :: 44 :: 45 :: 46 :: 47 :: 48 :: 49 :: 50 :: 51 :: 52 :: 53 :: 54 :: 55 :: 56 :: 57 :: 58 :: 59 :: 60 :: 61 :: 62 :: 63 :: 64 :: 65 :: 66 :: 67 :: 68 :: 69 :: 70 :: 71 :: 72 :: 73 :: 74 :: 75 :: 76 :: 77 :: 78 :: 79 :: 80 :: 81 :: 82 :: 83 :: 0 :: 1 :: 2 :: 3 :: 4 :: 5 :: 6 :: 7 :: 8 :: 9 :: 10 :: 11 :: 12 :: 13 :: 14 :: 15 :: 16 :: 17 :: 18 :: 19 :: 20 :: 21 :: 22 :: []) rfl rfl (by decide) (by decide) (by decide) (fun _ => rfl) (fun r1 V1 H locs q1 hh => ?_)
  refine lv_aload_n hx hb dL_law_496 rfl (lv_at hl 2 rfl) ?_
  refine lv_aload_n hx hb dL_law_497 rfl (lv_at hl 0 rfl) ?_
  refine lv_iload_n hx hb dL_law_498 rfl (lv_at hl 3 rfl) ?_
  refine lv_iconst (v := 1) hx hb dL_law_499 (by decide) ?_
  refine lv_iadd hx hb dL_law_500 ?_
  refine topv (nI (i + 1)) (nI_add i 1) ?_
  refine sld hx hb hX hbl hbA hh (by omega) (by omega) dL_law_501 ?_
  refine lv_aload_n hx hb dL_law_502 rfl (lv_at hl 0 rfl) ?_
  refine lv_iload_n hx hb dL_law_503 rfl (lv_at hl 3 rfl) ?_
  refine lv_iconst (v := 2) hx hb dL_law_504 (by decide) ?_
  refine lv_iadd hx hb dL_law_505 ?_
  refine topv (nI (i + 2)) (nI_add i 2) ?_
  refine sld hx hb hX hbl hbA hh (by omega) (by omega) dL_law_506 ?_
  refine callWI (D := D) (wn := fun Q1 => wS k ad V1 ++ wQ k bd Q1) (wr := wS k ad V1) (runV hx hb hg hown hml hl.1 ((c_X4_slice l D k bd Q hvq hcq (xs (i + 1)) (xs (i + 2))) H.size) [.int (xs (i + 1)), .int (xs (i + 2))] [.int r1] (preX (mapSome_sub hh.1 [61, 62, 63, 64, 65, 66, 67, 68, 69, 70, 71, 72, 73, 74, 75, 76, 77, 78, 79, 80, 81, 82, 83] rfl) (hh.2.1.sub [61, 62, 63, 64, 65, 66, 67, 68, 69, 70, 71, 72, 73, 74, 75, 76, 77, 78, 79, 80, 81, 82, 83] (by decide) rfl) hK hN xb0 x0) (va_recv hK hh.1 (ci := 4) (q0 := 61) rfl rfl) wd_727 wd_728 wd_729 wd_53 wd_730 lk_X4_slice ⟨rfl, rfl⟩ ⟨by decide, by decide⟩ hcs rfl (Nat.le_of_ble_eq_true rfl) dL_law_507) hA hh [61, 62, 63, 64, 65, 66, 67, 68, 69, 70, 71, 72, 73, 74, 75, 76, 77, 78, 79, 80, 81, 82, 83] (0 :: 1 :: 2 :: 3 :: 4 :: 5 :: 6 :: 7 :: 8 :: 9 :: 10 :: 11 :: 12 :: 13 :: 14 :: 15 :: 16 :: 17 :: 18 :: 19 :: 20 :: 21 :: 22 :: 23 :: 24 :: 25 :: 26 :: 27 :: 28 :: 29 :: 30 :: 31 :: 32 :: 33 :: 34 :: 35 :: 36 :: 37 :: 38 :: 39 :: 40 :: 41 :: 42 :: 43 :: 44 :: 45 :: 46 :: 47 :: 48 :: 49 :: 50 :: 51 :: 52 :: 53 :: 54 :: 55 :: 56 :: 57 :: 58 :: 59 :: 60 :: []) (0 :: 1 :: 2 :: 3 :: 4 :: 5 :: 6 :: 7 :: 8 :: 9 :: 10 :: 11 :: 12 :: 13 :: 14 :: 15 :: 16 :: 17 :: 18 :: 19 :: 20 :: 21 :: 22 :: 23 :: 24 :: 25 :: 26 :: 27 :: 28 :: 29 :: 30 :: 31 :: 32 :: 33 :: 34 :: 35 :: 36 :: 37 :: 38 :: 39 :: 40 :: 41 :: 42 :: 43 :: 44 :: 45 :: 46 :: 47 :: 48 :: 49 :: 50 :: 51 :: 52 :: 53 :: 54 :: 55 :: 56 :: 57 :: 58 :: 59 :: 60 :: 61 :: 62 :: 63 :: 64 :: 65 :: 66 :: 67 :: 68 :: 69 :: 70 :: 71 :: 72 :: 73 :: 74 :: 75 :: 76 :: 77 :: 78 :: 79 :: 80 :: 81 :: 82 :: 83 :: []) rfl rfl (by decide) (by decide) (by decide) (fun _ => rfl) (fun r2 Q1 H locs q2 hh => ?_)
  rw [← hpq] at q2
  have hE := slR_u hv.1 q1.2 q2.2
  have hR1 := hR.view q1.1 q2.1
  refine lv_icmp_eq (tgt := 788) hx hb dL_law_510 (by decide) (fun c9 => ?_) (fun c9 => absurd hE c9)
  exact kk _ _ _ _ V1 Q1 H locs ls hR1 hh hl
