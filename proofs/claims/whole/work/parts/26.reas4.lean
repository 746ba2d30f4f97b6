/-! the class Reasons: findHangingByData, closeHanging -/
def DQ (n : Nat) (nx : Nat → Int32) (Pv : St) (rd : St → Nat → Int32) (v u : Nat) : Prop := ¬ setI Pv u = 0 ∧ RC n nx (mkM n (fun p => decide (setI Pv p = setI Pv u))) u v ∧ ¬ rd Pv v &&& setI Pv u = 0
def hqR (n : Nat) (nx : Nat → Int32) (Pv : St) (v u : Nat) : Prop := ¬ (256 : Int32) ≤ setI Pv u ∧ DQ n nx Pv rdI v u
def hqG (n : Nat) (nx : Nat → Int32) (Pv : St) (v u : Nat) : Prop := (256 : Int32) ≤ setI Pv u ∧ DQ n nx Pv rdI v u
def hqT (n : Nat) (nx : Nat → Int32) (Pv : St) (v u : Nat) : Prop := DQ n nx Pv thrI v u
def hqN (n : Nat) (nx : Nat → Int32) (Pv : St) (v u : Nat) : Prop := kd Pv u = 7 ∧ kd Pv v = 8 ∧ RC n nx 0 u v ∧ shB Pv u v = true
def hqC (n : Nat) (wn fo : Nat → Int32) (v u : Nat) : Prop := (bt (wn u) v = true ∨ ∃ s, s < n ∧ bt (wn u) s = true ∧ bt (fo s) v = true) ∧ ¬ bt (fo u) v = true
def hqF (n : Nat) (wn : Nat → Int32) (u w : Nat) : Prop := ¬ u = w ∧ ¬ Cl (fun j => j = 24) (fun y z => z < n ∧ ¬ z = w ∧ bt (wn z) y = true) u
abbrev rmX2_findHangingByData : Room := { frames := 3, cells := 0, slots := 0, locals := 65 }
theorem lk_X2_findHangingByData : Lk yX2_findHangingByData 2 := by decide +kernel
set_option maxHeartbeats 4000000 in
set_option maxRecDepth 100000 in
/-- findHangingByData(program, u) -/
theorem c_X2_findHangingByData (l : Launch) (D : va_G) (k : Nat → ClassId) (ad : Nat → Nat) (V : St) {n : Nat} (hn : V 0 0 = nI n) (hn24 : n ≤ 24) (bd : Nat → Nat) (Pv : St) (hv : okV n Pv) (hN1 : ∀ p, p < n → V 1 p = nxI n Pv p) {u : Nat} (hu : u < n) (hg1 : Grid n u 0 (hqR n (V 1) Pv) (V 11)) (hg3 : Grid n u 0 (hqG n (V 1) Pv) (V 13)) (hgt : Grid n u 0 (hqT n (V 1) Pv) (V 6)) : CtX noX l yX2_findHangingByData cX2_findHangingByData 7 none rmX2_findHangingByData D (tyL k) ((wR k ad V) ++ (wP k bd Pv)) [.ref (ad 0), .ref (bd 0), .int (nI u)] (qV D (fun U => (wR k ad U) ++ (wP k bd Pv)) (fun U => Fr [6, 11, 13] V U ∧ Grid n (u + 1) 0 (hqR n (V 1) Pv) (U 11) ∧ Grid n (u + 1) 0 (hqG n (V 1) Pv) (U 13) ∧ Grid n (u + 1) 0 (hqT n (V 1) Pv) (U 6))) := by
  refine CtX.mk (by decide) (Nat.le_of_ble_eq_true rfl) ?_
  intro p e s m below meth c hx hb hml hown hg hr hlocks hK hN A hA hX hh ls hl
  have hh : Hd D A ((wR k ad V) ++ (wP k bd Pv)) s.heap s.heap [] := hh
  have hl : lv_has ls 7 [(0, .ref (ad 0)), (1, .ref (bd 0)), (2, .int (nI u))] := hl
  have hV : ∀ p, p < n → ∀ j, bt (V 1 p) j = true → j < 25 := fun p hp j h => b_nxI hn24 (by rw [← hN1 p hp]; exact h)
  refine lv_aload_n hx hb dX2_findHangingByData_0 rfl (lv_at hl 1 rfl) ?_
  refine lv_iload_n hx hb dX2_findHangingByData_1 rfl (lv_at hl 2 rfl) ?_
  refine callR (runV hx hb hg hown hml hl.1 (c_X1_setBy l D k bd Pv hv (q := u) (by omega)) [.int (nI u)] [] (preR (mapSome_sub hh.1 [15, 16, 17, 18, 19, 20, 21, 22] rfl) hK hN xb0 x0) (va_recv hK hh.1 (ci := 1) (q0 := 15) rfl rfl) wd_330 wd_331 wd_332 wd_50 wd_333 lk_X1_setBy ⟨rfl, rfl⟩ ⟨by decide, by decide⟩ ⟨Nat.zero_le _, Nat.zero_le _⟩ rfl (Nat.le_of_ble_eq_true rfl) dX2_findHangingByData_2) (fun r_2 q_2 => ?_)
  obtain rfl := q_2
  refine lv_istore_n (lv' := [(3, .int (setI Pv u)), (0, .ref (ad 0)), (1, .ref (bd 0)), (2, .int (nI u))]) hx hb dX2_findHangingByData_5 rfl hl (by decide) rfl (fun ls hl => ?_)
  refine lv_iload_n hx hb dX2_findHangingByData_6 rfl (lv_at hl 0 rfl) ?_
  refine lv_if_ne (tgt := 11) hx hb dX2_findHangingByData_7 (by decide) (fun c_7 => ?_) (fun c_7 => ?_)
  · refine lv_iload_n hx hb dX2_findHangingByData_11 rfl (lv_at hl 0 rfl) ?_
    refine lv_sipush (v := 256) hx hb dX2_findHangingByData_12 (by decide) ?_
    refine lv_icmp_ge (tgt := 22) hx hb dX2_findHangingByData_15 (by decide) (fun c_15 => ?_) (fun c_15 => ?_)
    · refine lv_iconst (v := 3) hx hb dX2_findHangingByData_22 (by decide) ?_
      refine lv_istore (lv' := [(4, .int 3), (3, .int (setI Pv u)), (0, .ref (ad 0)), (1, .ref (bd 0)), (2, .int (nI u))]) hx hb dX2_findHangingByData_23 hl (by decide) rfl (fun ls hl => ?_)
      refine lv_aload_n hx hb dX2_findHangingByData_25 rfl (lv_at hl 2 rfl) ?_
      refine lv_iload_n hx hb dX2_findHangingByData_26 rfl (lv_at hl 4 rfl) ?_
      refine lv_aload_n hx hb dX2_findHangingByData_27 rfl (lv_at hl 2 rfl) ?_
      refine lv_aload_n hx hb dX2_findHangingByData_28 rfl (lv_at hl 3 rfl) ?_
      refine lv_iload_n hx hb dX2_findHangingByData_29 rfl (lv_at hl 1 rfl) ?_
      refine callR (runV hx hb hg hown hml hl.1 (c_X2_settersOf l D k ad V hn hn24 bd Pv hv (setI Pv u)) [.ref (bd 0), .int (setI Pv u)] [.int (nI u), .ref (ad 0)] (preR (mapSome_sub hh.1 [0, 1, 2, 3, 4, 5, 6, 7, 8, 9, 10, 11, 12, 13, 14, 15, 16, 17, 18, 19, 20, 21, 22] rfl) hK hN xb0 x0) (va_recv hK hh.1 (ci := 2) (q0 := 0) rfl rfl) wd_340 wd_342 wd_7 wd_51 wd_343 lk_X2_settersOf ⟨rfl, rfl⟩ ⟨by decide, by decide⟩ ⟨Nat.zero_le _, Nat.zero_le _⟩ rfl (Nat.le_of_ble_eq_true rfl) dX2_findHangingByData_30) (fun r_30 q_30 => ?_)
      obtain rfl := q_30
      refine callR (runV hx hb hg hown hml hl.1 (c_X2_reachedFrom l D k ad V hn hn24 hV hu (mkM n (fun p => decide (setI Pv p = setI Pv u)))) [.int (nI u), .int (mkM n (fun p => decide (setI Pv p = setI Pv u)))] [] (preR (mapSome_sub hh.1 [0, 1, 2, 3, 4, 5, 6, 7, 8, 9, 10, 11, 12, 13, 14] rfl) hK hN xb0 x0) (va_recv hK hh.1 (ci := 2) (q0 := 0) rfl rfl) wd_344 wd_346 wd_8 wd_51 wd_347 lk_X2_reachedFrom ⟨rfl, rfl⟩ ⟨by decide, by decide⟩ ⟨Nat.zero_le _, Nat.zero_le _⟩ rfl (Nat.le_of_ble_eq_true rfl) dX2_findHangingByData_33) (fun r_33 q_33 => ?_)
      refine lv_istore (lv' := [(5, .int r_33), (4, .int 3), (3, .int (setI Pv u)), (0, .ref (ad 0)), (1, .ref (bd 0)), (2, .int (nI u))]) hx hb dX2_findHangingByData_36 hl (by decide) rfl (fun ls hl => ?_)
      refine lv_iconst (v := 0) hx hb dX2_findHangingByData_38 (by decide) ?_
      refine lv_istore (lv' := [(6, .int 0), (5, .int r_33), (4, .int 3), (3, .int (setI Pv u)), (0, .ref (ad 0)), (1, .ref (bd 0)), (2, .int (nI u))]) hx hb dX2_findHangingByData_39 hl (by decide) rfl (fun ls hl => ?_)
      refine loopW (σ := Nat × St) (fun zz9 H locs ls => match zz9 with | (i, U) => Hd D A ((wR k ad U) ++ (wP k bd Pv)) s.heap H locs ∧ lv_has ls 7 [(0, .ref (ad 0)), (1, .ref (bd 0)), (2, .int (nI u)), (3, .int (setI Pv u)), (4, .int 3), (5, .int r_33), (6, .int (nI i))] ∧ (i ≤ n) ∧ (Fr [6, 11, 13] V U) ∧ (U 11 = V 11) ∧ (Grid n u i (hqG n (V 1) Pv) (U 13)) ∧ (Grid n u i (hqT n (V 1) Pv) (U 6))) (fun zz9 => match zz9 with | (i, U) => n - i) ?_ (0, V) ⟨hh, (lv_sub hl [4, 5, 6, 3, 2, 1, 0] rfl), (by omega), Fr.rf, rfl, hg3, hgt⟩
      intro zz9 H locs ls hI ih
      obtain ⟨i, U⟩ := zz9
      obtain ⟨hh, hl, hi, hf, ho, gr, gt⟩ := hI
      have hnU : U 0 0 = nI n := (hf.at 0 (by decide) 0).trans hn
      refine lv_iload hx hb dX2_findHangingByData_41 (lv_at hl 6 rfl) ?_
      refine lv_aload_n hx hb dX2_findHangingByData_43 rfl (lv_at hl 0 rfl) ?_
      refine gfl hx hb hg inX2 hown hK hh.1 0 (ci := 2) rfl rfl 0 (by decide) wd_119 rfl dX2_findHangingByData_44 ?_
      refine topv (nI n) hnU ?_
      refine lv_icmp_ge (tgt := 127) hx hb dX2_findHangingByData_47 (by decide) (fun c_47 => ?_) (fun c_47 => ?_)
      · have c_47 : n ≤ i := (nI_leI (a := n) (b := i) (by omega) (by omega)).mp c_47
        exact retV (Wd := fun U => (wR k ad U) ++ (wP k bd Pv)) (U) hx hb hr hlocks dX2_findHangingByData_127 hh (by rw [show i = n by omega] at gr gt; exact ⟨hf, by rw [ho]; exact hg1.skip (fun v _ hq => hq.1 c_15), gr.next, gt.next⟩)
      · have c_47 : ¬ n ≤ i := fun z => c_47 ((nI_leI (a := n) (b := i) (by omega) (by omega)).mpr z)
        refine lv_iload hx hb dX2_findHangingByData_50 (lv_at hl 5 rfl) ?_
        refine lv_iload hx hb dX2_findHangingByData_52 (lv_at hl 6 rfl) ?_
        refine callR (runSN hx hb hg hown hml hl.1 hN (c_X3_holds l D k (r_33) (q := i) (by omega)) [.int r_33, .int (nI i)] [] (preR (mapSome_sub hh.1 [] rfl) hK hN xb0 x0) 323 nst_323 wd_324 wd_49 wd_325 lk_X3_holds ⟨rfl, rfl⟩ ⟨by decide, by decide⟩ ⟨Nat.zero_le _, Nat.zero_le _⟩ rfl (Nat.le_of_ble_eq_true rfl) dX2_findHangingByData_54) (fun r_54 q_54 => ?_)
        obtain rfl := q_54
        refine lv_if_eq (tgt := 87) hx hb dX2_findHangingByData_57 (by decide) (fun c_57 => ?_) (fun c_57 => ?_)
        · have c_57 := zI_0.mp c_57
          refine lv_iload hx hb dX2_findHangingByData_87 (lv_at hl 5 rfl) ?_
          refine lv_iload hx hb dX2_findHangingByData_89 (lv_at hl 6 rfl) ?_
          refine callR (runSN hx hb hg hown hml hl.1 hN (c_X3_holds l D k (r_33) (q := i) (by omega)) [.int r_33, .int (nI i)] [] (preR (mapSome_sub hh.1 [] rfl) hK hN xb0 x0) 323 nst_323 wd_324 wd_49 wd_325 lk_X3_holds ⟨rfl, rfl⟩ ⟨by decide, by decide⟩ ⟨Nat.zero_le _, Nat.zero_le _⟩ rfl (Nat.le_of_ble_eq_true rfl) dX2_findHangingByData_91) (fun r_91 q_91 => ?_)
          obtain rfl := q_91
          refine lv_if_eq (tgt := 121) hx hb dX2_findHangingByData_94 (by decide) (fun c_94 => ?_) (fun c_94 => ?_)
          · have c_94 := zI_0.mp c_94
            refine lv_iinc (v := nI (i + 1)) (lv' := [(6, .int (nI (i + 1))), (0, .ref (ad 0)), (1, .ref (bd 0)), (2, .int (nI u)), (3, .int (setI Pv u)), (4, .int 3), (5, .int r_33)]) hx hb dX2_findHangingByData_121 hl (k := 6) rfl (nI_succ i).symm (by decide) rfl (fun ls hl => ?_)
            refine lv_goto (tgt := 41) hx hb dX2_findHangingByData_124 (by decide) ?_
            exact ih (i + 1, U) _ _ _ ⟨hh, (lv_sub hl [1, 2, 3, 4, 5, 6, 0] rfl), (by omega), hf, ho, (gr.no (fun hq => by first | (rw [(q_33 i).mpr hq.2.2.1] at c_57; cases c_57; done) | exact hq.2.2.2 c_68)), (gt.no (fun hq => by first | (rw [(q_33 i).mpr hq.2.1] at c_94; cases c_94; done) | exact hq.2.2 c_105))⟩ (by dsimp only; omega)
          · have c_94 := zI_ne c_94
            refine lv_aload_n hx hb dX2_findHangingByData_97 rfl (lv_at hl 1 rfl) ?_
            refine lv_iload hx hb dX2_findHangingByData_98 (lv_at hl 6 rfl) ?_
            refine callR (runV hx hb hg hown hml hl.1 (c_X1_thinlyReadBy l D k bd Pv hv (q := i) (by omega)) [.int (nI i)] [] (preR (mapSome_sub hh.1 [15, 16, 17, 18, 19, 20, 21, 22] rfl) hK hN xb0 x0) (va_recv hK hh.1 (ci := 1) (q0 := 15) rfl rfl) wd_356 wd_353 wd_354 wd_50 wd_355 lk_X1_thinlyReadBy ⟨rfl, rfl⟩ ⟨by decide, by decide⟩ ⟨Nat.zero_le _, Nat.zero_le _⟩ rfl (Nat.le_of_ble_eq_true rfl) dX2_findHangingByData_100) (fun r_100 q_100 => ?_)
            obtain rfl := q_100
            refine lv_iload_n hx hb dX2_findHangingByData_103 rfl (lv_at hl 3 rfl) ?_
            refine lv_iand hx hb dX2_findHangingByData_104 ?_
            refine lv_if_eq (tgt := 121) hx hb dX2_findHangingByData_105 (by decide) (fun c_105 => ?_) (fun c_105 => ?_)
            · refine lv_iinc (v := nI (i + 1)) (lv' := [(6, .int (nI (i + 1))), (0, .ref (ad 0)), (1, .ref (bd 0)), (2, .int (nI u)), (3, .int (setI Pv u)), (4, .int 3), (5, .int r_33)]) hx hb dX2_findHangingByData_121 hl (k := 6) rfl (nI_succ i).symm (by decide) rfl (fun ls hl => ?_)
              refine lv_goto (tgt := 41) hx hb dX2_findHangingByData_124 (by decide) ?_
              exact ih (i + 1, U) _ _ _ ⟨hh, (lv_sub hl [1, 2, 3, 4, 5, 6, 0] rfl), (by omega), hf, ho, (gr.no (fun hq => by first | (rw [(q_33 i).mpr hq.2.2.1] at c_57; cases c_57; done) | exact hq.2.2.2 c_68)), (gt.no (fun hq => by first | (rw [(q_33 i).mpr hq.2.1] at c_94; cases c_94; done) | exact hq.2.2 c_105))⟩ (by dsimp only; omega)
            · refine lv_aload_n hx hb dX2_findHangingByData_108 rfl (lv_at hl 0 rfl) ?_
              refine gfl hx hb hg inX2 hown hK hh.1 0 (ci := 2) rfl rfl 6 (by decide) wd_125 rfl dX2_findHangingByData_109 ?_
              refine lv_iload hx hb dX2_findHangingByData_112 (lv_at hl 6 rfl) ?_
              refine lv_dup2_11 hx hb dX2_findHangingByData_114 rfl rfl ?_
              refine ldn hx hb hK hh.1 6 0 rfl rfl (by omega) (by decide) dX2_findHangingByData_115 ?_
              refine lv_iconst (v := 1) hx hb dX2_findHangingByData_116 (by decide) ?_
              refine lv_iload_n hx hb dX2_findHangingByData_117 rfl (lv_at hl 2 rfl) ?_
              refine lv_ishl hx hb dX2_findHangingByData_118 ?_
              refine topv (bitI u) rfl ?_
              refine lv_ior hx hb dX2_findHangingByData_119 ?_
              refine stn (j := i) hx hb hK hh 6 0 rfl rfl (by omega) (by decide) dX2_findHangingByData_120 ((wR k ad (va_up U 6 (upd (U 6) i (((U 6) i) ||| (bitI u))))) ++ (wP k bd Pv)) rfl (fun H locs hh => ?_)
              refine lv_iinc (v := nI (i + 1)) (lv' := [(6, .int (nI (i + 1))), (0, .ref (ad 0)), (1, .ref (bd 0)), (2, .int (nI u)), (3, .int (setI Pv u)), (4, .int 3), (5, .int r_33)]) hx hb dX2_findHangingByData_121 hl (k := 6) rfl (nI_succ i).symm (by decide) rfl (fun ls hl => ?_)
              refine lv_goto (tgt := 41) hx hb dX2_findHangingByData_124 (by decide) ?_
              exact ih (i + 1, va_up U 6 (upd (U 6) i (((U 6) i) ||| (bitI u)))) _ _ _ ⟨hh, (lv_sub hl [1, 2, 3, 4, 5, 6, 0] rfl), (by omega), (hf.up (by decide)), (by simp [va_up, ho]), (gr.no (fun hq => by first | (rw [(q_33 i).mpr hq.2.2.1] at c_57; cases c_57; done) | exact hq.2.2.2 c_68)), (gt.yes (by omega) ⟨c_7, (q_33 i).mp c_94, c_105⟩)⟩ (by dsimp only; omega)
        · have c_57 := zI_ne c_57
          refine lv_aload_n hx hb dX2_findHangingByData_60 rfl (lv_at hl 1 rfl) ?_
          refine lv_iload hx hb dX2_findHangingByData_61 (lv_at hl 6 rfl) ?_
          refine callR (runV hx hb hg hown hml hl.1 (c_X1_readBy l D k bd Pv hv (q := i) (by omega)) [.int (nI i)] [] (preR (mapSome_sub hh.1 [15, 16, 17, 18, 19, 20, 21, 22] rfl) hK hN xb0 x0) (va_recv hK hh.1 (ci := 1) (q0 := 15) rfl rfl) wd_348 wd_349 wd_350 wd_50 wd_351 lk_X1_readBy ⟨rfl, rfl⟩ ⟨by decide, by decide⟩ ⟨Nat.zero_le _, Nat.zero_le _⟩ rfl (Nat.le_of_ble_eq_true rfl) dX2_findHangingByData_63) (fun r_63 q_63 => ?_)
          obtain rfl := q_63
          refine lv_iload_n hx hb dX2_findHangingByData_66 rfl (lv_at hl 3 rfl) ?_
          refine lv_iand hx hb dX2_findHangingByData_67 ?_
          refine lv_if_eq (tgt := 87) hx hb dX2_findHangingByData_68 (by decide) (fun c_68 => ?_) (fun c_68 => ?_)
          · refine lv_iload hx hb dX2_findHangingByData_87 (lv_at hl 5 rfl) ?_
            refine lv_iload hx hb dX2_findHangingByData_89 (lv_at hl 6 rfl) ?_
            refine callR (runSN hx hb hg hown hml hl.1 hN (c_X3_holds l D k (r_33) (q := i) (by omega)) [.int r_33, .int (nI i)] [] (preR (mapSome_sub hh.1 [] rfl) hK hN xb0 x0) 323 nst_323 wd_324 wd_49 wd_325 lk_X3_holds ⟨rfl, rfl⟩ ⟨by decide, by decide⟩ ⟨Nat.zero_le _, Nat.zero_le _⟩ rfl (Nat.le_of_ble_eq_true rfl) dX2_findHangingByData_91) (fun r_91 q_91 => ?_)
            obtain rfl := q_91
            refine lv_if_eq (tgt := 121) hx hb dX2_findHangingByData_94 (by decide) (fun c_94 => ?_) (fun c_94 => ?_)
            · have c_94 := zI_0.mp c_94
              refine lv_iinc (v := nI (i + 1)) (lv' := [(6, .int (nI (i + 1))), (0, .ref (ad 0)), (1, .ref (bd 0)), (2, .int (nI u)), (3, .int (setI Pv u)), (4, .int 3), (5, .int r_33)]) hx hb dX2_findHangingByData_121 hl (k := 6) rfl (nI_succ i).symm (by decide) rfl (fun ls hl => ?_)
              refine lv_goto (tgt := 41) hx hb dX2_findHangingByData_124 (by decide) ?_
              exact ih (i + 1, U) _ _ _ ⟨hh, (lv_sub hl [1, 2, 3, 4, 5, 6, 0] rfl), (by omega), hf, ho, (gr.no (fun hq => by first | (rw [(q_33 i).mpr hq.2.2.1] at c_57; cases c_57; done) | exact hq.2.2.2 c_68)), (gt.no (fun hq => by first | (rw [(q_33 i).mpr hq.2.1] at c_94; cases c_94; done) | exact hq.2.2 c_105))⟩ (by dsimp only; omega)
            · have c_94 := zI_ne c_94
              refine lv_aload_n hx hb dX2_findHangingByData_97 rfl (lv_at hl 1 rfl) ?_
              refine lv_iload hx hb dX2_findHangingByData_98 (lv_at hl 6 rfl) ?_
              refine callR (runV hx hb hg hown hml hl.1 (c_X1_thinlyReadBy l D k bd Pv hv (q := i) (by omega)) [.int (nI i)] [] (preR (mapSome_sub hh.1 [15, 16, 17, 18, 19, 20, 21, 22] rfl) hK hN xb0 x0) (va_recv hK hh.1 (ci := 1) (q0 := 15) rfl rfl) wd_356 wd_353 wd_354 wd_50 wd_355 lk_X1_thinlyReadBy ⟨rfl, rfl⟩ ⟨by decide, by decide⟩ ⟨Nat.zero_le _, Nat.zero_le _⟩ rfl (Nat.le_of_ble_eq_true rfl) dX2_findHangingByData_100) (fun r_100 q_100 => ?_)
              obtain rfl := q_100
              refine lv_iload_n hx hb dX2_findHangingByData_103 rfl (lv_at hl 3 rfl) ?_
              refine lv_iand hx hb dX2_findHangingByData_104 ?_
              refine lv_if_eq (tgt := 121) hx hb dX2_findHangingByData_105 (by decide) (fun c_105 => ?_) (fun c_105 => ?_)
              · refine lv_iinc (v := nI (i + 1)) (lv' := [(6, .int (nI (i + 1))), (0, .ref (ad 0)), (1, .ref (bd 0)), (2, .int (nI u)), (3, .int (setI Pv u)), (4, .int 3), (5, .int r_33)]) hx hb dX2_findHangingByData_121 hl (k := 6) rfl (nI_succ i).symm (by decide) rfl (fun ls hl => ?_)
                refine lv_goto (tgt := 41) hx hb dX2_findHangingByData_124 (by decide) ?_
                exact ih (i + 1, U) _ _ _ ⟨hh, (lv_sub hl [1, 2, 3, 4, 5, 6, 0] rfl), (by omega), hf, ho, (gr.no (fun hq => by first | (rw [(q_33 i).mpr hq.2.2.1] at c_57; cases c_57; done) | exact hq.2.2.2 c_68)), (gt.no (fun hq => by first | (rw [(q_33 i).mpr hq.2.1] at c_94; cases c_94; done) | exact hq.2.2 c_105))⟩ (by dsimp only; omega)
              · refine lv_aload_n hx hb dX2_findHangingByData_108 rfl (lv_at hl 0 rfl) ?_
                refine gfl hx hb hg inX2 hown hK hh.1 0 (ci := 2) rfl rfl 6 (by decide) wd_125 rfl dX2_findHangingByData_109 ?_
                refine lv_iload hx hb dX2_findHangingByData_112 (lv_at hl 6 rfl) ?_
                refine lv_dup2_11 hx hb dX2_findHangingByData_114 rfl rfl ?_
                refine ldn hx hb hK hh.1 6 0 rfl rfl (by omega) (by decide) dX2_findHangingByData_115 ?_
                refine lv_iconst (v := 1) hx hb dX2_findHangingByData_116 (by decide) ?_
                refine lv_iload_n hx hb dX2_findHangingByData_117 rfl (lv_at hl 2 rfl) ?_
                refine lv_ishl hx hb dX2_findHangingByData_118 ?_
                refine topv (bitI u) rfl ?_
                refine lv_ior hx hb dX2_findHangingByData_119 ?_
                refine stn (j := i) hx hb hK hh 6 0 rfl rfl (by omega) (by decide) dX2_findHangingByData_120 ((wR k ad (va_up U 6 (upd (U 6) i (((U 6) i) ||| (bitI u))))) ++ (wP k bd Pv)) rfl (fun H locs hh => ?_)
                refine lv_iinc (v := nI (i + 1)) (lv' := [(6, .int (nI (i + 1))), (0, .ref (ad 0)), (1, .ref (bd 0)), (2, .int (nI u)), (3, .int (setI Pv u)), (4, .int 3), (5, .int r_33)]) hx hb dX2_findHangingByData_121 hl (k := 6) rfl (nI_succ i).symm (by decide) rfl (fun ls hl => ?_)
                refine lv_goto (tgt := 41) hx hb dX2_findHangingByData_124 (by decide) ?_
                exact ih (i + 1, va_up U 6 (upd (U 6) i (((U 6) i) ||| (bitI u)))) _ _ _ ⟨hh, (lv_sub hl [1, 2, 3, 4, 5, 6, 0] rfl), (by omega), (hf.up (by decide)), (by simp [va_up, ho]), (gr.no (fun hq => by first | (rw [(q_33 i).mpr hq.2.2.1] at c_57; cases c_57; done) | exact hq.2.2.2 c_68)), (gt.yes (by omega) ⟨c_7, (q_33 i).mp c_94, c_105⟩)⟩ (by dsimp only; omega)
          · refine lv_aload_n hx hb dX2_findHangingByData_71 rfl (lv_at hl 0 rfl) ?_
            refine gfl hx hb hg inX2 hown hK hh.1 0 (ci := 2) rfl rfl 4 (by decide) wd_123 rfl dX2_findHangingByData_72 ?_
            refine lv_iload hx hb dX2_findHangingByData_75 (lv_at hl 4 rfl) ?_
            refine topv (nI 3) rfl ?_
            refine ldq (x := ad (10 + 3)) hx hb hK hh.1 4 2 rfl rfl rfl (by omega) (by decide) rfl dX2_findHangingByData_77 ?_
            refine lv_iload hx hb dX2_findHangingByData_78 (lv_at hl 6 rfl) ?_
            refine lv_dup2_11 hx hb dX2_findHangingByData_80 rfl rfl ?_
            refine ldn hx hb hK hh.1 13 0 rfl rfl (by omega) (by decide) dX2_findHangingByData_81 ?_
            refine lv_iconst (v := 1) hx hb dX2_findHangingByData_82 (by decide) ?_
            refine lv_iload_n hx hb dX2_findHangingByData_83 rfl (lv_at hl 2 rfl) ?_
            refine lv_ishl hx hb dX2_findHangingByData_84 ?_
            refine topv (bitI u) rfl ?_
            refine lv_ior hx hb dX2_findHangingByData_85 ?_
            refine stn (j := i) hx hb hK hh 13 0 rfl rfl (by omega) (by decide) dX2_findHangingByData_86 ((wR k ad (va_up U 13 (upd (U 13) i (((U 13) i) ||| (bitI u))))) ++ (wP k bd Pv)) rfl (fun H locs hh => ?_)
            refine lv_iload hx hb dX2_findHangingByData_87 (lv_at hl 5 rfl) ?_
            refine lv_iload hx hb dX2_findHangingByData_89 (lv_at hl 6 rfl) ?_
            refine callR (runSN hx hb hg hown hml hl.1 hN (c_X3_holds l D k (r_33) (q := i) (by omega)) [.int r_33, .int (nI i)] [] (preR (mapSome_sub hh.1 [] rfl) hK hN xb0 x0) 323 nst_323 wd_324 wd_49 wd_325 lk_X3_holds ⟨rfl, rfl⟩ ⟨by decide, by decide⟩ ⟨Nat.zero_le _, Nat.zero_le _⟩ rfl (Nat.le_of_ble_eq_true rfl) dX2_findHangingByData_91) (fun r_91 q_91 => ?_)
            obtain rfl := q_91
            refine lv_if_eq (tgt := 121) hx hb dX2_findHangingByData_94 (by decide) (fun c_94 => ?_) (fun c_94 => ?_)
            · have c_94 := zI_0.mp c_94
              refine lv_iinc (v := nI (i + 1)) (lv' := [(6, .int (nI (i + 1))), (0, .ref (ad 0)), (1, .ref (bd 0)), (2, .int (nI u)), (3, .int (setI Pv u)), (4, .int 3), (5, .int r_33)]) hx hb dX2_findHangingByData_121 hl (k := 6) rfl (nI_succ i).symm (by decide) rfl (fun ls hl => ?_)
              refine lv_goto (tgt := 41) hx hb dX2_findHangingByData_124 (by decide) ?_
              exact ih (i + 1, va_up U 13 (upd (U 13) i (((U 13) i) ||| (bitI u)))) _ _ _ ⟨hh, (lv_sub hl [1, 2, 3, 4, 5, 6, 0] rfl), (by omega), (hf.up (by decide)), (by simp [va_up, ho]), (gr.yes (by omega) ⟨c_15, c_7, (q_33 i).mp c_57, c_68⟩), (gt.no (fun hq => by first | (rw [(q_33 i).mpr hq.2.1] at c_94; cases c_94; done) | exact hq.2.2 c_105))⟩ (by dsimp only; omega)
            · have c_94 := zI_ne c_94
              refine lv_aload_n hx hb dX2_findHangingByData_97 rfl (lv_at hl 1 rfl) ?_
              refine lv_iload hx hb dX2_findHangingByData_98 (lv_at hl 6 rfl) ?_
              refine callR (runV hx hb hg hown hml hl.1 (c_X1_thinlyReadBy l D k bd Pv hv (q := i) (by omega)) [.int (nI i)] [] (preR (mapSome_sub hh.1 [15, 16, 17, 18, 19, 20, 21, 22] rfl) hK hN xb0 x0) (va_recv hK hh.1 (ci := 1) (q0 := 15) rfl rfl) wd_356 wd_353 wd_354 wd_50 wd_355 lk_X1_thinlyReadBy ⟨rfl, rfl⟩ ⟨by decide, by decide⟩ ⟨Nat.zero_le _, Nat.zero_le _⟩ rfl (Nat.le_of_ble_eq_true rfl) dX2_findHangingByData_100) (fun r_100 q_100 => ?_)
              obtain rfl := q_100
              refine lv_iload_n hx hb dX2_findHangingByData_103 rfl (lv_at hl 3 rfl) ?_
              refine lv_iand hx hb dX2_findHangingByData_104 ?_
              refine lv_if_eq (tgt := 121) hx hb dX2_findHangingByData_105 (by decide) (fun c_105 => ?_) (fun c_105 => ?_)
              · refine lv_iinc (v := nI (i + 1)) (lv' := [(6, .int (nI (i + 1))), (0, .ref (ad 0)), (1, .ref (bd 0)), (2, .int (nI u)), (3, .int (setI Pv u)), (4, .int 3), (5, .int r_33)]) hx hb dX2_findHangingByData_121 hl (k := 6) rfl (nI_succ i).symm (by decide) rfl (fun ls hl => ?_)
                refine lv_goto (tgt := 41) hx hb dX2_findHangingByData_124 (by decide) ?_
                exact ih (i + 1, va_up U 13 (upd (U 13) i (((U 13) i) ||| (bitI u)))) _ _ _ ⟨hh, (lv_sub hl [1, 2, 3, 4, 5, 6, 0] rfl), (by omega), (hf.up (by decide)), (by simp [va_up, ho]), (gr.yes (by omega) ⟨c_15, c_7, (q_33 i).mp c_57, c_68⟩), (gt.no (fun hq => by first | (rw [(q_33 i).mpr hq.2.1] at c_94; cases c_94; done) | exact hq.2.2 c_105))⟩ (by dsimp only; omega)
              · refine lv_aload_n hx hb dX2_findHangingByData_108 rfl (lv_at hl 0 rfl) ?_
                refine gfl hx hb hg inX2 hown hK hh.1 0 (ci := 2) rfl rfl 6 (by decide) wd_125 rfl dX2_findHangingByData_109 ?_
                refine lv_iload hx hb dX2_findHangingByData_112 (lv_at hl 6 rfl) ?_
                refine lv_dup2_11 hx hb dX2_findHangingByData_114 rfl rfl ?_
                refine ldn hx hb hK hh.1 6 0 rfl rfl (by omega) (by decide) dX2_findHangingByData_115 ?_
                refine lv_iconst (v := 1) hx hb dX2_findHangingByData_116 (by decide) ?_
                refine lv_iload_n hx hb dX2_findHangingByData_117 rfl (lv_at hl 2 rfl) ?_
                refine lv_ishl hx hb dX2_findHangingByData_118 ?_
                refine topv (bitI u) rfl ?_
                refine lv_ior hx hb dX2_findHangingByData_119 ?_
                refine stn (j := i) hx hb hK hh 6 0 rfl rfl (by omega) (by decide) dX2_findHangingByData_120 ((wR k ad (va_up (va_up U 13 (upd (U 13) i (((U 13) i) ||| (bitI u)))) 6 (upd (U 6) i (((U 6) i) ||| (bitI u))))) ++ (wP k bd Pv)) rfl (fun H locs hh => ?_)
                refine lv_iinc (v := nI (i + 1)) (lv' := [(6, .int (nI (i + 1))), (0, .ref (ad 0)), (1, .ref (bd 0)), (2, .int (nI u)), (3, .int (setI Pv u)), (4, .int 3), (5, .int r_33)]) hx hb dX2_findHangingByData_121 hl (k := 6) rfl (nI_succ i).symm (by decide) rfl (fun ls hl => ?_)
                refine lv_goto (tgt := 41) hx hb dX2_findHangingByData_124 (by decide) ?_
                exact ih (i + 1, va_up (va_up U 13 (upd (U 13) i (((U 13) i) ||| (bitI u)))) 6 (upd (U 6) i (((U 6) i) ||| (bitI u)))) _ _ _ ⟨hh, (lv_sub hl [1, 2, 3, 4, 5, 6, 0] rfl), (by omega), ((hf.up (by decide)).up (by decide)), (by simp [va_up, ho]), (gr.yes (by omega) ⟨c_15, c_7, (q_33 i).mp c_57, c_68⟩), (gt.yes (by omega) ⟨c_7, (q_33 i).mp c_94, c_105⟩)⟩ (by dsimp only; omega)
    · refine lv_iconst (v := 1) hx hb dX2_findHangingByData_18 (by decide) ?_
      refine lv_goto (tgt := 23) hx hb dX2_findHangingByData_19 (by decide) ?_
      refine lv_istore (lv' := [(4, .int 1), (3, .int (setI Pv u)), (0, .ref (ad 0)), (1, .ref (bd 0)), (2, .int (nI u))]) hx hb dX2_findHangingByData_23 hl (by decide) rfl (fun ls hl => ?_)
      refine lv_aload_n hx hb dX2_findHangingByData_25 rfl (lv_at hl 2 rfl) ?_
      refine lv_iload_n hx hb dX2_findHangingByData_26 rfl (lv_at hl 4 rfl) ?_
      refine lv_aload_n hx hb dX2_findHangingByData_27 rfl (lv_at hl 2 rfl) ?_
      refine lv_aload_n hx hb dX2_findHangingByData_28 rfl (lv_at hl 3 rfl) ?_
      refine lv_iload_n hx hb dX2_findHangingByData_29 rfl (lv_at hl 1 rfl) ?_
      refine callR (runV hx hb hg hown hml hl.1 (c_X2_settersOf l D k ad V hn hn24 bd Pv hv (setI Pv u)) [.ref (bd 0), .int (setI Pv u)] [.int (nI u), .ref (ad 0)] (preR (mapSome_sub hh.1 [0, 1, 2, 3, 4, 5, 6, 7, 8, 9, 10, 11, 12, 13, 14, 15, 16, 17, 18, 19, 20, 21, 22] rfl) hK hN xb0 x0) (va_recv hK hh.1 (ci := 2) (q0 := 0) rfl rfl) wd_340 wd_342 wd_7 wd_51 wd_343 lk_X2_settersOf ⟨rfl, rfl⟩ ⟨by decide, by decide⟩ ⟨Nat.zero_le _, Nat.zero_le _⟩ rfl (Nat.le_of_ble_eq_true rfl) dX2_findHangingByData_30) (fun r_30 q_30 => ?_)
      obtain rfl := q_30
      refine callR (runV hx hb hg hown hml hl.1 (c_X2_reachedFrom l D k ad V hn hn24 hV hu (mkM n (fun p => decide (setI Pv p = setI Pv u)))) [.int (nI u), .int (mkM n (fun p => decide (setI Pv p = setI Pv u)))] [] (preR (mapSome_sub hh.1 [0, 1, 2, 3, 4, 5, 6, 7, 8, 9, 10, 11, 12, 13, 14] rfl) hK hN xb0 x0) (va_recv hK hh.1 (ci := 2) (q0 := 0) rfl rfl) wd_344 wd_346 wd_8 wd_51 wd_347 lk_X2_reachedFrom ⟨rfl, rfl⟩ ⟨by decide, by decide⟩ ⟨Nat.zero_le _, Nat.zero_le _⟩ rfl (Nat.le_of_ble_eq_true rfl) dX2_findHangingByData_33) (fun r_33 q_33 => ?_)
      refine lv_istore (lv' := [(5, .int r_33), (4, .int 1), (3, .int (setI Pv u)), (0, .ref (ad 0)), (1, .ref (bd 0)), (2, .int (nI u))]) hx hb dX2_findHangingByData_36 hl (by decide) rfl (fun ls hl => ?_)
      refine lv_iconst (v := 0) hx hb dX2_findHangingByData_38 (by decide) ?_
      refine lv_istore (lv' := [(6, .int 0), (5, .int r_33), (4, .int 1), (3, .int (setI Pv u)), (0, .ref (ad 0)), (1, .ref (bd 0)), (2, .int (nI u))]) hx hb dX2_findHangingByData_39 hl (by decide) rfl (fun ls hl => ?_)
      refine loopW (σ := Nat × St) (fun zz9 H locs ls => match zz9 with | (i, U) => Hd D A ((wR k ad U) ++ (wP k bd Pv)) s.heap H locs ∧ lv_has ls 7 [(0, .ref (ad 0)), (1, .ref (bd 0)), (2, .int (nI u)), (3, .int (setI Pv u)), (4, .int 1), (5, .int r_33), (6, .int (nI i))] ∧ (i ≤ n) ∧ (Fr [6, 11, 13] V U) ∧ (U 13 = V 13) ∧ (Grid n u i (hqR n (V 1) Pv) (U 11)) ∧ (Grid n u i (hqT n (V 1) Pv) (U 6))) (fun zz9 => match zz9 with | (i, U) => n - i) ?_ (0, V) ⟨hh, (lv_sub hl [4, 5, 6, 3, 2, 1, 0] rfl), (by omega), Fr.rf, rfl, hg1, hgt⟩
      intro zz9 H locs ls hI ih
      obtain ⟨i, U⟩ := zz9
      obtain ⟨hh, hl, hi, hf, ho, gr, gt⟩ := hI
      have hnU : U 0 0 = nI n := (hf.at 0 (by decide) 0).trans hn
      refine lv_iload hx hb dX2_findHangingByData_41 (lv_at hl 6 rfl) ?_
      refine lv_aload_n hx hb dX2_findHangingByData_43 rfl (lv_at hl 0 rfl) ?_
      refine gfl hx hb hg inX2 hown hK hh.1 0 (ci := 2) rfl rfl 0 (by decide) wd_119 rfl dX2_findHangingByData_44 ?_
      refine topv (nI n) hnU ?_
      refine lv_icmp_ge (tgt := 127) hx hb dX2_findHangingByData_47 (by decide) (fun c_47 => ?_) (fun c_47 => ?_)
      · have c_47 : n ≤ i := (nI_leI (a := n) (b := i) (by omega) (by omega)).mp c_47
        exact retV (Wd := fun U => (wR k ad U) ++ (wP k bd Pv)) (U) hx hb hr hlocks dX2_findHangingByData_127 hh (by rw [show i = n by omega] at gr gt; exact ⟨hf, gr.next, by rw [ho]; exact hg3.skip (fun v _ hq => c_15 hq.1), gt.next⟩)
      · have c_47 : ¬ n ≤ i := fun z => c_47 ((nI_leI (a := n) (b := i) (by omega) (by omega)).mpr z)
        refine lv_iload hx hb dX2_findHangingByData_50 (lv_at hl 5 rfl) ?_
        refine lv_iload hx hb dX2_findHangingByData_52 (lv_at hl 6 rfl) ?_
        refine callR (runSN hx hb hg hown hml hl.1 hN (c_X3_holds l D k (r_33) (q := i) (by omega)) [.int r_33, .int (nI i)] [] (preR (mapSome_sub hh.1 [] rfl) hK hN xb0 x0) 323 nst_323 wd_324 wd_49 wd_325 lk_X3_holds ⟨rfl, rfl⟩ ⟨by decide, by decide⟩ ⟨Nat.zero_le _, Nat.zero_le _⟩ rfl (Nat.le_of_ble_eq_true rfl) dX2_findHangingByData_54) (fun r_54 q_54 => ?_)
        obtain rfl := q_54
        refine lv_if_eq (tgt := 87) hx hb dX2_findHangingByData_57 (by decide) (fun c_57 => ?_) (fun c_57 => ?_)
        · have c_57 := zI_0.mp c_57
          refine lv_iload hx hb dX2_findHangingByData_87 (lv_at hl 5 rfl) ?_
          refine lv_iload hx hb dX2_findHangingByData_89 (lv_at hl 6 rfl) ?_
          refine callR (runSN hx hb hg hown hml hl.1 hN (c_X3_holds l D k (r_33) (q := i) (by omega)) [.int r_33, .int (nI i)] [] (preR (mapSome_sub hh.1 [] rfl) hK hN xb0 x0) 323 nst_323 wd_324 wd_49 wd_325 lk_X3_holds ⟨rfl, rfl⟩ ⟨by decide, by decide⟩ ⟨Nat.zero_le _, Nat.zero_le _⟩ rfl (Nat.le_of_ble_eq_true rfl) dX2_findHangingByData_91) (fun r_91 q_91 => ?_)
          obtain rfl := q_91
          refine lv_if_eq (tgt := 121) hx hb dX2_findHangingByData_94 (by decide) (fun c_94 => ?_) (fun c_94 => ?_)
          · have c_94 := zI_0.mp c_94
            refine lv_iinc (v := nI (i + 1)) (lv' := [(6, .int (nI (i + 1))), (0, .ref (ad 0)), (1, .ref (bd 0)), (2, .int (nI u)), (3, .int (setI Pv u)), (4, .int 1), (5, .int r_33)]) hx hb dX2_findHangingByData_121 hl (k := 6) rfl (nI_succ i).symm (by decide) rfl (fun ls hl => ?_)
            refine lv_goto (tgt := 41) hx hb dX2_findHangingByData_124 (by decide) ?_
            exact ih (i + 1, U) _ _ _ ⟨hh, (lv_sub hl [1, 2, 3, 4, 5, 6, 0] rfl), (by omega), hf, ho, (gr.no (fun hq => by first | (rw [(q_33 i).mpr hq.2.2.1] at c_57; cases c_57; done) | exact hq.2.2.2 c_68)), (gt.no (fun hq => by first | (rw [(q_33 i).mpr hq.2.1] at c_94; cases c_94; done) | exact hq.2.2 c_105))⟩ (by dsimp only; omega)
          · have c_94 := zI_ne c_94
            refine lv_aload_n hx hb dX2_findHangingByData_97 rfl (lv_at hl 1 rfl) ?_
            refine lv_iload hx hb dX2_findHangingByData_98 (lv_at hl 6 rfl) ?_
            refine callR (runV hx hb hg hown hml hl.1 (c_X1_thinlyReadBy l D k bd Pv hv (q := i) (by omega)) [.int (nI i)] [] (preR (mapSome_sub hh.1 [15, 16, 17, 18, 19, 20, 21, 22] rfl) hK hN xb0 x0) (va_recv hK hh.1 (ci := 1) (q0 := 15) rfl rfl) wd_356 wd_353 wd_354 wd_50 wd_355 lk_X1_thinlyReadBy ⟨rfl, rfl⟩ ⟨by decide, by decide⟩ ⟨Nat.zero_le _, Nat.zero_le _⟩ rfl (Nat.le_of_ble_eq_true rfl) dX2_findHangingByData_100) (fun r_100 q_100 => ?_)
            obtain rfl := q_100
            refine lv_iload_n hx hb dX2_findHangingByData_103 rfl (lv_at hl 3 rfl) ?_
            refine lv_iand hx hb dX2_findHangingByData_104 ?_
            refine lv_if_eq (tgt := 121) hx hb dX2_findHangingByData_105 (by decide) (fun c_105 => ?_) (fun c_105 => ?_)
            · refine lv_iinc (v := nI (i + 1)) (lv' := [(6, .int (nI (i + 1))), (0, .ref (ad 0)), (1, .ref (bd 0)), (2, .int (nI u)), (3, .int (setI Pv u)), (4, .int 1), (5, .int r_33)]) hx hb dX2_findHangingByData_121 hl (k := 6) rfl (nI_succ i).symm (by decide) rfl (fun ls hl => ?_)
              refine lv_goto (tgt := 41) hx hb dX2_findHangingByData_124 (by decide) ?_
              exact ih (i + 1, U) _ _ _ ⟨hh, (lv_sub hl [1, 2, 3, 4, 5, 6, 0] rfl), (by omega), hf, ho, (gr.no (fun hq => by first | (rw [(q_33 i).mpr hq.2.2.1] at c_57; cases c_57; done) | exact hq.2.2.2 c_68)), (gt.no (fun hq => by first | (rw [(q_33 i).mpr hq.2.1] at c_94; cases c_94; done) | exact hq.2.2 c_105))⟩ (by dsimp only; omega)
            · refine lv_aload_n hx hb dX2_findHangingByData_108 rfl (lv_at hl 0 rfl) ?_
              refine gfl hx hb hg inX2 hown hK hh.1 0 (ci := 2) rfl rfl 6 (by decide) wd_125 rfl dX2_findHangingByData_109 ?_
              refine lv_iload hx hb dX2_findHangingByData_112 (lv_at hl 6 rfl) ?_
              refine lv_dup2_11 hx hb dX2_findHangingByData_114 rfl rfl ?_
              refine ldn hx hb hK hh.1 6 0 rfl rfl (by omega) (by decide) dX2_findHangingByData_115 ?_
              refine lv_iconst (v := 1) hx hb dX2_findHangingByData_116 (by decide) ?_
              refine lv_iload_n hx hb dX2_findHangingByData_117 rfl (lv_at hl 2 rfl) ?_
              refine lv_ishl hx hb dX2_findHangingByData_118 ?_
              refine topv (bitI u) rfl ?_
              refine lv_ior hx hb dX2_findHangingByData_119 ?_
              refine stn (j := i) hx hb hK hh 6 0 rfl rfl (by omega) (by decide) dX2_findHangingByData_120 ((wR k ad (va_up U 6 (upd (U 6) i (((U 6) i) ||| (bitI u))))) ++ (wP k bd Pv)) rfl (fun H locs hh => ?_)
              refine lv_iinc (v := nI (i + 1)) (lv' := [(6, .int (nI (i + 1))), (0, .ref (ad 0)), (1, .ref (bd 0)), (2, .int (nI u)), (3, .int (setI Pv u)), (4, .int 1), (5, .int r_33)]) hx hb dX2_findHangingByData_121 hl (k := 6) rfl (nI_succ i).symm (by decide) rfl (fun ls hl => ?_)
              refine lv_goto (tgt := 41) hx hb dX2_findHangingByData_124 (by decide) ?_
              exact ih (i + 1, va_up U 6 (upd (U 6) i (((U 6) i) ||| (bitI u)))) _ _ _ ⟨hh, (lv_sub hl [1, 2, 3, 4, 5, 6, 0] rfl), (by omega), (hf.up (by decide)), (by simp [va_up, ho]), (gr.no (fun hq => by first | (rw [(q_33 i).mpr hq.2.2.1] at c_57; cases c_57; done) | exact hq.2.2.2 c_68)), (gt.yes (by omega) ⟨c_7, (q_33 i).mp c_94, c_105⟩)⟩ (by dsimp only; omega)
        · have c_57 := zI_ne c_57
          refine lv_aload_n hx hb dX2_findHangingByData_60 rfl (lv_at hl 1 rfl) ?_
          refine lv_iload hx hb dX2_findHangingByData_61 (lv_at hl 6 rfl) ?_
          refine callR (runV hx hb hg hown hml hl.1 (c_X1_readBy l D k bd Pv hv (q := i) (by omega)) [.int (nI i)] [] (preR (mapSome_sub hh.1 [15, 16, 17, 18, 19, 20, 21, 22] rfl) hK hN xb0 x0) (va_recv hK hh.1 (ci := 1) (q0 := 15) rfl rfl) wd_348 wd_349 wd_350 wd_50 wd_351 lk_X1_readBy ⟨rfl, rfl⟩ ⟨by decide, by decide⟩ ⟨Nat.zero_le _, Nat.zero_le _⟩ rfl (Nat.le_of_ble_eq_true rfl) dX2_findHangingByData_63) (fun r_63 q_63 => ?_)
          obtain rfl := q_63
          refine lv_iload_n hx hb dX2_findHangingByData_66 rfl (lv_at hl 3 rfl) ?_
          refine lv_iand hx hb dX2_findHangingByData_67 ?_
          refine lv_if_eq (tgt := 87) hx hb dX2_findHangingByData_68 (by decide) (fun c_68 => ?_) (fun c_68 => ?_)
          · refine lv_iload hx hb dX2_findHangingByData_87 (lv_at hl 5 rfl) ?_
            refine lv_iload hx hb dX2_findHangingByData_89 (lv_at hl 6 rfl) ?_
            refine callR (runSN hx hb hg hown hml hl.1 hN (c_X3_holds l D k (r_33) (q := i) (by omega)) [.int r_33, .int (nI i)] [] (preR (mapSome_sub hh.1 [] rfl) hK hN xb0 x0) 323 nst_323 wd_324 wd_49 wd_325 lk_X3_holds ⟨rfl, rfl⟩ ⟨by decide, by decide⟩ ⟨Nat.zero_le _, Nat.zero_le _⟩ rfl (Nat.le_of_ble_eq_true rfl) dX2_findHangingByData_91) (fun r_91 q_91 => ?_)
            obtain rfl := q_91
            refine lv_if_eq (tgt := 121) hx hb dX2_findHangingByData_94 (by decide) (fun c_94 => ?_) (fun c_94 => ?_)
            · have c_94 := zI_0.mp c_94
              refine lv_iinc (v := nI (i + 1)) (lv' := [(6, .int (nI (i + 1))), (0, .ref (ad 0)), (1, .ref (bd 0)), (2, .int (nI u)), (3, .int (setI Pv u)), (4, .int 1), (5, .int r_33)]) hx hb dX2_findHangingByData_121 hl (k := 6) rfl (nI_succ i).symm (by decide) rfl (fun ls hl => ?_)
              refine lv_goto (tgt := 41) hx hb dX2_findHangingByData_124 (by decide) ?_
              exact ih (i + 1, U) _ _ _ ⟨hh, (lv_sub hl [1, 2, 3, 4, 5, 6, 0] rfl), (by omega), hf, ho, (gr.no (fun hq => by first | (rw [(q_33 i).mpr hq.2.2.1] at c_57; cases c_57; done) | exact hq.2.2.2 c_68)), (gt.no (fun hq => by first | (rw [(q_33 i).mpr hq.2.1] at c_94; cases c_94; done) | exact hq.2.2 c_105))⟩ (by dsimp only; omega)
            · have c_94 := zI_ne c_94
              refine lv_aload_n hx hb dX2_findHangingByData_97 rfl (lv_at hl 1 rfl) ?_
              refine lv_iload hx hb dX2_findHangingByData_98 (lv_at hl 6 rfl) ?_
              refine callR (runV hx hb hg hown hml hl.1 (c_X1_thinlyReadBy l D k bd Pv hv (q := i) (by omega)) [.int (nI i)] [] (preR (mapSome_sub hh.1 [15, 16, 17, 18, 19, 20, 21, 22] rfl) hK hN xb0 x0) (va_recv hK hh.1 (ci := 1) (q0 := 15) rfl rfl) wd_356 wd_353 wd_354 wd_50 wd_355 lk_X1_thinlyReadBy ⟨rfl, rfl⟩ ⟨by decide, by decide⟩ ⟨Nat.zero_le _, Nat.zero_le _⟩ rfl (Nat.le_of_ble_eq_true rfl) dX2_findHangingByData_100) (fun r_100 q_100 => ?_)
              obtain rfl := q_100
              refine lv_iload_n hx hb dX2_findHangingByData_103 rfl (lv_at hl 3 rfl) ?_
              refine lv_iand hx hb dX2_findHangingByData_104 ?_
              refine lv_if_eq (tgt := 121) hx hb dX2_findHangingByData_105 (by decide) (fun c_105 => ?_) (fun c_105 => ?_)
              · refine lv_iinc (v := nI (i + 1)) (lv' := [(6, .int (nI (i + 1))), (0, .ref (ad 0)), (1, .ref (bd 0)), (2, .int (nI u)), (3, .int (setI Pv u)), (4, .int 1), (5, .int r_33)]) hx hb dX2_findHangingByData_121 hl (k := 6) rfl (nI_succ i).symm (by decide) rfl (fun ls hl => ?_)
                refine lv_goto (tgt := 41) hx hb dX2_findHangingByData_124 (by decide) ?_
                exact ih (i + 1, U) _ _ _ ⟨hh, (lv_sub hl [1, 2, 3, 4, 5, 6, 0] rfl), (by omega), hf, ho, (gr.no (fun hq => by first | (rw [(q_33 i).mpr hq.2.2.1] at c_57; cases c_57; done) | exact hq.2.2.2 c_68)), (gt.no (fun hq => by first | (rw [(q_33 i).mpr hq.2.1] at c_94; cases c_94; done) | exact hq.2.2 c_105))⟩ (by dsimp only; omega)
              · refine lv_aload_n hx hb dX2_findHangingByData_108 rfl (lv_at hl 0 rfl) ?_
                refine gfl hx hb hg inX2 hown hK hh.1 0 (ci := 2) rfl rfl 6 (by decide) wd_125 rfl dX2_findHangingByData_109 ?_
                refine lv_iload hx hb dX2_findHangingByData_112 (lv_at hl 6 rfl) ?_
                refine lv_dup2_11 hx hb dX2_findHangingByData_114 rfl rfl ?_
                refine ldn hx hb hK hh.1 6 0 rfl rfl (by omega) (by decide) dX2_findHangingByData_115 ?_
                refine lv_iconst (v := 1) hx hb dX2_findHangingByData_116 (by decide) ?_
                refine lv_iload_n hx hb dX2_findHangingByData_117 rfl (lv_at hl 2 rfl) ?_
                refine lv_ishl hx hb dX2_findHangingByData_118 ?_
                refine topv (bitI u) rfl ?_
                refine lv_ior hx hb dX2_findHangingByData_119 ?_
                refine stn (j := i) hx hb hK hh 6 0 rfl rfl (by omega) (by decide) dX2_findHangingByData_120 ((wR k ad (va_up U 6 (upd (U 6) i (((U 6) i) ||| (bitI u))))) ++ (wP k bd Pv)) rfl (fun H locs hh => ?_)
                refine lv_iinc (v := nI (i + 1)) (lv' := [(6, .int (nI (i + 1))), (0, .ref (ad 0)), (1, .ref (bd 0)), (2, .int (nI u)), (3, .int (setI Pv u)), (4, .int 1), (5, .int r_33)]) hx hb dX2_findHangingByData_121 hl (k := 6) rfl (nI_succ i).symm (by decide) rfl (fun ls hl => ?_)
                refine lv_goto (tgt := 41) hx hb dX2_findHangingByData_124 (by decide) ?_
                exact ih (i + 1, va_up U 6 (upd (U 6) i (((U 6) i) ||| (bitI u)))) _ _ _ ⟨hh, (lv_sub hl [1, 2, 3, 4, 5, 6, 0] rfl), (by omega), (hf.up (by decide)), (by simp [va_up, ho]), (gr.no (fun hq => by first | (rw [(q_33 i).mpr hq.2.2.1] at c_57; cases c_57; done) | exact hq.2.2.2 c_68)), (gt.yes (by omega) ⟨c_7, (q_33 i).mp c_94, c_105⟩)⟩ (by dsimp only; omega)
          · refine lv_aload_n hx hb dX2_findHangingByData_71 rfl (lv_at hl 0 rfl) ?_
            refine gfl hx hb hg inX2 hown hK hh.1 0 (ci := 2) rfl rfl 4 (by decide) wd_123 rfl dX2_findHangingByData_72 ?_
            refine lv_iload hx hb dX2_findHangingByData_75 (lv_at hl 4 rfl) ?_
            refine topv (nI 1) rfl ?_
            refine ldq (x := ad (10 + 1)) hx hb hK hh.1 4 2 rfl rfl rfl (by omega) (by decide) rfl dX2_findHangingByData_77 ?_
            refine lv_iload hx hb dX2_findHangingByData_78 (lv_at hl 6 rfl) ?_
            refine lv_dup2_11 hx hb dX2_findHangingByData_80 rfl rfl ?_
            refine ldn hx hb hK hh.1 11 0 rfl rfl (by omega) (by decide) dX2_findHangingByData_81 ?_
            refine lv_iconst (v := 1) hx hb dX2_findHangingByData_82 (by decide) ?_
            refine lv_iload_n hx hb dX2_findHangingByData_83 rfl (lv_at hl 2 rfl) ?_
            refine lv_ishl hx hb dX2_findHangingByData_84 ?_
            refine topv (bitI u) rfl ?_
            refine lv_ior hx hb dX2_findHangingByData_85 ?_
            refine stn (j := i) hx hb hK hh 11 0 rfl rfl (by omega) (by decide) dX2_findHangingByData_86 ((wR k ad (va_up U 11 (upd (U 11) i (((U 11) i) ||| (bitI u))))) ++ (wP k bd Pv)) rfl (fun H locs hh => ?_)
            refine lv_iload hx hb dX2_findHangingByData_87 (lv_at hl 5 rfl) ?_
            refine lv_iload hx hb dX2_findHangingByData_89 (lv_at hl 6 rfl) ?_
            refine callR (runSN hx hb hg hown hml hl.1 hN (c_X3_holds l D k (r_33) (q := i) (by omega)) [.int r_33, .int (nI i)] [] (preR (mapSome_sub hh.1 [] rfl) hK hN xb0 x0) 323 nst_323 wd_324 wd_49 wd_325 lk_X3_holds ⟨rfl, rfl⟩ ⟨by decide, by decide⟩ ⟨Nat.zero_le _, Nat.zero_le _⟩ rfl (Nat.le_of_ble_eq_true rfl) dX2_findHangingByData_91) (fun r_91 q_91 => ?_)
            obtain rfl := q_91
            refine lv_if_eq (tgt := 121) hx hb dX2_findHangingByData_94 (by decide) (fun c_94 => ?_) (fun c_94 => ?_)
            · have c_94 := zI_0.mp c_94
              refine lv_iinc (v := nI (i + 1)) (lv' := [(6, .int (nI (i + 1))), (0, .ref (ad 0)), (1, .ref (bd 0)), (2, .int (nI u)), (3, .int (setI Pv u)), (4, .int 1), (5, .int r_33)]) hx hb dX2_findHangingByData_121 hl (k := 6) rfl (nI_succ i).symm (by decide) rfl (fun ls hl => ?_)
              refine lv_goto (tgt := 41) hx hb dX2_findHangingByData_124 (by decide) ?_
              exact ih (i + 1, va_up U 11 (upd (U 11) i (((U 11) i) ||| (bitI u)))) _ _ _ ⟨hh, (lv_sub hl [1, 2, 3, 4, 5, 6, 0] rfl), (by omega), (hf.up (by decide)), (by simp [va_up, ho]), (gr.yes (by omega) ⟨c_15, c_7, (q_33 i).mp c_57, c_68⟩), (gt.no (fun hq => by first | (rw [(q_33 i).mpr hq.2.1] at c_94; cases c_94; done) | exact hq.2.2 c_105))⟩ (by dsimp only; omega)
            · have c_94 := zI_ne c_94
              refine lv_aload_n hx hb dX2_findHangingByData_97 rfl (lv_at hl 1 rfl) ?_
              refine lv_iload hx hb dX2_findHangingByData_98 (lv_at hl 6 rfl) ?_
              refine callR (runV hx hb hg hown hml hl.1 (c_X1_thinlyReadBy l D k bd Pv hv (q := i) (by omega)) [.int (nI i)] [] (preR (mapSome_sub hh.1 [15, 16, 17, 18, 19, 20, 21, 22] rfl) hK hN xb0 x0) (va_recv hK hh.1 (ci := 1) (q0 := 15) rfl rfl) wd_356 wd_353 wd_354 wd_50 wd_355 lk_X1_thinlyReadBy ⟨rfl, rfl⟩ ⟨by decide, by decide⟩ ⟨Nat.zero_le _, Nat.zero_le _⟩ rfl (Nat.le_of_ble_eq_true rfl) dX2_findHangingByData_100) (fun r_100 q_100 => ?_)
              obtain rfl := q_100
              refine lv_iload_n hx hb dX2_findHangingByData_103 rfl (lv_at hl 3 rfl) ?_
              refine lv_iand hx hb dX2_findHangingByData_104 ?_
              refine lv_if_eq (tgt := 121) hx hb dX2_findHangingByData_105 (by decide) (fun c_105 => ?_) (fun c_105 => ?_)
              · refine lv_iinc (v := nI (i + 1)) (lv' := [(6, .int (nI (i + 1))), (0, .ref (ad 0)), (1, .ref (bd 0)), (2, .int (nI u)), (3, .int (setI Pv u)), (4, .int 1), (5, .int r_33)]) hx hb dX2_findHangingByData_121 hl (k := 6) rfl (nI_succ i).symm (by decide) rfl (fun ls hl => ?_)
                refine lv_goto (tgt := 41) hx hb dX2_findHangingByData_124 (by decide) ?_
                exact ih (i + 1, va_up U 11 (upd (U 11) i (((U 11) i) ||| (bitI u)))) _ _ _ ⟨hh, (lv_sub hl [1, 2, 3, 4, 5, 6, 0] rfl), (by omega), (hf.up (by decide)), (by simp [va_up, ho]), (gr.yes (by omega) ⟨c_15, c_7, (q_33 i).mp c_57, c_68⟩), (gt.no (fun hq => by first | (rw [(q_33 i).mpr hq.2.1] at c_94; cases c_94; done) | exact hq.2.2 c_105))⟩ (by dsimp only; omega)
              · refine lv_aload_n hx hb dX2_findHangingByData_108 rfl (lv_at hl 0 rfl) ?_
                refine gfl hx hb hg inX2 hown hK hh.1 0 (ci := 2) rfl rfl 6 (by decide) wd_125 rfl dX2_findHangingByData_109 ?_
                refine lv_iload hx hb dX2_findHangingByData_112 (lv_at hl 6 rfl) ?_
                refine lv_dup2_11 hx hb dX2_findHangingByData_114 rfl rfl ?_
                refine ldn hx hb hK hh.1 6 0 rfl rfl (by omega) (by decide) dX2_findHangingByData_115 ?_
                refine lv_iconst (v := 1) hx hb dX2_findHangingByData_116 (by decide) ?_
                refine lv_iload_n hx hb dX2_findHangingByData_117 rfl (lv_at hl 2 rfl) ?_
                refine lv_ishl hx hb dX2_findHangingByData_118 ?_
                refine topv (bitI u) rfl ?_
                refine lv_ior hx hb dX2_findHangingByData_119 ?_
                refine stn (j := i) hx hb hK hh 6 0 rfl rfl (by omega) (by decide) dX2_findHangingByData_120 ((wR k ad (va_up (va_up U 11 (upd (U 11) i (((U 11) i) ||| (bitI u)))) 6 (upd (U 6) i (((U 6) i) ||| (bitI u))))) ++ (wP k bd Pv)) rfl (fun H locs hh => ?_)
                refine lv_iinc (v := nI (i + 1)) (lv' := [(6, .int (nI (i + 1))), (0, .ref (ad 0)), (1, .ref (bd 0)), (2, .int (nI u)), (3, .int (setI Pv u)), (4, .int 1), (5, .int r_33)]) hx hb dX2_findHangingByData_121 hl (k := 6) rfl (nI_succ i).symm (by decide) rfl (fun ls hl => ?_)
                refine lv_goto (tgt := 41) hx hb dX2_findHangingByData_124 (by decide) ?_
                exact ih (i + 1, va_up (va_up U 11 (upd (U 11) i (((U 11) i) ||| (bitI u)))) 6 (upd (U 6) i (((U 6) i) ||| (bitI u)))) _ _ _ ⟨hh, (lv_sub hl [1, 2, 3, 4, 5, 6, 0] rfl), (by omega), ((hf.up (by decide)).up (by decide)), (by simp [va_up, ho]), (gr.yes (by omega) ⟨c_15, c_7, (q_33 i).mp c_57, c_68⟩), (gt.yes (by omega) ⟨c_7, (q_33 i).mp c_94, c_105⟩)⟩ (by dsimp only; omega)
  · exact retV (Wd := fun U => (wR k ad U) ++ (wP k bd Pv)) (V) hx hb hr hlocks dX2_findHangingByData_10 hh (⟨Fr.rf, hg1.skip (fun v _ hq => hq.2.1 c_7), hg3.skip (fun v _ hq => hq.2.1 c_7), hgt.skip (fun v _ hq => hq.1 c_7)⟩)
abbrev rmX2_closeHanging : Room := { frames := 2, cells := 0, slots := 0, locals := 47 }
theorem lk_X2_closeHanging : Lk yX2_closeHanging 0 := by decide +kernel
set_option maxHeartbeats 4000000 in
set_option maxRecDepth 100000 in
/-- closeHanging() -/
theorem c_X2_closeHanging (l : Launch) (D : va_G) (k : Nat → ClassId) (ad : Nat → Nat) (V : St) {n : Nat} (hn : V 0 0 = nI n) (hn24 : n ≤ 24) (hB : ∀ p, p < n → ∀ j, (bt (V 6 p) j = true → j < 24) ∧ (bt (V 11 p) j = true → j < 24) ∧ (bt (V 12 p) j = true → j < 24) ∧ (bt (V 13 p) j = true → j < 24) ∧ (bt (V 14 p) j = true → j < 24)) : CtX noX l yX2_closeHanging cX2_closeHanging 2 none rmX2_closeHanging D (tyL k) (wR k ad V) [.ref (ad 0)] (qV D (wR k ad) (fun X => Fr [5, 6, 7, 8] V X ∧ ∀ p, p < n → X 5 p = V 11 p ||| V 12 p ||| V 13 p ||| V 14 p ∧ X 6 p = V 6 p ||| V 12 p ∧ (∀ j, bt (X 7 p) j = true ↔ Cl (fun j => j = p) (fun y z => y < n ∧ bt (X 5 y) z = true) j) ∧ (∀ j, bt (X 8 p) j = true ↔ Cl (fun j => j = p) (fun y z => y < n ∧ bt (X 6 y) z = true) j))) := by
  refine CtX.mk (by decide) (Nat.le_of_ble_eq_true rfl) ?_
  intro p e s m below meth c hx hb hml hown hg hr hlocks hK hN A hA hX hh ls hl
  have hh : Hd D A (wR k ad V) s.heap s.heap [] := hh
  have hl : lv_has ls 2 [(0, .ref (ad 0))] := hl
  refine lv_iconst (v := 0) hx hb dX2_closeHanging_0 (by decide) ?_
  refine lv_istore_n (lv' := [(1, .int 0), (0, .ref (ad 0))]) hx hb dX2_closeHanging_1 rfl hl (by decide) rfl (fun ls hl => ?_)
  refine loopW (σ := Nat × St) (fun zz9 H locs ls => match zz9 with | (i, U) => Hd D A (wR k ad U) s.heap H locs ∧ lv_has ls 2 [(0, .ref (ad 0)), (1, .int (nI i))] ∧ (i ≤ n) ∧ (Fr [5, 6] V U) ∧ (∀ p, p < i → U 5 p = V 11 p ||| V 12 p ||| V 13 p ||| V 14 p ∧ U 6 p = V 6 p ||| V 12 p) ∧ (∀ p, i ≤ p → U 6 p = V 6 p)) (fun zz9 => match zz9 with | (i, U) => n - i) ?_ (0, V) ⟨hh, (lv_sub hl [1, 0] rfl), (by omega), Fr.rf, (fun p hp => absurd hp (Nat.not_lt_zero _)), (fun p hp => rfl)⟩
  intro zz9 H locs ls hI ih
  obtain ⟨i, U⟩ := zz9
  obtain ⟨hh, hl, hi, hf, hA2, hA3⟩ := hI
  have hnU : U 0 0 = nI n := (hf.at 0 (by decide) 0).trans hn
  refine lv_iload_n hx hb dX2_closeHanging_2 rfl (lv_at hl 1 rfl) ?_
  refine lv_aload_n hx hb dX2_closeHanging_3 rfl (lv_at hl 0 rfl) ?_
  refine gfl hx hb hg inX2 hown hK hh.1 0 (ci := 2) rfl rfl 0 (by decide) wd_119 rfl dX2_closeHanging_4 ?_
  refine topv (nI n) hnU ?_
  refine lv_icmp_ge (tgt := 74) hx hb dX2_closeHanging_7 (by decide) (fun c_7 => ?_) (fun c_7 => ?_)
  · have c_7 : n ≤ i := (nI_leI (a := n) (b := i) (by omega) (by omega)).mp c_7
    have hb5 : ∀ p, p < n → ∀ j, bt (U 5 p) j = true → j < 24 := fun p hp j h => by rw [(hA2 p (by omega)).1, b_or, b_or, b_or] at h; simp only [Bool.or_eq_true] at h; rcases h with ((h | h) | h) | h; exact (hB p hp j).2.1 h; exact (hB p hp j).2.2.1 h; exact (hB p hp j).2.2.2.1 h; exact (hB p hp j).2.2.2.2 h
    have hb6 : ∀ p, p < n → ∀ j, bt (U 6 p) j = true → j < 24 := fun p hp j h => by rw [(hA2 p (by omega)).2, b_or] at h; simp only [Bool.or_eq_true] at h; rcases h with h | h; exact (hB p hp j).1 h; exact (hB p hp j).2.2.1 h
    refine lv_iconst (v := 0) hx hb dX2_closeHanging_74 (by decide) ?_
    refine lv_istore_n (lv' := [(1, .int 0), (0, .ref (ad 0))]) hx hb dX2_closeHanging_75 rfl hl (by decide) rfl (fun ls hl => ?_)
    refine loopW (σ := Nat × St) (fun zz9 H locs ls => match zz9 with | (i, X) => Hd D A (wR k ad X) s.heap H locs ∧ lv_has ls 2 [(0, .ref (ad 0)), (1, .int (nI i))] ∧ (i ≤ n) ∧ (Fr [7, 8] U X) ∧ (∀ p, p < i → (∀ j, bt (X 7 p) j = true ↔ Cl (fun j => j = p) (fun y z => y < n ∧ bt (U 5 y) z = true) j) ∧ (∀ j, bt (X 8 p) j = true ↔ Cl (fun j => j = p) (fun y z => y < n ∧ bt (U 6 y) z = true) j))) (fun zz9 => match zz9 with | (i, X) => n - i) ?_ (0, U) ⟨hh, (lv_sub hl [1, 0] rfl), (by omega), Fr.rf, (fun p hp => absurd hp (Nat.not_lt_zero _))⟩
    intro zz9 H locs ls hI ih
    obtain ⟨i, X⟩ := zz9
    obtain ⟨hh, hl, hi2, hf2, hA4⟩ := hI
    have hnX : X 0 0 = nI n := (hf2.at 0 (by decide) 0).trans hnU
    refine lv_iload_n hx hb dX2_closeHanging_76 rfl (lv_at hl 1 rfl) ?_
    refine lv_aload_n hx hb dX2_closeHanging_77 rfl (lv_at hl 0 rfl) ?_
    refine gfl hx hb hg inX2 hown hK hh.1 0 (ci := 2) rfl rfl 0 (by decide) wd_119 rfl dX2_closeHanging_78 ?_
    refine topv (nI n) hnX ?_
    refine lv_icmp_ge (tgt := 124) hx hb dX2_closeHanging_81 (by decide) (fun c_81 => ?_) (fun c_81 => ?_)
    · have c_81 : n ≤ i := (nI_leI (a := n) (b := i) (by omega) (by omega)).mp c_81
      exact retV (Wd := wR k ad) (X) hx hb hr hlocks dX2_closeHanging_124 hh (⟨(hf.mono (by decide)).trans (hf2.mono (by decide)), fun p hp => ⟨by rw [hf2 5 (by decide)]; exact (hA2 p (by omega)).1, by rw [hf2 6 (by decide)]; exact (hA2 p (by omega)).2, by rw [hf2 5 (by decide), hf2 6 (by decide)]; exact hA4 p (by omega)⟩⟩)
    · have c_81 : ¬ n ≤ i := fun z => c_81 ((nI_leI (a := n) (b := i) (by omega) (by omega)).mpr z)
      refine lv_aload_n hx hb dX2_closeHanging_84 rfl (lv_at hl 0 rfl) ?_
      refine gfl hx hb hg inX2 hown hK hh.1 0 (ci := 2) rfl rfl 7 (by decide) wd_126 rfl dX2_closeHanging_85 ?_
      refine lv_iload_n hx hb dX2_closeHanging_88 rfl (lv_at hl 1 rfl) ?_
      refine lv_aload_n hx hb dX2_closeHanging_89 rfl (lv_at hl 0 rfl) ?_
      refine lv_iconst (v := 1) hx hb dX2_closeHanging_90 (by decide) ?_
      refine lv_iload_n hx hb dX2_closeHanging_91 rfl (lv_at hl 1 rfl) ?_
      refine lv_ishl hx hb dX2_closeHanging_92 ?_
      refine topv (bitI i) rfl ?_
      refine lv_aload_n hx hb dX2_closeHanging_93 rfl (lv_at hl 0 rfl) ?_
      refine gfl hx hb hg inX2 hown hK hh.1 0 (ci := 2) rfl rfl 5 (by decide) wd_124 rfl dX2_closeHanging_94 ?_
      refine callR (runV hx hb hg hown hml hl.1 (c_X2_withAllBehind l D k ad X hnX hn24 (by rw [hf2 5 (by decide)]; exact hb5) (u := i) (by omega)) [.int (bitI i), .ref (ad 5)] [.int (nI i), .ref (ad 7)] (preR (mapSome_sub hh.1 [0, 1, 2, 3, 4, 5, 6, 7, 8, 9, 10, 11, 12, 13, 14] rfl) hK hN xb0 x0) (va_recv hK hh.1 (ci := 2) (q0 := 0) rfl rfl) wd_373 wd_375 wd_12 wd_51 wd_376 lk_X2_withAllBehind ⟨rfl, rfl⟩ ⟨by decide, by decide⟩ ⟨Nat.zero_le _, Nat.zero_le _⟩ rfl (Nat.le_of_ble_eq_true rfl) dX2_closeHanging_97) (fun r_97 q_97 => ?_)
      rw [hf2 5 (by decide)] at q_97
      refine stn (j := i) hx hb hK hh 7 0 rfl rfl (by omega) (by decide) dX2_closeHanging_100 (wR k ad (va_up X 7 (upd (X 7) i r_97))) rfl (fun H locs hh => ?_)
      refine lv_aload_n hx hb dX2_closeHanging_101 rfl (lv_at hl 0 rfl) ?_
      refine gfl hx hb hg inX2 hown hK hh.1 0 (ci := 2) rfl rfl 8 (by decide) wd_127 rfl dX2_closeHanging_102 ?_
      refine lv_iload_n hx hb dX2_closeHanging_105 rfl (lv_at hl 1 rfl) ?_
      refine lv_aload_n hx hb dX2_closeHanging_106 rfl (lv_at hl 0 rfl) ?_
      refine lv_iconst (v := 1) hx hb dX2_closeHanging_107 (by decide) ?_
      refine lv_iload_n hx hb dX2_closeHanging_108 rfl (lv_at hl 1 rfl) ?_
      refine lv_ishl hx hb dX2_closeHanging_109 ?_
      refine topv (bitI i) rfl ?_
      refine lv_aload_n hx hb dX2_closeHanging_110 rfl (lv_at hl 0 rfl) ?_
      refine gfl hx hb hg inX2 hown hK hh.1 0 (ci := 2) rfl rfl 6 (by decide) wd_125 rfl dX2_closeHanging_111 ?_
      refine callR (runV hx hb hg hown hml hl.1 (c_X2_withAllBehind_6 l D k ad (va_up X 7 (upd (X 7) i r_97)) hnX hn24 (by rw [(hf2.up (by decide)) 6 (by decide)]; exact hb6) (u := i) (by omega)) [.int (bitI i), .ref (ad 6)] [.int (nI i), .ref (ad 8)] (preR (mapSome_sub hh.1 [0, 1, 2, 3, 4, 5, 6, 7, 8, 9, 10, 11, 12, 13, 14] rfl) hK hN xb0 x0) (va_recv hK hh.1 (ci := 2) (q0 := 0) rfl rfl) wd_373 wd_375 wd_12 wd_51 wd_376 lk_X2_withAllBehind ⟨rfl, rfl⟩ ⟨by decide, by decide⟩ ⟨Nat.zero_le _, Nat.zero_le _⟩ rfl (Nat.le_of_ble_eq_true rfl) dX2_closeHanging_114) (fun r_114 q_114 => ?_)
      rw [(hf2.up (by decide)) 6 (by decide)] at q_114
      refine stn (j := i) hx hb hK hh 8 0 rfl rfl (by omega) (by decide) dX2_closeHanging_117 (wR k ad (va_up (va_up X 7 (upd (X 7) i r_97)) 8 (upd (X 8) i r_114))) rfl (fun H locs hh => ?_)
      refine lv_iinc (v := nI (i + 1)) (lv' := [(1, .int (nI (i + 1))), (0, .ref (ad 0))]) hx hb dX2_closeHanging_118 hl (k := 1) rfl (nI_succ i).symm (by decide) rfl (fun ls hl => ?_)
      refine lv_goto (tgt := 76) hx hb dX2_closeHanging_121 (by decide) ?_
      exact ih (i + 1, va_up (va_up X 7 (upd (X 7) i r_97)) 8 (upd (X 8) i r_114)) _ _ _ ⟨hh, (lv_sub hl [1, 0] rfl), (by omega), ((hf2.up (by decide)).up (by decide)), (fun p hp => by rcases Classical.em (p = i) with e | e; (subst e; refine ⟨fun j => ?_, fun j => ?_⟩; (rw [up_n (by decide), up_s, upd_s]; exact q_97 j); (rw [up_s, upd_s]; exact q_114 j)); (have h1 := hA4 p (by omega); refine ⟨fun j => ?_, fun j => ?_⟩; (rw [up_n (by decide), up_s, upd_n e]; exact h1.1 j); (rw [up_s, upd_n e]; exact h1.2 j)))⟩ (by dsimp only; omega)
  · have c_7 : ¬ n ≤ i := fun z => c_7 ((nI_leI (a := n) (b := i) (by omega) (by omega)).mpr z)
    refine lv_aload_n hx hb dX2_closeHanging_10 rfl (lv_at hl 0 rfl) ?_
    refine gfl hx hb hg inX2 hown hK hh.1 0 (ci := 2) rfl rfl 5 (by decide) wd_124 rfl dX2_closeHanging_11 ?_
    refine lv_iload_n hx hb dX2_closeHanging_14 rfl (lv_at hl 1 rfl) ?_
    refine lv_aload_n hx hb dX2_closeHanging_15 rfl (lv_at hl 0 rfl) ?_
    refine gfl hx hb hg inX2 hown hK hh.1 0 (ci := 2) rfl rfl 4 (by decide) wd_123 rfl dX2_closeHanging_16 ?_
    refine lv_iconst (v := 1) hx hb dX2_closeHanging_19 (by decide) ?_
    refine topv (nI 1) rfl ?_
    refine ldq (x := ad (10 + 1)) hx hb hK hh.1 4 2 rfl rfl rfl (by omega) (by decide) rfl dX2_closeHanging_20 ?_
    refine lv_iload_n hx hb dX2_closeHanging_21 rfl (lv_at hl 1 rfl) ?_
    refine ldn hx hb hK hh.1 11 0 rfl rfl (by omega) (by decide) dX2_closeHanging_22 ?_
    refine lv_aload_n hx hb dX2_closeHanging_23 rfl (lv_at hl 0 rfl) ?_
    refine gfl hx hb hg inX2 hown hK hh.1 0 (ci := 2) rfl rfl 4 (by decide) wd_123 rfl dX2_closeHanging_24 ?_
    refine lv_iconst (v := 2) hx hb dX2_closeHanging_27 (by decide) ?_
    refine topv (nI 2) rfl ?_
    refine ldq (x := ad (10 + 2)) hx hb hK hh.1 4 2 rfl rfl rfl (by omega) (by decide) rfl dX2_closeHanging_28 ?_
    refine lv_iload_n hx hb dX2_closeHanging_29 rfl (lv_at hl 1 rfl) ?_
    refine ldn hx hb hK hh.1 12 0 rfl rfl (by omega) (by decide) dX2_closeHanging_30 ?_
    refine lv_ior hx hb dX2_closeHanging_31 ?_
    refine lv_aload_n hx hb dX2_closeHanging_32 rfl (lv_at hl 0 rfl) ?_
    refine gfl hx hb hg inX2 hown hK hh.1 0 (ci := 2) rfl rfl 4 (by decide) wd_123 rfl dX2_closeHanging_33 ?_
    refine lv_iconst (v := 3) hx hb dX2_closeHanging_36 (by decide) ?_
    refine topv (nI 3) rfl ?_
    refine ldq (x := ad (10 + 3)) hx hb hK hh.1 4 2 rfl rfl rfl (by omega) (by decide) rfl dX2_closeHanging_37 ?_
    refine lv_iload_n hx hb dX2_closeHanging_38 rfl (lv_at hl 1 rfl) ?_
    refine ldn hx hb hK hh.1 13 0 rfl rfl (by omega) (by decide) dX2_closeHanging_39 ?_
    refine lv_ior hx hb dX2_closeHanging_40 ?_
    refine lv_aload_n hx hb dX2_closeHanging_41 rfl (lv_at hl 0 rfl) ?_
    refine gfl hx hb hg inX2 hown hK hh.1 0 (ci := 2) rfl rfl 4 (by decide) wd_123 rfl dX2_closeHanging_42 ?_
    refine lv_iconst (v := 4) hx hb dX2_closeHanging_45 (by decide) ?_
    refine topv (nI 4) rfl ?_
    refine ldq (x := ad (10 + 4)) hx hb hK hh.1 4 2 rfl rfl rfl (by omega) (by decide) rfl dX2_closeHanging_46 ?_
    refine lv_iload_n hx hb dX2_closeHanging_47 rfl (lv_at hl 1 rfl) ?_
    refine ldn hx hb hK hh.1 14 0 rfl rfl (by omega) (by decide) dX2_closeHanging_48 ?_
    refine lv_ior hx hb dX2_closeHanging_49 ?_
    refine stn (j := i) hx hb hK hh 5 0 rfl rfl (by omega) (by decide) dX2_closeHanging_50 (wR k ad (va_up U 5 (upd (U 5) i (((((U 11) i) ||| ((U 12) i)) ||| ((U 13) i)) ||| ((U 14) i))))) rfl (fun H locs hh => ?_)
    refine lv_aload_n hx hb dX2_closeHanging_51 rfl (lv_at hl 0 rfl) ?_
    refine gfl hx hb hg inX2 hown hK hh.1 0 (ci := 2) rfl rfl 6 (by decide) wd_125 rfl dX2_closeHanging_52 ?_
    refine lv_iload_n hx hb dX2_closeHanging_55 rfl (lv_at hl 1 rfl) ?_
    refine lv_dup2_11 hx hb dX2_closeHanging_56 rfl rfl ?_
    refine ldn hx hb hK hh.1 6 0 rfl rfl (by omega) (by decide) dX2_closeHanging_57 ?_
    refine lv_aload_n hx hb dX2_closeHanging_58 rfl (lv_at hl 0 rfl) ?_
    refine gfl hx hb hg inX2 hown hK hh.1 0 (ci := 2) rfl rfl 4 (by decide) wd_123 rfl dX2_closeHanging_59 ?_
    refine lv_iconst (v := 2) hx hb dX2_closeHanging_62 (by decide) ?_
    refine topv (nI 2) rfl ?_
    refine ldq (x := ad (10 + 2)) hx hb hK hh.1 4 2 rfl rfl rfl (by omega) (by decide) rfl dX2_closeHanging_63 ?_
    refine lv_iload_n hx hb dX2_closeHanging_64 rfl (lv_at hl 1 rfl) ?_
    refine ldn hx hb hK hh.1 12 0 rfl rfl (by omega) (by decide) dX2_closeHanging_65 ?_
    refine lv_ior hx hb dX2_closeHanging_66 ?_
    refine stn (j := i) hx hb hK hh 6 0 rfl rfl (by omega) (by decide) dX2_closeHanging_67 (wR k ad (va_up (va_up U 5 (upd (U 5) i (((((U 11) i) ||| ((U 12) i)) ||| ((U 13) i)) ||| ((U 14) i)))) 6 (upd (U 6) i (((U 6) i) ||| ((U 12) i))))) rfl (fun H locs hh => ?_)
    refine lv_iinc (v := nI (i + 1)) (lv' := [(1, .int (nI (i + 1))), (0, .ref (ad 0))]) hx hb dX2_closeHanging_68 hl (k := 1) rfl (nI_succ i).symm (by decide) rfl (fun ls hl => ?_)
    refine lv_goto (tgt := 2) hx hb dX2_closeHanging_71 (by decide) ?_
    exact ih (i + 1, va_up (va_up U 5 (upd (U 5) i (((((U 11) i) ||| ((U 12) i)) ||| ((U 13) i)) ||| ((U 14) i)))) 6 (upd (U 6) i (((U 6) i) ||| ((U 12) i)))) _ _ _ ⟨hh, (lv_sub hl [1, 0] rfl), (by omega), ((hf.up (by decide)).up (by decide)), (fun p hp => by rcases Classical.em (p = i) with e | e; (subst e; have h3 := hA3 p (by omega); simp [va_up, upd, h3, hf 11 (by decide), hf 12 (by decide), hf 13 (by decide), hf 14 (by decide)]); (have h1 := hA2 p (by omega); simp [va_up, upd, e, h1])), (fun p hp => by have h1 := hA3 p (by omega); simp [va_up, upd, show ¬ p = i by omega, h1])⟩ (by dsimp only; omega)
