/-! the class Reasons: what reads -/
abbrev rmX2_backOf : Room := { frames := 0, cells := 0, slots := 0, locals := 0 }
theorem lk_X2_backOf : Lk yX2_backOf 1 := by decide +kernel
set_option maxHeartbeats 4000000 in
set_option maxRecDepth 100000 in
/-- backOf(p) -/
theorem c_X2_backOf (l : Launch) (D : va_G) (k : Nat → ClassId) (ad : Nat → Nat) (V : St) {q : Nat} (hq : q < 24) : CtR noX l yX2_backOf cX2_backOf 2 (some .int) rmX2_backOf D (tyL k) (wR k ad V) [.ref (ad 0), .int (nI q)] (fun r => r = V 7 q) := by
  refine CtR.mk (by decide) (Nat.le_of_ble_eq_true rfl) ?_
  intro p e s m below meth c hx hb hml hown hg hr hlocks hK hN hX H hH hP ls hl
  have hl : lv_has ls 2 [(0, .ref (ad 0)), (1, .int (nI q))] := hl
  refine lv_aload_n hx hb dX2_backOf_0 rfl (lv_at hl 0 rfl) ?_
  refine gfl hx hb hg inX2 hown hK hP 0 (ci := 2) rfl rfl 7 (by decide) wd_126 rfl dX2_backOf_1 ?_
  refine lv_iload_n hx hb dX2_backOf_4 rfl (lv_at hl 1 rfl) ?_
  refine ldn hx hb hK hP 7 0 rfl rfl (by omega) (by decide) dX2_backOf_5 ?_
  exact retRI (v := (V 7) q) hx hb hr hlocks hH dX2_backOf_6 (rfl)
abbrev rmX2_thinOf : Room := { frames := 0, cells := 0, slots := 0, locals := 0 }
theorem lk_X2_thinOf : Lk yX2_thinOf 1 := by decide +kernel
set_option maxHeartbeats 4000000 in
set_option maxRecDepth 100000 in
/-- thinOf(p) -/
theorem c_X2_thinOf (l : Launch) (D : va_G) (k : Nat → ClassId) (ad : Nat → Nat) (V : St) {q : Nat} (hq : q < 24) : CtR noX l yX2_thinOf cX2_thinOf 2 (some .int) rmX2_thinOf D (tyL k) (wR k ad V) [.ref (ad 0), .int (nI q)] (fun r => r = V 8 q) := by
  refine CtR.mk (by decide) (Nat.le_of_ble_eq_true rfl) ?_
  intro p e s m below meth c hx hb hml hown hg hr hlocks hK hN hX H hH hP ls hl
  have hl : lv_has ls 2 [(0, .ref (ad 0)), (1, .int (nI q))] := hl
  refine lv_aload_n hx hb dX2_thinOf_0 rfl (lv_at hl 0 rfl) ?_
  refine gfl hx hb hg inX2 hown hK hP 0 (ci := 2) rfl rfl 8 (by decide) wd_127 rfl dX2_thinOf_1 ?_
  refine lv_iload_n hx hb dX2_thinOf_4 rfl (lv_at hl 1 rfl) ?_
  refine ldn hx hb hK hP 8 0 rfl rfl (by omega) (by decide) dX2_thinOf_5 ?_
  exact retRI (v := (V 8) q) hx hb hr hlocks hH dX2_thinOf_6 (rfl)
abbrev rmX2_followersOf : Room := { frames := 0, cells := 0, slots := 0, locals := 0 }
theorem lk_X2_followersOf : Lk yX2_followersOf 1 := by decide +kernel
set_option maxHeartbeats 4000000 in
set_option maxRecDepth 100000 in
/-- followersOf(p) -/
theorem c_X2_followersOf (l : Launch) (D : va_G) (k : Nat → ClassId) (ad : Nat → Nat) (V : St) {q : Nat} (hq : q < 24) : CtR noX l yX2_followersOf cX2_followersOf 2 (some .int) rmX2_followersOf D (tyL k) (wR k ad V) [.ref (ad 0), .int (nI q)] (fun r => r = V 3 q) := by
  refine CtR.mk (by decide) (Nat.le_of_ble_eq_true rfl) ?_
  intro p e s m below meth c hx hb hml hown hg hr hlocks hK hN hX H hH hP ls hl
  have hl : lv_has ls 2 [(0, .ref (ad 0)), (1, .int (nI q))] := hl
  refine lv_aload_n hx hb dX2_followersOf_0 rfl (lv_at hl 0 rfl) ?_
  refine gfl hx hb hg inX2 hown hK hP 0 (ci := 2) rfl rfl 3 (by decide) wd_122 rfl dX2_followersOf_1 ?_
  refine lv_iload_n hx hb dX2_followersOf_4 rfl (lv_at hl 1 rfl) ?_
  refine ldn hx hb hK hP 3 0 rfl rfl (by omega) (by decide) dX2_followersOf_5 ?_
  exact retRI (v := (V 3) q) hx hb hr hlocks hH dX2_followersOf_6 (rfl)
abbrev rmX2_whoseSetHolds : Room := { frames := 1, cells := 0, slots := 0, locals := 21 }
theorem lk_X2_whoseSetHolds : Lk yX2_whoseSetHolds 2 := by decide +kernel
set_option maxHeartbeats 4000000 in
set_option maxRecDepth 100000 in
/-- whoseSetHolds(p, sets) -/
theorem c_X2_whoseSetHolds (l : Launch) (D : va_G) (k : Nat → ClassId) (ad : Nat → Nat) (V : St) {n : Nat} (hn : V 0 0 = nI n) (hn24 : n ≤ 24) {q : Nat} (hq : q < 24) : CtR noX l yX2_whoseSetHolds cX2_whoseSetHolds 5 (some .int) rmX2_whoseSetHolds D (tyL k) (wR k ad V) [.ref (ad 0), .int (nI q), .ref (ad 7)] (fun r => r = mkM n (fun v => bt (V 7 v) q)) := by
  refine CtR.mk (by decide) (Nat.le_of_ble_eq_true rfl) ?_
  intro p e s m below meth c hx hb hml hown hg hr hlocks hK hN hX H hH hP ls hl
  have hl : lv_has ls 5 [(0, .ref (ad 0)), (1, .int (nI q)), (2, .ref (ad 7))] := hl
  refine lv_iconst (v := 0) hx hb dX2_whoseSetHolds_0 (by decide) ?_
  refine lv_istore_n (lv' := [(3, .int 0), (0, .ref (ad 0)), (1, .int (nI q)), (2, .ref (ad 7))]) hx hb dX2_whoseSetHolds_1 rfl hl (by decide) rfl (fun ls hl => ?_)
  refine lv_iconst (v := 0) hx hb dX2_whoseSetHolds_2 (by decide) ?_
  refine lv_istore (lv' := [(4, .int 0), (3, .int 0), (0, .ref (ad 0)), (1, .int (nI q)), (2, .ref (ad 7))]) hx hb dX2_whoseSetHolds_3 hl (by decide) rfl (fun ls hl => ?_)
  refine loopR (σ := Nat) (fun i ls => lv_has ls 5 [(0, .ref (ad 0)), (1, .int (nI q)), (2, .ref (ad 7)), (3, .int (mkM i (fun v => bt (V 7 v) q))), (4, .int (nI i))] ∧ (i ≤ n)) (fun i => n - i) ?_ (0) ⟨(lv_sub hl [2, 3, 4, 1, 0] rfl), (by omega)⟩
  intro zz9 ls hI ih
  obtain ⟨i, rfl⟩ : ∃ z, z = zz9 := ⟨_, rfl⟩
  obtain ⟨hl, hi⟩ := hI
  refine lv_iload hx hb dX2_whoseSetHolds_5 (lv_at hl 4 rfl) ?_
  refine lv_aload_n hx hb dX2_whoseSetHolds_7 rfl (lv_at hl 0 rfl) ?_
  refine gfl hx hb hg inX2 hown hK hP 0 (ci := 2) rfl rfl 0 (by decide) wd_119 rfl dX2_whoseSetHolds_8 ?_
  refine topv (nI n) hn ?_
  refine lv_icmp_ge (tgt := 38) hx hb dX2_whoseSetHolds_11 (by decide) (fun c_11 => ?_) (fun c_11 => ?_)
  · have c_11 : n ≤ i := (nI_leI (a := n) (b := i) (by omega) (by omega)).mp c_11
    refine lv_iload_n hx hb dX2_whoseSetHolds_38 rfl (lv_at hl 3 rfl) ?_
    exact retRI (v := mkM i (fun v => bt (V 7 v) q)) hx hb hr hlocks hH dX2_whoseSetHolds_39 (by rw [show i = n by omega])
  · have c_11 : ¬ n ≤ i := fun z => c_11 ((nI_leI (a := n) (b := i) (by omega) (by omega)).mpr z)
    refine lv_aload_n hx hb dX2_whoseSetHolds_14 rfl (lv_at hl 2 rfl) ?_
    refine lv_iload hx hb dX2_whoseSetHolds_15 (lv_at hl 4 rfl) ?_
    refine ldn hx hb hK hP 7 0 rfl rfl (by omega) (by decide) dX2_whoseSetHolds_17 ?_
    refine lv_iload_n hx hb dX2_whoseSetHolds_18 rfl (lv_at hl 1 rfl) ?_
    refine callR (runSN hx hb hg hown hml hl.1 hN (c_X3_holds l D k ((V 7) i) (q := q) (by omega)) [.int ((V 7) i), .int (nI q)] [] (preR (mapSome_sub hP [] rfl) hK hN xb0 x0) 323 nst_323 wd_324 wd_49 wd_325 lk_X3_holds ⟨rfl, rfl⟩ ⟨by decide, by decide⟩ ⟨Nat.zero_le _, Nat.zero_le _⟩ rfl (Nat.le_of_ble_eq_true rfl) dX2_whoseSetHolds_19) (fun r_19 q_19 => ?_)
    obtain rfl := q_19
    refine lv_if_eq (tgt := 32) hx hb dX2_whoseSetHolds_22 (by decide) (fun c_22 => ?_) (fun c_22 => ?_)
    · have c_22 := zI_0.mp c_22
      refine lv_iinc (v := nI (i + 1)) (lv' := [(4, .int (nI (i + 1))), (0, .ref (ad 0)), (1, .int (nI q)), (2, .ref (ad 7)), (3, .int (mkM i (fun v => bt (V 7 v) q)))]) hx hb dX2_whoseSetHolds_32 hl (k := 4) rfl (nI_succ i).symm (by decide) rfl (fun ls hl => ?_)
      refine lv_goto (tgt := 5) hx hb dX2_whoseSetHolds_35 (by decide) ?_
      rw [mkM_f (f := (fun v => bt (V 7 v) q)) c_22] at hl
      exact ih (i + 1) _ ⟨(lv_sub hl [1, 2, 3, 4, 0] rfl), (by omega)⟩ (by omega)
    · have c_22 := zI_ne c_22
      refine lv_iload_n hx hb dX2_whoseSetHolds_25 rfl (lv_at hl 3 rfl) ?_
      refine lv_iconst (v := 1) hx hb dX2_whoseSetHolds_26 (by decide) ?_
      refine lv_iload hx hb dX2_whoseSetHolds_27 (lv_at hl 4 rfl) ?_
      refine lv_ishl hx hb dX2_whoseSetHolds_29 ?_
      refine topv (bitI i) rfl ?_
      refine lv_ior hx hb dX2_whoseSetHolds_30 ?_
      refine lv_istore_n (lv' := [(3, .int ((mkM i (fun v => bt (V 7 v) q)) ||| (bitI i))), (0, .ref (ad 0)), (1, .int (nI q)), (2, .ref (ad 7)), (4, .int (nI i))]) hx hb dX2_whoseSetHolds_31 rfl hl (by decide) rfl (fun ls hl => ?_)
      refine lv_iinc (v := nI (i + 1)) (lv' := [(4, .int (nI (i + 1))), (3, .int ((mkM i (fun v => bt (V 7 v) q)) ||| (bitI i))), (0, .ref (ad 0)), (1, .int (nI q)), (2, .ref (ad 7))]) hx hb dX2_whoseSetHolds_32 hl (k := 4) rfl (nI_succ i).symm (by decide) rfl (fun ls hl => ?_)
      refine lv_goto (tgt := 5) hx hb dX2_whoseSetHolds_35 (by decide) ?_
      rw [mkM_t (f := (fun v => bt (V 7 v) q)) c_22] at hl
      exact ih (i + 1) _ ⟨(lv_sub hl [2, 3, 4, 1, 0] rfl), (by omega)⟩ (by omega)
set_option maxHeartbeats 4000000 in
set_option maxRecDepth 100000 in
/-- whoseSetHolds(p, sets) -/
theorem c_X2_whoseSetHolds_8 (l : Launch) (D : va_G) (k : Nat → ClassId) (ad : Nat → Nat) (V : St) {n : Nat} (hn : V 0 0 = nI n) (hn24 : n ≤ 24) {q : Nat} (hq : q < 24) : CtR noX l yX2_whoseSetHolds cX2_whoseSetHolds 5 (some .int) rmX2_whoseSetHolds D (tyL k) (wR k ad V) [.ref (ad 0), .int (nI q), .ref (ad 8)] (fun r => r = mkM n (fun v => bt (V 8 v) q)) := by
  refine CtR.mk (by decide) (Nat.le_of_ble_eq_true rfl) ?_
  intro p e s m below meth c hx hb hml hown hg hr hlocks hK hN hX H hH hP ls hl
  have hl : lv_has ls 5 [(0, .ref (ad 0)), (1, .int (nI q)), (2, .ref (ad 8))] := hl
  refine lv_iconst (v := 0) hx hb dX2_whoseSetHolds_0 (by decide) ?_
  refine lv_istore_n (lv' := [(3, .int 0), (0, .ref (ad 0)), (1, .int (nI q)), (2, .ref (ad 8))]) hx hb dX2_whoseSetHolds_1 rfl hl (by decide) rfl (fun ls hl => ?_)
  refine lv_iconst (v := 0) hx hb dX2_whoseSetHolds_2 (by decide) ?_
  refine lv_istore (lv' := [(4, .int 0), (3, .int 0), (0, .ref (ad 0)), (1, .int (nI q)), (2, .ref (ad 8))]) hx hb dX2_whoseSetHolds_3 hl (by decide) rfl (fun ls hl => ?_)
  refine loopR (σ := Nat) (fun i ls => lv_has ls 5 [(0, .ref (ad 0)), (1, .int (nI q)), (2, .ref (ad 8)), (3, .int (mkM i (fun v => bt (V 8 v) q))), (4, .int (nI i))] ∧ (i ≤ n)) (fun i => n - i) ?_ (0) ⟨(lv_sub hl [2, 3, 4, 1, 0] rfl), (by omega)⟩
  intro zz9 ls hI ih
  obtain ⟨i, rfl⟩ : ∃ z, z = zz9 := ⟨_, rfl⟩
  obtain ⟨hl, hi⟩ := hI
  refine lv_iload hx hb dX2_whoseSetHolds_5 (lv_at hl 4 rfl) ?_
  refine lv_aload_n hx hb dX2_whoseSetHolds_7 rfl (lv_at hl 0 rfl) ?_
  refine gfl hx hb hg inX2 hown hK hP 0 (ci := 2) rfl rfl 0 (by decide) wd_119 rfl dX2_whoseSetHolds_8 ?_
  refine topv (nI n) hn ?_
  refine lv_icmp_ge (tgt := 38) hx hb dX2_whoseSetHolds_11 (by decide) (fun c_11 => ?_) (fun c_11 => ?_)
  · have c_11 : n ≤ i := (nI_leI (a := n) (b := i) (by omega) (by omega)).mp c_11
    refine lv_iload_n hx hb dX2_whoseSetHolds_38 rfl (lv_at hl 3 rfl) ?_
    exact retRI (v := mkM i (fun v => bt (V 8 v) q)) hx hb hr hlocks hH dX2_whoseSetHolds_39 (by rw [show i = n by omega])
  · have c_11 : ¬ n ≤ i := fun z => c_11 ((nI_leI (a := n) (b := i) (by omega) (by omega)).mpr z)
    refine lv_aload_n hx hb dX2_whoseSetHolds_14 rfl (lv_at hl 2 rfl) ?_
    refine lv_iload hx hb dX2_whoseSetHolds_15 (lv_at hl 4 rfl) ?_
    refine ldn hx hb hK hP 8 0 rfl rfl (by omega) (by decide) dX2_whoseSetHolds_17 ?_
    refine lv_iload_n hx hb dX2_whoseSetHolds_18 rfl (lv_at hl 1 rfl) ?_
    refine callR (runSN hx hb hg hown hml hl.1 hN (c_X3_holds l D k ((V 8) i) (q := q) (by omega)) [.int ((V 8) i), .int (nI q)] [] (preR (mapSome_sub hP [] rfl) hK hN xb0 x0) 323 nst_323 wd_324 wd_49 wd_325 lk_X3_holds ⟨rfl, rfl⟩ ⟨by decide, by decide⟩ ⟨Nat.zero_le _, Nat.zero_le _⟩ rfl (Nat.le_of_ble_eq_true rfl) dX2_whoseSetHolds_19) (fun r_19 q_19 => ?_)
    obtain rfl := q_19
    refine lv_if_eq (tgt := 32) hx hb dX2_whoseSetHolds_22 (by decide) (fun c_22 => ?_) (fun c_22 => ?_)
    · have c_22 := zI_0.mp c_22
      refine lv_iinc (v := nI (i + 1)) (lv' := [(4, .int (nI (i + 1))), (0, .ref (ad 0)), (1, .int (nI q)), (2, .ref (ad 8)), (3, .int (mkM i (fun v => bt (V 8 v) q)))]) hx hb dX2_whoseSetHolds_32 hl (k := 4) rfl (nI_succ i).symm (by decide) rfl (fun ls hl => ?_)
      refine lv_goto (tgt := 5) hx hb dX2_whoseSetHolds_35 (by decide) ?_
      rw [mkM_f (f := (fun v => bt (V 8 v) q)) c_22] at hl
      exact ih (i + 1) _ ⟨(lv_sub hl [1, 2, 3, 4, 0] rfl), (by omega)⟩ (by omega)
    · have c_22 := zI_ne c_22
      refine lv_iload_n hx hb dX2_whoseSetHolds_25 rfl (lv_at hl 3 rfl) ?_
      refine lv_iconst (v := 1) hx hb dX2_whoseSetHolds_26 (by decide) ?_
      refine lv_iload hx hb dX2_whoseSetHolds_27 (lv_at hl 4 rfl) ?_
      refine lv_ishl hx hb dX2_whoseSetHolds_29 ?_
      refine topv (bitI i) rfl ?_
      refine lv_ior hx hb dX2_whoseSetHolds_30 ?_
      refine lv_istore_n (lv' := [(3, .int ((mkM i (fun v => bt (V 8 v) q)) ||| (bitI i))), (0, .ref (ad 0)), (1, .int (nI q)), (2, .ref (ad 8)), (4, .int (nI i))]) hx hb dX2_whoseSetHolds_31 rfl hl (by decide) rfl (fun ls hl => ?_)
      refine lv_iinc (v := nI (i + 1)) (lv' := [(4, .int (nI (i + 1))), (3, .int ((mkM i (fun v => bt (V 8 v) q)) ||| (bitI i))), (0, .ref (ad 0)), (1, .int (nI q)), (2, .ref (ad 8))]) hx hb dX2_whoseSetHolds_32 hl (k := 4) rfl (nI_succ i).symm (by decide) rfl (fun ls hl => ?_)
      refine lv_goto (tgt := 5) hx hb dX2_whoseSetHolds_35 (by decide) ?_
      rw [mkM_t (f := (fun v => bt (V 8 v) q)) c_22] at hl
      exact ih (i + 1) _ ⟨(lv_sub hl [2, 3, 4, 1, 0] rfl), (by omega)⟩ (by omega)
abbrev rmX2_forwardOf : Room := { frames := 2, cells := 0, slots := 0, locals := 45 }
theorem lk_X2_forwardOf : Lk yX2_forwardOf 1 := by decide +kernel
set_option maxHeartbeats 4000000 in
set_option maxRecDepth 100000 in
/-- forwardOf(p) -/
theorem c_X2_forwardOf (l : Launch) (D : va_G) (k : Nat → ClassId) (ad : Nat → Nat) (V : St) {n : Nat} (hn : V 0 0 = nI n) (hn24 : n ≤ 24) {q : Nat} (hq : q < 24) : CtR noX l yX2_forwardOf cX2_forwardOf 2 (some .int) rmX2_forwardOf D (tyL k) (wR k ad V) [.ref (ad 0), .int (nI q)] (fun r => r = mkM n (fun v => bt (V 7 v) q)) := by
  refine CtR.mk (by decide) (Nat.le_of_ble_eq_true rfl) ?_
  intro p e s m below meth c hx hb hml hown hg hr hlocks hK hN hX H hH hP ls hl
  have hl : lv_has ls 2 [(0, .ref (ad 0)), (1, .int (nI q))] := hl
  refine lv_aload_n hx hb dX2_forwardOf_0 rfl (lv_at hl 0 rfl) ?_
  refine lv_iload_n hx hb dX2_forwardOf_1 rfl (lv_at hl 1 rfl) ?_
  refine lv_aload_n hx hb dX2_forwardOf_2 rfl (lv_at hl 0 rfl) ?_
  refine gfl hx hb hg inX2 hown hK hP 0 (ci := 2) rfl rfl 7 (by decide) wd_126 rfl dX2_forwardOf_3 ?_
  refine callR (runV hx hb hg hown hml hl.1 (c_X2_whoseSetHolds l D k ad V hn hn24 hq) [.int (nI q), .ref (ad 7)] [] (preR (mapSome_sub hP [0, 1, 2, 3, 4, 5, 6, 7, 8, 9, 10, 11, 12, 13, 14] rfl) hK hN xb0 x0) (va_recv hK hP (ci := 2) (q0 := 0) rfl rfl) wd_445 wd_447 wd_18 wd_51 wd_448 lk_X2_whoseSetHolds ⟨rfl, rfl⟩ ⟨by decide, by decide⟩ ⟨Nat.zero_le _, Nat.zero_le _⟩ rfl (Nat.le_of_ble_eq_true rfl) dX2_forwardOf_6) (fun r_6 q_6 => ?_)
  obtain rfl := q_6
  exact retRI (v := mkM n (fun v => bt (V 7 v) q)) hx hb hr hlocks hH dX2_forwardOf_9 (rfl)
abbrev rmX2_thinlyOf : Room := { frames := 2, cells := 0, slots := 0, locals := 45 }
theorem lk_X2_thinlyOf : Lk yX2_thinlyOf 1 := by decide +kernel
set_option maxHeartbeats 4000000 in
set_option maxRecDepth 100000 in
/-- thinlyOf(p) -/
theorem c_X2_thinlyOf (l : Launch) (D : va_G) (k : Nat → ClassId) (ad : Nat → Nat) (V : St) {n : Nat} (hn : V 0 0 = nI n) (hn24 : n ≤ 24) {q : Nat} (hq : q < 24) : CtR noX l yX2_thinlyOf cX2_thinlyOf 2 (some .int) rmX2_thinlyOf D (tyL k) (wR k ad V) [.ref (ad 0), .int (nI q)] (fun r => r = mkM n (fun v => bt (V 8 v) q)) := by
  refine CtR.mk (by decide) (Nat.le_of_ble_eq_true rfl) ?_
  intro p e s m below meth c hx hb hml hown hg hr hlocks hK hN hX H hH hP ls hl
  have hl : lv_has ls 2 [(0, .ref (ad 0)), (1, .int (nI q))] := hl
  refine lv_aload_n hx hb dX2_thinlyOf_0 rfl (lv_at hl 0 rfl) ?_
  refine lv_iload_n hx hb dX2_thinlyOf_1 rfl (lv_at hl 1 rfl) ?_
  refine lv_aload_n hx hb dX2_thinlyOf_2 rfl (lv_at hl 0 rfl) ?_
  refine gfl hx hb hg inX2 hown hK hP 0 (ci := 2) rfl rfl 8 (by decide) wd_127 rfl dX2_thinlyOf_3 ?_
  refine callR (runV hx hb hg hown hml hl.1 (c_X2_whoseSetHolds_8 l D k ad V hn hn24 hq) [.int (nI q), .ref (ad 8)] [] (preR (mapSome_sub hP [0, 1, 2, 3, 4, 5, 6, 7, 8, 9, 10, 11, 12, 13, 14] rfl) hK hN xb0 x0) (va_recv hK hP (ci := 2) (q0 := 0) rfl rfl) wd_445 wd_447 wd_18 wd_51 wd_448 lk_X2_whoseSetHolds ⟨rfl, rfl⟩ ⟨by decide, by decide⟩ ⟨Nat.zero_le _, Nat.zero_le _⟩ rfl (Nat.le_of_ble_eq_true rfl) dX2_thinlyOf_6) (fun r_6 q_6 => ?_)
  obtain rfl := q_6
  exact retRI (v := mkM n (fun v => bt (V 8 v) q)) hx hb hr hlocks hH dX2_thinlyOf_9 (rfl)
abbrev rmX2_allThatHangOn : Room := { frames := 0, cells := 0, slots := 0, locals := 0 }
theorem lk_X2_allThatHangOn : Lk yX2_allThatHangOn 1 := by decide +kernel
set_option maxHeartbeats 4000000 in
set_option maxRecDepth 100000 in
/-- allThatHangOn(set) -/
theorem c_X2_allThatHangOn (l : Launch) (D : va_G) (k : Nat → ClassId) (ad : Nat → Nat) (V : St) {n : Nat} (hn : V 0 0 = nI n) (hn24 : n ≤ 24) (x : Int32) : CtR noX l yX2_allThatHangOn cX2_allThatHangOn 4 (some .int) rmX2_allThatHangOn D (tyL k) (wR k ad V) [.ref (ad 0), .int x] (fun r => r = mkM n (fun v => decide (¬ V 5 v &&& x = 0))) := by
  refine CtR.mk (by decide) (Nat.le_of_ble_eq_true rfl) ?_
  intro p e s m below meth c hx hb hml hown hg hr hlocks hK hN hX H hH hP ls hl
  have hl : lv_has ls 4 [(0, .ref (ad 0)), (1, .int x)] := hl
  refine lv_iconst (v := 0) hx hb dX2_allThatHangOn_0 (by decide) ?_
  refine lv_istore_n (lv' := [(2, .int 0), (0, .ref (ad 0)), (1, .int x)]) hx hb dX2_allThatHangOn_1 rfl hl (by decide) rfl (fun ls hl => ?_)
  refine lv_iconst (v := 0) hx hb dX2_allThatHangOn_2 (by decide) ?_
  refine lv_istore_n (lv' := [(3, .int 0), (2, .int 0), (0, .ref (ad 0)), (1, .int x)]) hx hb dX2_allThatHangOn_3 rfl hl (by decide) rfl (fun ls hl => ?_)
  refine loopR (σ := Nat) (fun i ls => lv_has ls 4 [(0, .ref (ad 0)), (1, .int x), (2, .int (mkM i (fun v => decide (¬ V 5 v &&& x = 0)))), (3, .int (nI i))] ∧ (i ≤ n)) (fun i => n - i) ?_ (0) ⟨(lv_sub hl [2, 3, 1, 0] rfl), (by omega)⟩
  intro zz9 ls hI ih
  obtain ⟨i, rfl⟩ : ∃ z, z = zz9 := ⟨_, rfl⟩
  obtain ⟨hl, hi⟩ := hI
  refine lv_iload_n hx hb dX2_allThatHangOn_4 rfl (lv_at hl 3 rfl) ?_
  refine lv_aload_n hx hb dX2_allThatHangOn_5 rfl (lv_at hl 0 rfl) ?_
  refine gfl hx hb hg inX2 hown hK hP 0 (ci := 2) rfl rfl 0 (by decide) wd_119 rfl dX2_allThatHangOn_6 ?_
  refine topv (nI n) hn ?_
  refine lv_icmp_ge (tgt := 35) hx hb dX2_allThatHangOn_9 (by decide) (fun c_9 => ?_) (fun c_9 => ?_)
  · have c_9 : n ≤ i := (nI_leI (a := n) (b := i) (by omega) (by omega)).mp c_9
    refine lv_iload_n hx hb dX2_allThatHangOn_35 rfl (lv_at hl 2 rfl) ?_
    exact retRI (v := mkM i (fun v => decide (¬ V 5 v &&& x = 0))) hx hb hr hlocks hH dX2_allThatHangOn_36 (by rw [show i = n by omega])
  · have c_9 : ¬ n ≤ i := fun z => c_9 ((nI_leI (a := n) (b := i) (by omega) (by omega)).mpr z)
    refine lv_aload_n hx hb dX2_allThatHangOn_12 rfl (lv_at hl 0 rfl) ?_
    refine gfl hx hb hg inX2 hown hK hP 0 (ci := 2) rfl rfl 5 (by decide) wd_124 rfl dX2_allThatHangOn_13 ?_
    refine lv_iload_n hx hb dX2_allThatHangOn_16 rfl (lv_at hl 3 rfl) ?_
    refine ldn hx hb hK hP 5 0 rfl rfl (by omega) (by decide) dX2_allThatHangOn_17 ?_
    refine lv_iload_n hx hb dX2_allThatHangOn_18 rfl (lv_at hl 1 rfl) ?_
    refine lv_iand hx hb dX2_allThatHangOn_19 ?_
    refine lv_if_eq (tgt := 29) hx hb dX2_allThatHangOn_20 (by decide) (fun c_20 => ?_) (fun c_20 => ?_)
    · have c_20 : decide (¬ V 5 i &&& x = 0) = false := decide_eq_false (fun z => z c_20)
      refine lv_iinc (v := nI (i + 1)) (lv' := [(3, .int (nI (i + 1))), (0, .ref (ad 0)), (1, .int x), (2, .int (mkM i (fun v => decide (¬ V 5 v &&& x = 0))))]) hx hb dX2_allThatHangOn_29 hl (k := 3) rfl (nI_succ i).symm (by decide) rfl (fun ls hl => ?_)
      refine lv_goto (tgt := 4) hx hb dX2_allThatHangOn_32 (by decide) ?_
      rw [mkM_f (f := (fun v => decide (¬ V 5 v &&& x = 0))) c_20] at hl
      exact ih (i + 1) _ ⟨(lv_sub hl [1, 2, 3, 0] rfl), (by omega)⟩ (by omega)
    · have c_20 : decide (¬ V 5 i &&& x = 0) = true := decide_eq_true c_20
      refine lv_iload_n hx hb dX2_allThatHangOn_23 rfl (lv_at hl 2 rfl) ?_
      refine lv_iconst (v := 1) hx hb dX2_allThatHangOn_24 (by decide) ?_
      refine lv_iload_n hx hb dX2_allThatHangOn_25 rfl (lv_at hl 3 rfl) ?_
      refine lv_ishl hx hb dX2_allThatHangOn_26 ?_
      refine topv (bitI i) rfl ?_
      refine lv_ior hx hb dX2_allThatHangOn_27 ?_
      refine lv_istore_n (lv' := [(2, .int ((mkM i (fun v => decide (¬ V 5 v &&& x = 0))) ||| (bitI i))), (0, .ref (ad 0)), (1, .int x), (3, .int (nI i))]) hx hb dX2_allThatHangOn_28 rfl hl (by decide) rfl (fun ls hl => ?_)
      refine lv_iinc (v := nI (i + 1)) (lv' := [(3, .int (nI (i + 1))), (2, .int ((mkM i (fun v => decide (¬ V 5 v &&& x = 0))) ||| (bitI i))), (0, .ref (ad 0)), (1, .int x)]) hx hb dX2_allThatHangOn_29 hl (k := 3) rfl (nI_succ i).symm (by decide) rfl (fun ls hl => ?_)
      refine lv_goto (tgt := 4) hx hb dX2_allThatHangOn_32 (by decide) ?_
      rw [mkM_t (f := (fun v => decide (¬ V 5 v &&& x = 0))) c_20] at hl
      exact ih (i + 1) _ ⟨(lv_sub hl [2, 3, 1, 0] rfl), (by omega)⟩ (by omega)
def firstB (f : Nat → Bool) : Nat → Nat → Nat
  | 0, i => i
  | m + 1, i => if f i = true then i else firstB f m (i + 1)
theorem firstB_t {f : Nat → Bool} {m i : Nat} (h : f i = true) : firstB f m i = i := by
  cases m with
  | zero => rfl
  | succ m => show ite _ _ _ = _; rw [if_pos h]
theorem firstB_f {f : Nat → Bool} {m i : Nat} (h : f i = false) (hm : 0 < m) : firstB f m i = firstB f (m - 1) (i + 1) := by
  cases m with
  | zero => omega
  | succ m => show ite _ _ _ = _; rw [if_neg (by rw [h]; decide)]; rfl
abbrev rmX2_leastOf : Room := { frames := 1, cells := 0, slots := 0, locals := 21 }
theorem lk_X2_leastOf : Lk yX2_leastOf 1 := by decide +kernel
set_option maxHeartbeats 4000000 in
set_option maxRecDepth 100000 in
/-- leastOf(set) -/
theorem c_X2_leastOf (l : Launch) (D : va_G) (k : Nat → ClassId) (x : Int32) : CtR noX l yX2_leastOf cX2_leastOf 2 (some .int) rmX2_leastOf D (tyL k) ([]) [.int x] (fun r => r = nI (firstB (bt x) 23 0)) := by
  refine CtR.mk (by decide) (Nat.le_of_ble_eq_true rfl) ?_
  intro p e s m below meth c hx hb hml hown hg hr hlocks hK hN hX H hH hP ls hl
  have hl : lv_has ls 2 [(0, .int x)] := hl
  refine lv_iconst (v := 0) hx hb dX2_leastOf_0 (by decide) ?_
  refine lv_istore_n (lv' := [(1, .int 0), (0, .int x)]) hx hb dX2_leastOf_1 rfl hl (by decide) rfl (fun ls hl => ?_)
  refine loopR (σ := Nat) (fun i ls => lv_has ls 2 [(0, .int x), (1, .int (nI i))] ∧ (i ≤ 23) ∧ (firstB (bt x) (23 - i) i = firstB (bt x) 23 0)) (fun i => 23 - i) ?_ (0) ⟨(lv_sub hl [1, 0] rfl), (by omega), rfl⟩
  intro zz9 ls hI ih
  obtain ⟨i, rfl⟩ : ∃ z, z = zz9 := ⟨_, rfl⟩
  obtain ⟨hl, hi, he⟩ := hI
  refine lv_iload_n hx hb dX2_leastOf_2 rfl (lv_at hl 1 rfl) ?_
  refine lv_bipush (v := 23) hx hb dX2_leastOf_3 (by decide) ?_
  refine lv_icmp_ge (tgt := 22) hx hb dX2_leastOf_5 (by decide) (fun c_5 => ?_) (fun c_5 => ?_)
  · have c_5 : 23 ≤ i := (nI_leI (a := 23) (b := i) (by omega) (by omega)).mp c_5
    refine lv_iload_n hx hb dX2_leastOf_22 rfl (lv_at hl 1 rfl) ?_
    exact retRI (v := nI i) hx hb hr hlocks hH dX2_leastOf_23 (by rw [← he]; first | (rw [show 23 - i = 0 by omega]; rfl) | rw [firstB_t c_13])
  · have c_5 : ¬ 23 ≤ i := fun z => c_5 ((nI_leI (a := 23) (b := i) (by omega) (by omega)).mpr z)
    refine lv_iload_n hx hb dX2_leastOf_8 rfl (lv_at hl 0 rfl) ?_
    refine lv_iload_n hx hb dX2_leastOf_9 rfl (lv_at hl 1 rfl) ?_
    refine callR (runSN hx hb hg hown hml hl.1 hN (c_X3_holds l D k (x) (q := i) (by omega)) [.int x, .int (nI i)] [] (preR (mapSome_sub hP [] rfl) hK hN xb0 x0) 323 nst_323 wd_324 wd_49 wd_325 lk_X3_holds ⟨rfl, rfl⟩ ⟨by decide, by decide⟩ ⟨Nat.zero_le _, Nat.zero_le _⟩ rfl (Nat.le_of_ble_eq_true rfl) dX2_leastOf_10) (fun r_10 q_10 => ?_)
    obtain rfl := q_10
    refine lv_if_ne (tgt := 22) hx hb dX2_leastOf_13 (by decide) (fun c_13 => ?_) (fun c_13 => ?_)
    · have c_13 := zI_ne c_13
      refine lv_iload_n hx hb dX2_leastOf_22 rfl (lv_at hl 1 rfl) ?_
      exact retRI (v := nI i) hx hb hr hlocks hH dX2_leastOf_23 (by rw [← he]; first | (rw [show 23 - i = 0 by omega]; rfl) | rw [firstB_t c_13])
    · have c_13 := zI_0.mp c_13
      refine lv_iinc (v := nI (i + 1)) (lv' := [(1, .int (nI (i + 1))), (0, .int x)]) hx hb dX2_leastOf_16 hl (k := 1) rfl (nI_succ i).symm (by decide) rfl (fun ls hl => ?_)
      refine lv_goto (tgt := 2) hx hb dX2_leastOf_19 (by decide) ?_
      exact ih (i + 1) _ ⟨(lv_sub hl [1, 0] rfl), (by omega), (by rw [← he, firstB_f c_13 (by omega), Nat.sub_sub])⟩ (by omega)
abbrev rmX2_reachedFrom : Room := { frames := 1, cells := 0, slots := 0, locals := 21 }
theorem lk_X2_reachedFrom : Lk yX2_reachedFrom 2 := by decide +kernel
set_option maxHeartbeats 4000000 in
set_option maxRecDepth 100000 in
/-- reachedFrom(u, stops) -/
theorem c_X2_reachedFrom (l : Launch) (D : va_G) (k : Nat → ClassId) (ad : Nat → Nat) (V : St) {n : Nat} (hn : V 0 0 = nI n) (hn24 : n ≤ 24) (hV : ∀ p, p < n → ∀ j, bt (V 1 p) j = true → j < 25) {u : Nat} (hu : u < n) (st : Int32) : CtR noX l yX2_reachedFrom cX2_reachedFrom 7 (some .int) rmX2_reachedFrom D (tyL k) (wR k ad V) [.ref (ad 0), .int (nI u), .int st] (fun r => ∀ j, bt r j = true ↔ Cl (fun j => bt (V 1 u) j = true) (fun y z => y < n ∧ bt st y = false ∧ bt (V 1 y) z = true) j) := by
  refine CtR.mk (by decide) (Nat.le_of_ble_eq_true rfl) ?_
  intro p e s m below meth c hx hb hml hown hg hr hlocks hK hN hX H hH hP ls hl
  have hl : lv_has ls 7 [(0, .ref (ad 0)), (1, .int (nI u)), (2, .int st)] := hl
  refine lv_aload_n hx hb dX2_reachedFrom_0 rfl (lv_at hl 0 rfl) ?_
  refine gfl hx hb hg inX2 hown hK hP 0 (ci := 2) rfl rfl 1 (by decide) wd_120 rfl dX2_reachedFrom_1 ?_
  refine lv_iload_n hx hb dX2_reachedFrom_4 rfl (lv_at hl 1 rfl) ?_
  refine ldn hx hb hK hP 1 0 rfl rfl (by omega) (by decide) dX2_reachedFrom_5 ?_
  refine lv_istore_n (lv' := [(3, .int ((V 1) u)), (0, .ref (ad 0)), (1, .int (nI u)), (2, .int st)]) hx hb dX2_reachedFrom_6 rfl hl (by decide) rfl (fun ls hl => ?_)
  refine lv_iconst (v := 0) hx hb dX2_reachedFrom_7 (by decide) ?_
  refine lv_istore (lv' := [(4, .int 0), (3, .int ((V 1) u)), (0, .ref (ad 0)), (1, .int (nI u)), (2, .int st)]) hx hb dX2_reachedFrom_8 hl (by decide) rfl (fun ls hl => ?_)
  refine lv_iconst (v := 0) hx hb dX2_reachedFrom_10 (by decide) ?_
  refine lv_istore (lv' := [(5, .int 0), (4, .int 0), (3, .int ((V 1) u)), (0, .ref (ad 0)), (1, .int (nI u)), (2, .int st)]) hx hb dX2_reachedFrom_11 hl (by decide) rfl (fun ls hl => ?_)
  refine loopR (σ := Int32 × Int32 × Nat) (fun zz9 ls => match zz9 with | (x, b, t) => lv_has ls 7 [(0, .ref (ad 0)), (1, .int (nI u)), (2, .int st), (3, .int x), (4, .int b), (5, .int (nI t))] ∧ (Sat (fun j => bt (V 1 u) j = true) (fun y z => y < n ∧ bt st y = false ∧ bt (V 1 y) z = true) x b) ∧ (∀ j, bt x j = true → j < 25) ∧ (∀ j, (fun j => bt (V 1 u) j = true) j → bt x j = true) ∧ (t ≤ 25) ∧ (x = b ∨ t + 1 ≤ cnt x)) (fun zz9 => match zz9 with | (x, b, t) => 25 - t) ?_ (V 1 u, 0, 0) ⟨(lv_sub hl [3, 4, 5, 2, 1, 0] rfl), ⟨fun j hj => Cl.base hj, fun e => ⟨fun j hj => hj, fun y z hy _ => by rw [e, b_0] at hy; cases hy⟩⟩, (hV u hu), (fun j hj => hj), (by omega), (by rcases Classical.em (V 1 u = 0) with e | e; exact Or.inl e; exact Or.inr (by have := cnt_pos e; omega))⟩
  intro zz9 ls hI ih
  obtain ⟨x, b, t⟩ := zz9
  obtain ⟨hl, hs, h25, hX, ht, hc⟩ := hI
  have iho := ih; clear ih
  refine lv_iload_n hx hb dX2_reachedFrom_13 rfl (lv_at hl 3 rfl) ?_
  refine lv_iload hx hb dX2_reachedFrom_14 (lv_at hl 4 rfl) ?_
  refine lv_icmp_eq (tgt := 76) hx hb dX2_reachedFrom_16 (by decide) (fun c_16 => ?_) (fun c_16 => ?_)
  · refine lv_iload_n hx hb dX2_reachedFrom_76 rfl (lv_at hl 3 rfl) ?_
    exact retRI (v := x) hx hb hr hlocks hH dX2_reachedFrom_77 (fun j => hs.done (by first | exact c_16 | (rcases hc with e | e; exact e; have := cnt_25 h25; omega)) j)
  · refine lv_iload hx hb dX2_reachedFrom_19 (lv_at hl 5 rfl) ?_
    refine lv_bipush (v := 24) hx hb dX2_reachedFrom_21 (by decide) ?_
    refine lv_icmp_gt (tgt := 76) hx hb dX2_reachedFrom_23 (by decide) (fun c_23 => ?_) (fun c_23 => ?_)
    · have c_23 : 24 < t := (nI_ltI (a := 24) (b := t) (by omega) (by omega)).mp c_23
      refine lv_iload_n hx hb dX2_reachedFrom_76 rfl (lv_at hl 3 rfl) ?_
      exact retRI (v := x) hx hb hr hlocks hH dX2_reachedFrom_77 (fun j => hs.done (by first | exact c_16 | (rcases hc with e | e; exact e; have := cnt_25 h25; omega)) j)
    · have c_23 : ¬ 24 < t := fun z => c_23 ((nI_ltI (a := 24) (b := t) (by omega) (by omega)).mpr z)
      refine lv_iload_n hx hb dX2_reachedFrom_26 rfl (lv_at hl 3 rfl) ?_
      refine lv_istore (lv' := [(4, .int x), (0, .ref (ad 0)), (1, .int (nI u)), (2, .int st), (3, .int x), (5, .int (nI t))]) hx hb dX2_reachedFrom_27 hl (by decide) rfl (fun ls hl => ?_)
      refine lv_iconst (v := 0) hx hb dX2_reachedFrom_29 (by decide) ?_
      refine lv_istore (lv' := [(6, .int 0), (4, .int x), (0, .ref (ad 0)), (1, .int (nI u)), (2, .int st), (3, .int x), (5, .int (nI t))]) hx hb dX2_reachedFrom_30 hl (by decide) rfl (fun ls hl => ?_)
      refine loopR (σ := Int32 × Nat) (fun zz9 ls => match zz9 with | (x1, i) => lv_has ls 7 [(0, .ref (ad 0)), (1, .int (nI u)), (2, .int st), (3, .int x1), (4, .int x), (5, .int (nI t)), (6, .int (nI i))] ∧ (Inn (fun j => bt (V 1 u) j = true) (fun y z => y < n ∧ bt st y = false ∧ bt (V 1 y) z = true) x x1 i) ∧ (i ≤ n) ∧ (∀ j, bt x1 j = true → j < 25)) (fun zz9 => match zz9 with | (x1, i) => n - i) ?_ (x, 0) ⟨(lv_sub hl [2, 3, 4, 5, 1, 6, 0] rfl), (Inn.start hs.1), (by omega), h25⟩
      intro zz9 ls hI ih
      obtain ⟨x1, i⟩ := zz9
      obtain ⟨hl, hI, hi, h25⟩ := hI
      refine lv_iload hx hb dX2_reachedFrom_32 (lv_at hl 6 rfl) ?_
      refine lv_aload_n hx hb dX2_reachedFrom_34 rfl (lv_at hl 0 rfl) ?_
      refine gfl hx hb hg inX2 hown hK hP 0 (ci := 2) rfl rfl 0 (by decide) wd_119 rfl dX2_reachedFrom_35 ?_
      refine topv (nI n) hn ?_
      refine lv_icmp_ge (tgt := 70) hx hb dX2_reachedFrom_38 (by decide) (fun c_38 => ?_) (fun c_38 => ?_)
      · have c_38 : n ≤ i := (nI_leI (a := n) (b := i) (by omega) (by omega)).mp c_38
        refine lv_iinc (v := nI (t + 1)) (lv' := [(5, .int (nI (t + 1))), (0, .ref (ad 0)), (1, .int (nI u)), (2, .int st), (3, .int x1), (4, .int x), (6, .int (nI i))]) hx hb dX2_reachedFrom_70 hl (k := 5) rfl (nI_succ t).symm (by decide) rfl (fun ls hl => ?_)
        refine lv_goto (tgt := 13) hx hb dX2_reachedFrom_73 (by decide) ?_
        have hcx : t + 1 ≤ cnt x := hc.resolve_left c_16
        obtain rfl : i = n := by omega
        exact iho (x1, x, t + 1) _ ⟨(lv_sub hl [1, 2, 3, 4, 5, 0] rfl), (hI.sat hX (fun y z h => h.1)), h25, (fun j hj => hI.2.1 j (hX j hj)), (by omega), (by rcases Classical.em (x1 = x) with e | e; exact Or.inl e; exact Or.inr (by have := cnt_lt hI.2.1 e; omega))⟩ (by dsimp only; omega)
      · have c_38 : ¬ n ≤ i := fun z => c_38 ((nI_leI (a := n) (b := i) (by omega) (by omega)).mpr z)
        refine lv_iload_n hx hb dX2_reachedFrom_41 rfl (lv_at hl 3 rfl) ?_
        refine lv_iload_n hx hb dX2_reachedFrom_42 rfl (lv_at hl 2 rfl) ?_
        refine lv_iconst (v := (-1)) hx hb dX2_reachedFrom_43 (by decide) ?_
        refine lv_ixor hx hb dX2_reachedFrom_44 ?_
        refine lv_iand hx hb dX2_reachedFrom_45 ?_
        refine lv_iload hx hb dX2_reachedFrom_46 (lv_at hl 6 rfl) ?_
        refine callR (runSN hx hb hg hown hml hl.1 hN (c_X3_holds l D k (x1 &&& (st ^^^ (-1))) (q := i) (by omega)) [.int (x1 &&& (st ^^^ (-1))), .int (nI i)] [] (preR (mapSome_sub hP [] rfl) hK hN xb0 x0) 323 nst_323 wd_324 wd_49 wd_325 lk_X3_holds ⟨rfl, rfl⟩ ⟨by decide, by decide⟩ ⟨Nat.zero_le _, Nat.zero_le _⟩ rfl (Nat.le_of_ble_eq_true rfl) dX2_reachedFrom_48) (fun r_48 q_48 => ?_)
        obtain rfl := q_48
        refine lv_if_eq (tgt := 64) hx hb dX2_reachedFrom_51 (by decide) (fun c_51 => ?_) (fun c_51 => ?_)
        · have c_51 := zI_0.mp c_51
          refine lv_iinc (v := nI (i + 1)) (lv' := [(6, .int (nI (i + 1))), (0, .ref (ad 0)), (1, .int (nI u)), (2, .int st), (3, .int x1), (4, .int x), (5, .int (nI t))]) hx hb dX2_reachedFrom_64 hl (k := 6) rfl (nI_succ i).symm (by decide) rfl (fun ls hl => ?_)
          refine lv_goto (tgt := 32) hx hb dX2_reachedFrom_67 (by decide) ?_
          exact ih (x1, i + 1) _ ⟨(lv_sub hl [1, 2, 3, 4, 5, 6, 0] rfl), (hI.no (fun hi z hz => by rw [b_and, b_not (by omega), hi, hz.2.1] at c_51; cases c_51)), (by omega), h25⟩ (by dsimp only; omega)
        · have c_51 := zI_ne c_51
          refine lv_iload_n hx hb dX2_reachedFrom_54 rfl (lv_at hl 3 rfl) ?_
          refine lv_aload_n hx hb dX2_reachedFrom_55 rfl (lv_at hl 0 rfl) ?_
          refine gfl hx hb hg inX2 hown hK hP 0 (ci := 2) rfl rfl 1 (by decide) wd_120 rfl dX2_reachedFrom_56 ?_
          refine lv_iload hx hb dX2_reachedFrom_59 (lv_at hl 6 rfl) ?_
          refine ldn hx hb hK hP 1 0 rfl rfl (by omega) (by decide) dX2_reachedFrom_61 ?_
          refine lv_ior hx hb dX2_reachedFrom_62 ?_
          refine lv_istore_n (lv' := [(3, .int (x1 ||| ((V 1) i))), (0, .ref (ad 0)), (1, .int (nI u)), (2, .int st), (4, .int x), (5, .int (nI t)), (6, .int (nI i))]) hx hb dX2_reachedFrom_63 rfl hl (by decide) rfl (fun ls hl => ?_)
          refine lv_iinc (v := nI (i + 1)) (lv' := [(6, .int (nI (i + 1))), (3, .int (x1 ||| ((V 1) i))), (0, .ref (ad 0)), (1, .int (nI u)), (2, .int st), (4, .int x), (5, .int (nI t))]) hx hb dX2_reachedFrom_64 hl (k := 6) rfl (nI_succ i).symm (by decide) rfl (fun ls hl => ?_)
          refine lv_goto (tgt := 32) hx hb dX2_reachedFrom_67 (by decide) ?_
          exact ih (x1 ||| V 1 i, i + 1) _ ⟨(lv_sub hl [2, 3, 4, 1, 5, 6, 0] rfl), (hI.yes (by rw [b_and, Bool.and_eq_true] at c_51; exact c_51.1) (fun z => ⟨fun h => ⟨by omega, by rw [b_and, Bool.and_eq_true, b_not (by omega)] at c_51; simpa using c_51.2, h⟩, fun h => h.2.2⟩)), (by omega), (fun j hj => by rw [b_or, Bool.or_eq_true] at hj; exact hj.elim (h25 j) (hV i (by omega) j))⟩ (by dsimp only; omega)
abbrev rmX2_withAllBehind : Room := { frames := 1, cells := 0, slots := 0, locals := 21 }
theorem lk_X2_withAllBehind : Lk yX2_withAllBehind 2 := by decide +kernel
set_option maxHeartbeats 4000000 in
set_option maxRecDepth 100000 in
/-- withAllBehind(1 << u, behind) -/
theorem c_X2_withAllBehind (l : Launch) (D : va_G) (k : Nat → ClassId) (ad : Nat → Nat) (V : St) {n : Nat} (hn : V 0 0 = nI n) (hn24 : n ≤ 24) (hV : ∀ p, p < n → ∀ j, bt (V 5 p) j = true → j < 24) {u : Nat} (hu : u < n) : CtR noX l yX2_withAllBehind cX2_withAllBehind 7 (some .int) rmX2_withAllBehind D (tyL k) (wR k ad V) [.ref (ad 0), .int (bitI u), .ref (ad 5)] (fun r => ∀ j, bt r j = true ↔ Cl (fun j => j = u) (fun y z => y < n ∧ bt (V 5 y) z = true) j) := by
  refine CtR.mk (by decide) (Nat.le_of_ble_eq_true rfl) ?_
  intro p e s m below meth c hx hb hml hown hg hr hlocks hK hN hX H hH hP ls hl
  have hl : lv_has ls 7 [(0, .ref (ad 0)), (1, .int (bitI u)), (2, .ref (ad 5))] := hl
  refine lv_iload_n hx hb dX2_withAllBehind_0 rfl (lv_at hl 1 rfl) ?_
  refine lv_istore_n (lv' := [(3, .int (bitI u)), (0, .ref (ad 0)), (1, .int (bitI u)), (2, .ref (ad 5))]) hx hb dX2_withAllBehind_1 rfl hl (by decide) rfl (fun ls hl => ?_)
  refine lv_iconst (v := 0) hx hb dX2_withAllBehind_2 (by decide) ?_
  refine lv_istore (lv' := [(4, .int 0), (3, .int (bitI u)), (0, .ref (ad 0)), (1, .int (bitI u)), (2, .ref (ad 5))]) hx hb dX2_withAllBehind_3 hl (by decide) rfl (fun ls hl => ?_)
  refine lv_iconst (v := 0) hx hb dX2_withAllBehind_5 (by decide) ?_
  refine lv_istore (lv' := [(5, .int 0), (4, .int 0), (3, .int (bitI u)), (0, .ref (ad 0)), (1, .int (bitI u)), (2, .ref (ad 5))]) hx hb dX2_withAllBehind_6 hl (by decide) rfl (fun ls hl => ?_)
  refine loopR (σ := Int32 × Int32 × Nat) (fun zz9 ls => match zz9 with | (x, b, t) => lv_has ls 7 [(0, .ref (ad 0)), (1, .int (bitI u)), (2, .ref (ad 5)), (3, .int x), (4, .int b), (5, .int (nI t))] ∧ (Sat (fun j => j = u) (fun y z => y < n ∧ bt (V 5 y) z = true) x b) ∧ (∀ j, bt x j = true → j < 25) ∧ (∀ j, (fun j => j = u) j → bt x j = true) ∧ (t ≤ 25) ∧ (x = b ∨ t + 1 ≤ cnt x)) (fun zz9 => match zz9 with | (x, b, t) => 25 - t) ?_ (bitI u, 0, 0) ⟨(lv_sub hl [3, 4, 5, 2, 1, 0] rfl), ⟨fun j hj => Cl.base (by rw [b_bit (by omega)] at hj; exact of_decide_eq_true hj), fun e => ⟨fun j hj => by subst hj; rw [b_bit (by omega)]; simp, fun y z hy _ => by rw [e, b_0] at hy; cases hy⟩⟩, (fun j hj => by rw [b_bit (by omega)] at hj; have := of_decide_eq_true hj; omega), (fun j hj => by subst hj; rw [b_bit (by omega)]; simp), (by omega), (by rcases Classical.em (bitI u = 0) with e | e; exact Or.inl e; exact Or.inr (by have := cnt_pos e; omega))⟩
  intro zz9 ls hI ih
  obtain ⟨x, b, t⟩ := zz9
  obtain ⟨hl, hs, h25, hX, ht, hc⟩ := hI
  have iho := ih; clear ih
  refine lv_iload_n hx hb dX2_withAllBehind_8 rfl (lv_at hl 3 rfl) ?_
  refine lv_iload hx hb dX2_withAllBehind_9 (lv_at hl 4 rfl) ?_
  refine lv_icmp_eq (tgt := 64) hx hb dX2_withAllBehind_11 (by decide) (fun c_11 => ?_) (fun c_11 => ?_)
  · refine lv_iload_n hx hb dX2_withAllBehind_64 rfl (lv_at hl 3 rfl) ?_
    exact retRI (v := x) hx hb hr hlocks hH dX2_withAllBehind_65 (fun j => hs.done (by first | exact c_11 | (rcases hc with e | e; exact e; have := cnt_25 h25; omega)) j)
  · refine lv_iload hx hb dX2_withAllBehind_14 (lv_at hl 5 rfl) ?_
    refine lv_bipush (v := 24) hx hb dX2_withAllBehind_16 (by decide) ?_
    refine lv_icmp_gt (tgt := 64) hx hb dX2_withAllBehind_18 (by decide) (fun c_18 => ?_) (fun c_18 => ?_)
    · have c_18 : 24 < t := (nI_ltI (a := 24) (b := t) (by omega) (by omega)).mp c_18
      refine lv_iload_n hx hb dX2_withAllBehind_64 rfl (lv_at hl 3 rfl) ?_
      exact retRI (v := x) hx hb hr hlocks hH dX2_withAllBehind_65 (fun j => hs.done (by first | exact c_11 | (rcases hc with e | e; exact e; have := cnt_25 h25; omega)) j)
    · have c_18 : ¬ 24 < t := fun z => c_18 ((nI_ltI (a := 24) (b := t) (by omega) (by omega)).mpr z)
      refine lv_iload_n hx hb dX2_withAllBehind_21 rfl (lv_at hl 3 rfl) ?_
      refine lv_istore (lv' := [(4, .int x), (0, .ref (ad 0)), (1, .int (bitI u)), (2, .ref (ad 5)), (3, .int x), (5, .int (nI t))]) hx hb dX2_withAllBehind_22 hl (by decide) rfl (fun ls hl => ?_)
      refine lv_iconst (v := 0) hx hb dX2_withAllBehind_24 (by decide) ?_
      refine lv_istore (lv' := [(6, .int 0), (4, .int x), (0, .ref (ad 0)), (1, .int (bitI u)), (2, .ref (ad 5)), (3, .int x), (5, .int (nI t))]) hx hb dX2_withAllBehind_25 hl (by decide) rfl (fun ls hl => ?_)
      refine loopR (σ := Int32 × Nat) (fun zz9 ls => match zz9 with | (x1, i) => lv_has ls 7 [(0, .ref (ad 0)), (1, .int (bitI u)), (2, .ref (ad 5)), (3, .int x1), (4, .int x), (5, .int (nI t)), (6, .int (nI i))] ∧ (Inn (fun j => j = u) (fun y z => y < n ∧ bt (V 5 y) z = true) x x1 i) ∧ (i ≤ n) ∧ (∀ j, bt x1 j = true → j < 25)) (fun zz9 => match zz9 with | (x1, i) => n - i) ?_ (x, 0) ⟨(lv_sub hl [2, 3, 4, 5, 1, 6, 0] rfl), (Inn.start hs.1), (by omega), h25⟩
      intro zz9 ls hI ih
      obtain ⟨x1, i⟩ := zz9
      obtain ⟨hl, hI, hi, h25⟩ := hI
      refine lv_iload hx hb dX2_withAllBehind_27 (lv_at hl 6 rfl) ?_
      refine lv_aload_n hx hb dX2_withAllBehind_29 rfl (lv_at hl 0 rfl) ?_
      refine gfl hx hb hg inX2 hown hK hP 0 (ci := 2) rfl rfl 0 (by decide) wd_119 rfl dX2_withAllBehind_30 ?_
      refine topv (nI n) hn ?_
      refine lv_icmp_ge (tgt := 58) hx hb dX2_withAllBehind_33 (by decide) (fun c_33 => ?_) (fun c_33 => ?_)
      · have c_33 : n ≤ i := (nI_leI (a := n) (b := i) (by omega) (by omega)).mp c_33
        refine lv_iinc (v := nI (t + 1)) (lv' := [(5, .int (nI (t + 1))), (0, .ref (ad 0)), (1, .int (bitI u)), (2, .ref (ad 5)), (3, .int x1), (4, .int x), (6, .int (nI i))]) hx hb dX2_withAllBehind_58 hl (k := 5) rfl (nI_succ t).symm (by decide) rfl (fun ls hl => ?_)
        refine lv_goto (tgt := 8) hx hb dX2_withAllBehind_61 (by decide) ?_
        have hcx : t + 1 ≤ cnt x := hc.resolve_left c_11
        obtain rfl : i = n := by omega
        exact iho (x1, x, t + 1) _ ⟨(lv_sub hl [1, 2, 3, 4, 5, 0] rfl), (hI.sat hX (fun y z h => h.1)), h25, (fun j hj => hI.2.1 j (hX j hj)), (by omega), (by rcases Classical.em (x1 = x) with e | e; exact Or.inl e; exact Or.inr (by have := cnt_lt hI.2.1 e; omega))⟩ (by dsimp only; omega)
      · have c_33 : ¬ n ≤ i := fun z => c_33 ((nI_leI (a := n) (b := i) (by omega) (by omega)).mpr z)
        refine lv_iload_n hx hb dX2_withAllBehind_36 rfl (lv_at hl 3 rfl) ?_
        refine lv_iload hx hb dX2_withAllBehind_37 (lv_at hl 6 rfl) ?_
        refine callR (runSN hx hb hg hown hml hl.1 hN (c_X3_holds l D k (x1) (q := i) (by omega)) [.int x1, .int (nI i)] [] (preR (mapSome_sub hP [] rfl) hK hN xb0 x0) 323 nst_323 wd_324 wd_49 wd_325 lk_X3_holds ⟨rfl, rfl⟩ ⟨by decide, by decide⟩ ⟨Nat.zero_le _, Nat.zero_le _⟩ rfl (Nat.le_of_ble_eq_true rfl) dX2_withAllBehind_39) (fun r_39 q_39 => ?_)
        obtain rfl := q_39
        refine lv_if_eq (tgt := 52) hx hb dX2_withAllBehind_42 (by decide) (fun c_42 => ?_) (fun c_42 => ?_)
        · have c_42 := zI_0.mp c_42
          refine lv_iinc (v := nI (i + 1)) (lv' := [(6, .int (nI (i + 1))), (0, .ref (ad 0)), (1, .int (bitI u)), (2, .ref (ad 5)), (3, .int x1), (4, .int x), (5, .int (nI t))]) hx hb dX2_withAllBehind_52 hl (k := 6) rfl (nI_succ i).symm (by decide) rfl (fun ls hl => ?_)
          refine lv_goto (tgt := 27) hx hb dX2_withAllBehind_55 (by decide) ?_
          exact ih (x1, i + 1) _ ⟨(lv_sub hl [1, 2, 3, 4, 5, 6, 0] rfl), (hI.no (fun hi z hz => by rw [hi] at c_42; cases c_42)), (by omega), h25⟩ (by dsimp only; omega)
        · have c_42 := zI_ne c_42
          refine lv_iload_n hx hb dX2_withAllBehind_45 rfl (lv_at hl 3 rfl) ?_
          refine lv_aload_n hx hb dX2_withAllBehind_46 rfl (lv_at hl 2 rfl) ?_
          refine lv_iload hx hb dX2_withAllBehind_47 (lv_at hl 6 rfl) ?_
          refine ldn hx hb hK hP 5 0 rfl rfl (by omega) (by decide) dX2_withAllBehind_49 ?_
          refine lv_ior hx hb dX2_withAllBehind_50 ?_
          refine lv_istore_n (lv' := [(3, .int (x1 ||| ((V 5) i))), (0, .ref (ad 0)), (1, .int (bitI u)), (2, .ref (ad 5)), (4, .int x), (5, .int (nI t)), (6, .int (nI i))]) hx hb dX2_withAllBehind_51 rfl hl (by decide) rfl (fun ls hl => ?_)
          refine lv_iinc (v := nI (i + 1)) (lv' := [(6, .int (nI (i + 1))), (3, .int (x1 ||| ((V 5) i))), (0, .ref (ad 0)), (1, .int (bitI u)), (2, .ref (ad 5)), (4, .int x), (5, .int (nI t))]) hx hb dX2_withAllBehind_52 hl (k := 6) rfl (nI_succ i).symm (by decide) rfl (fun ls hl => ?_)
          refine lv_goto (tgt := 27) hx hb dX2_withAllBehind_55 (by decide) ?_
          exact ih (x1 ||| V 5 i, i + 1) _ ⟨(lv_sub hl [2, 3, 4, 1, 5, 6, 0] rfl), (hI.yes c_42 (fun z => ⟨fun h => ⟨by omega, h⟩, fun h => h.2⟩)), (by omega), (fun j hj => by rw [b_or, Bool.or_eq_true] at hj; exact hj.elim (h25 j) (fun z => Nat.lt_succ_of_lt (hV i (by omega) j z)))⟩ (by dsimp only; omega)
set_option maxHeartbeats 4000000 in
set_option maxRecDepth 100000 in
/-- withAllBehind(1 << u, behind) -/
theorem c_X2_withAllBehind_6 (l : Launch) (D : va_G) (k : Nat → ClassId) (ad : Nat → Nat) (V : St) {n : Nat} (hn : V 0 0 = nI n) (hn24 : n ≤ 24) (hV : ∀ p, p < n → ∀ j, bt (V 6 p) j = true → j < 24) {u : Nat} (hu : u < n) : CtR noX l yX2_withAllBehind cX2_withAllBehind 7 (some .int) rmX2_withAllBehind D (tyL k) (wR k ad V) [.ref (ad 0), .int (bitI u), .ref (ad 6)] (fun r => ∀ j, bt r j = true ↔ Cl (fun j => j = u) (fun y z => y < n ∧ bt (V 6 y) z = true) j) := by
  refine CtR.mk (by decide) (Nat.le_of_ble_eq_true rfl) ?_
  intro p e s m below meth c hx hb hml hown hg hr hlocks hK hN hX H hH hP ls hl
  have hl : lv_has ls 7 [(0, .ref (ad 0)), (1, .int (bitI u)), (2, .ref (ad 6))] := hl
  refine lv_iload_n hx hb dX2_withAllBehind_0 rfl (lv_at hl 1 rfl) ?_
  refine lv_istore_n (lv' := [(3, .int (bitI u)), (0, .ref (ad 0)), (1, .int (bitI u)), (2, .ref (ad 6))]) hx hb dX2_withAllBehind_1 rfl hl (by decide) rfl (fun ls hl => ?_)
  refine lv_iconst (v := 0) hx hb dX2_withAllBehind_2 (by decide) ?_
  refine lv_istore (lv' := [(4, .int 0), (3, .int (bitI u)), (0, .ref (ad 0)), (1, .int (bitI u)), (2, .ref (ad 6))]) hx hb dX2_withAllBehind_3 hl (by decide) rfl (fun ls hl => ?_)
  refine lv_iconst (v := 0) hx hb dX2_withAllBehind_5 (by decide) ?_
  refine lv_istore (lv' := [(5, .int 0), (4, .int 0), (3, .int (bitI u)), (0, .ref (ad 0)), (1, .int (bitI u)), (2, .ref (ad 6))]) hx hb dX2_withAllBehind_6 hl (by decide) rfl (fun ls hl => ?_)
  refine loopR (σ := Int32 × Int32 × Nat) (fun zz9 ls => match zz9 with | (x, b, t) => lv_has ls 7 [(0, .ref (ad 0)), (1, .int (bitI u)), (2, .ref (ad 6)), (3, .int x), (4, .int b), (5, .int (nI t))] ∧ (Sat (fun j => j = u) (fun y z => y < n ∧ bt (V 6 y) z = true) x b) ∧ (∀ j, bt x j = true → j < 25) ∧ (∀ j, (fun j => j = u) j → bt x j = true) ∧ (t ≤ 25) ∧ (x = b ∨ t + 1 ≤ cnt x)) (fun zz9 => match zz9 with | (x, b, t) => 25 - t) ?_ (bitI u, 0, 0) ⟨(lv_sub hl [3, 4, 5, 2, 1, 0] rfl), ⟨fun j hj => Cl.base (by rw [b_bit (by omega)] at hj; exact of_decide_eq_true hj), fun e => ⟨fun j hj => by subst hj; rw [b_bit (by omega)]; simp, fun y z hy _ => by rw [e, b_0] at hy; cases hy⟩⟩, (fun j hj => by rw [b_bit (by omega)] at hj; have := of_decide_eq_true hj; omega), (fun j hj => by subst hj; rw [b_bit (by omega)]; simp), (by omega), (by rcases Classical.em (bitI u = 0) with e | e; exact Or.inl e; exact Or.inr (by have := cnt_pos e; omega))⟩
  intro zz9 ls hI ih
  obtain ⟨x, b, t⟩ := zz9
  obtain ⟨hl, hs, h25, hX, ht, hc⟩ := hI
  have iho := ih; clear ih
  refine lv_iload_n hx hb dX2_withAllBehind_8 rfl (lv_at hl 3 rfl) ?_
  refine lv_iload hx hb dX2_withAllBehind_9 (lv_at hl 4 rfl) ?_
  refine lv_icmp_eq (tgt := 64) hx hb dX2_withAllBehind_11 (by decide) (fun c_11 => ?_) (fun c_11 => ?_)
  · refine lv_iload_n hx hb dX2_withAllBehind_64 rfl (lv_at hl 3 rfl) ?_
    exact retRI (v := x) hx hb hr hlocks hH dX2_withAllBehind_65 (fun j => hs.done (by first | exact c_11 | (rcases hc with e | e; exact e; have := cnt_25 h25; omega)) j)
  · refine lv_iload hx hb dX2_withAllBehind_14 (lv_at hl 5 rfl) ?_
    refine lv_bipush (v := 24) hx hb dX2_withAllBehind_16 (by decide) ?_
    refine lv_icmp_gt (tgt := 64) hx hb dX2_withAllBehind_18 (by decide) (fun c_18 => ?_) (fun c_18 => ?_)
    · have c_18 : 24 < t := (nI_ltI (a := 24) (b := t) (by omega) (by omega)).mp c_18
      refine lv_iload_n hx hb dX2_withAllBehind_64 rfl (lv_at hl 3 rfl) ?_
      exact retRI (v := x) hx hb hr hlocks hH dX2_withAllBehind_65 (fun j => hs.done (by first | exact c_11 | (rcases hc with e | e; exact e; have := cnt_25 h25; omega)) j)
    · have c_18 : ¬ 24 < t := fun z => c_18 ((nI_ltI (a := 24) (b := t) (by omega) (by omega)).mpr z)
      refine lv_iload_n hx hb dX2_withAllBehind_21 rfl (lv_at hl 3 rfl) ?_
      refine lv_istore (lv' := [(4, .int x), (0, .ref (ad 0)), (1, .int (bitI u)), (2, .ref (ad 6)), (3, .int x), (5, .int (nI t))]) hx hb dX2_withAllBehind_22 hl (by decide) rfl (fun ls hl => ?_)
      refine lv_iconst (v := 0) hx hb dX2_withAllBehind_24 (by decide) ?_
      refine lv_istore (lv' := [(6, .int 0), (4, .int x), (0, .ref (ad 0)), (1, .int (bitI u)), (2, .ref (ad 6)), (3, .int x), (5, .int (nI t))]) hx hb dX2_withAllBehind_25 hl (by decide) rfl (fun ls hl => ?_)
      refine loopR (σ := Int32 × Nat) (fun zz9 ls => match zz9 with | (x1, i) => lv_has ls 7 [(0, .ref (ad 0)), (1, .int (bitI u)), (2, .ref (ad 6)), (3, .int x1), (4, .int x), (5, .int (nI t)), (6, .int (nI i))] ∧ (Inn (fun j => j = u) (fun y z => y < n ∧ bt (V 6 y) z = true) x x1 i) ∧ (i ≤ n) ∧ (∀ j, bt x1 j = true → j < 25)) (fun zz9 => match zz9 with | (x1, i) => n - i) ?_ (x, 0) ⟨(lv_sub hl [2, 3, 4, 5, 1, 6, 0] rfl), (Inn.start hs.1), (by omega), h25⟩
      intro zz9 ls hI ih
      obtain ⟨x1, i⟩ := zz9
      obtain ⟨hl, hI, hi, h25⟩ := hI
      refine lv_iload hx hb dX2_withAllBehind_27 (lv_at hl 6 rfl) ?_
      refine lv_aload_n hx hb dX2_withAllBehind_29 rfl (lv_at hl 0 rfl) ?_
      refine gfl hx hb hg inX2 hown hK hP 0 (ci := 2) rfl rfl 0 (by decide) wd_119 rfl dX2_withAllBehind_30 ?_
      refine topv (nI n) hn ?_
      refine lv_icmp_ge (tgt := 58) hx hb dX2_withAllBehind_33 (by decide) (fun c_33 => ?_) (fun c_33 => ?_)
      · have c_33 : n ≤ i := (nI_leI (a := n) (b := i) (by omega) (by omega)).mp c_33
        refine lv_iinc (v := nI (t + 1)) (lv' := [(5, .int (nI (t + 1))), (0, .ref (ad 0)), (1, .int (bitI u)), (2, .ref (ad 6)), (3, .int x1), (4, .int x), (6, .int (nI i))]) hx hb dX2_withAllBehind_58 hl (k := 5) rfl (nI_succ t).symm (by decide) rfl (fun ls hl => ?_)
        refine lv_goto (tgt := 8) hx hb dX2_withAllBehind_61 (by decide) ?_
        have hcx : t + 1 ≤ cnt x := hc.resolve_left c_11
        obtain rfl : i = n := by omega
        exact iho (x1, x, t + 1) _ ⟨(lv_sub hl [1, 2, 3, 4, 5, 0] rfl), (hI.sat hX (fun y z h => h.1)), h25, (fun j hj => hI.2.1 j (hX j hj)), (by omega), (by rcases Classical.em (x1 = x) with e | e; exact Or.inl e; exact Or.inr (by have := cnt_lt hI.2.1 e; omega))⟩ (by dsimp only; omega)
      · have c_33 : ¬ n ≤ i := fun z => c_33 ((nI_leI (a := n) (b := i) (by omega) (by omega)).mpr z)
        refine lv_iload_n hx hb dX2_withAllBehind_36 rfl (lv_at hl 3 rfl) ?_
        refine lv_iload hx hb dX2_withAllBehind_37 (lv_at hl 6 rfl) ?_
        refine callR (runSN hx hb hg hown hml hl.1 hN (c_X3_holds l D k (x1) (q := i) (by omega)) [.int x1, .int (nI i)] [] (preR (mapSome_sub hP [] rfl) hK hN xb0 x0) 323 nst_323 wd_324 wd_49 wd_325 lk_X3_holds ⟨rfl, rfl⟩ ⟨by decide, by decide⟩ ⟨Nat.zero_le _, Nat.zero_le _⟩ rfl (Nat.le_of_ble_eq_true rfl) dX2_withAllBehind_39) (fun r_39 q_39 => ?_)
        obtain rfl := q_39
        refine lv_if_eq (tgt := 52) hx hb dX2_withAllBehind_42 (by decide) (fun c_42 => ?_) (fun c_42 => ?_)
        · have c_42 := zI_0.mp c_42
          refine lv_iinc (v := nI (i + 1)) (lv' := [(6, .int (nI (i + 1))), (0, .ref (ad 0)), (1, .int (bitI u)), (2, .ref (ad 6)), (3, .int x1), (4, .int x), (5, .int (nI t))]) hx hb dX2_withAllBehind_52 hl (k := 6) rfl (nI_succ i).symm (by decide) rfl (fun ls hl => ?_)
          refine lv_goto (tgt := 27) hx hb dX2_withAllBehind_55 (by decide) ?_
          exact ih (x1, i + 1) _ ⟨(lv_sub hl [1, 2, 3, 4, 5, 6, 0] rfl), (hI.no (fun hi z hz => by rw [hi] at c_42; cases c_42)), (by omega), h25⟩ (by dsimp only; omega)
        · have c_42 := zI_ne c_42
          refine lv_iload_n hx hb dX2_withAllBehind_45 rfl (lv_at hl 3 rfl) ?_
          refine lv_aload_n hx hb dX2_withAllBehind_46 rfl (lv_at hl 2 rfl) ?_
          refine lv_iload hx hb dX2_withAllBehind_47 (lv_at hl 6 rfl) ?_
          refine ldn hx hb hK hP 6 0 rfl rfl (by omega) (by decide) dX2_withAllBehind_49 ?_
          refine lv_ior hx hb dX2_withAllBehind_50 ?_
          refine lv_istore_n (lv' := [(3, .int (x1 ||| ((V 6) i))), (0, .ref (ad 0)), (1, .int (bitI u)), (2, .ref (ad 6)), (4, .int x), (5, .int (nI t)), (6, .int (nI i))]) hx hb dX2_withAllBehind_51 rfl hl (by decide) rfl (fun ls hl => ?_)
          refine lv_iinc (v := nI (i + 1)) (lv' := [(6, .int (nI (i + 1))), (3, .int (x1 ||| ((V 6) i))), (0, .ref (ad 0)), (1, .int (bitI u)), (2, .ref (ad 6)), (4, .int x), (5, .int (nI t))]) hx hb dX2_withAllBehind_52 hl (k := 6) rfl (nI_succ i).symm (by decide) rfl (fun ls hl => ?_)
          refine lv_goto (tgt := 27) hx hb dX2_withAllBehind_55 (by decide) ?_
          exact ih (x1 ||| V 6 i, i + 1) _ ⟨(lv_sub hl [2, 3, 4, 1, 5, 6, 0] rfl), (hI.yes c_42 (fun z => ⟨fun h => ⟨by omega, h⟩, fun h => h.2⟩)), (by omega), (fun j hj => by rw [b_or, Bool.or_eq_true] at hj; exact hj.elim (h25 j) (fun z => Nat.lt_succ_of_lt (hV i (by omega) j z)))⟩ (by dsimp only; omega)
abbrev rmX2_settersOf : Room := { frames := 2, cells := 0, slots := 0, locals := 41 }
theorem lk_X2_settersOf : Lk yX2_settersOf 2 := by decide +kernel
set_option maxHeartbeats 4000000 in
set_option maxRecDepth 100000 in
/-- settersOf(program, what) -/
theorem c_X2_settersOf (l : Launch) (D : va_G) (k : Nat → ClassId) (ad : Nat → Nat) (V : St) {n : Nat} (hn : V 0 0 = nI n) (hn24 : n ≤ 24) (bd : Nat → Nat) (Pv : St) (hv : okV n Pv) (x : Int32) : CtR noX l yX2_settersOf cX2_settersOf 5 (some .int) rmX2_settersOf D (tyL k) ((wR k ad V) ++ (wP k bd Pv)) [.ref (ad 0), .ref (bd 0), .int x] (fun r => r = mkM n (fun p => decide (setI Pv p = x))) := by
  refine CtR.mk (by decide) (Nat.le_of_ble_eq_true rfl) ?_
  intro p e s m below meth c hx hb hml hown hg hr hlocks hK hN hX H hH hP ls hl
  have hl : lv_has ls 5 [(0, .ref (ad 0)), (1, .ref (bd 0)), (2, .int x)] := hl
  refine lv_iconst (v := 0) hx hb dX2_settersOf_0 (by decide) ?_
  refine lv_istore_n (lv' := [(3, .int 0), (0, .ref (ad 0)), (1, .ref (bd 0)), (2, .int x)]) hx hb dX2_settersOf_1 rfl hl (by decide) rfl (fun ls hl => ?_)
  refine lv_iconst (v := 0) hx hb dX2_settersOf_2 (by decide) ?_
  refine lv_istore (lv' := [(4, .int 0), (3, .int 0), (0, .ref (ad 0)), (1, .ref (bd 0)), (2, .int x)]) hx hb dX2_settersOf_3 hl (by decide) rfl (fun ls hl => ?_)
  refine loopR (σ := Nat) (fun i ls => lv_has ls 5 [(0, .ref (ad 0)), (1, .ref (bd 0)), (2, .int x), (3, .int (mkM i (fun p => decide (setI Pv p = x)))), (4, .int (nI i))] ∧ (i ≤ n)) (fun i => n - i) ?_ (0) ⟨(lv_sub hl [2, 3, 4, 1, 0] rfl), (by omega)⟩
  intro zz9 ls hI ih
  obtain ⟨i, rfl⟩ : ∃ z, z = zz9 := ⟨_, rfl⟩
  obtain ⟨hl, hi⟩ := hI
  refine lv_iload hx hb dX2_settersOf_5 (lv_at hl 4 rfl) ?_
  refine lv_aload_n hx hb dX2_settersOf_7 rfl (lv_at hl 0 rfl) ?_
  refine gfl hx hb hg inX2 hown hK hP 0 (ci := 2) rfl rfl 0 (by decide) wd_119 rfl dX2_settersOf_8 ?_
  refine topv (nI n) hn ?_
  refine lv_icmp_ge (tgt := 37) hx hb dX2_settersOf_11 (by decide) (fun c_11 => ?_) (fun c_11 => ?_)
  · have c_11 : n ≤ i := (nI_leI (a := n) (b := i) (by omega) (by omega)).mp c_11
    refine lv_iload_n hx hb dX2_settersOf_37 rfl (lv_at hl 3 rfl) ?_
    exact retRI (v := mkM i (fun p => decide (setI Pv p = x))) hx hb hr hlocks hH dX2_settersOf_38 (by rw [show i = n by omega])
  · have c_11 : ¬ n ≤ i := fun z => c_11 ((nI_leI (a := n) (b := i) (by omega) (by omega)).mpr z)
    refine lv_aload_n hx hb dX2_settersOf_14 rfl (lv_at hl 1 rfl) ?_
    refine lv_iload hx hb dX2_settersOf_15 (lv_at hl 4 rfl) ?_
    refine callR (runV hx hb hg hown hml hl.1 (c_X1_setBy l D k bd Pv hv (q := i) (by omega)) [.int (nI i)] [] (preR (mapSome_sub hP [15, 16, 17, 18, 19, 20, 21, 22] rfl) hK hN xb0 x0) (va_recv hK hP (ci := 1) (q0 := 15) rfl rfl) wd_330 wd_331 wd_332 wd_50 wd_333 lk_X1_setBy ⟨rfl, rfl⟩ ⟨by decide, by decide⟩ ⟨Nat.zero_le _, Nat.zero_le _⟩ rfl (Nat.le_of_ble_eq_true rfl) dX2_settersOf_17) (fun r_17 q_17 => ?_)
    obtain rfl := q_17
    refine lv_iload_n hx hb dX2_settersOf_20 rfl (lv_at hl 2 rfl) ?_
    refine lv_icmp_ne (tgt := 31) hx hb dX2_settersOf_21 (by decide) (fun c_21 => ?_) (fun c_21 => ?_)
    · have c_21 : decide (setI Pv i = x) = false := decide_eq_false c_21
      refine lv_iinc (v := nI (i + 1)) (lv' := [(4, .int (nI (i + 1))), (0, .ref (ad 0)), (1, .ref (bd 0)), (2, .int x), (3, .int (mkM i (fun p => decide (setI Pv p = x))))]) hx hb dX2_settersOf_31 hl (k := 4) rfl (nI_succ i).symm (by decide) rfl (fun ls hl => ?_)
      refine lv_goto (tgt := 5) hx hb dX2_settersOf_34 (by decide) ?_
      rw [mkM_f (f := (fun p => decide (setI Pv p = x))) c_21] at hl
      exact ih (i + 1) _ ⟨(lv_sub hl [1, 2, 3, 4, 0] rfl), (by omega)⟩ (by omega)
    · have c_21 : decide (setI Pv i = x) = true := decide_eq_true c_21
      refine lv_iload_n hx hb dX2_settersOf_24 rfl (lv_at hl 3 rfl) ?_
      refine lv_iconst (v := 1) hx hb dX2_settersOf_25 (by decide) ?_
      refine lv_iload hx hb dX2_settersOf_26 (lv_at hl 4 rfl) ?_
      refine lv_ishl hx hb dX2_settersOf_28 ?_
      refine topv (bitI i) rfl ?_
      refine lv_ior hx hb dX2_settersOf_29 ?_
      refine lv_istore_n (lv' := [(3, .int ((mkM i (fun p => decide (setI Pv p = x))) ||| (bitI i))), (0, .ref (ad 0)), (1, .ref (bd 0)), (2, .int x), (4, .int (nI i))]) hx hb dX2_settersOf_30 rfl hl (by decide) rfl (fun ls hl => ?_)
      refine lv_iinc (v := nI (i + 1)) (lv' := [(4, .int (nI (i + 1))), (3, .int ((mkM i (fun p => decide (setI Pv p = x))) ||| (bitI i))), (0, .ref (ad 0)), (1, .ref (bd 0)), (2, .int x)]) hx hb dX2_settersOf_31 hl (k := 4) rfl (nI_succ i).symm (by decide) rfl (fun ls hl => ?_)
      refine lv_goto (tgt := 5) hx hb dX2_settersOf_34 (by decide) ?_
      rw [mkM_t (f := (fun p => decide (setI Pv p = x))) c_21] at hl
      exact ih (i + 1) _ ⟨(lv_sub hl [2, 3, 4, 1, 0] rfl), (by omega)⟩ (by omega)
