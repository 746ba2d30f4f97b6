/-! the reference: settersOf, controls -/
def accM (y : Int32) (i : Nat) (Q : Nat → Prop) : Prop := ∀ j, bt y j = true ↔ j < i ∧ Q j
theorem acc_0 {Q : Nat → Prop} : accM 0 0 Q := fun j => by rw [b_0]; exact ⟨fun z => (by cases z), fun z => absurd z.1 (Nat.not_lt_zero _)⟩
theorem acc_yes {y : Int32} {i : Nat} {Q : Nat → Prop} (hi : i < 32) (h : accM y i Q) (hq : Q i) : accM (y ||| bitI i) (i + 1) Q := fun j => by
  rw [b_or, Bool.or_eq_true, b_bit hi, decide_eq_true_eq, h j]
  constructor
  · rintro (z | rfl)
    · exact ⟨by omega, z.2⟩
    · exact ⟨by omega, hq⟩
  · rintro ⟨z1, z2⟩
    rcases Classical.em (j = i) with e | e
    · exact Or.inr e
    · exact Or.inl ⟨by omega, z2⟩
theorem acc_no {y : Int32} {i : Nat} {Q : Nat → Prop} (h : accM y i Q) (hq : ¬ Q i) : accM y (i + 1) Q := fun j => by
  rw [h j]
  constructor
  · exact fun z => ⟨by omega, z.2⟩
  · rintro ⟨z1, z2⟩
    rcases Classical.em (j = i) with e | e
    · subst e; exact absurd z2 hq
    · exact ⟨by omega, z2⟩
abbrev rmX4_settersOf : Room := { frames := 4, cells := 0, slots := 0, locals := 97 }
theorem lk_X4_settersOf : Lk yX4_settersOf 2 := by decide +kernel
set_option maxHeartbeats 4000000 in
set_option maxRecDepth 100000 in
/-- settersOf(v, what) -/
theorem c_X4_settersOf (l : Launch) (D : va_G) (k : Nat → ClassId) (ad : Nat → Nat) (V : St) {n : Nat} (hv : okV n (pq V)) {v : Nat} (hvn : v < n) {x9 : Nat} (hx9 : x9 < 12) : CtR noX l yX4_settersOf cX4_settersOf 6 (some .int) rmX4_settersOf D (tyL k) (wQ k ad V) [.ref (ad 0), .int (nI v), .int (nI x9)] (fun r => accM r n (fun u => Cl (fun u => u < n ∧ bt (nxI n (pq V) u) v = true) (fun s1 u => u < n ∧ s1 < n ∧ bt (nxI n (pq V) u) s1 = true ∧ decide (setI (pq V) s1 = bitI x9) = false) u ∧ setI (pq V) u = bitI x9)) := by
  refine CtR.mk (by decide) (Nat.le_of_ble_eq_true rfl) ?_
  intro p e s m below meth c hx hb hml hown hg hr hlocks hK hN hX H hH hP ls hl
  have hl : lv_has ls 6 [(0, .ref (ad 0)), (1, .int (nI v)), (2, .int (nI x9))] := hl
  have h00 : V 0 0 = nI n := hv.2.1
  have hn24 := hv.1
  refine lv_aload_n hx hb dX4_settersOf_0 rfl (lv_at hl 0 rfl) ?_
  refine lv_iload_n hx hb dX4_settersOf_1 rfl (lv_at hl 1 rfl) ?_
  refine lv_iload_n hx hb dX4_settersOf_2 rfl (lv_at hl 2 rfl) ?_
  refine callR (runV hx hb hg hown hml hl.1 (c_X4_sources l D k ad V hv hvn hx9) [.int (nI v), .int (nI x9)] [] (preR (mapSome_sub hP [0, 1, 2, 3, 4, 5, 6, 7, 8, 9, 10, 11, 12, 13, 14, 15, 16, 17, 18, 19, 20, 21, 22] rfl) hK hN xb0 x0) (va_recv hK hP (ci := 4) (q0 := 0) rfl rfl) wd_747 wd_749 wd_35 wd_53 wd_750 lk_X4_sources ⟨rfl, rfl⟩ ⟨by decide, by decide⟩ ⟨Nat.zero_le _, Nat.zero_le _⟩ rfl (Nat.le_of_ble_eq_true rfl) dX4_settersOf_3) (fun r_3 q_3 => ?_)
  refine lv_istore_n (lv' := [(3, .int r_3), (0, .ref (ad 0)), (1, .int (nI v)), (2, .int (nI x9))]) hx hb dX4_settersOf_6 rfl hl (by decide) rfl (fun ls hl => ?_)
  refine lv_iconst (v := 0) hx hb dX4_settersOf_7 (by decide) ?_
  refine lv_istore (lv' := [(4, .int 0), (3, .int r_3), (0, .ref (ad 0)), (1, .int (nI v)), (2, .int (nI x9))]) hx hb dX4_settersOf_8 hl (by decide) rfl (fun ls hl => ?_)
  refine lv_iconst (v := 0) hx hb dX4_settersOf_10 (by decide) ?_
  refine lv_istore (lv' := [(5, .int 0), (4, .int 0), (3, .int r_3), (0, .ref (ad 0)), (1, .int (nI v)), (2, .int (nI x9))]) hx hb dX4_settersOf_11 hl (by decide) rfl (fun ls hl => ?_)
  refine loopR (σ := Int32 × Nat) (fun zz9 ls => match zz9 with | (y1, i) => lv_has ls 6 [(0, .ref (ad 0)), (1, .int (nI v)), (2, .int (nI x9)), (3, .int r_3), (4, .int y1), (5, .int (nI i))] ∧ (i ≤ n) ∧ (accM y1 i (fun u => Cl (fun u => u < n ∧ bt (nxI n (pq V) u) v = true) (fun s1 u => u < n ∧ s1 < n ∧ bt (nxI n (pq V) u) s1 = true ∧ decide (setI (pq V) s1 = bitI x9) = false) u ∧ setI (pq V) u = bitI x9))) (fun zz9 => match zz9 with | (y1, i) => n - i) ?_ (0, 0) ⟨(lv_sub hl [3, 4, 5, 2, 1, 0] rfl), (by omega), acc_0⟩
  intro zz9 ls hI ih
  obtain ⟨y1, i⟩ := zz9
  obtain ⟨hl, hi, hY⟩ := hI
  refine lv_iload hx hb dX4_settersOf_13 (lv_at hl 5 rfl) ?_
  refine lv_aload_n hx hb dX4_settersOf_15 rfl (lv_at hl 0 rfl) ?_
  refine gfl hx hb hg inX4 hown hK hP 0 (ci := 4) rfl rfl 0 (by decide) wd_551 rfl dX4_settersOf_16 ?_
  refine topv (nI n) h00 ?_
  refine lv_icmp_ge (tgt := 62) hx hb dX4_settersOf_19 (by decide) (fun c_19 => ?_) (fun c_19 => ?_)
  · have c_19 : n ≤ i := (nI_leI (a := n) (b := i) (by omega) (by omega)).mp c_19
    refine lv_iload hx hb dX4_settersOf_62 (lv_at hl 4 rfl) ?_
    exact retRI (v := y1) hx hb hr hlocks hH dX4_settersOf_64 (by have e9 : i = n := (by omega); rw [e9] at hY; exact hY)
  · have c_19 : ¬ n ≤ i := fun z => c_19 ((nI_leI (a := n) (b := i) (by omega) (by omega)).mpr z)
    refine lv_iload_n hx hb dX4_settersOf_22 rfl (lv_at hl 3 rfl) ?_
    refine lv_iload hx hb dX4_settersOf_23 (lv_at hl 5 rfl) ?_
    refine lv_ishr hx hb dX4_settersOf_25 ?_
    refine lv_iconst (v := 1) hx hb dX4_settersOf_26 (by decide) ?_
    refine lv_iand hx hb dX4_settersOf_27 ?_
    refine lv_iconst (v := 1) hx hb dX4_settersOf_28 (by decide) ?_
    refine lv_icmp_ne (tgt := 52) hx hb dX4_settersOf_29 (by decide) (fun c_29 => ?_) (fun c_29 => ?_)
    · have c_29 := sh1_f (x := r_3) (i := i) (by omega) c_29
      refine lv_iload hx hb dX4_settersOf_52 (lv_at hl 4 rfl) ?_
      refine lv_istore (lv' := [(4, .int y1), (0, .ref (ad 0)), (1, .int (nI v)), (2, .int (nI x9)), (3, .int r_3), (5, .int (nI i))]) hx hb dX4_settersOf_54 hl (by decide) rfl (fun ls hl => ?_)
      refine lv_iinc (v := nI (i + 1)) (lv' := [(5, .int (nI (i + 1))), (4, .int y1), (0, .ref (ad 0)), (1, .int (nI v)), (2, .int (nI x9)), (3, .int r_3)]) hx hb dX4_settersOf_56 hl (k := 5) rfl (nI_succ i).symm (by decide) rfl (fun ls hl => ?_)
      refine lv_goto (tgt := 13) hx hb dX4_settersOf_59 (by decide) ?_
      exact ih (y1, i + 1) _ ⟨(lv_sub hl [2, 3, 4, 5, 1, 0] rfl), (by omega), (acc_no hY (fun z => by rw [(q_3 i).mpr z.1] at c_29; cases c_29))⟩ (by dsimp only; omega)
    · have c_29 := (tS1 r_3 (p := i) (by omega)).mp c_29
      refine lv_aload_n hx hb dX4_settersOf_32 rfl (lv_at hl 0 rfl) ?_
      refine lv_iload hx hb dX4_settersOf_33 (lv_at hl 5 rfl) ?_
      refine lv_iload_n hx hb dX4_settersOf_35 rfl (lv_at hl 2 rfl) ?_
      refine callR (runV hx hb hg hown hml hl.1 (c_X4_setsIt l D k ad V hv (q := i) (by omega) (x := x9) hx9) [.int (nI i), .int (nI x9)] [] (preR (mapSome_sub hP [0, 1, 2, 3, 4, 5, 6, 7, 8, 9, 10, 11, 12, 13, 14, 15, 16, 17, 18, 19, 20, 21, 22] rfl) hK hN xb0 x0) (va_recv hK hP (ci := 4) (q0 := 0) rfl rfl) wd_751 wd_753 wd_36 wd_53 wd_754 lk_X4_setsIt ⟨rfl, rfl⟩ ⟨by decide, by decide⟩ ⟨Nat.zero_le _, Nat.zero_le _⟩ rfl (Nat.le_of_ble_eq_true rfl) dX4_settersOf_36) (fun r_36 q_36 => ?_)
      obtain rfl := q_36
      refine lv_if_eq (tgt := 52) hx hb dX4_settersOf_39 (by decide) (fun c_39 => ?_) (fun c_39 => ?_)
      · have c_39 := zI_0.mp c_39
        refine lv_iload hx hb dX4_settersOf_52 (lv_at hl 4 rfl) ?_
        refine lv_istore (lv' := [(4, .int y1), (0, .ref (ad 0)), (1, .int (nI v)), (2, .int (nI x9)), (3, .int r_3), (5, .int (nI i))]) hx hb dX4_settersOf_54 hl (by decide) rfl (fun ls hl => ?_)
        refine lv_iinc (v := nI (i + 1)) (lv' := [(5, .int (nI (i + 1))), (4, .int y1), (0, .ref (ad 0)), (1, .int (nI v)), (2, .int (nI x9)), (3, .int r_3)]) hx hb dX4_settersOf_56 hl (k := 5) rfl (nI_succ i).symm (by decide) rfl (fun ls hl => ?_)
        refine lv_goto (tgt := 13) hx hb dX4_settersOf_59 (by decide) ?_
        exact ih (y1, i + 1) _ ⟨(lv_sub hl [2, 3, 4, 5, 1, 0] rfl), (by omega), (acc_no hY (fun z => by rw [decide_eq_true z.2] at c_39; cases c_39))⟩ (by dsimp only; omega)
      · have c_39 := zI_ne c_39
        refine lv_iload hx hb dX4_settersOf_42 (lv_at hl 4 rfl) ?_
        refine lv_iconst (v := 1) hx hb dX4_settersOf_44 (by decide) ?_
        refine lv_iload hx hb dX4_settersOf_45 (lv_at hl 5 rfl) ?_
        refine lv_ishl hx hb dX4_settersOf_47 ?_
        refine topv (bitI i) rfl ?_
        refine lv_ior hx hb dX4_settersOf_48 ?_
        refine lv_goto (tgt := 54) hx hb dX4_settersOf_49 (by decide) ?_
        refine lv_istore (lv' := [(4, .int (y1 ||| (bitI i))), (0, .ref (ad 0)), (1, .int (nI v)), (2, .int (nI x9)), (3, .int r_3), (5, .int (nI i))]) hx hb dX4_settersOf_54 hl (by decide) rfl (fun ls hl => ?_)
        refine lv_iinc (v := nI (i + 1)) (lv' := [(5, .int (nI (i + 1))), (4, .int (y1 ||| (bitI i))), (0, .ref (ad 0)), (1, .int (nI v)), (2, .int (nI x9)), (3, .int r_3)]) hx hb dX4_settersOf_56 hl (k := 5) rfl (nI_succ i).symm (by decide) rfl (fun ls hl => ?_)
        refine lv_goto (tgt := 13) hx hb dX4_settersOf_59 (by decide) ?_
        exact ih (y1 ||| bitI i, i + 1) _ ⟨(lv_sub hl [2, 3, 4, 5, 1, 0] rfl), (by omega), (acc_yes (by omega) hY ⟨(q_3 i).mp c_29, of_decide_eq_true c_39⟩)⟩ (by dsimp only; omega)
abbrev rmX4_controls : Room := { frames := 2, cells := 0, slots := 0, locals := 45 }
theorem lk_X4_controls : Lk yX4_controls 1 := by decide +kernel
set_option maxHeartbeats 4000000 in
set_option maxRecDepth 100000 in
/-- controls(v) -/
theorem c_X4_controls (l : Launch) (D : va_G) (k : Nat → ClassId) (ad : Nat → Nat) (V : St) {n : Nat} (hv : okV n (pq V)) {v : Nat} (hvn : v < n) (hbh : ∀ s1, s1 < n → isM (V 13 s1) (pF n (pq V) s1)) : CtR noX l yX4_controls cX4_controls 6 (some .int) rmX4_controls D (tyL k) (wQ k ad V) [.ref (ad 0), .int (nI v)] (fun r => isM r (pH n (pq V) 3 v)) := by
  refine CtR.mk (by decide) (Nat.le_of_ble_eq_true rfl) ?_
  intro p e s m below meth c hx hb hml hown hg hr hlocks hK hN hX H hH hP ls hl
  have hl : lv_has ls 6 [(0, .ref (ad 0)), (1, .int (nI v))] := hl
  have h00 : V 0 0 = nI n := hv.2.1
  have hn24 := hv.1
  refine lv_iconst (v := 0) hx hb dX4_controls_0 (by decide) ?_
  refine lv_istore_n (lv' := [(2, .int 0), (0, .ref (ad 0)), (1, .int (nI v))]) hx hb dX4_controls_1 rfl hl (by decide) rfl (fun ls hl => ?_)
  refine lv_iconst (v := 0) hx hb dX4_controls_2 (by decide) ?_
  refine lv_istore_n (lv' := [(3, .int 0), (2, .int 0), (0, .ref (ad 0)), (1, .int (nI v))]) hx hb dX4_controls_3 rfl hl (by decide) rfl (fun ls hl => ?_)
  refine lv_iconst (v := 0) hx hb dX4_controls_4 (by decide) ?_
  refine lv_istore (lv' := [(4, .int 0), (3, .int 0), (2, .int 0), (0, .ref (ad 0)), (1, .int (nI v))]) hx hb dX4_controls_5 hl (by decide) rfl (fun ls hl => ?_)
  refine loopR (σ := Int32 × Nat) (fun zz9 ls => match zz9 with | (f1, i) => lv_has ls 6 [(0, .ref (ad 0)), (1, .int (nI v)), (2, .int 0), (3, .int f1), (4, .int (nI i))] ∧ (i ≤ n) ∧ (accM f1 i (fun s1 => pF n (pq V) s1 v))) (fun zz9 => match zz9 with | (f1, i) => n - i) ?_ (0, 0) ⟨(lv_sub hl [3, 4, 2, 1, 0] rfl), (by omega), acc_0⟩
  intro zz9 ls hI ih
  obtain ⟨f1, i⟩ := zz9
  obtain ⟨hl, hi, hY⟩ := hI
  refine lv_iload hx hb dX4_controls_7 (lv_at hl 4 rfl) ?_
  refine lv_aload_n hx hb dX4_controls_9 rfl (lv_at hl 0 rfl) ?_
  refine gfl hx hb hg inX4 hown hK hP 0 (ci := 4) rfl rfl 0 (by decide) wd_551 rfl dX4_controls_10 ?_
  refine topv (nI n) h00 ?_
  refine lv_icmp_ge (tgt := 48) hx hb dX4_controls_13 (by decide) (fun c_13 => ?_) (fun c_13 => ?_)
  · have c_13 : n ≤ i := (nI_leI (a := n) (b := i) (by omega) (by omega)).mp c_13
    have ei : i = n := by omega
    have hF2 : ∀ u, u < n → (¬ wnI n (pq V) u &&& (f1 ||| bitI v) = 0 ↔ (bt (wnI n (pq V) u) v = true ∨ ∃ s1, s1 < n ∧ bt (wnI n (pq V) u) s1 = true ∧ pF n (pq V) s1 v)) := fun u hu => by
      rw [and_ne0]
      constructor
      · rintro ⟨j, h1, h2⟩
        rw [b_or, Bool.or_eq_true, b_bit (by omega), decide_eq_true_eq, hY j, ei] at h2
        rcases h2 with h2 | rfl
        · exact Or.inr ⟨j, h2.1, h1, h2.2⟩
        · exact Or.inl h1
      · rintro (h1 | ⟨s1, h1, h2, h3⟩)
        · exact ⟨v, h1, by rw [b_or, Bool.or_eq_true, b_bit (by omega)]; exact Or.inr (decide_eq_true rfl)⟩
        · exact ⟨s1, h2, by rw [b_or, Bool.or_eq_true, hY s1, ei]; exact Or.inl ⟨h1, h3⟩⟩
    have hF3 : ∀ u, u < n → (bt f1 u = true ↔ pF n (pq V) u v) := fun u hu => by rw [hY u, ei]; exact ⟨fun z => z.2, fun z => ⟨hu, z⟩⟩
    refine lv_iconst (v := 0) hx hb dX4_controls_48 (by decide) ?_
    refine lv_istore (lv' := [(4, .int 0), (0, .ref (ad 0)), (1, .int (nI v)), (2, .int 0), (3, .int f1)]) hx hb dX4_controls_49 hl (by decide) rfl (fun ls hl => ?_)
    refine loopR (σ := Int32 × Nat) (fun zz9 ls => match zz9 with | (y1, i) => lv_has ls 6 [(0, .ref (ad 0)), (1, .int (nI v)), (2, .int y1), (3, .int f1), (4, .int (nI i))] ∧ (i ≤ n) ∧ (accM y1 i (fun u => pC n (pq V) v u))) (fun zz9 => match zz9 with | (y1, i) => n - i) ?_ (0, 0) ⟨(lv_sub hl [1, 2, 3, 4, 0] rfl), (by omega), acc_0⟩
    intro zz9 ls hI ih
    obtain ⟨y1, i⟩ := zz9
    obtain ⟨hl, hi2, hY2⟩ := hI
    refine lv_iload hx hb dX4_controls_51 (lv_at hl 4 rfl) ?_
    refine lv_aload_n hx hb dX4_controls_53 rfl (lv_at hl 0 rfl) ?_
    refine gfl hx hb hg inX4 hown hK hP 0 (ci := 4) rfl rfl 0 (by decide) wd_551 rfl dX4_controls_54 ?_
    refine topv (nI n) h00 ?_
    refine lv_icmp_ge (tgt := 114) hx hb dX4_controls_57 (by decide) (fun c_57 => ?_) (fun c_57 => ?_)
    · have c_57 : n ≤ i := (nI_leI (a := n) (b := i) (by omega) (by omega)).mp c_57
      refine lv_iload_n hx hb dX4_controls_114 rfl (lv_at hl 2 rfl) ?_
      exact retRI (v := y1) hx hb hr hlocks hH dX4_controls_115 (fun j => by rw [hY2 j, show i = n by omega]; exact Iff.rfl)
    · have c_57 : ¬ n ≤ i := fun z => c_57 ((nI_leI (a := n) (b := i) (by omega) (by omega)).mpr z)
      refine lv_aload_n hx hb dX4_controls_60 rfl (lv_at hl 0 rfl) ?_
      refine lv_iload hx hb dX4_controls_61 (lv_at hl 4 rfl) ?_
      refine lv_iconst (v := 1) hx hb dX4_controls_63 (by decide) ?_
      refine callR (runV hx hb hg hown hml hl.1 (c_X4_nexts l D k ad V hv (q := i) (by omega) true) [.int (nI i), .int 1] [] (preR (mapSome_sub hP [0, 1, 2, 3, 4, 5, 6, 7, 8, 9, 10, 11, 12, 13, 14, 15, 16, 17, 18, 19, 20, 21, 22] rfl) hK hN xb0 x0) (va_recv hK hP (ci := 4) (q0 := 0) rfl rfl) wd_714 wd_716 wd_28 wd_53 wd_717 lk_X4_nexts ⟨rfl, rfl⟩ ⟨by decide, by decide⟩ ⟨Nat.zero_le _, Nat.zero_le _⟩ rfl (Nat.le_of_ble_eq_true rfl) dX4_controls_64) (fun r_64 q_64 => ?_)
      obtain rfl := q_64
      refine lv_iload_n hx hb dX4_controls_67 rfl (lv_at hl 3 rfl) ?_
      refine lv_iconst (v := 1) hx hb dX4_controls_68 (by decide) ?_
      refine lv_iload_n hx hb dX4_controls_69 rfl (lv_at hl 1 rfl) ?_
      refine lv_ishl hx hb dX4_controls_70 ?_
      refine topv (bitI v) rfl ?_
      refine lv_ior hx hb dX4_controls_71 ?_
      refine lv_iand hx hb dX4_controls_72 ?_
      refine lv_if_eq (tgt := 89) hx hb dX4_controls_73 (by decide) (fun c_73 => ?_) (fun c_73 => ?_)
      · refine lv_iconst (v := 0) hx hb dX4_controls_89 (by decide) ?_
        refine lv_istore (lv' := [(5, .int 0), (0, .ref (ad 0)), (1, .int (nI v)), (2, .int y1), (3, .int f1), (4, .int (nI i))]) hx hb dX4_controls_90 hl (by decide) rfl (fun ls hl => ?_)
        refine lv_iload hx hb dX4_controls_92 (lv_at hl 0 rfl) ?_
        refine lv_if_eq (tgt := 106) hx hb dX4_controls_94 (by decide) (fun c_94 => ?_) (fun c_94 => ?_)
        · refine lv_iload_n hx hb dX4_controls_106 rfl (lv_at hl 3 rfl) ?_
          refine lv_istore_n (lv' := [(2, .int y1), (5, .int 0), (0, .ref (ad 0)), (1, .int (nI v)), (3, .int f1), (4, .int (nI i))]) hx hb dX4_controls_107 rfl hl (by decide) rfl (fun ls hl => ?_)
          refine lv_iinc (v := nI (i + 1)) (lv' := [(4, .int (nI (i + 1))), (2, .int y1), (5, .int 0), (0, .ref (ad 0)), (1, .int (nI v)), (3, .int f1)]) hx hb dX4_controls_108 hl (k := 5) rfl (nI_succ i).symm (by decide) rfl (fun ls hl => ?_)
          refine lv_goto (tgt := 51) hx hb dX4_controls_111 (by decide) ?_
          exact ih (y1, i + 1) _ ⟨(lv_sub hl [3, 4, 1, 5, 0] rfl), (by omega), (acc_no hY2 (fun z => (hF2 i (by omega)).mpr z.1 c_73))⟩ (by dsimp only; omega)
        · exact absurd (show ¬ (0 : Int32) = (0 : Int32) from c_94) (by decide)
      · refine lv_iload_n hx hb dX4_controls_76 rfl (lv_at hl 3 rfl) ?_
        refine lv_iload hx hb dX4_controls_77 (lv_at hl 4 rfl) ?_
        refine lv_ishr hx hb dX4_controls_79 ?_
        refine lv_iconst (v := 1) hx hb dX4_controls_80 (by decide) ?_
        refine lv_iand hx hb dX4_controls_81 ?_
        refine lv_if_ne (tgt := 89) hx hb dX4_controls_82 (by decide) (fun c_82 => ?_) (fun c_82 => ?_)
        · have c_82 : bt f1 i = true := by cases hb9 : bt f1 i with | true => rfl | false => exact absurd ((tS0 f1 (by omega)).mpr hb9) c_82
          refine lv_iconst (v := 0) hx hb dX4_controls_89 (by decide) ?_
          refine lv_istore (lv' := [(5, .int 0), (0, .ref (ad 0)), (1, .int (nI v)), (2, .int y1), (3, .int f1), (4, .int (nI i))]) hx hb dX4_controls_90 hl (by decide) rfl (fun ls hl => ?_)
          refine lv_iload hx hb dX4_controls_92 (lv_at hl 0 rfl) ?_
          refine lv_if_eq (tgt := 106) hx hb dX4_controls_94 (by decide) (fun c_94 => ?_) (fun c_94 => ?_)
          · refine lv_iload_n hx hb dX4_controls_106 rfl (lv_at hl 3 rfl) ?_
            refine lv_istore_n (lv' := [(2, .int y1), (5, .int 0), (0, .ref (ad 0)), (1, .int (nI v)), (3, .int f1), (4, .int (nI i))]) hx hb dX4_controls_107 rfl hl (by decide) rfl (fun ls hl => ?_)
            refine lv_iinc (v := nI (i + 1)) (lv' := [(4, .int (nI (i + 1))), (2, .int y1), (5, .int 0), (0, .ref (ad 0)), (1, .int (nI v)), (3, .int f1)]) hx hb dX4_controls_108 hl (k := 5) rfl (nI_succ i).symm (by decide) rfl (fun ls hl => ?_)
            refine lv_goto (tgt := 51) hx hb dX4_controls_111 (by decide) ?_
            exact ih (y1, i + 1) _ ⟨(lv_sub hl [3, 4, 1, 5, 0] rfl), (by omega), (acc_no hY2 (fun z => z.2 ((hF3 i (by omega)).mp c_82)))⟩ (by dsimp only; omega)
          · exact absurd (show ¬ (0 : Int32) = (0 : Int32) from c_94) (by decide)
        · have c_82 := (tS0 f1 (p := i) (by omega)).mp c_82
          refine lv_iconst (v := 1) hx hb dX4_controls_85 (by decide) ?_
          refine lv_goto (tgt := 90) hx hb dX4_controls_86 (by decide) ?_
          refine lv_istore (lv' := [(5, .int 1), (0, .ref (ad 0)), (1, .int (nI v)), (2, .int y1), (3, .int f1), (4, .int (nI i))]) hx hb dX4_controls_90 hl (by decide) rfl (fun ls hl => ?_)
          refine lv_iload hx hb dX4_controls_92 (lv_at hl 0 rfl) ?_
          refine lv_if_eq (tgt := 106) hx hb dX4_controls_94 (by decide) (fun c_94 => ?_) (fun c_94 => ?_)
          · exact absurd (show (1 : Int32) = (0 : Int32) from c_94) (by decide)
          · refine lv_iload_n hx hb dX4_controls_97 rfl (lv_at hl 3 rfl) ?_
            refine lv_iconst (v := 1) hx hb dX4_controls_98 (by decide) ?_
            refine lv_iload hx hb dX4_controls_99 (lv_at hl 5 rfl) ?_
            refine lv_ishl hx hb dX4_controls_101 ?_
            refine topv (bitI i) rfl ?_
            refine lv_ior hx hb dX4_controls_102 ?_
            refine lv_goto (tgt := 107) hx hb dX4_controls_103 (by decide) ?_
            refine lv_istore_n (lv' := [(2, .int (y1 ||| (bitI i))), (5, .int 1), (0, .ref (ad 0)), (1, .int (nI v)), (3, .int f1), (4, .int (nI i))]) hx hb dX4_controls_107 rfl hl (by decide) rfl (fun ls hl => ?_)
            refine lv_iinc (v := nI (i + 1)) (lv' := [(4, .int (nI (i + 1))), (2, .int (y1 ||| (bitI i))), (5, .int 1), (0, .ref (ad 0)), (1, .int (nI v)), (3, .int f1)]) hx hb dX4_controls_108 hl (k := 5) rfl (nI_succ i).symm (by decide) rfl (fun ls hl => ?_)
            refine lv_goto (tgt := 51) hx hb dX4_controls_111 (by decide) ?_
            exact ih (y1 ||| bitI i, i + 1) _ ⟨(lv_sub hl [3, 4, 1, 5, 0] rfl), (by omega), (acc_yes (by omega) hY2 ⟨(hF2 i (by omega)).mp c_73, fun z => by rw [(hF3 i (by omega)).mpr z] at c_82; cases c_82⟩)⟩ (by dsimp only; omega)
  · have c_13 : ¬ n ≤ i := fun z => c_13 ((nI_leI (a := n) (b := i) (by omega) (by omega)).mpr z)
    refine lv_aload_n hx hb dX4_controls_16 rfl (lv_at hl 0 rfl) ?_
    refine gfl hx hb hg inX4 hown hK hP 0 (ci := 4) rfl rfl 19 (by decide) wd_570 rfl dX4_controls_17 ?_
    refine lv_iload hx hb dX4_controls_20 (lv_at hl 4 rfl) ?_
    refine ldn hx hb hK hP 13 0 rfl rfl (by omega) (by decide) dX4_controls_22 ?_
    refine lv_iload_n hx hb dX4_controls_23 rfl (lv_at hl 1 rfl) ?_
    refine lv_ishr hx hb dX4_controls_24 ?_
    refine lv_iconst (v := 1) hx hb dX4_controls_25 (by decide) ?_
    refine lv_iand hx hb dX4_controls_26 ?_
    refine lv_iconst (v := 1) hx hb dX4_controls_27 (by decide) ?_
    refine lv_icmp_ne (tgt := 40) hx hb dX4_controls_28 (by decide) (fun c_28 => ?_) (fun c_28 => ?_)
    · have c_28 := sh1_f (x := V 13 i) (i := v) (by omega) c_28
      refine lv_iload_n hx hb dX4_controls_40 rfl (lv_at hl 3 rfl) ?_
      refine lv_istore_n (lv' := [(3, .int f1), (0, .ref (ad 0)), (1, .int (nI v)), (2, .int 0), (4, .int (nI i))]) hx hb dX4_controls_41 rfl hl (by decide) rfl (fun ls hl => ?_)
      refine lv_iinc (v := nI (i + 1)) (lv' := [(4, .int (nI (i + 1))), (3, .int f1), (0, .ref (ad 0)), (1, .int (nI v)), (2, .int 0)]) hx hb dX4_controls_42 hl (k := 4) rfl (nI_succ i).symm (by decide) rfl (fun ls hl => ?_)
      refine lv_goto (tgt := 7) hx hb dX4_controls_45 (by decide) ?_
      exact ih (f1, i + 1) _ ⟨(lv_sub hl [2, 3, 4, 1, 0] rfl), (by omega), (acc_no hY (fun z => by rw [(hbh i (by omega) v).mpr z] at c_28; cases c_28))⟩ (by dsimp only; omega)
    · have c_28 := (tS1 (V 13 i) (p := v) (by omega)).mp c_28
      refine lv_iload_n hx hb dX4_controls_31 rfl (lv_at hl 3 rfl) ?_
      refine lv_iconst (v := 1) hx hb dX4_controls_32 (by decide) ?_
      refine lv_iload hx hb dX4_controls_33 (lv_at hl 4 rfl) ?_
      refine lv_ishl hx hb dX4_controls_35 ?_
      refine topv (bitI i) rfl ?_
      refine lv_ior hx hb dX4_controls_36 ?_
      refine lv_goto (tgt := 41) hx hb dX4_controls_37 (by decide) ?_
      refine lv_istore_n (lv' := [(3, .int (f1 ||| (bitI i))), (0, .ref (ad 0)), (1, .int (nI v)), (2, .int 0), (4, .int (nI i))]) hx hb dX4_controls_41 rfl hl (by decide) rfl (fun ls hl => ?_)
      refine lv_iinc (v := nI (i + 1)) (lv' := [(4, .int (nI (i + 1))), (3, .int (f1 ||| (bitI i))), (0, .ref (ad 0)), (1, .int (nI v)), (2, .int 0)]) hx hb dX4_controls_42 hl (k := 4) rfl (nI_succ i).symm (by decide) rfl (fun ls hl => ?_)
      refine lv_goto (tgt := 7) hx hb dX4_controls_45 (by decide) ?_
      exact ih (f1 ||| bitI i, i + 1) _ ⟨(lv_sub hl [2, 3, 4, 1, 0] rfl), (by omega), (acc_yes (by omega) hY ((hbh i (by omega) v).mp c_28))⟩ (by dsimp only; omega)
