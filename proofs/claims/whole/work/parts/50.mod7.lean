/-! the reference: hangs -/
def g1M (n : Nat) (P : St) (v : Nat) (w : Bool) (u : Nat) : Prop := u < n ∧ ∃ x, x < 8 ∧ bt (rrI P v w) x = true ∧ srcP n (nxI n P) (fun s1 => decide (setI P s1 = bitI x)) v u ∧ setI P u = bitI x
def g2M (n : Nat) (P : St) (v u : Nat) : Prop := u < n ∧ kd P v = 8 ∧ srcP n (nxI n P) (fun _ => false) v u ∧ kd P u = 7 ∧ shB P u v = true
def g3M (n : Nat) (P : St) (v u : Nat) : Prop := u < n ∧ kd P v = 9 ∧ srcP n (nxI n P) (fun s1 => decide (setI P s1 = bitI (8 + ix (P 3 v)))) v u ∧ setI P u = bitI (8 + ix (P 3 v))
theorem z_isM {Q : Nat → Prop} (h : ∀ u, ¬ Q u) : isM 0 Q := fun j => by rw [b_0]; exact ⟨fun z => (by cases z), fun z => absurd z (h j)⟩
abbrev rmX4_hangs : Room := { frames := 5, cells := 0, slots := 0, locals := 122 }
theorem lk_X4_hangs : Lk yX4_hangs 3 := by decide +kernel
set_option maxHeartbeats 4000000 in
set_option maxRecDepth 100000 in
/-- hangs(v, 1, thin) -/
theorem c_X4_hangs (l : Launch) (D : va_G) (k : Nat → ClassId) (ad : Nat → Nat) (V : St) {n : Nat} (hv : okV n (pq V)) {v : Nat} (hvn : v < n) (w : Bool) : CtR noX l yX4_hangs cX4_hangs 8 (some .int) rmX4_hangs D (tyL k) (wQ k ad V) [.ref (ad 0), .int (nI v), .int 1, .int (zI w)] (fun r => isM r (g1M n (pq V) v w)) := by
  refine CtR.mk (by decide) (Nat.le_of_ble_eq_true rfl) ?_
  intro p e s m below meth c hx hb hml hown hg hr hlocks hK hN hX H hH hP ls hl
  have hl : lv_has ls 8 [(0, .ref (ad 0)), (1, .int (nI v)), (2, .int 1), (3, .int (zI w))] := hl
  have h00 : V 0 0 = nI n := hv.2.1
  have hn24 := hv.1
  refine lv_iconst (v := 0) hx hb dX4_hangs_0 (by decide) ?_
  refine lv_istore (lv' := [(4, .int 0), (0, .ref (ad 0)), (1, .int (nI v)), (2, .int 1), (3, .int (zI w))]) hx hb dX4_hangs_1 hl (by decide) rfl (fun ls hl => ?_)
  refine lv_iload_n hx hb dX4_hangs_3 rfl (lv_at hl 3 rfl) ?_
  refine lv_iconst (v := 1) hx hb dX4_hangs_4 (by decide) ?_
  refine lv_icmp_ne (tgt := 63) hx hb dX4_hangs_5 (by decide) (fun c_5 => ?_) (fun c_5 => ?_)
  · exact absurd (show ¬ (1 : Int32) = (1 : Int32) from c_5) (by decide)
  · refine lv_aload_n hx hb dX4_hangs_8 rfl (lv_at hl 1 rfl) ?_
    refine lv_iload_n hx hb dX4_hangs_9 rfl (lv_at hl 2 rfl) ?_
    refine lv_iload_n hx hb dX4_hangs_10 rfl (lv_at hl 4 rfl) ?_
    refine callR (runV hx hb hg hown hml hl.1 (c_X4_reads l D k ad V hv (q := v) (by omega) w) [.int (nI v), .int (zI w)] [] (preR (mapSome_sub hP [0, 1, 2, 3, 4, 5, 6, 7, 8, 9, 10, 11, 12, 13, 14, 15, 16, 17, 18, 19, 20, 21, 22] rfl) hK hN xb0 x0) (va_recv hK hP (ci := 4) (q0 := 0) rfl rfl) wd_739 wd_741 wd_33 wd_53 wd_742 lk_X4_reads ⟨rfl, rfl⟩ ⟨by decide, by decide⟩ ⟨Nat.zero_le _, Nat.zero_le _⟩ rfl (Nat.le_of_ble_eq_true rfl) dX4_hangs_11) (fun r_11 q_11 => ?_)
    obtain rfl := q_11
    refine lv_istore (lv' := [(5, .int (rrI (pq V) v w)), (4, .int 0), (0, .ref (ad 0)), (1, .int (nI v)), (2, .int 1), (3, .int (zI w))]) hx hb dX4_hangs_14 hl (by decide) rfl (fun ls hl => ?_)
    refine lv_iconst (v := 0) hx hb dX4_hangs_16 (by decide) ?_
    refine lv_istore (lv' := [(6, .int 0), (5, .int (rrI (pq V) v w)), (4, .int 0), (0, .ref (ad 0)), (1, .int (nI v)), (2, .int 1), (3, .int (zI w))]) hx hb dX4_hangs_17 hl (by decide) rfl (fun ls hl => ?_)
    refine loopR (σ := Int32 × Nat) (fun zz9 ls => match zz9 with | (y1, i) => lv_has ls 8 [(0, .ref (ad 0)), (1, .int (nI v)), (2, .int 1), (3, .int (zI w)), (4, .int y1), (5, .int (rrI (pq V) v w)), (6, .int (nI i))] ∧ (i ≤ 8) ∧ (∀ u, bt y1 u = true ↔ u < n ∧ ∃ x, x < i ∧ bt (rrI (pq V) v w) x = true ∧ srcP n (nxI n (pq V)) (fun s1 => decide (setI (pq V) s1 = bitI x)) v u ∧ setI (pq V) u = bitI x)) (fun zz9 => match zz9 with | (y1, i) => 8 - i) ?_ (0, 0) ⟨(lv_sub hl [3, 4, 5, 6, 2, 1, 0] rfl), (by omega), (fun u => by rw [b_0]; exact ⟨fun z => (by cases z), fun ⟨_, _, h, _⟩ => absurd h (Nat.not_lt_zero _)⟩)⟩
    intro zz9 ls hI ih
    obtain ⟨y1, i⟩ := zz9
    obtain ⟨hl, hi, hY⟩ := hI
    refine lv_iload hx hb dX4_hangs_19 (lv_at hl 6 rfl) ?_
    refine lv_bipush (v := 8) hx hb dX4_hangs_21 (by decide) ?_
    refine lv_icmp_ge (tgt := 60) hx hb dX4_hangs_23 (by decide) (fun c_23 => ?_) (fun c_23 => ?_)
    · have c_23 : 8 ≤ i := (nI_leI (a := 8) (b := i) (by omega) (by omega)).mp c_23
      refine lv_goto (tgt := 232) hx hb dX4_hangs_60 (by decide) ?_
      refine lv_iload hx hb dX4_hangs_232 (lv_at hl 4 rfl) ?_
      exact retRI (v := y1) hx hb hr hlocks hH dX4_hangs_234 (by have e9 : i = 8 := (by omega); rw [e9] at hY; exact hY)
    · have c_23 : ¬ 8 ≤ i := fun z => c_23 ((nI_leI (a := 8) (b := i) (by omega) (by omega)).mpr z)
      refine lv_iload hx hb dX4_hangs_26 (lv_at hl 5 rfl) ?_
      refine lv_iload hx hb dX4_hangs_28 (lv_at hl 6 rfl) ?_
      refine lv_ishr hx hb dX4_hangs_30 ?_
      refine lv_iconst (v := 1) hx hb dX4_hangs_31 (by decide) ?_
      refine lv_iand hx hb dX4_hangs_32 ?_
      refine lv_iconst (v := 1) hx hb dX4_hangs_33 (by decide) ?_
      refine lv_icmp_ne (tgt := 50) hx hb dX4_hangs_34 (by decide) (fun c_34 => ?_) (fun c_34 => ?_)
      · have c_34 := sh1_f (x := rrI (pq V) v w) (i := i) (by omega) c_34
        refine lv_iload hx hb dX4_hangs_50 (lv_at hl 4 rfl) ?_
        refine lv_istore (lv' := [(4, .int y1), (0, .ref (ad 0)), (1, .int (nI v)), (2, .int 1), (3, .int (zI w)), (5, .int (rrI (pq V) v w)), (6, .int (nI i))]) hx hb dX4_hangs_52 hl (by decide) rfl (fun ls hl => ?_)
        refine lv_iinc (v := nI (i + 1)) (lv' := [(6, .int (nI (i + 1))), (4, .int y1), (0, .ref (ad 0)), (1, .int (nI v)), (2, .int 1), (3, .int (zI w)), (5, .int (rrI (pq V) v w))]) hx hb dX4_hangs_54 hl (k := 6) rfl (nI_succ i).symm (by decide) rfl (fun ls hl => ?_)
        refine lv_goto (tgt := 19) hx hb dX4_hangs_57 (by decide) ?_
        exact ih (y1, i + 1) _ ⟨(lv_sub hl [2, 3, 4, 5, 1, 6, 0] rfl), (by omega), (fun u => by rw [hY u]; exact ⟨fun z => by obtain ⟨z1, x, h1, h2⟩ := z; exact ⟨z1, x, by omega, h2⟩, fun z => by obtain ⟨z1, x, h1, h2, h3⟩ := z; rcases Classical.em (x = i) with e | e; (subst e; rw [h2] at c_34; cases c_34); exact ⟨z1, x, by omega, h2, h3⟩⟩)⟩ (by dsimp only; omega)
      · have c_34 := (tS1 (rrI (pq V) v w) (p := i) (by omega)).mp c_34
        refine lv_iload hx hb dX4_hangs_37 (lv_at hl 4 rfl) ?_
        refine lv_aload_n hx hb dX4_hangs_39 rfl (lv_at hl 0 rfl) ?_
        refine lv_iload_n hx hb dX4_hangs_40 rfl (lv_at hl 1 rfl) ?_
        refine lv_iload hx hb dX4_hangs_41 (lv_at hl 6 rfl) ?_
        refine callR (runV hx hb hg hown hml hl.1 (c_X4_settersOf l D k ad V hv hvn (x9 := i) (by omega)) [.int (nI v), .int (nI i)] [.int y1] (preR (mapSome_sub hP [0, 1, 2, 3, 4, 5, 6, 7, 8, 9, 10, 11, 12, 13, 14, 15, 16, 17, 18, 19, 20, 21, 22] rfl) hK hN xb0 x0) (va_recv hK hP (ci := 4) (q0 := 0) rfl rfl) wd_743 wd_745 wd_34 wd_53 wd_746 lk_X4_settersOf ⟨rfl, rfl⟩ ⟨by decide, by decide⟩ ⟨Nat.zero_le _, Nat.zero_le _⟩ rfl (Nat.le_of_ble_eq_true rfl) dX4_hangs_43) (fun r_43 q_43 => ?_)
        refine lv_ior hx hb dX4_hangs_46 ?_
        refine lv_goto (tgt := 52) hx hb dX4_hangs_47 (by decide) ?_
        refine lv_istore (lv' := [(4, .int (y1 ||| r_43)), (0, .ref (ad 0)), (1, .int (nI v)), (2, .int 1), (3, .int (zI w)), (5, .int (rrI (pq V) v w)), (6, .int (nI i))]) hx hb dX4_hangs_52 hl (by decide) rfl (fun ls hl => ?_)
        refine lv_iinc (v := nI (i + 1)) (lv' := [(6, .int (nI (i + 1))), (4, .int (y1 ||| r_43)), (0, .ref (ad 0)), (1, .int (nI v)), (2, .int 1), (3, .int (zI w)), (5, .int (rrI (pq V) v w))]) hx hb dX4_hangs_54 hl (k := 6) rfl (nI_succ i).symm (by decide) rfl (fun ls hl => ?_)
        refine lv_goto (tgt := 19) hx hb dX4_hangs_57 (by decide) ?_
        exact ih (y1 ||| r_43, i + 1) _ ⟨(lv_sub hl [2, 3, 4, 5, 1, 6, 0] rfl), (by omega), (fun u => by rw [b_or, Bool.or_eq_true, hY u, q_43 u]; exact ⟨fun z => by rcases z with ⟨z1, x, h1, h2⟩ | ⟨z1, z2, z3⟩; exact ⟨z1, x, by omega, h2⟩; exact ⟨z1, i, by omega, c_34, z2, z3⟩, fun z => by obtain ⟨z1, x, h1, h2, h3, h4⟩ := z; rcases Classical.em (x = i) with e | e; (subst e; exact Or.inr ⟨z1, h3, h4⟩); exact Or.inl ⟨z1, x, by omega, h2, h3, h4⟩⟩)⟩ (by dsimp only; omega)
set_option maxHeartbeats 4000000 in
set_option maxRecDepth 100000 in
/-- hangs(v, 2, thin) -/
theorem c_X4_hangs_2 (l : Launch) (D : va_G) (k : Nat → ClassId) (ad : Nat → Nat) (V : St) {n : Nat} (hv : okV n (pq V)) {v : Nat} (hvn : v < n) (w : Bool) : CtR noX l yX4_hangs cX4_hangs 8 (some .int) rmX4_hangs D (tyL k) (wQ k ad V) [.ref (ad 0), .int (nI v), .int 2, .int (zI w)] (fun r => isM r (g2M n (pq V) v)) := by
  refine CtR.mk (by decide) (Nat.le_of_ble_eq_true rfl) ?_
  intro p e s m below meth c hx hb hml hown hg hr hlocks hK hN hX H hH hP ls hl
  have hl : lv_has ls 8 [(0, .ref (ad 0)), (1, .int (nI v)), (2, .int 2), (3, .int (zI w))] := hl
  have h00 : V 0 0 = nI n := hv.2.1
  have hn24 := hv.1
  obtain ⟨jv, hkv, hjv, hlAv, hlBv, hlCv⟩ := hv.2.2.1 v (by omega)
  have hkv : V 1 v = nI jv := hkv
  have hlBv : lim (LB.getD jv 0) (V 3 v) := hlBv
  have hlCv : lim (LC.getD jv 0) (V 4 v) := hlCv
  have hkdv : kd (pq V) v = jv := kd_of hkv hjv
  refine lv_iconst (v := 0) hx hb dX4_hangs_0 (by decide) ?_
  refine lv_istore (lv' := [(4, .int 0), (0, .ref (ad 0)), (1, .int (nI v)), (2, .int 2), (3, .int (zI w))]) hx hb dX4_hangs_1 hl (by decide) rfl (fun ls hl => ?_)
  refine lv_iload_n hx hb dX4_hangs_3 rfl (lv_at hl 3 rfl) ?_
  refine lv_iconst (v := 1) hx hb dX4_hangs_4 (by decide) ?_
  refine lv_icmp_ne (tgt := 63) hx hb dX4_hangs_5 (by decide) (fun c_5 => ?_) (fun c_5 => ?_)
  · refine lv_iload_n hx hb dX4_hangs_63 rfl (lv_at hl 3 rfl) ?_
    refine lv_iconst (v := 2) hx hb dX4_hangs_64 (by decide) ?_
    refine lv_icmp_ne (tgt := 185) hx hb dX4_hangs_65 (by decide) (fun c_65 => ?_) (fun c_65 => ?_)
    · exact absurd (show ¬ (2 : Int32) = (2 : Int32) from c_65) (by decide)
    · refine lv_aload_n hx hb dX4_hangs_68 rfl (lv_at hl 1 rfl) ?_
      refine gfl hx hb hg inX4 hown hK hP 0 (ci := 4) rfl rfl 1 (by decide) wd_552 rfl dX4_hangs_69 ?_
      refine lv_iload_n hx hb dX4_hangs_72 rfl (lv_at hl 2 rfl) ?_
      refine ldn hx hb hK hP 1 0 rfl rfl (by omega) (by decide) dX4_hangs_73 ?_
      refine topv (nI jv) hkv ?_
      refine lv_bipush (v := 8) hx hb dX4_hangs_74 (by decide) ?_
      refine lv_icmp_ne (tgt := 185) hx hb dX4_hangs_76 (by decide) (fun c_76 => ?_) (fun c_76 => ?_)
      · have c_76 : ¬ jv = 8 := fun z => c_76 ((nI_eq (a := jv) (b := 8) (by omega) (by omega)).mpr z)
        refine lv_iload_n hx hb dX4_hangs_185 rfl (lv_at hl 3 rfl) ?_
        refine lv_iconst (v := 3) hx hb dX4_hangs_186 (by decide) ?_
        refine lv_icmp_ne (tgt := 220) hx hb dX4_hangs_187 (by decide) (fun c_187 => ?_) (fun c_187 => ?_)
        · refine lv_iload_n hx hb dX4_hangs_220 rfl (lv_at hl 3 rfl) ?_
          refine lv_iconst (v := 4) hx hb dX4_hangs_221 (by decide) ?_
          refine lv_icmp_ne (tgt := 232) hx hb dX4_hangs_222 (by decide) (fun c_222 => ?_) (fun c_222 => ?_)
          · refine lv_iload hx hb dX4_hangs_232 (lv_at hl 0 rfl) ?_
            exact retRI (v := 0) hx hb hr hlocks hH dX4_hangs_234 (z_isM (fun u z => c_76 (hkdv.symm.trans z.2.1)))
          · exact absurd (show (2 : Int32) = (4 : Int32) from c_222) (by decide)
        · exact absurd (show (2 : Int32) = (3 : Int32) from c_187) (by decide)
      · have c_76 : jv = 8 := (nI_eq (a := jv) (b := 8) (by omega) (by omega)).mp c_76
        refine lv_aload_n hx hb dX4_hangs_79 rfl (lv_at hl 1 rfl) ?_
        refine lv_iload_n hx hb dX4_hangs_80 rfl (lv_at hl 2 rfl) ?_
        refine lv_bipush (v := (-4)) hx hb dX4_hangs_81 (by decide) ?_
        refine callR (runV hx hb hg hown hml hl.1 (c_X4_sources_N l D k ad V hv hvn) [.int (nI v), .int (-4)] [] (preR (mapSome_sub hP [0, 1, 2, 3, 4, 5, 6, 7, 8, 9, 10, 11, 12, 13, 14, 15, 16, 17, 18, 19, 20, 21, 22] rfl) hK hN xb0 x0) (va_recv hK hP (ci := 4) (q0 := 0) rfl rfl) wd_747 wd_749 wd_35 wd_53 wd_750 lk_X4_sources ⟨rfl, rfl⟩ ⟨by decide, by decide⟩ ⟨Nat.zero_le _, Nat.zero_le _⟩ rfl (Nat.le_of_ble_eq_true rfl) dX4_hangs_83) (fun r_83 q_83 => ?_)
        refine lv_istore (lv' := [(5, .int r_83), (4, .int 0), (0, .ref (ad 0)), (1, .int (nI v)), (2, .int 2), (3, .int (zI w))]) hx hb dX4_hangs_86 hl (by decide) rfl (fun ls hl => ?_)
        refine lv_iconst (v := 0) hx hb dX4_hangs_88 (by decide) ?_
        refine lv_istore (lv' := [(6, .int 0), (5, .int r_83), (4, .int 0), (0, .ref (ad 0)), (1, .int (nI v)), (2, .int 2), (3, .int (zI w))]) hx hb dX4_hangs_89 hl (by decide) rfl (fun ls hl => ?_)
        refine loopR (σ := Int32 × Nat) (fun zz9 ls => match zz9 with | (y1, i) => lv_has ls 8 [(0, .ref (ad 0)), (1, .int (nI v)), (2, .int 2), (3, .int (zI w)), (4, .int y1), (5, .int r_83), (6, .int (nI i))] ∧ (i ≤ n) ∧ (accM y1 i (fun u => srcP n (nxI n (pq V)) (fun _ => false) v u ∧ kd (pq V) u = 7 ∧ shB (pq V) u v = true))) (fun zz9 => match zz9 with | (y1, i) => n - i) ?_ (0, 0) ⟨(lv_sub hl [3, 4, 5, 6, 2, 1, 0] rfl), (by omega), acc_0⟩
        intro zz9 ls hI ih
        obtain ⟨y1, i⟩ := zz9
        obtain ⟨hl, hi, hY⟩ := hI
        refine lv_iload hx hb dX4_hangs_91 (lv_at hl 6 rfl) ?_
        refine lv_aload_n hx hb dX4_hangs_93 rfl (lv_at hl 0 rfl) ?_
        refine gfl hx hb hg inX4 hown hK hP 0 (ci := 4) rfl rfl 0 (by decide) wd_551 rfl dX4_hangs_94 ?_
        refine topv (nI n) h00 ?_
        refine lv_icmp_ge (tgt := 182) hx hb dX4_hangs_97 (by decide) (fun c_97 => ?_) (fun c_97 => ?_)
        · have c_97 : n ≤ i := (nI_leI (a := n) (b := i) (by omega) (by omega)).mp c_97
          refine lv_goto (tgt := 232) hx hb dX4_hangs_182 (by decide) ?_
          refine lv_iload hx hb dX4_hangs_232 (lv_at hl 4 rfl) ?_
          exact retRI (v := y1) hx hb hr hlocks hH dX4_hangs_234 (fun u => by rw [hY u, show i = n by omega]; exact ⟨fun z => ⟨z.1, hkdv.trans c_76, z.2⟩, fun z => ⟨z.1, z.2.2⟩⟩)
        · have c_97 : ¬ n ≤ i := fun z => c_97 ((nI_leI (a := n) (b := i) (by omega) (by omega)).mpr z)
          obtain ⟨j, hk, hj, hlA, hlB, hlC⟩ := hv.2.2.1 i (by omega)
          have hk : V 1 i = nI j := hk
          have hlC : lim (LC.getD j 0) (V 4 i) := hlC
          have hkd : kd (pq V) i = j := kd_of hk hj
          refine lv_iload hx hb dX4_hangs_100 (lv_at hl 5 rfl) ?_
          refine lv_iload hx hb dX4_hangs_102 (lv_at hl 6 rfl) ?_
          refine lv_ishr hx hb dX4_hangs_104 ?_
          refine lv_iconst (v := 1) hx hb dX4_hangs_105 (by decide) ?_
          refine lv_iand hx hb dX4_hangs_106 ?_
          refine lv_iconst (v := 1) hx hb dX4_hangs_107 (by decide) ?_
          refine lv_icmp_ne (tgt := 154) hx hb dX4_hangs_108 (by decide) (fun c_108 => ?_) (fun c_108 => ?_)
          · have c_108 := sh1_f (x := r_83) (i := i) (by omega) c_108
            refine lv_iconst (v := 0) hx hb dX4_hangs_154 (by decide) ?_
            refine lv_istore (lv' := [(7, .int 0), (0, .ref (ad 0)), (1, .int (nI v)), (2, .int 2), (3, .int (zI w)), (4, .int y1), (5, .int r_83), (6, .int (nI i))]) hx hb dX4_hangs_155 hl (by decide) rfl (fun ls hl => ?_)
            refine lv_iload hx hb dX4_hangs_157 (lv_at hl 0 rfl) ?_
            refine lv_if_eq (tgt := 172) hx hb dX4_hangs_159 (by decide) (fun c_159 => ?_) (fun c_159 => ?_)
            · refine lv_iload hx hb dX4_hangs_172 (lv_at hl 5 rfl) ?_
              refine lv_istore (lv' := [(4, .int y1), (7, .int 0), (0, .ref (ad 0)), (1, .int (nI v)), (2, .int 2), (3, .int (zI w)), (5, .int r_83), (6, .int (nI i))]) hx hb dX4_hangs_174 hl (by decide) rfl (fun ls hl => ?_)
              refine lv_iinc (v := nI (i + 1)) (lv' := [(6, .int (nI (i + 1))), (4, .int y1), (7, .int 0), (0, .ref (ad 0)), (1, .int (nI v)), (2, .int 2), (3, .int (zI w)), (5, .int r_83)]) hx hb dX4_hangs_176 hl (k := 7) rfl (nI_succ i).symm (by decide) rfl (fun ls hl => ?_)
              refine lv_goto (tgt := 91) hx hb dX4_hangs_179 (by decide) ?_
              exact ih (y1, i + 1) _ ⟨(lv_sub hl [3, 4, 5, 6, 1, 7, 0] rfl), (by omega), (acc_no hY (fun z => by rw [(q_83 i).mpr z.1] at c_108; cases c_108))⟩ (by dsimp only; omega)
            · exact absurd (show ¬ (0 : Int32) = (0 : Int32) from c_159) (by decide)
          · have c_108 := (tS1 r_83 (p := i) (by omega)).mp c_108
            refine lv_aload_n hx hb dX4_hangs_111 rfl (lv_at hl 0 rfl) ?_
            refine gfl hx hb hg inX4 hown hK hP 0 (ci := 4) rfl rfl 1 (by decide) wd_552 rfl dX4_hangs_112 ?_
            refine lv_iload hx hb dX4_hangs_115 (lv_at hl 6 rfl) ?_
            refine ldn hx hb hK hP 1 0 rfl rfl (by omega) (by decide) dX4_hangs_117 ?_
            refine topv (nI j) hk ?_
            refine lv_bipush (v := 7) hx hb dX4_hangs_118 (by decide) ?_
            refine lv_icmp_ne (tgt := 154) hx hb dX4_hangs_120 (by decide) (fun c_120 => ?_) (fun c_120 => ?_)
            · have c_120 : ¬ j = 7 := fun z => c_120 ((nI_eq (a := j) (b := 7) (by omega) (by omega)).mpr z)
              refine lv_iconst (v := 0) hx hb dX4_hangs_154 (by decide) ?_
              refine lv_istore (lv' := [(7, .int 0), (0, .ref (ad 0)), (1, .int (nI v)), (2, .int 2), (3, .int (zI w)), (4, .int y1), (5, .int r_83), (6, .int (nI i))]) hx hb dX4_hangs_155 hl (by decide) rfl (fun ls hl => ?_)
              refine lv_iload hx hb dX4_hangs_157 (lv_at hl 0 rfl) ?_
              refine lv_if_eq (tgt := 172) hx hb dX4_hangs_159 (by decide) (fun c_159 => ?_) (fun c_159 => ?_)
              · refine lv_iload hx hb dX4_hangs_172 (lv_at hl 5 rfl) ?_
                refine lv_istore (lv' := [(4, .int y1), (7, .int 0), (0, .ref (ad 0)), (1, .int (nI v)), (2, .int 2), (3, .int (zI w)), (5, .int r_83), (6, .int (nI i))]) hx hb dX4_hangs_174 hl (by decide) rfl (fun ls hl => ?_)
                refine lv_iinc (v := nI (i + 1)) (lv' := [(6, .int (nI (i + 1))), (4, .int y1), (7, .int 0), (0, .ref (ad 0)), (1, .int (nI v)), (2, .int 2), (3, .int (zI w)), (5, .int r_83)]) hx hb dX4_hangs_176 hl (k := 7) rfl (nI_succ i).symm (by decide) rfl (fun ls hl => ?_)
                refine lv_goto (tgt := 91) hx hb dX4_hangs_179 (by decide) ?_
                exact ih (y1, i + 1) _ ⟨(lv_sub hl [3, 4, 5, 6, 1, 7, 0] rfl), (by omega), (acc_no hY (fun z => c_120 (hkd.symm.trans z.2.1)))⟩ (by dsimp only; omega)
              · exact absurd (show ¬ (0 : Int32) = (0 : Int32) from c_159) (by decide)
            · have c_120 : j = 7 := (nI_eq (a := j) (b := 7) (by omega) (by omega)).mp c_120
              refine lv_aload_n hx hb dX4_hangs_123 rfl (lv_at hl 0 rfl) ?_
              refine gfl hx hb hg inX4 hown hK hP 0 (ci := 4) rfl rfl 8 (by decide) wd_559 rfl dX4_hangs_124 ?_
              refine lv_aload_n hx hb dX4_hangs_127 rfl (lv_at hl 0 rfl) ?_
              refine gfl hx hb hg inX4 hown hK hP 0 (ci := 4) rfl rfl 4 (by decide) wd_555 rfl dX4_hangs_128 ?_
              refine lv_iload hx hb dX4_hangs_131 (lv_at hl 6 rfl) ?_
              refine ldn hx hb hK hP 4 0 rfl rfl (by omega) (by decide) dX4_hangs_133 ?_
              refine ldx hx hb hK hP 8 0 rfl rfl (vp_lim (n := 4) (by rw [c_120] at hlC; exact hlC) (by decide) (by decide)) dX4_hangs_134 ?_
              refine lv_aload_n hx hb dX4_hangs_135 rfl (lv_at hl 0 rfl) ?_
              refine gfl hx hb hg inX4 hown hK hP 0 (ci := 4) rfl rfl 8 (by decide) wd_559 rfl dX4_hangs_136 ?_
              refine lv_aload_n hx hb dX4_hangs_139 rfl (lv_at hl 0 rfl) ?_
              refine gfl hx hb hg inX4 hown hK hP 0 (ci := 4) rfl rfl 4 (by decide) wd_555 rfl dX4_hangs_140 ?_
              refine lv_iload_n hx hb dX4_hangs_143 rfl (lv_at hl 1 rfl) ?_
              refine ldn hx hb hK hP 4 0 rfl rfl (by omega) (by decide) dX4_hangs_144 ?_
              refine ldx hx hb hK hP 8 0 rfl rfl (vp_lim (n := 4) (by rw [c_76] at hlCv; exact hlCv) (by decide) (by decide)) dX4_hangs_145 ?_
              refine lv_iand hx hb dX4_hangs_146 ?_
              refine lv_if_eq (tgt := 154) hx hb dX4_hangs_147 (by decide) (fun c_147 => ?_) (fun c_147 => ?_)
              · refine lv_iconst (v := 0) hx hb dX4_hangs_154 (by decide) ?_
                refine lv_istore (lv' := [(7, .int 0), (0, .ref (ad 0)), (1, .int (nI v)), (2, .int 2), (3, .int (zI w)), (4, .int y1), (5, .int r_83), (6, .int (nI i))]) hx hb dX4_hangs_155 hl (by decide) rfl (fun ls hl => ?_)
                refine lv_iload hx hb dX4_hangs_157 (lv_at hl 0 rfl) ?_
                refine lv_if_eq (tgt := 172) hx hb dX4_hangs_159 (by decide) (fun c_159 => ?_) (fun c_159 => ?_)
                · refine lv_iload hx hb dX4_hangs_172 (lv_at hl 5 rfl) ?_
                  refine lv_istore (lv' := [(4, .int y1), (7, .int 0), (0, .ref (ad 0)), (1, .int (nI v)), (2, .int 2), (3, .int (zI w)), (5, .int r_83), (6, .int (nI i))]) hx hb dX4_hangs_174 hl (by decide) rfl (fun ls hl => ?_)
                  refine lv_iinc (v := nI (i + 1)) (lv' := [(6, .int (nI (i + 1))), (4, .int y1), (7, .int 0), (0, .ref (ad 0)), (1, .int (nI v)), (2, .int 2), (3, .int (zI w)), (5, .int r_83)]) hx hb dX4_hangs_176 hl (k := 7) rfl (nI_succ i).symm (by decide) rfl (fun ls hl => ?_)
                  refine lv_goto (tgt := 91) hx hb dX4_hangs_179 (by decide) ?_
                  exact ih (y1, i + 1) _ ⟨(lv_sub hl [3, 4, 5, 6, 1, 7, 0] rfl), (by omega), (acc_no hY (fun z => by have h := z.2.2; unfold shB at h; exact of_decide_eq_true h c_147))⟩ (by dsimp only; omega)
                · exact absurd (show ¬ (0 : Int32) = (0 : Int32) from c_159) (by decide)
              · refine lv_iconst (v := 1) hx hb dX4_hangs_150 (by decide) ?_
                refine lv_goto (tgt := 155) hx hb dX4_hangs_151 (by decide) ?_
                refine lv_istore (lv' := [(7, .int 1), (0, .ref (ad 0)), (1, .int (nI v)), (2, .int 2), (3, .int (zI w)), (4, .int y1), (5, .int r_83), (6, .int (nI i))]) hx hb dX4_hangs_155 hl (by decide) rfl (fun ls hl => ?_)
                refine lv_iload hx hb dX4_hangs_157 (lv_at hl 0 rfl) ?_
                refine lv_if_eq (tgt := 172) hx hb dX4_hangs_159 (by decide) (fun c_159 => ?_) (fun c_159 => ?_)
                · exact absurd (show (1 : Int32) = (0 : Int32) from c_159) (by decide)
                · refine lv_iload hx hb dX4_hangs_162 (lv_at hl 5 rfl) ?_
                  refine lv_iconst (v := 1) hx hb dX4_hangs_164 (by decide) ?_
                  refine lv_iload hx hb dX4_hangs_165 (lv_at hl 7 rfl) ?_
                  refine lv_ishl hx hb dX4_hangs_167 ?_
                  refine topv (bitI i) rfl ?_
                  refine lv_ior hx hb dX4_hangs_168 ?_
                  refine lv_goto (tgt := 174) hx hb dX4_hangs_169 (by decide) ?_
                  refine lv_istore (lv' := [(4, .int (y1 ||| (bitI i))), (7, .int 1), (0, .ref (ad 0)), (1, .int (nI v)), (2, .int 2), (3, .int (zI w)), (5, .int r_83), (6, .int (nI i))]) hx hb dX4_hangs_174 hl (by decide) rfl (fun ls hl => ?_)
                  refine lv_iinc (v := nI (i + 1)) (lv' := [(6, .int (nI (i + 1))), (4, .int (y1 ||| (bitI i))), (7, .int 1), (0, .ref (ad 0)), (1, .int (nI v)), (2, .int 2), (3, .int (zI w)), (5, .int r_83)]) hx hb dX4_hangs_176 hl (k := 7) rfl (nI_succ i).symm (by decide) rfl (fun ls hl => ?_)
                  refine lv_goto (tgt := 91) hx hb dX4_hangs_179 (by decide) ?_
                  exact ih (y1 ||| bitI i, i + 1) _ ⟨(lv_sub hl [3, 4, 5, 6, 1, 7, 0] rfl), (by omega), (acc_yes (by omega) hY ⟨(q_83 i).mp c_108, hkd.trans c_120, by unfold shB; exact decide_eq_true c_147⟩)⟩ (by dsimp only; omega)
  · exact absurd (show (2 : Int32) = (1 : Int32) from c_5) (by decide)
set_option maxHeartbeats 4000000 in
set_option maxRecDepth 100000 in
/-- hangs(v, 3, thin) -/
theorem c_X4_hangs_3 (l : Launch) (D : va_G) (k : Nat → ClassId) (ad : Nat → Nat) (V : St) {n : Nat} (hv : okV n (pq V)) {v : Nat} (hvn : v < n) (w : Bool) : CtR noX l yX4_hangs cX4_hangs 8 (some .int) rmX4_hangs D (tyL k) (wQ k ad V) [.ref (ad 0), .int (nI v), .int 3, .int (zI w)] (fun r => isM r (g3M n (pq V) v)) := by
  refine CtR.mk (by decide) (Nat.le_of_ble_eq_true rfl) ?_
  intro p e s m below meth c hx hb hml hown hg hr hlocks hK hN hX H hH hP ls hl
  have hl : lv_has ls 8 [(0, .ref (ad 0)), (1, .int (nI v)), (2, .int 3), (3, .int (zI w))] := hl
  have h00 : V 0 0 = nI n := hv.2.1
  have hn24 := hv.1
  obtain ⟨jv, hkv, hjv, hlAv, hlBv, hlCv⟩ := hv.2.2.1 v (by omega)
  have hkv : V 1 v = nI jv := hkv
  have hlBv : lim (LB.getD jv 0) (V 3 v) := hlBv
  have hlCv : lim (LC.getD jv 0) (V 4 v) := hlCv
  have hkdv : kd (pq V) v = jv := kd_of hkv hjv
  refine lv_iconst (v := 0) hx hb dX4_hangs_0 (by decide) ?_
  refine lv_istore (lv' := [(4, .int 0), (0, .ref (ad 0)), (1, .int (nI v)), (2, .int 3), (3, .int (zI w))]) hx hb dX4_hangs_1 hl (by decide) rfl (fun ls hl => ?_)
  refine lv_iload_n hx hb dX4_hangs_3 rfl (lv_at hl 3 rfl) ?_
  refine lv_iconst (v := 1) hx hb dX4_hangs_4 (by decide) ?_
  refine lv_icmp_ne (tgt := 63) hx hb dX4_hangs_5 (by decide) (fun c_5 => ?_) (fun c_5 => ?_)
  · refine lv_iload_n hx hb dX4_hangs_63 rfl (lv_at hl 3 rfl) ?_
    refine lv_iconst (v := 2) hx hb dX4_hangs_64 (by decide) ?_
    refine lv_icmp_ne (tgt := 185) hx hb dX4_hangs_65 (by decide) (fun c_65 => ?_) (fun c_65 => ?_)
    · refine lv_iload_n hx hb dX4_hangs_185 rfl (lv_at hl 3 rfl) ?_
      refine lv_iconst (v := 3) hx hb dX4_hangs_186 (by decide) ?_
      refine lv_icmp_ne (tgt := 220) hx hb dX4_hangs_187 (by decide) (fun c_187 => ?_) (fun c_187 => ?_)
      · exact absurd (show ¬ (3 : Int32) = (3 : Int32) from c_187) (by decide)
      · refine lv_aload_n hx hb dX4_hangs_190 rfl (lv_at hl 1 rfl) ?_
        refine gfl hx hb hg inX4 hown hK hP 0 (ci := 4) rfl rfl 1 (by decide) wd_552 rfl dX4_hangs_191 ?_
        refine lv_iload_n hx hb dX4_hangs_194 rfl (lv_at hl 2 rfl) ?_
        refine ldn hx hb hK hP 1 0 rfl rfl (by omega) (by decide) dX4_hangs_195 ?_
        refine topv (nI jv) hkv ?_
        refine lv_bipush (v := 9) hx hb dX4_hangs_196 (by decide) ?_
        refine lv_icmp_ne (tgt := 220) hx hb dX4_hangs_198 (by decide) (fun c_198 => ?_) (fun c_198 => ?_)
        · have c_198 : ¬ jv = 9 := fun z => c_198 ((nI_eq (a := jv) (b := 9) (by omega) (by omega)).mpr z)
          refine lv_iload_n hx hb dX4_hangs_220 rfl (lv_at hl 3 rfl) ?_
          refine lv_iconst (v := 4) hx hb dX4_hangs_221 (by decide) ?_
          refine lv_icmp_ne (tgt := 232) hx hb dX4_hangs_222 (by decide) (fun c_222 => ?_) (fun c_222 => ?_)
          · refine lv_iload hx hb dX4_hangs_232 (lv_at hl 0 rfl) ?_
            exact retRI (v := 0) hx hb hr hlocks hH dX4_hangs_234 (z_isM (fun u z => c_198 (hkdv.symm.trans z.2.1)))
          · exact absurd (show (3 : Int32) = (4 : Int32) from c_222) (by decide)
        · have c_198 : jv = 9 := (nI_eq (a := jv) (b := 9) (by omega) (by omega)).mp c_198
          obtain ⟨b, hb1, hbe⟩ := lim_nI (n := 4) (by rw [c_198] at hlBv; exact hlBv) (by decide)
          have hbq : ix (pq V 3 v) = b := by show ix (V 3 v) = b; rw [hbe, ix_nI (by omega)]
          refine lv_aload_n hx hb dX4_hangs_201 rfl (lv_at hl 1 rfl) ?_
          refine lv_iload_n hx hb dX4_hangs_202 rfl (lv_at hl 2 rfl) ?_
          refine lv_bipush (v := 8) hx hb dX4_hangs_203 (by decide) ?_
          refine lv_aload_n hx hb dX4_hangs_205 rfl (lv_at hl 1 rfl) ?_
          refine gfl hx hb hg inX4 hown hK hP 0 (ci := 4) rfl rfl 3 (by decide) wd_554 rfl dX4_hangs_206 ?_
          refine lv_iload_n hx hb dX4_hangs_209 rfl (lv_at hl 2 rfl) ?_
          refine ldn hx hb hK hP 3 0 rfl rfl (by omega) (by decide) dX4_hangs_210 ?_
          refine topv (nI b) hbe ?_
          refine lv_iadd hx hb dX4_hangs_211 ?_
          refine topv (nI (8 + b)) (nI_add 8 b) ?_
          refine callR (runV hx hb hg hown hml hl.1 (c_X4_settersOf l D k ad V hv hvn (x9 := 8 + b) (by omega)) [.int (nI v), .int (nI (8 + b))] [] (preR (mapSome_sub hP [0, 1, 2, 3, 4, 5, 6, 7, 8, 9, 10, 11, 12, 13, 14, 15, 16, 17, 18, 19, 20, 21, 22] rfl) hK hN xb0 x0) (va_recv hK hP (ci := 4) (q0 := 0) rfl rfl) wd_743 wd_745 wd_34 wd_53 wd_746 lk_X4_settersOf ⟨rfl, rfl⟩ ⟨by decide, by decide⟩ ⟨Nat.zero_le _, Nat.zero_le _⟩ rfl (Nat.le_of_ble_eq_true rfl) dX4_hangs_212) (fun r_212 q_212 => ?_)
          refine lv_istore (lv' := [(4, .int r_212), (0, .ref (ad 0)), (1, .int (nI v)), (2, .int 3), (3, .int (zI w))]) hx hb dX4_hangs_215 hl (by decide) rfl (fun ls hl => ?_)
          refine lv_goto (tgt := 232) hx hb dX4_hangs_217 (by decide) ?_
          refine lv_iload hx hb dX4_hangs_232 (lv_at hl 0 rfl) ?_
          exact retRI (v := r_212) hx hb hr hlocks hH dX4_hangs_234 (fun u => by unfold g3M; rw [q_212 u, hbq]; exact ⟨fun z => ⟨z.1, hkdv.trans c_198, z.2⟩, fun z => ⟨z.1, z.2.2⟩⟩)
    · exact absurd (show (3 : Int32) = (2 : Int32) from c_65) (by decide)
  · exact absurd (show (3 : Int32) = (1 : Int32) from c_5) (by decide)
set_option maxHeartbeats 4000000 in
set_option maxRecDepth 100000 in
/-- hangs(v, 4, thin) -/
theorem c_X4_hangs_4 (l : Launch) (D : va_G) (k : Nat → ClassId) (ad : Nat → Nat) (V : St) {n : Nat} (hv : okV n (pq V)) {v : Nat} (hvn : v < n) (hbh : ∀ s1, s1 < n → isM (V 13 s1) (pF n (pq V) s1)) (w : Bool) : CtR noX l yX4_hangs cX4_hangs 8 (some .int) rmX4_hangs D (tyL k) (wQ k ad V) [.ref (ad 0), .int (nI v), .int 4, .int (zI w)] (fun r => isM r (pH n (pq V) 3 v)) := by
  refine CtR.mk (by decide) (Nat.le_of_ble_eq_true rfl) ?_
  intro p e s m below meth c hx hb hml hown hg hr hlocks hK hN hX H hH hP ls hl
  have hl : lv_has ls 8 [(0, .ref (ad 0)), (1, .int (nI v)), (2, .int 4), (3, .int (zI w))] := hl
  have h00 : V 0 0 = nI n := hv.2.1
  have hn24 := hv.1
  refine lv_iconst (v := 0) hx hb dX4_hangs_0 (by decide) ?_
  refine lv_istore (lv' := [(4, .int 0), (0, .ref (ad 0)), (1, .int (nI v)), (2, .int 4), (3, .int (zI w))]) hx hb dX4_hangs_1 hl (by decide) rfl (fun ls hl => ?_)
  refine lv_iload_n hx hb dX4_hangs_3 rfl (lv_at hl 3 rfl) ?_
  refine lv_iconst (v := 1) hx hb dX4_hangs_4 (by decide) ?_
  refine lv_icmp_ne (tgt := 63) hx hb dX4_hangs_5 (by decide) (fun c_5 => ?_) (fun c_5 => ?_)
  · refine lv_iload_n hx hb dX4_hangs_63 rfl (lv_at hl 3 rfl) ?_
    refine lv_iconst (v := 2) hx hb dX4_hangs_64 (by decide) ?_
    refine lv_icmp_ne (tgt := 185) hx hb dX4_hangs_65 (by decide) (fun c_65 => ?_) (fun c_65 => ?_)
    · refine lv_iload_n hx hb dX4_hangs_185 rfl (lv_at hl 3 rfl) ?_
      refine lv_iconst (v := 3) hx hb dX4_hangs_186 (by decide) ?_
      refine lv_icmp_ne (tgt := 220) hx hb dX4_hangs_187 (by decide) (fun c_187 => ?_) (fun c_187 => ?_)
      · refine lv_iload_n hx hb dX4_hangs_220 rfl (lv_at hl 3 rfl) ?_
        refine lv_iconst (v := 4) hx hb dX4_hangs_221 (by decide) ?_
        refine lv_icmp_ne (tgt := 232) hx hb dX4_hangs_222 (by decide) (fun c_222 => ?_) (fun c_222 => ?_)
        · exact absurd (show ¬ (4 : Int32) = (4 : Int32) from c_222) (by decide)
        · refine lv_aload_n hx hb dX4_hangs_225 rfl (lv_at hl 1 rfl) ?_
          refine lv_iload_n hx hb dX4_hangs_226 rfl (lv_at hl 2 rfl) ?_
          refine callR (runV hx hb hg hown hml hl.1 (c_X4_controls l D k ad V hv hvn hbh) [.int (nI v)] [] (preR (mapSome_sub hP [0, 1, 2, 3, 4, 5, 6, 7, 8, 9, 10, 11, 12, 13, 14, 15, 16, 17, 18, 19, 20, 21, 22] rfl) hK hN xb0 x0) (va_recv hK hP (ci := 4) (q0 := 0) rfl rfl) wd_760 wd_762 wd_38 wd_53 wd_763 lk_X4_controls ⟨rfl, rfl⟩ ⟨by decide, by decide⟩ ⟨Nat.zero_le _, Nat.zero_le _⟩ rfl (Nat.le_of_ble_eq_true rfl) dX4_hangs_227) (fun r_227 q_227 => ?_)
          refine lv_istore (lv' := [(4, .int r_227), (0, .ref (ad 0)), (1, .int (nI v)), (2, .int 4), (3, .int (zI w))]) hx hb dX4_hangs_230 hl (by decide) rfl (fun ls hl => ?_)
          refine lv_iload hx hb dX4_hangs_232 (lv_at hl 0 rfl) ?_
          exact retRI (v := r_227) hx hb hr hlocks hH dX4_hangs_234 (q_227)
      · exact absurd (show (4 : Int32) = (3 : Int32) from c_187) (by decide)
    · exact absurd (show (4 : Int32) = (2 : Int32) from c_65) (by decide)
  · exact absurd (show (4 : Int32) = (1 : Int32) from c_5) (by decide)
