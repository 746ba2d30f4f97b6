/-! the reference: nexts -/
abbrev rmX4_nexts : Room := { frames := 1, cells := 0, slots := 0, locals := 21 }
theorem lk_X4_nexts : Lk yX4_nexts 2 := by decide +kernel
set_option maxHeartbeats 4000000 in
set_option maxRecDepth 100000 in
/-- nexts(p, wider) -/
theorem c_X4_nexts (l : Launch) (D : va_G) (k : Nat → ClassId) (ad : Nat → Nat) (V : St) {n : Nat} (hv : okV n (pq V)) {q : Nat} (hq : q < 24) (w : Bool) : CtR noX l yX4_nexts cX4_nexts 5 (some .int) rmX4_nexts D (tyL k) (wQ k ad V) [.ref (ad 0), .int (nI q), .int (zI w)] (fun r => r = if w = true then wnI n (pq V) q else nxI n (pq V) q) := by
  refine CtR.mk (by decide) (Nat.le_of_ble_eq_true rfl) ?_
  intro p e s m below meth c hx hb hml hown hg hr hlocks hK hN hX H hH hP ls hl
  have hl : lv_has ls 5 [(0, .ref (ad 0)), (1, .int (nI q)), (2, .int (zI w))] := hl
  obtain ⟨j, hk, hj, hlA, hlB, hlC⟩ := hv.2.2.1 q hq
  have hk : V 1 q = nI j := hk
  have hlA : lim (LA.getD j 0) (V 2 q) := hlA
  have hlB : lim (LB.getD j 0) (V 3 q) := hlB
  have hlC : lim (LC.getD j 0) (V 4 q) := hlC
  have hkd : kd (pq V) q = j := kd_of hk hj
  have hn24 := hv.1
  refine lv_aload_n hx hb dX4_nexts_0 rfl (lv_at hl 0 rfl) ?_
  refine lv_iload_n hx hb dX4_nexts_1 rfl (lv_at hl 1 rfl) ?_
  refine lv_iconst (v := 1) hx hb dX4_nexts_2 (by decide) ?_
  refine lv_iadd hx hb dX4_nexts_3 ?_
  refine topv (nI (q + 1)) (nI_add q 1) ?_
  refine callR (runV hx hb hg hown hml hl.1 (c_X4_place l D k ad V hv (q := q + 1) (by omega)) [.int (nI (q + 1))] [] (preR (mapSome_sub hP [0, 1, 2, 3, 4, 5, 6, 7, 8, 9, 10, 11, 12, 13, 14, 15, 16, 17, 18, 19, 20, 21, 22] rfl) hK hN xb0 x0) (va_recv hK hP (ci := 4) (q0 := 0) rfl rfl) wd_718 wd_720 wd_29 wd_53 wd_721 lk_X4_place ⟨rfl, rfl⟩ ⟨by decide, by decide⟩ ⟨Nat.zero_le _, Nat.zero_le _⟩ rfl (Nat.le_of_ble_eq_true rfl) dX4_nexts_4) (fun r_4 q_4 => ?_)
  obtain rfl := q_4
  refine lv_istore_n (lv' := [(3, .int (plI n (q + 1))), (0, .ref (ad 0)), (1, .int (nI q)), (2, .int (zI w))]) hx hb dX4_nexts_7 rfl hl (by decide) rfl (fun ls hl => ?_)
  refine lv_aload_n hx hb dX4_nexts_8 rfl (lv_at hl 1 rfl) ?_
  refine gfl hx hb hg inX4 hown hK hP 0 (ci := 4) rfl rfl 1 (by decide) wd_552 rfl dX4_nexts_9 ?_
  refine lv_iload_n hx hb dX4_nexts_12 rfl (lv_at hl 2 rfl) ?_
  refine ldn hx hb hK hP 1 0 rfl rfl (by omega) (by decide) dX4_nexts_13 ?_
  refine topv (nI j) hk ?_
  refine lv_bipush (v := 12) hx hb dX4_nexts_14 (by decide) ?_
  refine lv_icmp_eq (tgt := 30) hx hb dX4_nexts_16 (by decide) (fun c_16 => ?_) (fun c_16 => ?_)
  · have c_16 : j = 12 := (nI_eq (a := j) (b := 12) (by omega) (by omega)).mp c_16
    refine lv_aload_n hx hb dX4_nexts_30 rfl (lv_at hl 1 rfl) ?_
    refine gfl hx hb hg inX4 hown hK hP 0 (ci := 4) rfl rfl 1 (by decide) wd_552 rfl dX4_nexts_31 ?_
    refine lv_iload_n hx hb dX4_nexts_34 rfl (lv_at hl 2 rfl) ?_
    refine ldn hx hb hK hP 1 0 rfl rfl (by omega) (by decide) dX4_nexts_35 ?_
    refine topv (nI j) hk ?_
    refine lv_bipush (v := 12) hx hb dX4_nexts_36 (by decide) ?_
    refine lv_icmp_ne (tgt := 54) hx hb dX4_nexts_38 (by decide) (fun c_38 => ?_) (fun c_38 => ?_)
    · have c_38 : ¬ j = 12 := fun z => c_38 ((nI_eq (a := j) (b := 12) (by omega) (by omega)).mpr z)
      refine lv_ldc (v := 16777216) hx hb hown (hg _ wd_722) dX4_nexts_54 ?_
      refine topv (bitI 24) (by decide) ?_
      refine lv_istore (lv' := [(4, .int (bitI 24)), (3, .int (plI n (q + 1))), (0, .ref (ad 0)), (1, .int (nI q)), (2, .int (zI w))]) hx hb dX4_nexts_56 hl (by decide) rfl (fun ls hl => ?_)
      refine lv_iload_n hx hb dX4_nexts_58 rfl (lv_at hl 4 rfl) ?_
      refine lv_if_eq (tgt := 69) hx hb dX4_nexts_59 (by decide) (fun c_59 => ?_) (fun c_59 => ?_)
      · have hw := zI_0.mp c_59
        refine lv_iload hx hb dX4_nexts_69 (lv_at hl 0 rfl) ?_
        exact retRI (v := bitI 24) hx hb hr hlocks hH dX4_nexts_71 (absurd c_16 c_38)
      · have hw := zI_ne c_59
        refine lv_iload hx hb dX4_nexts_62 (lv_at hl 0 rfl) ?_
        refine lv_iload_n hx hb dX4_nexts_64 rfl (lv_at hl 1 rfl) ?_
        refine lv_ior hx hb dX4_nexts_65 ?_
        refine lv_goto (tgt := 71) hx hb dX4_nexts_66 (by decide) ?_
        exact retRI (v := (bitI 24) ||| (plI n (q + 1))) hx hb hr hlocks hH dX4_nexts_71 (absurd c_16 c_38)
    · have c_38 : j = 12 := (nI_eq (a := j) (b := 12) (by omega) (by omega)).mp c_38
      obtain ⟨b, hb1, hbe⟩ := lim_nI (n := 25) (by rw [c_38] at hlB; exact hlB) (by decide)
      have hbq : ix (pq V 3 q) = b := by show ix (V 3 q) = b; rw [hbe, ix_nI (by omega)]
      refine lv_aload_n hx hb dX4_nexts_41 rfl (lv_at hl 1 rfl) ?_
      refine lv_aload_n hx hb dX4_nexts_42 rfl (lv_at hl 1 rfl) ?_
      refine gfl hx hb hg inX4 hown hK hP 0 (ci := 4) rfl rfl 3 (by decide) wd_554 rfl dX4_nexts_43 ?_
      refine lv_iload_n hx hb dX4_nexts_46 rfl (lv_at hl 2 rfl) ?_
      refine ldn hx hb hK hP 3 0 rfl rfl (by omega) (by decide) dX4_nexts_47 ?_
      refine topv (nI b) hbe ?_
      refine callR (runV hx hb hg hown hml hl.1 (c_X4_place l D k ad V hv (q := b) (by omega)) [.int (nI b)] [] (preR (mapSome_sub hP [0, 1, 2, 3, 4, 5, 6, 7, 8, 9, 10, 11, 12, 13, 14, 15, 16, 17, 18, 19, 20, 21, 22] rfl) hK hN xb0 x0) (va_recv hK hP (ci := 4) (q0 := 0) rfl rfl) wd_718 wd_720 wd_29 wd_53 wd_721 lk_X4_place ⟨rfl, rfl⟩ ⟨by decide, by decide⟩ ⟨Nat.zero_le _, Nat.zero_le _⟩ rfl (Nat.le_of_ble_eq_true rfl) dX4_nexts_48) (fun r_48 q_48 => ?_)
      obtain rfl := q_48
      refine lv_goto (tgt := 56) hx hb dX4_nexts_51 (by decide) ?_
      refine lv_istore (lv' := [(4, .int (plI n b)), (3, .int (plI n (q + 1))), (0, .ref (ad 0)), (1, .int (nI q)), (2, .int (zI w))]) hx hb dX4_nexts_56 hl (by decide) rfl (fun ls hl => ?_)
      refine lv_iload_n hx hb dX4_nexts_58 rfl (lv_at hl 4 rfl) ?_
      refine lv_if_eq (tgt := 69) hx hb dX4_nexts_59 (by decide) (fun c_59 => ?_) (fun c_59 => ?_)
      · have hw := zI_0.mp c_59
        refine lv_iload hx hb dX4_nexts_69 (lv_at hl 0 rfl) ?_
        exact retRI (v := plI n b) hx hb hr hlocks hH dX4_nexts_71 (by subst hw; show _ = nxI n (pq V) q; unfold nxI; rw [hkd]; simp [c_38, hbq])
      · have hw := zI_ne c_59
        refine lv_iload hx hb dX4_nexts_62 (lv_at hl 0 rfl) ?_
        refine lv_iload_n hx hb dX4_nexts_64 rfl (lv_at hl 1 rfl) ?_
        refine lv_ior hx hb dX4_nexts_65 ?_
        refine lv_goto (tgt := 71) hx hb dX4_nexts_66 (by decide) ?_
        exact retRI (v := (plI n b) ||| (plI n (q + 1))) hx hb hr hlocks hH dX4_nexts_71 (by subst hw; unfold wnI nxI; rw [hkd]; simp [c_38, hbq])
  · have c_16 : ¬ j = 12 := fun z => c_16 ((nI_eq (a := j) (b := 12) (by omega) (by omega)).mpr z)
    refine lv_aload_n hx hb dX4_nexts_19 rfl (lv_at hl 1 rfl) ?_
    refine gfl hx hb hg inX4 hown hK hP 0 (ci := 4) rfl rfl 1 (by decide) wd_552 rfl dX4_nexts_20 ?_
    refine lv_iload_n hx hb dX4_nexts_23 rfl (lv_at hl 2 rfl) ?_
    refine ldn hx hb hK hP 1 0 rfl rfl (by omega) (by decide) dX4_nexts_24 ?_
    refine topv (nI j) hk ?_
    refine lv_bipush (v := 13) hx hb dX4_nexts_25 (by decide) ?_
    refine lv_icmp_ne (tgt := 72) hx hb dX4_nexts_27 (by decide) (fun c_27 => ?_) (fun c_27 => ?_)
    · have c_27 : ¬ j = 13 := fun z => c_27 ((nI_eq (a := j) (b := 13) (by omega) (by omega)).mpr z)
      refine lv_aload_n hx hb dX4_nexts_72 rfl (lv_at hl 1 rfl) ?_
      refine gfl hx hb hg inX4 hown hK hP 0 (ci := 4) rfl rfl 1 (by decide) wd_552 rfl dX4_nexts_73 ?_
      refine lv_iload_n hx hb dX4_nexts_76 rfl (lv_at hl 2 rfl) ?_
      refine ldn hx hb hK hP 1 0 rfl rfl (by omega) (by decide) dX4_nexts_77 ?_
      refine topv (nI j) hk ?_
      refine lv_bipush (v := 11) hx hb dX4_nexts_78 (by decide) ?_
      refine lv_icmp_ne (tgt := 98) hx hb dX4_nexts_80 (by decide) (fun c_80 => ?_) (fun c_80 => ?_)
      · have c_80 : ¬ j = 11 := fun z => c_80 ((nI_eq (a := j) (b := 11) (by omega) (by omega)).mpr z)
        refine lv_aload_n hx hb dX4_nexts_98 rfl (lv_at hl 1 rfl) ?_
        refine lv_iload_n hx hb dX4_nexts_99 rfl (lv_at hl 2 rfl) ?_
        refine callR (runV hx hb hg hown hml hl.1 (c_X4_canFail l D k ad V hv hq) [.int (nI q)] [] (preR (mapSome_sub hP [0, 1, 2, 3, 4, 5, 6, 7, 8, 9, 10, 11, 12, 13, 14, 15, 16, 17, 18, 19, 20, 21, 22] rfl) hK hN xb0 x0) (va_recv hK hP (ci := 4) (q0 := 0) rfl rfl) wd_723 wd_725 wd_30 wd_53 wd_726 lk_X4_canFail ⟨rfl, rfl⟩ ⟨by decide, by decide⟩ ⟨Nat.zero_le _, Nat.zero_le _⟩ rfl (Nat.le_of_ble_eq_true rfl) dX4_nexts_100) (fun r_100 q_100 => ?_)
        obtain ⟨b9, rfl, hb9⟩ := q_100
        refine lv_if_eq (tgt := 113) hx hb dX4_nexts_103 (by decide) (fun c_103 => ?_) (fun c_103 => ?_)
        · have c_103 := zI_0.mp c_103
          refine lv_iload_n hx hb dX4_nexts_113 rfl (lv_at hl 0 rfl) ?_
          exact retRI (v := plI n (q + 1)) hx hb hr hlocks hH dX4_nexts_114 (by rw [show (if w = true then wnI n (pq V) q else nxI n (pq V) q) = nxI n (pq V) q by cases w with | false => rfl | true => exact wn_eq (by rw [hkd]; exact c_16) (by rw [hkd]; exact c_27)]; unfold nxI; rw [hkd]; rw [if_neg c_80, if_neg c_16, if_neg c_27, if_neg (fun z => by rw [hb9.mpr (by rw [hkd]; exact z)] at c_103; cases c_103)])
        · have c_103 := zI_ne c_103
          refine lv_iload_n hx hb dX4_nexts_106 rfl (lv_at hl 0 rfl) ?_
          refine lv_ldc (v := 16777216) hx hb hown (hg _ wd_722) dX4_nexts_107 ?_
          refine topv (bitI 24) (by decide) ?_
          refine lv_ior hx hb dX4_nexts_109 ?_
          refine lv_goto (tgt := 114) hx hb dX4_nexts_110 (by decide) ?_
          exact retRI (v := (plI n (q + 1)) ||| (bitI 24)) hx hb hr hlocks hH dX4_nexts_114 (by rw [show (if w = true then wnI n (pq V) q else nxI n (pq V) q) = nxI n (pq V) q by cases w with | false => rfl | true => exact wn_eq (by rw [hkd]; exact c_16) (by rw [hkd]; exact c_27)]; unfold nxI; rw [hkd]; rw [if_neg c_80, if_neg c_16, if_neg c_27, if_pos (by have z := hb9.mp c_103; rw [hkd] at z; exact z)])
      · have c_80 : j = 11 := (nI_eq (a := j) (b := 11) (by omega) (by omega)).mp c_80
        obtain ⟨b, hb1, hbe⟩ := lim_nI (n := 25) (by rw [c_80] at hlB; exact hlB) (by decide)
        have hbq : ix (pq V 3 q) = b := by show ix (V 3 q) = b; rw [hbe, ix_nI (by omega)]
        refine lv_iload_n hx hb dX4_nexts_83 rfl (lv_at hl 0 rfl) ?_
        refine lv_aload_n hx hb dX4_nexts_84 rfl (lv_at hl 1 rfl) ?_
        refine lv_aload_n hx hb dX4_nexts_85 rfl (lv_at hl 1 rfl) ?_
        refine gfl hx hb hg inX4 hown hK hP 0 (ci := 4) rfl rfl 3 (by decide) wd_554 rfl dX4_nexts_86 ?_
        refine lv_iload_n hx hb dX4_nexts_89 rfl (lv_at hl 2 rfl) ?_
        refine ldn hx hb hK hP 3 0 rfl rfl (by omega) (by decide) dX4_nexts_90 ?_
        refine topv (nI b) hbe ?_
        refine callR (runV hx hb hg hown hml hl.1 (c_X4_place l D k ad V hv (q := b) (by omega)) [.int (nI b)] [.int (plI n (q + 1))] (preR (mapSome_sub hP [0, 1, 2, 3, 4, 5, 6, 7, 8, 9, 10, 11, 12, 13, 14, 15, 16, 17, 18, 19, 20, 21, 22] rfl) hK hN xb0 x0) (va_recv hK hP (ci := 4) (q0 := 0) rfl rfl) wd_718 wd_720 wd_29 wd_53 wd_721 lk_X4_place ⟨rfl, rfl⟩ ⟨by decide, by decide⟩ ⟨Nat.zero_le _, Nat.zero_le _⟩ rfl (Nat.le_of_ble_eq_true rfl) dX4_nexts_91) (fun r_91 q_91 => ?_)
        obtain rfl := q_91
        refine lv_ior hx hb dX4_nexts_94 ?_
        refine lv_goto (tgt := 114) hx hb dX4_nexts_95 (by decide) ?_
        exact retRI (v := (plI n (q + 1)) ||| (plI n b)) hx hb hr hlocks hH dX4_nexts_114 (by rw [show (if w = true then wnI n (pq V) q else nxI n (pq V) q) = nxI n (pq V) q by cases w with | false => rfl | true => exact wn_eq (by rw [hkd]; exact c_16) (by rw [hkd]; exact c_27)]; unfold nxI; rw [hkd]; simp [c_80, hbq])
    · have c_27 : j = 13 := (nI_eq (a := j) (b := 13) (by omega) (by omega)).mp c_27
      refine lv_aload_n hx hb dX4_nexts_30 rfl (lv_at hl 1 rfl) ?_
      refine gfl hx hb hg inX4 hown hK hP 0 (ci := 4) rfl rfl 1 (by decide) wd_552 rfl dX4_nexts_31 ?_
      refine lv_iload_n hx hb dX4_nexts_34 rfl (lv_at hl 2 rfl) ?_
      refine ldn hx hb hK hP 1 0 rfl rfl (by omega) (by decide) dX4_nexts_35 ?_
      refine topv (nI j) hk ?_
      refine lv_bipush (v := 12) hx hb dX4_nexts_36 (by decide) ?_
      refine lv_icmp_ne (tgt := 54) hx hb dX4_nexts_38 (by decide) (fun c_38 => ?_) (fun c_38 => ?_)
      · have c_38 : ¬ j = 12 := fun z => c_38 ((nI_eq (a := j) (b := 12) (by omega) (by omega)).mpr z)
        refine lv_ldc (v := 16777216) hx hb hown (hg _ wd_722) dX4_nexts_54 ?_
        refine topv (bitI 24) (by decide) ?_
        refine lv_istore (lv' := [(4, .int (bitI 24)), (3, .int (plI n (q + 1))), (0, .ref (ad 0)), (1, .int (nI q)), (2, .int (zI w))]) hx hb dX4_nexts_56 hl (by decide) rfl (fun ls hl => ?_)
        refine lv_iload_n hx hb dX4_nexts_58 rfl (lv_at hl 4 rfl) ?_
        refine lv_if_eq (tgt := 69) hx hb dX4_nexts_59 (by decide) (fun c_59 => ?_) (fun c_59 => ?_)
        · have hw := zI_0.mp c_59
          refine lv_iload hx hb dX4_nexts_69 (lv_at hl 0 rfl) ?_
          exact retRI (v := bitI 24) hx hb hr hlocks hH dX4_nexts_71 (by subst hw; show _ = nxI n (pq V) q; unfold nxI; rw [hkd]; simp [c_27])
        · have hw := zI_ne c_59
          refine lv_iload hx hb dX4_nexts_62 (lv_at hl 0 rfl) ?_
          refine lv_iload_n hx hb dX4_nexts_64 rfl (lv_at hl 1 rfl) ?_
          refine lv_ior hx hb dX4_nexts_65 ?_
          refine lv_goto (tgt := 71) hx hb dX4_nexts_66 (by decide) ?_
          exact retRI (v := (bitI 24) ||| (plI n (q + 1))) hx hb hr hlocks hH dX4_nexts_71 (by subst hw; unfold wnI nxI; rw [hkd]; simp [c_27])
      · have c_38 : j = 12 := (nI_eq (a := j) (b := 12) (by omega) (by omega)).mp c_38
        obtain ⟨b, hb1, hbe⟩ := lim_nI (n := 25) (by rw [c_38] at hlB; exact hlB) (by decide)
        have hbq : ix (pq V 3 q) = b := by show ix (V 3 q) = b; rw [hbe, ix_nI (by omega)]
        refine lv_aload_n hx hb dX4_nexts_41 rfl (lv_at hl 1 rfl) ?_
        refine lv_aload_n hx hb dX4_nexts_42 rfl (lv_at hl 1 rfl) ?_
        refine gfl hx hb hg inX4 hown hK hP 0 (ci := 4) rfl rfl 3 (by decide) wd_554 rfl dX4_nexts_43 ?_
        refine lv_iload_n hx hb dX4_nexts_46 rfl (lv_at hl 2 rfl) ?_
        refine ldn hx hb hK hP 3 0 rfl rfl (by omega) (by decide) dX4_nexts_47 ?_
        refine topv (nI b) hbe ?_
        refine callR (runV hx hb hg hown hml hl.1 (c_X4_place l D k ad V hv (q := b) (by omega)) [.int (nI b)] [] (preR (mapSome_sub hP [0, 1, 2, 3, 4, 5, 6, 7, 8, 9, 10, 11, 12, 13, 14, 15, 16, 17, 18, 19, 20, 21, 22] rfl) hK hN xb0 x0) (va_recv hK hP (ci := 4) (q0 := 0) rfl rfl) wd_718 wd_720 wd_29 wd_53 wd_721 lk_X4_place ⟨rfl, rfl⟩ ⟨by decide, by decide⟩ ⟨Nat.zero_le _, Nat.zero_le _⟩ rfl (Nat.le_of_ble_eq_true rfl) dX4_nexts_48) (fun r_48 q_48 => ?_)
        obtain rfl := q_48
        refine lv_goto (tgt := 56) hx hb dX4_nexts_51 (by decide) ?_
        refine lv_istore (lv' := [(4, .int (plI n b)), (3, .int (plI n (q + 1))), (0, .ref (ad 0)), (1, .int (nI q)), (2, .int (zI w))]) hx hb dX4_nexts_56 hl (by decide) rfl (fun ls hl => ?_)
        refine lv_iload_n hx hb dX4_nexts_58 rfl (lv_at hl 4 rfl) ?_
        refine lv_if_eq (tgt := 69) hx hb dX4_nexts_59 (by decide) (fun c_59 => ?_) (fun c_59 => ?_)
        · have hw := zI_0.mp c_59
          refine lv_iload hx hb dX4_nexts_69 (lv_at hl 0 rfl) ?_
          exact retRI (v := plI n b) hx hb hr hlocks hH dX4_nexts_71 (absurd c_38 c_16)
        · have hw := zI_ne c_59
          refine lv_iload hx hb dX4_nexts_62 (lv_at hl 0 rfl) ?_
          refine lv_iload_n hx hb dX4_nexts_64 rfl (lv_at hl 1 rfl) ?_
          refine lv_ior hx hb dX4_nexts_65 ?_
          refine lv_goto (tgt := 71) hx hb dX4_nexts_66 (by decide) ?_
          exact retRI (v := (plI n b) ||| (plI n (q + 1))) hx hb hr hlocks hH dX4_nexts_71 (absurd c_38 c_16)
