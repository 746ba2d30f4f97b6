/-! the reference: line, change, points, saw, left, on, test, follows, causes, cause -/
abbrev rmX4_fits : Room := { frames := 2, cells := 0, slots := 0, locals := 45 }
theorem lk_X4_fits : Lk yX4_fits 4 := by decide +kernel
set_option maxHeartbeats 4000000 in
set_option maxRecDepth 100000 in
/-- fits(kind, a, b, c) -/
theorem c_X4_fits (l : Launch) (D : va_G) (k : Nat → ClassId) (y0 y1 y2 y3 : Int32) : CtR noX l yX4_fits cX4_fits 4 (some .boolean) rmX4_fits D (tyL k) ([]) [.int y0, .int y1, .int y2, .int y3] (fun r => ∃ b : Bool, r = zI b ∧ (b = true ↔ alR y0 y1 y2 y3)) := by
  refine CtR.mk (by decide) (Nat.le_of_ble_eq_true rfl) ?_
  intro p e s m below meth c hx hb hml hown hg hr hlocks hK hN hX H hH hP ls hl
  have hl : lv_has ls 4 [(0, .int y0), (1, .int y1), (2, .int y2), (3, .int y3)] := hl
  refine lv_iload_n hx hb dX4_fits_0 rfl (lv_at hl 0 rfl) ?_
  rcases sw14 y0 with rfl | rfl | rfl | rfl | rfl | rfl | rfl | rfl | rfl | rfl | rfl | rfl | rfl | rfl | ⟨ho, hno⟩
  · refine lv_tableIn (off := 71) (tgt := 72) hx hb dX4_fits_1 (by decide) (by decide) (by rfl) (by decide) ?_
    refine lv_iconst (v := 1) hx hb dX4_fits_72 (by decide) ?_
    exact retRZ (v := 1) hx hb hr hlocks hH (by first | rfl | exact zI_nar _) dX4_fits_73 (⟨true, rfl, fun _ => (al_iff (j := 0) (a := y1) (b := y2) (c := y3) (by decide)).mpr ⟨lim_z, lim_z, lim_z⟩, fun _ => rfl⟩)
  · refine lv_tableIn (off := 73) (tgt := 74) hx hb dX4_fits_1 (by decide) (by decide) (by rfl) (by decide) ?_
    refine lv_iload_n hx hb dX4_fits_74 rfl (lv_at hl 1 rfl) ?_
    refine callR (runS hx hb hg hown hml hl.1 (c_X4_isRegister l D k (y1)) [.int y1] [] (preR (mapSome_sub hP [] rfl) hK hN xb0 x0) wd_664 wd_665 wd_53 wd_666 lk_X4_isRegister ⟨rfl, rfl⟩ ⟨by decide, by decide⟩ ⟨Nat.zero_le _, Nat.zero_le _⟩ rfl (Nat.le_of_ble_eq_true rfl) dX4_fits_75) (fun r_75 q_75 => ?_)
    obtain ⟨b_78, rfl, hB_78⟩ := q_75
    exact retRZ (v := zI b_78) hx hb hr hlocks hH (by first | rfl | exact zI_nar _) dX4_fits_78 (⟨b_78, rfl, fun z => (al_iff (j := 1) (a := y1) (b := y2) (c := y3) (by decide)).mpr (let h := hB_78.mp z; ⟨((lim_rgt (by decide)).mpr h), lim_z, lim_z⟩), fun h => hB_78.mpr ((lim_rgt (by decide)).mp ((al_iff (j := 1) (a := y1) (b := y2) (c := y3) (by decide)).mp h).1)⟩)
  · refine lv_tableIn (off := 78) (tgt := 79) hx hb dX4_fits_1 (by decide) (by decide) (by rfl) (by decide) ?_
    refine lv_iload_n hx hb dX4_fits_79 rfl (lv_at hl 1 rfl) ?_
    refine callR (runS hx hb hg hown hml hl.1 (c_X4_isRegister l D k (y1)) [.int y1] [] (preR (mapSome_sub hP [] rfl) hK hN xb0 x0) wd_664 wd_665 wd_53 wd_666 lk_X4_isRegister ⟨rfl, rfl⟩ ⟨by decide, by decide⟩ ⟨Nat.zero_le _, Nat.zero_le _⟩ rfl (Nat.le_of_ble_eq_true rfl) dX4_fits_80) (fun r_80 q_80 => ?_)
    obtain ⟨b_83, rfl, hB_83⟩ := q_80
    refine lv_if_eq (tgt := 102) hx hb dX4_fits_83 (by decide) (fun c_83 => ?_) (fun c_83 => ?_)
    · have c_83 : ¬ rgt y1 8 := fun z => by rw [hB_83.mpr z] at c_83; exact absurd c_83 (by decide)
      refine lv_iconst (v := 0) hx hb dX4_fits_102 (by decide) ?_
      exact retRZ (v := 0) hx hb hr hlocks hH (by first | rfl | exact zI_nar _) dX4_fits_103 (⟨false, rfl, fun z => (by cases z), fun h => absurd ((lim_rgt (by decide)).mp ((al_iff (j := 2) (a := y1) (b := y2) (c := y3) (by decide)).mp h).1) c_83⟩)
    · have c_83 : rgt y1 8 := hB_83.mp (zI_ne c_83)
      refine lv_iload_n hx hb dX4_fits_86 rfl (lv_at hl 2 rfl) ?_
      refine lv_i2l (v := y2.toInt64) hx hb dX4_fits_87 rfl ?_
      refine lv_lconst (v := 0) hx hb dX4_fits_88 (by decide) ?_
      refine lv_ldc2 (v := 3) hx hb hown (hg _ wd_671) dX4_fits_89 ?_
      refine callR (runS hx hb hg hown hml hl.1 (c_X4_in l D k (y2.toInt64) (0) (3)) [.long y2.toInt64, .long 0, .long 3] [] (preR (mapSome_sub hP [] rfl) hK hN xb0 x0) wd_668 wd_669 wd_53 wd_670 lk_X4_in ⟨rfl, rfl⟩ ⟨by decide, by decide⟩ ⟨Nat.zero_le _, Nat.zero_le _⟩ rfl (Nat.le_of_ble_eq_true rfl) dX4_fits_92) (fun r_92 q_92 => ?_)
      have hB_95 := inB_rgt (x := y2) (lo := 0) (hi := 3) (n := 4) (by omega) (by decide) (by decide)
      obtain rfl := q_92
      refine lv_if_eq (tgt := 102) hx hb dX4_fits_95 (by decide) (fun c_95 => ?_) (fun c_95 => ?_)
      · have c_95 : ¬ rgt y2 4 := fun z => by rw [hB_95.mpr z] at c_95; exact absurd c_95 (by decide)
        refine lv_iconst (v := 0) hx hb dX4_fits_102 (by decide) ?_
        exact retRZ (v := 0) hx hb hr hlocks hH (by first | rfl | exact zI_nar _) dX4_fits_103 (⟨false, rfl, fun z => (by cases z), fun h => absurd ((lim_rgt (by decide)).mp ((al_iff (j := 2) (a := y1) (b := y2) (c := y3) (by decide)).mp h).2.1) c_95⟩)
      · have c_95 : rgt y2 4 := hB_95.mp (zI_ne c_95)
        refine lv_iconst (v := 1) hx hb dX4_fits_98 (by decide) ?_
        refine lv_goto (tgt := 103) hx hb dX4_fits_99 (by decide) ?_
        exact retRZ (v := 1) hx hb hr hlocks hH (by first | rfl | exact zI_nar _) dX4_fits_103 (⟨true, rfl, fun _ => (al_iff (j := 2) (a := y1) (b := y2) (c := y3) (by decide)).mpr ⟨((lim_rgt (by decide)).mpr c_83), ((lim_rgt (by decide)).mpr c_95), lim_z⟩, fun _ => rfl⟩)
  · refine lv_tableIn (off := 103) (tgt := 104) hx hb dX4_fits_1 (by decide) (by decide) (by rfl) (by decide) ?_
    refine lv_iload_n hx hb dX4_fits_104 rfl (lv_at hl 1 rfl) ?_
    refine callR (runS hx hb hg hown hml hl.1 (c_X4_isRegister l D k (y1)) [.int y1] [] (preR (mapSome_sub hP [] rfl) hK hN xb0 x0) wd_664 wd_665 wd_53 wd_666 lk_X4_isRegister ⟨rfl, rfl⟩ ⟨by decide, by decide⟩ ⟨Nat.zero_le _, Nat.zero_le _⟩ rfl (Nat.le_of_ble_eq_true rfl) dX4_fits_105) (fun r_105 q_105 => ?_)
    obtain ⟨b_108, rfl, hB_108⟩ := q_105
    refine lv_if_eq (tgt := 129) hx hb dX4_fits_108 (by decide) (fun c_108 => ?_) (fun c_108 => ?_)
    · have c_108 : ¬ rgt y1 8 := fun z => by rw [hB_108.mpr z] at c_108; exact absurd c_108 (by decide)
      refine lv_iconst (v := 0) hx hb dX4_fits_129 (by decide) ?_
      exact retRZ (v := 0) hx hb hr hlocks hH (by first | rfl | exact zI_nar _) dX4_fits_130 (⟨false, rfl, fun z => (by cases z), fun h => absurd ((lim_rgt (by decide)).mp ((al_iff (j := 3) (a := y1) (b := y2) (c := y3) (by decide)).mp h).1) c_108⟩)
    · have c_108 : rgt y1 8 := hB_108.mp (zI_ne c_108)
      refine lv_iload_n hx hb dX4_fits_111 rfl (lv_at hl 2 rfl) ?_
      refine callR (runS hx hb hg hown hml hl.1 (c_X4_isRegister l D k (y2)) [.int y2] [] (preR (mapSome_sub hP [] rfl) hK hN xb0 x0) wd_664 wd_665 wd_53 wd_666 lk_X4_isRegister ⟨rfl, rfl⟩ ⟨by decide, by decide⟩ ⟨Nat.zero_le _, Nat.zero_le _⟩ rfl (Nat.le_of_ble_eq_true rfl) dX4_fits_112) (fun r_112 q_112 => ?_)
      obtain ⟨b_115, rfl, hB_115⟩ := q_112
      refine lv_if_eq (tgt := 129) hx hb dX4_fits_115 (by decide) (fun c_115 => ?_) (fun c_115 => ?_)
      · have c_115 : ¬ rgt y2 8 := fun z => by rw [hB_115.mpr z] at c_115; exact absurd c_115 (by decide)
        refine lv_iconst (v := 0) hx hb dX4_fits_129 (by decide) ?_
        exact retRZ (v := 0) hx hb hr hlocks hH (by first | rfl | exact zI_nar _) dX4_fits_130 (⟨false, rfl, fun z => (by cases z), fun h => absurd ((lim_rgt (by decide)).mp ((al_iff (j := 3) (a := y1) (b := y2) (c := y3) (by decide)).mp h).2.1) c_115⟩)
      · have c_115 : rgt y2 8 := hB_115.mp (zI_ne c_115)
        refine lv_iload_n hx hb dX4_fits_118 rfl (lv_at hl 3 rfl) ?_
        refine callR (runS hx hb hg hown hml hl.1 (c_X4_isRegister l D k (y3)) [.int y3] [] (preR (mapSome_sub hP [] rfl) hK hN xb0 x0) wd_664 wd_665 wd_53 wd_666 lk_X4_isRegister ⟨rfl, rfl⟩ ⟨by decide, by decide⟩ ⟨Nat.zero_le _, Nat.zero_le _⟩ rfl (Nat.le_of_ble_eq_true rfl) dX4_fits_119) (fun r_119 q_119 => ?_)
        obtain ⟨b_122, rfl, hB_122⟩ := q_119
        refine lv_if_eq (tgt := 129) hx hb dX4_fits_122 (by decide) (fun c_122 => ?_) (fun c_122 => ?_)
        · have c_122 : ¬ rgt y3 8 := fun z => by rw [hB_122.mpr z] at c_122; exact absurd c_122 (by decide)
          refine lv_iconst (v := 0) hx hb dX4_fits_129 (by decide) ?_
          exact retRZ (v := 0) hx hb hr hlocks hH (by first | rfl | exact zI_nar _) dX4_fits_130 (⟨false, rfl, fun z => (by cases z), fun h => absurd ((lim_rgt (by decide)).mp ((al_iff (j := 3) (a := y1) (b := y2) (c := y3) (by decide)).mp h).2.2) c_122⟩)
        · have c_122 : rgt y3 8 := hB_122.mp (zI_ne c_122)
          refine lv_iconst (v := 1) hx hb dX4_fits_125 (by decide) ?_
          refine lv_goto (tgt := 130) hx hb dX4_fits_126 (by decide) ?_
          exact retRZ (v := 1) hx hb hr hlocks hH (by first | rfl | exact zI_nar _) dX4_fits_130 (⟨true, rfl, fun _ => (al_iff (j := 3) (a := y1) (b := y2) (c := y3) (by decide)).mpr ⟨((lim_rgt (by decide)).mpr c_108), ((lim_rgt (by decide)).mpr c_115), ((lim_rgt (by decide)).mpr c_122)⟩, fun _ => rfl⟩)
  · refine lv_tableIn (off := 103) (tgt := 104) hx hb dX4_fits_1 (by decide) (by decide) (by rfl) (by decide) ?_
    refine lv_iload_n hx hb dX4_fits_104 rfl (lv_at hl 1 rfl) ?_
    refine callR (runS hx hb hg hown hml hl.1 (c_X4_isRegister l D k (y1)) [.int y1] [] (preR (mapSome_sub hP [] rfl) hK hN xb0 x0) wd_664 wd_665 wd_53 wd_666 lk_X4_isRegister ⟨rfl, rfl⟩ ⟨by decide, by decide⟩ ⟨Nat.zero_le _, Nat.zero_le _⟩ rfl (Nat.le_of_ble_eq_true rfl) dX4_fits_105) (fun r_105 q_105 => ?_)
    obtain ⟨b_108, rfl, hB_108⟩ := q_105
    refine lv_if_eq (tgt := 129) hx hb dX4_fits_108 (by decide) (fun c_108 => ?_) (fun c_108 => ?_)
    · have c_108 : ¬ rgt y1 8 := fun z => by rw [hB_108.mpr z] at c_108; exact absurd c_108 (by decide)
      refine lv_iconst (v := 0) hx hb dX4_fits_129 (by decide) ?_
      exact retRZ (v := 0) hx hb hr hlocks hH (by first | rfl | exact zI_nar _) dX4_fits_130 (⟨false, rfl, fun z => (by cases z), fun h => absurd ((lim_rgt (by decide)).mp ((al_iff (j := 4) (a := y1) (b := y2) (c := y3) (by decide)).mp h).1) c_108⟩)
    · have c_108 : rgt y1 8 := hB_108.mp (zI_ne c_108)
      refine lv_iload_n hx hb dX4_fits_111 rfl (lv_at hl 2 rfl) ?_
      refine callR (runS hx hb hg hown hml hl.1 (c_X4_isRegister l D k (y2)) [.int y2] [] (preR (mapSome_sub hP [] rfl) hK hN xb0 x0) wd_664 wd_665 wd_53 wd_666 lk_X4_isRegister ⟨rfl, rfl⟩ ⟨by decide, by decide⟩ ⟨Nat.zero_le _, Nat.zero_le _⟩ rfl (Nat.le_of_ble_eq_true rfl) dX4_fits_112) (fun r_112 q_112 => ?_)
      obtain ⟨b_115, rfl, hB_115⟩ := q_112
      refine lv_if_eq (tgt := 129) hx hb dX4_fits_115 (by decide) (fun c_115 => ?_) (fun c_115 => ?_)
      · have c_115 : ¬ rgt y2 8 := fun z => by rw [hB_115.mpr z] at c_115; exact absurd c_115 (by decide)
        refine lv_iconst (v := 0) hx hb dX4_fits_129 (by decide) ?_
        exact retRZ (v := 0) hx hb hr hlocks hH (by first | rfl | exact zI_nar _) dX4_fits_130 (⟨false, rfl, fun z => (by cases z), fun h => absurd ((lim_rgt (by decide)).mp ((al_iff (j := 4) (a := y1) (b := y2) (c := y3) (by decide)).mp h).2.1) c_115⟩)
      · have c_115 : rgt y2 8 := hB_115.mp (zI_ne c_115)
        refine lv_iload_n hx hb dX4_fits_118 rfl (lv_at hl 3 rfl) ?_
        refine callR (runS hx hb hg hown hml hl.1 (c_X4_isRegister l D k (y3)) [.int y3] [] (preR (mapSome_sub hP [] rfl) hK hN xb0 x0) wd_664 wd_665 wd_53 wd_666 lk_X4_isRegister ⟨rfl, rfl⟩ ⟨by decide, by decide⟩ ⟨Nat.zero_le _, Nat.zero_le _⟩ rfl (Nat.le_of_ble_eq_true rfl) dX4_fits_119) (fun r_119 q_119 => ?_)
        obtain ⟨b_122, rfl, hB_122⟩ := q_119
        refine lv_if_eq (tgt := 129) hx hb dX4_fits_122 (by decide) (fun c_122 => ?_) (fun c_122 => ?_)
        · have c_122 : ¬ rgt y3 8 := fun z => by rw [hB_122.mpr z] at c_122; exact absurd c_122 (by decide)
          refine lv_iconst (v := 0) hx hb dX4_fits_129 (by decide) ?_
          exact retRZ (v := 0) hx hb hr hlocks hH (by first | rfl | exact zI_nar _) dX4_fits_130 (⟨false, rfl, fun z => (by cases z), fun h => absurd ((lim_rgt (by decide)).mp ((al_iff (j := 4) (a := y1) (b := y2) (c := y3) (by decide)).mp h).2.2) c_122⟩)
        · have c_122 : rgt y3 8 := hB_122.mp (zI_ne c_122)
          refine lv_iconst (v := 1) hx hb dX4_fits_125 (by decide) ?_
          refine lv_goto (tgt := 130) hx hb dX4_fits_126 (by decide) ?_
          exact retRZ (v := 1) hx hb hr hlocks hH (by first | rfl | exact zI_nar _) dX4_fits_130 (⟨true, rfl, fun _ => (al_iff (j := 4) (a := y1) (b := y2) (c := y3) (by decide)).mpr ⟨((lim_rgt (by decide)).mpr c_108), ((lim_rgt (by decide)).mpr c_115), ((lim_rgt (by decide)).mpr c_122)⟩, fun _ => rfl⟩)
  · refine lv_tableIn (off := 103) (tgt := 104) hx hb dX4_fits_1 (by decide) (by decide) (by rfl) (by decide) ?_
    refine lv_iload_n hx hb dX4_fits_104 rfl (lv_at hl 1 rfl) ?_
    refine callR (runS hx hb hg hown hml hl.1 (c_X4_isRegister l D k (y1)) [.int y1] [] (preR (mapSome_sub hP [] rfl) hK hN xb0 x0) wd_664 wd_665 wd_53 wd_666 lk_X4_isRegister ⟨rfl, rfl⟩ ⟨by decide, by decide⟩ ⟨Nat.zero_le _, Nat.zero_le _⟩ rfl (Nat.le_of_ble_eq_true rfl) dX4_fits_105) (fun r_105 q_105 => ?_)
    obtain ⟨b_108, rfl, hB_108⟩ := q_105
    refine lv_if_eq (tgt := 129) hx hb dX4_fits_108 (by decide) (fun c_108 => ?_) (fun c_108 => ?_)
    · have c_108 : ¬ rgt y1 8 := fun z => by rw [hB_108.mpr z] at c_108; exact absurd c_108 (by decide)
      refine lv_iconst (v := 0) hx hb dX4_fits_129 (by decide) ?_
      exact retRZ (v := 0) hx hb hr hlocks hH (by first | rfl | exact zI_nar _) dX4_fits_130 (⟨false, rfl, fun z => (by cases z), fun h => absurd ((lim_rgt (by decide)).mp ((al_iff (j := 5) (a := y1) (b := y2) (c := y3) (by decide)).mp h).1) c_108⟩)
    · have c_108 : rgt y1 8 := hB_108.mp (zI_ne c_108)
      refine lv_iload_n hx hb dX4_fits_111 rfl (lv_at hl 2 rfl) ?_
      refine callR (runS hx hb hg hown hml hl.1 (c_X4_isRegister l D k (y2)) [.int y2] [] (preR (mapSome_sub hP [] rfl) hK hN xb0 x0) wd_664 wd_665 wd_53 wd_666 lk_X4_isRegister ⟨rfl, rfl⟩ ⟨by decide, by decide⟩ ⟨Nat.zero_le _, Nat.zero_le _⟩ rfl (Nat.le_of_ble_eq_true rfl) dX4_fits_112) (fun r_112 q_112 => ?_)
      obtain ⟨b_115, rfl, hB_115⟩ := q_112
      refine lv_if_eq (tgt := 129) hx hb dX4_fits_115 (by decide) (fun c_115 => ?_) (fun c_115 => ?_)
      · have c_115 : ¬ rgt y2 8 := fun z => by rw [hB_115.mpr z] at c_115; exact absurd c_115 (by decide)
        refine lv_iconst (v := 0) hx hb dX4_fits_129 (by decide) ?_
        exact retRZ (v := 0) hx hb hr hlocks hH (by first | rfl | exact zI_nar _) dX4_fits_130 (⟨false, rfl, fun z => (by cases z), fun h => absurd ((lim_rgt (by decide)).mp ((al_iff (j := 5) (a := y1) (b := y2) (c := y3) (by decide)).mp h).2.1) c_115⟩)
      · have c_115 : rgt y2 8 := hB_115.mp (zI_ne c_115)
        refine lv_iload_n hx hb dX4_fits_118 rfl (lv_at hl 3 rfl) ?_
        refine callR (runS hx hb hg hown hml hl.1 (c_X4_isRegister l D k (y3)) [.int y3] [] (preR (mapSome_sub hP [] rfl) hK hN xb0 x0) wd_664 wd_665 wd_53 wd_666 lk_X4_isRegister ⟨rfl, rfl⟩ ⟨by decide, by decide⟩ ⟨Nat.zero_le _, Nat.zero_le _⟩ rfl (Nat.le_of_ble_eq_true rfl) dX4_fits_119) (fun r_119 q_119 => ?_)
        obtain ⟨b_122, rfl, hB_122⟩ := q_119
        refine lv_if_eq (tgt := 129) hx hb dX4_fits_122 (by decide) (fun c_122 => ?_) (fun c_122 => ?_)
        · have c_122 : ¬ rgt y3 8 := fun z => by rw [hB_122.mpr z] at c_122; exact absurd c_122 (by decide)
          refine lv_iconst (v := 0) hx hb dX4_fits_129 (by decide) ?_
          exact retRZ (v := 0) hx hb hr hlocks hH (by first | rfl | exact zI_nar _) dX4_fits_130 (⟨false, rfl, fun z => (by cases z), fun h => absurd ((lim_rgt (by decide)).mp ((al_iff (j := 5) (a := y1) (b := y2) (c := y3) (by decide)).mp h).2.2) c_122⟩)
        · have c_122 : rgt y3 8 := hB_122.mp (zI_ne c_122)
          refine lv_iconst (v := 1) hx hb dX4_fits_125 (by decide) ?_
          refine lv_goto (tgt := 130) hx hb dX4_fits_126 (by decide) ?_
          exact retRZ (v := 1) hx hb hr hlocks hH (by first | rfl | exact zI_nar _) dX4_fits_130 (⟨true, rfl, fun _ => (al_iff (j := 5) (a := y1) (b := y2) (c := y3) (by decide)).mpr ⟨((lim_rgt (by decide)).mpr c_108), ((lim_rgt (by decide)).mpr c_115), ((lim_rgt (by decide)).mpr c_122)⟩, fun _ => rfl⟩)
  · refine lv_tableIn (off := 103) (tgt := 104) hx hb dX4_fits_1 (by decide) (by decide) (by rfl) (by decide) ?_
    refine lv_iload_n hx hb dX4_fits_104 rfl (lv_at hl 1 rfl) ?_
    refine callR (runS hx hb hg hown hml hl.1 (c_X4_isRegister l D k (y1)) [.int y1] [] (preR (mapSome_sub hP [] rfl) hK hN xb0 x0) wd_664 wd_665 wd_53 wd_666 lk_X4_isRegister ⟨rfl, rfl⟩ ⟨by decide, by decide⟩ ⟨Nat.zero_le _, Nat.zero_le _⟩ rfl (Nat.le_of_ble_eq_true rfl) dX4_fits_105) (fun r_105 q_105 => ?_)
    obtain ⟨b_108, rfl, hB_108⟩ := q_105
    refine lv_if_eq (tgt := 129) hx hb dX4_fits_108 (by decide) (fun c_108 => ?_) (fun c_108 => ?_)
    · have c_108 : ¬ rgt y1 8 := fun z => by rw [hB_108.mpr z] at c_108; exact absurd c_108 (by decide)
      refine lv_iconst (v := 0) hx hb dX4_fits_129 (by decide) ?_
      exact retRZ (v := 0) hx hb hr hlocks hH (by first | rfl | exact zI_nar _) dX4_fits_130 (⟨false, rfl, fun z => (by cases z), fun h => absurd ((lim_rgt (by decide)).mp ((al_iff (j := 6) (a := y1) (b := y2) (c := y3) (by decide)).mp h).1) c_108⟩)
    · have c_108 : rgt y1 8 := hB_108.mp (zI_ne c_108)
      refine lv_iload_n hx hb dX4_fits_111 rfl (lv_at hl 2 rfl) ?_
      refine callR (runS hx hb hg hown hml hl.1 (c_X4_isRegister l D k (y2)) [.int y2] [] (preR (mapSome_sub hP [] rfl) hK hN xb0 x0) wd_664 wd_665 wd_53 wd_666 lk_X4_isRegister ⟨rfl, rfl⟩ ⟨by decide, by decide⟩ ⟨Nat.zero_le _, Nat.zero_le _⟩ rfl (Nat.le_of_ble_eq_true rfl) dX4_fits_112) (fun r_112 q_112 => ?_)
      obtain ⟨b_115, rfl, hB_115⟩ := q_112
      refine lv_if_eq (tgt := 129) hx hb dX4_fits_115 (by decide) (fun c_115 => ?_) (fun c_115 => ?_)
      · have c_115 : ¬ rgt y2 8 := fun z => by rw [hB_115.mpr z] at c_115; exact absurd c_115 (by decide)
        refine lv_iconst (v := 0) hx hb dX4_fits_129 (by decide) ?_
        exact retRZ (v := 0) hx hb hr hlocks hH (by first | rfl | exact zI_nar _) dX4_fits_130 (⟨false, rfl, fun z => (by cases z), fun h => absurd ((lim_rgt (by decide)).mp ((al_iff (j := 6) (a := y1) (b := y2) (c := y3) (by decide)).mp h).2.1) c_115⟩)
      · have c_115 : rgt y2 8 := hB_115.mp (zI_ne c_115)
        refine lv_iload_n hx hb dX4_fits_118 rfl (lv_at hl 3 rfl) ?_
        refine callR (runS hx hb hg hown hml hl.1 (c_X4_isRegister l D k (y3)) [.int y3] [] (preR (mapSome_sub hP [] rfl) hK hN xb0 x0) wd_664 wd_665 wd_53 wd_666 lk_X4_isRegister ⟨rfl, rfl⟩ ⟨by decide, by decide⟩ ⟨Nat.zero_le _, Nat.zero_le _⟩ rfl (Nat.le_of_ble_eq_true rfl) dX4_fits_119) (fun r_119 q_119 => ?_)
        obtain ⟨b_122, rfl, hB_122⟩ := q_119
        refine lv_if_eq (tgt := 129) hx hb dX4_fits_122 (by decide) (fun c_122 => ?_) (fun c_122 => ?_)
        · have c_122 : ¬ rgt y3 8 := fun z => by rw [hB_122.mpr z] at c_122; exact absurd c_122 (by decide)
          refine lv_iconst (v := 0) hx hb dX4_fits_129 (by decide) ?_
          exact retRZ (v := 0) hx hb hr hlocks hH (by first | rfl | exact zI_nar _) dX4_fits_130 (⟨false, rfl, fun z => (by cases z), fun h => absurd ((lim_rgt (by decide)).mp ((al_iff (j := 6) (a := y1) (b := y2) (c := y3) (by decide)).mp h).2.2) c_122⟩)
        · have c_122 : rgt y3 8 := hB_122.mp (zI_ne c_122)
          refine lv_iconst (v := 1) hx hb dX4_fits_125 (by decide) ?_
          refine lv_goto (tgt := 130) hx hb dX4_fits_126 (by decide) ?_
          exact retRZ (v := 1) hx hb hr hlocks hH (by first | rfl | exact zI_nar _) dX4_fits_130 (⟨true, rfl, fun _ => (al_iff (j := 6) (a := y1) (b := y2) (c := y3) (by decide)).mpr ⟨((lim_rgt (by decide)).mpr c_108), ((lim_rgt (by decide)).mpr c_115), ((lim_rgt (by decide)).mpr c_122)⟩, fun _ => rfl⟩)
  · refine lv_tableIn (off := 130) (tgt := 131) hx hb dX4_fits_1 (by decide) (by decide) (by rfl) (by decide) ?_
    refine lv_iload_n hx hb dX4_fits_131 rfl (lv_at hl 1 rfl) ?_
    refine callR (runS hx hb hg hown hml hl.1 (c_X4_isRegister l D k (y1)) [.int y1] [] (preR (mapSome_sub hP [] rfl) hK hN xb0 x0) wd_664 wd_665 wd_53 wd_666 lk_X4_isRegister ⟨rfl, rfl⟩ ⟨by decide, by decide⟩ ⟨Nat.zero_le _, Nat.zero_le _⟩ rfl (Nat.le_of_ble_eq_true rfl) dX4_fits_132) (fun r_132 q_132 => ?_)
    obtain ⟨b_135, rfl, hB_135⟩ := q_132
    refine lv_if_eq (tgt := 161) hx hb dX4_fits_135 (by decide) (fun c_135 => ?_) (fun c_135 => ?_)
    · have c_135 : ¬ rgt y1 8 := fun z => by rw [hB_135.mpr z] at c_135; exact absurd c_135 (by decide)
      refine lv_iconst (v := 0) hx hb dX4_fits_161 (by decide) ?_
      exact retRZ (v := 0) hx hb hr hlocks hH (by first | rfl | exact zI_nar _) dX4_fits_162 (⟨false, rfl, fun z => (by cases z), fun h => absurd ((lim_rgt (by decide)).mp ((al_iff (j := 7) (a := y1) (b := y2) (c := y3) (by decide)).mp h).1) c_135⟩)
    · have c_135 : rgt y1 8 := hB_135.mp (zI_ne c_135)
      refine lv_iload_n hx hb dX4_fits_138 rfl (lv_at hl 2 rfl) ?_
      refine callR (runS hx hb hg hown hml hl.1 (c_X4_isRegister l D k (y2)) [.int y2] [] (preR (mapSome_sub hP [] rfl) hK hN xb0 x0) wd_664 wd_665 wd_53 wd_666 lk_X4_isRegister ⟨rfl, rfl⟩ ⟨by decide, by decide⟩ ⟨Nat.zero_le _, Nat.zero_le _⟩ rfl (Nat.le_of_ble_eq_true rfl) dX4_fits_139) (fun r_139 q_139 => ?_)
      obtain ⟨b_142, rfl, hB_142⟩ := q_139
      refine lv_if_eq (tgt := 161) hx hb dX4_fits_142 (by decide) (fun c_142 => ?_) (fun c_142 => ?_)
      · have c_142 : ¬ rgt y2 8 := fun z => by rw [hB_142.mpr z] at c_142; exact absurd c_142 (by decide)
        refine lv_iconst (v := 0) hx hb dX4_fits_161 (by decide) ?_
        exact retRZ (v := 0) hx hb hr hlocks hH (by first | rfl | exact zI_nar _) dX4_fits_162 (⟨false, rfl, fun z => (by cases z), fun h => absurd ((lim_rgt (by decide)).mp ((al_iff (j := 7) (a := y1) (b := y2) (c := y3) (by decide)).mp h).2.1) c_142⟩)
      · have c_142 : rgt y2 8 := hB_142.mp (zI_ne c_142)
        refine lv_iload_n hx hb dX4_fits_145 rfl (lv_at hl 3 rfl) ?_
        refine lv_i2l (v := y3.toInt64) hx hb dX4_fits_146 rfl ?_
        refine lv_lconst (v := 0) hx hb dX4_fits_147 (by decide) ?_
        refine lv_ldc2 (v := 3) hx hb hown (hg _ wd_671) dX4_fits_148 ?_
        refine callR (runS hx hb hg hown hml hl.1 (c_X4_in l D k (y3.toInt64) (0) (3)) [.long y3.toInt64, .long 0, .long 3] [] (preR (mapSome_sub hP [] rfl) hK hN xb0 x0) wd_668 wd_669 wd_53 wd_670 lk_X4_in ⟨rfl, rfl⟩ ⟨by decide, by decide⟩ ⟨Nat.zero_le _, Nat.zero_le _⟩ rfl (Nat.le_of_ble_eq_true rfl) dX4_fits_151) (fun r_151 q_151 => ?_)
        have hB_154 := inB_rgt (x := y3) (lo := 0) (hi := 3) (n := 4) (by omega) (by decide) (by decide)
        obtain rfl := q_151
        refine lv_if_eq (tgt := 161) hx hb dX4_fits_154 (by decide) (fun c_154 => ?_) (fun c_154 => ?_)
        · have c_154 : ¬ rgt y3 4 := fun z => by rw [hB_154.mpr z] at c_154; exact absurd c_154 (by decide)
          refine lv_iconst (v := 0) hx hb dX4_fits_161 (by decide) ?_
          exact retRZ (v := 0) hx hb hr hlocks hH (by first | rfl | exact zI_nar _) dX4_fits_162 (⟨false, rfl, fun z => (by cases z), fun h => absurd ((lim_rgt (by decide)).mp ((al_iff (j := 7) (a := y1) (b := y2) (c := y3) (by decide)).mp h).2.2) c_154⟩)
        · have c_154 : rgt y3 4 := hB_154.mp (zI_ne c_154)
          refine lv_iconst (v := 1) hx hb dX4_fits_157 (by decide) ?_
          refine lv_goto (tgt := 162) hx hb dX4_fits_158 (by decide) ?_
          exact retRZ (v := 1) hx hb hr hlocks hH (by first | rfl | exact zI_nar _) dX4_fits_162 (⟨true, rfl, fun _ => (al_iff (j := 7) (a := y1) (b := y2) (c := y3) (by decide)).mpr ⟨((lim_rgt (by decide)).mpr c_135), ((lim_rgt (by decide)).mpr c_142), ((lim_rgt (by decide)).mpr c_154)⟩, fun _ => rfl⟩)
  · refine lv_tableIn (off := 130) (tgt := 131) hx hb dX4_fits_1 (by decide) (by decide) (by rfl) (by decide) ?_
    refine lv_iload_n hx hb dX4_fits_131 rfl (lv_at hl 1 rfl) ?_
    refine callR (runS hx hb hg hown hml hl.1 (c_X4_isRegister l D k (y1)) [.int y1] [] (preR (mapSome_sub hP [] rfl) hK hN xb0 x0) wd_664 wd_665 wd_53 wd_666 lk_X4_isRegister ⟨rfl, rfl⟩ ⟨by decide, by decide⟩ ⟨Nat.zero_le _, Nat.zero_le _⟩ rfl (Nat.le_of_ble_eq_true rfl) dX4_fits_132) (fun r_132 q_132 => ?_)
    obtain ⟨b_135, rfl, hB_135⟩ := q_132
    refine lv_if_eq (tgt := 161) hx hb dX4_fits_135 (by decide) (fun c_135 => ?_) (fun c_135 => ?_)
    · have c_135 : ¬ rgt y1 8 := fun z => by rw [hB_135.mpr z] at c_135; exact absurd c_135 (by decide)
      refine lv_iconst (v := 0) hx hb dX4_fits_161 (by decide) ?_
      exact retRZ (v := 0) hx hb hr hlocks hH (by first | rfl | exact zI_nar _) dX4_fits_162 (⟨false, rfl, fun z => (by cases z), fun h => absurd ((lim_rgt (by decide)).mp ((al_iff (j := 8) (a := y1) (b := y2) (c := y3) (by decide)).mp h).1) c_135⟩)
    · have c_135 : rgt y1 8 := hB_135.mp (zI_ne c_135)
      refine lv_iload_n hx hb dX4_fits_138 rfl (lv_at hl 2 rfl) ?_
      refine callR (runS hx hb hg hown hml hl.1 (c_X4_isRegister l D k (y2)) [.int y2] [] (preR (mapSome_sub hP [] rfl) hK hN xb0 x0) wd_664 wd_665 wd_53 wd_666 lk_X4_isRegister ⟨rfl, rfl⟩ ⟨by decide, by decide⟩ ⟨Nat.zero_le _, Nat.zero_le _⟩ rfl (Nat.le_of_ble_eq_true rfl) dX4_fits_139) (fun r_139 q_139 => ?_)
      obtain ⟨b_142, rfl, hB_142⟩ := q_139
      refine lv_if_eq (tgt := 161) hx hb dX4_fits_142 (by decide) (fun c_142 => ?_) (fun c_142 => ?_)
      · have c_142 : ¬ rgt y2 8 := fun z => by rw [hB_142.mpr z] at c_142; exact absurd c_142 (by decide)
        refine lv_iconst (v := 0) hx hb dX4_fits_161 (by decide) ?_
        exact retRZ (v := 0) hx hb hr hlocks hH (by first | rfl | exact zI_nar _) dX4_fits_162 (⟨false, rfl, fun z => (by cases z), fun h => absurd ((lim_rgt (by decide)).mp ((al_iff (j := 8) (a := y1) (b := y2) (c := y3) (by decide)).mp h).2.1) c_142⟩)
      · have c_142 : rgt y2 8 := hB_142.mp (zI_ne c_142)
        refine lv_iload_n hx hb dX4_fits_145 rfl (lv_at hl 3 rfl) ?_
        refine lv_i2l (v := y3.toInt64) hx hb dX4_fits_146 rfl ?_
        refine lv_lconst (v := 0) hx hb dX4_fits_147 (by decide) ?_
        refine lv_ldc2 (v := 3) hx hb hown (hg _ wd_671) dX4_fits_148 ?_
        refine callR (runS hx hb hg hown hml hl.1 (c_X4_in l D k (y3.toInt64) (0) (3)) [.long y3.toInt64, .long 0, .long 3] [] (preR (mapSome_sub hP [] rfl) hK hN xb0 x0) wd_668 wd_669 wd_53 wd_670 lk_X4_in ⟨rfl, rfl⟩ ⟨by decide, by decide⟩ ⟨Nat.zero_le _, Nat.zero_le _⟩ rfl (Nat.le_of_ble_eq_true rfl) dX4_fits_151) (fun r_151 q_151 => ?_)
        have hB_154 := inB_rgt (x := y3) (lo := 0) (hi := 3) (n := 4) (by omega) (by decide) (by decide)
        obtain rfl := q_151
        refine lv_if_eq (tgt := 161) hx hb dX4_fits_154 (by decide) (fun c_154 => ?_) (fun c_154 => ?_)
        · have c_154 : ¬ rgt y3 4 := fun z => by rw [hB_154.mpr z] at c_154; exact absurd c_154 (by decide)
          refine lv_iconst (v := 0) hx hb dX4_fits_161 (by decide) ?_
          exact retRZ (v := 0) hx hb hr hlocks hH (by first | rfl | exact zI_nar _) dX4_fits_162 (⟨false, rfl, fun z => (by cases z), fun h => absurd ((lim_rgt (by decide)).mp ((al_iff (j := 8) (a := y1) (b := y2) (c := y3) (by decide)).mp h).2.2) c_154⟩)
        · have c_154 : rgt y3 4 := hB_154.mp (zI_ne c_154)
          refine lv_iconst (v := 1) hx hb dX4_fits_157 (by decide) ?_
          refine lv_goto (tgt := 162) hx hb dX4_fits_158 (by decide) ?_
          exact retRZ (v := 1) hx hb hr hlocks hH (by first | rfl | exact zI_nar _) dX4_fits_162 (⟨true, rfl, fun _ => (al_iff (j := 8) (a := y1) (b := y2) (c := y3) (by decide)).mpr ⟨((lim_rgt (by decide)).mpr c_135), ((lim_rgt (by decide)).mpr c_142), ((lim_rgt (by decide)).mpr c_154)⟩, fun _ => rfl⟩)
  · refine lv_tableIn (off := 78) (tgt := 79) hx hb dX4_fits_1 (by decide) (by decide) (by rfl) (by decide) ?_
    refine lv_iload_n hx hb dX4_fits_79 rfl (lv_at hl 1 rfl) ?_
    refine callR (runS hx hb hg hown hml hl.1 (c_X4_isRegister l D k (y1)) [.int y1] [] (preR (mapSome_sub hP [] rfl) hK hN xb0 x0) wd_664 wd_665 wd_53 wd_666 lk_X4_isRegister ⟨rfl, rfl⟩ ⟨by decide, by decide⟩ ⟨Nat.zero_le _, Nat.zero_le _⟩ rfl (Nat.le_of_ble_eq_true rfl) dX4_fits_80) (fun r_80 q_80 => ?_)
    obtain ⟨b_83, rfl, hB_83⟩ := q_80
    refine lv_if_eq (tgt := 102) hx hb dX4_fits_83 (by decide) (fun c_83 => ?_) (fun c_83 => ?_)
    · have c_83 : ¬ rgt y1 8 := fun z => by rw [hB_83.mpr z] at c_83; exact absurd c_83 (by decide)
      refine lv_iconst (v := 0) hx hb dX4_fits_102 (by decide) ?_
      exact retRZ (v := 0) hx hb hr hlocks hH (by first | rfl | exact zI_nar _) dX4_fits_103 (⟨false, rfl, fun z => (by cases z), fun h => absurd ((lim_rgt (by decide)).mp ((al_iff (j := 9) (a := y1) (b := y2) (c := y3) (by decide)).mp h).1) c_83⟩)
    · have c_83 : rgt y1 8 := hB_83.mp (zI_ne c_83)
      refine lv_iload_n hx hb dX4_fits_86 rfl (lv_at hl 2 rfl) ?_
      refine lv_i2l (v := y2.toInt64) hx hb dX4_fits_87 rfl ?_
      refine lv_lconst (v := 0) hx hb dX4_fits_88 (by decide) ?_
      refine lv_ldc2 (v := 3) hx hb hown (hg _ wd_671) dX4_fits_89 ?_
      refine callR (runS hx hb hg hown hml hl.1 (c_X4_in l D k (y2.toInt64) (0) (3)) [.long y2.toInt64, .long 0, .long 3] [] (preR (mapSome_sub hP [] rfl) hK hN xb0 x0) wd_668 wd_669 wd_53 wd_670 lk_X4_in ⟨rfl, rfl⟩ ⟨by decide, by decide⟩ ⟨Nat.zero_le _, Nat.zero_le _⟩ rfl (Nat.le_of_ble_eq_true rfl) dX4_fits_92) (fun r_92 q_92 => ?_)
      have hB_95 := inB_rgt (x := y2) (lo := 0) (hi := 3) (n := 4) (by omega) (by decide) (by decide)
      obtain rfl := q_92
      refine lv_if_eq (tgt := 102) hx hb dX4_fits_95 (by decide) (fun c_95 => ?_) (fun c_95 => ?_)
      · have c_95 : ¬ rgt y2 4 := fun z => by rw [hB_95.mpr z] at c_95; exact absurd c_95 (by decide)
        refine lv_iconst (v := 0) hx hb dX4_fits_102 (by decide) ?_
        exact retRZ (v := 0) hx hb hr hlocks hH (by first | rfl | exact zI_nar _) dX4_fits_103 (⟨false, rfl, fun z => (by cases z), fun h => absurd ((lim_rgt (by decide)).mp ((al_iff (j := 9) (a := y1) (b := y2) (c := y3) (by decide)).mp h).2.1) c_95⟩)
      · have c_95 : rgt y2 4 := hB_95.mp (zI_ne c_95)
        refine lv_iconst (v := 1) hx hb dX4_fits_98 (by decide) ?_
        refine lv_goto (tgt := 103) hx hb dX4_fits_99 (by decide) ?_
        exact retRZ (v := 1) hx hb hr hlocks hH (by first | rfl | exact zI_nar _) dX4_fits_103 (⟨true, rfl, fun _ => (al_iff (j := 9) (a := y1) (b := y2) (c := y3) (by decide)).mpr ⟨((lim_rgt (by decide)).mpr c_83), ((lim_rgt (by decide)).mpr c_95), lim_z⟩, fun _ => rfl⟩)
  · refine lv_tableIn (off := 78) (tgt := 79) hx hb dX4_fits_1 (by decide) (by decide) (by rfl) (by decide) ?_
    refine lv_iload_n hx hb dX4_fits_79 rfl (lv_at hl 1 rfl) ?_
    refine callR (runS hx hb hg hown hml hl.1 (c_X4_isRegister l D k (y1)) [.int y1] [] (preR (mapSome_sub hP [] rfl) hK hN xb0 x0) wd_664 wd_665 wd_53 wd_666 lk_X4_isRegister ⟨rfl, rfl⟩ ⟨by decide, by decide⟩ ⟨Nat.zero_le _, Nat.zero_le _⟩ rfl (Nat.le_of_ble_eq_true rfl) dX4_fits_80) (fun r_80 q_80 => ?_)
    obtain ⟨b_83, rfl, hB_83⟩ := q_80
    refine lv_if_eq (tgt := 102) hx hb dX4_fits_83 (by decide) (fun c_83 => ?_) (fun c_83 => ?_)
    · have c_83 : ¬ rgt y1 8 := fun z => by rw [hB_83.mpr z] at c_83; exact absurd c_83 (by decide)
      refine lv_iconst (v := 0) hx hb dX4_fits_102 (by decide) ?_
      exact retRZ (v := 0) hx hb hr hlocks hH (by first | rfl | exact zI_nar _) dX4_fits_103 (⟨false, rfl, fun z => (by cases z), fun h => absurd ((lim_rgt (by decide)).mp ((al_iff (j := 10) (a := y1) (b := y2) (c := y3) (by decide)).mp h).1) c_83⟩)
    · have c_83 : rgt y1 8 := hB_83.mp (zI_ne c_83)
      refine lv_iload_n hx hb dX4_fits_86 rfl (lv_at hl 2 rfl) ?_
      refine lv_i2l (v := y2.toInt64) hx hb dX4_fits_87 rfl ?_
      refine lv_lconst (v := 0) hx hb dX4_fits_88 (by decide) ?_
      refine lv_ldc2 (v := 3) hx hb hown (hg _ wd_671) dX4_fits_89 ?_
      refine callR (runS hx hb hg hown hml hl.1 (c_X4_in l D k (y2.toInt64) (0) (3)) [.long y2.toInt64, .long 0, .long 3] [] (preR (mapSome_sub hP [] rfl) hK hN xb0 x0) wd_668 wd_669 wd_53 wd_670 lk_X4_in ⟨rfl, rfl⟩ ⟨by decide, by decide⟩ ⟨Nat.zero_le _, Nat.zero_le _⟩ rfl (Nat.le_of_ble_eq_true rfl) dX4_fits_92) (fun r_92 q_92 => ?_)
      have hB_95 := inB_rgt (x := y2) (lo := 0) (hi := 3) (n := 4) (by omega) (by decide) (by decide)
      obtain rfl := q_92
      refine lv_if_eq (tgt := 102) hx hb dX4_fits_95 (by decide) (fun c_95 => ?_) (fun c_95 => ?_)
      · have c_95 : ¬ rgt y2 4 := fun z => by rw [hB_95.mpr z] at c_95; exact absurd c_95 (by decide)
        refine lv_iconst (v := 0) hx hb dX4_fits_102 (by decide) ?_
        exact retRZ (v := 0) hx hb hr hlocks hH (by first | rfl | exact zI_nar _) dX4_fits_103 (⟨false, rfl, fun z => (by cases z), fun h => absurd ((lim_rgt (by decide)).mp ((al_iff (j := 10) (a := y1) (b := y2) (c := y3) (by decide)).mp h).2.1) c_95⟩)
      · have c_95 : rgt y2 4 := hB_95.mp (zI_ne c_95)
        refine lv_iconst (v := 1) hx hb dX4_fits_98 (by decide) ?_
        refine lv_goto (tgt := 103) hx hb dX4_fits_99 (by decide) ?_
        exact retRZ (v := 1) hx hb hr hlocks hH (by first | rfl | exact zI_nar _) dX4_fits_103 (⟨true, rfl, fun _ => (al_iff (j := 10) (a := y1) (b := y2) (c := y3) (by decide)).mpr ⟨((lim_rgt (by decide)).mpr c_83), ((lim_rgt (by decide)).mpr c_95), lim_z⟩, fun _ => rfl⟩)
  · refine lv_tableIn (off := 162) (tgt := 163) hx hb dX4_fits_1 (by decide) (by decide) (by rfl) (by decide) ?_
    refine lv_iload_n hx hb dX4_fits_163 rfl (lv_at hl 1 rfl) ?_
    refine callR (runS hx hb hg hown hml hl.1 (c_X4_isRegister l D k (y1)) [.int y1] [] (preR (mapSome_sub hP [] rfl) hK hN xb0 x0) wd_664 wd_665 wd_53 wd_666 lk_X4_isRegister ⟨rfl, rfl⟩ ⟨by decide, by decide⟩ ⟨Nat.zero_le _, Nat.zero_le _⟩ rfl (Nat.le_of_ble_eq_true rfl) dX4_fits_164) (fun r_164 q_164 => ?_)
    obtain ⟨b_167, rfl, hB_167⟩ := q_164
    refine lv_if_eq (tgt := 186) hx hb dX4_fits_167 (by decide) (fun c_167 => ?_) (fun c_167 => ?_)
    · have c_167 : ¬ rgt y1 8 := fun z => by rw [hB_167.mpr z] at c_167; exact absurd c_167 (by decide)
      refine lv_iconst (v := 0) hx hb dX4_fits_186 (by decide) ?_
      exact retRZ (v := 0) hx hb hr hlocks hH (by first | rfl | exact zI_nar _) dX4_fits_187 (⟨false, rfl, fun z => (by cases z), fun h => absurd ((lim_rgt (by decide)).mp ((al_iff (j := 11) (a := y1) (b := y2) (c := y3) (by decide)).mp h).1) c_167⟩)
    · have c_167 : rgt y1 8 := hB_167.mp (zI_ne c_167)
      refine lv_iload_n hx hb dX4_fits_170 rfl (lv_at hl 2 rfl) ?_
      refine lv_i2l (v := y2.toInt64) hx hb dX4_fits_171 rfl ?_
      refine lv_lconst (v := 0) hx hb dX4_fits_172 (by decide) ?_
      refine lv_ldc2 (v := 24) hx hb hown (hg _ wd_672) dX4_fits_173 ?_
      refine callR (runS hx hb hg hown hml hl.1 (c_X4_in l D k (y2.toInt64) (0) (24)) [.long y2.toInt64, .long 0, .long 24] [] (preR (mapSome_sub hP [] rfl) hK hN xb0 x0) wd_668 wd_669 wd_53 wd_670 lk_X4_in ⟨rfl, rfl⟩ ⟨by decide, by decide⟩ ⟨Nat.zero_le _, Nat.zero_le _⟩ rfl (Nat.le_of_ble_eq_true rfl) dX4_fits_176) (fun r_176 q_176 => ?_)
      have hB_179 := inB_rgt (x := y2) (lo := 0) (hi := 24) (n := 25) (by omega) (by decide) (by decide)
      obtain rfl := q_176
      refine lv_if_eq (tgt := 186) hx hb dX4_fits_179 (by decide) (fun c_179 => ?_) (fun c_179 => ?_)
      · have c_179 : ¬ rgt y2 25 := fun z => by rw [hB_179.mpr z] at c_179; exact absurd c_179 (by decide)
        refine lv_iconst (v := 0) hx hb dX4_fits_186 (by decide) ?_
        exact retRZ (v := 0) hx hb hr hlocks hH (by first | rfl | exact zI_nar _) dX4_fits_187 (⟨false, rfl, fun z => (by cases z), fun h => absurd ((lim_rgt (by decide)).mp ((al_iff (j := 11) (a := y1) (b := y2) (c := y3) (by decide)).mp h).2.1) c_179⟩)
      · have c_179 : rgt y2 25 := hB_179.mp (zI_ne c_179)
        refine lv_iconst (v := 1) hx hb dX4_fits_182 (by decide) ?_
        refine lv_goto (tgt := 187) hx hb dX4_fits_183 (by decide) ?_
        exact retRZ (v := 1) hx hb hr hlocks hH (by first | rfl | exact zI_nar _) dX4_fits_187 (⟨true, rfl, fun _ => (al_iff (j := 11) (a := y1) (b := y2) (c := y3) (by decide)).mpr ⟨((lim_rgt (by decide)).mpr c_167), ((lim_rgt (by decide)).mpr c_179), lim_z⟩, fun _ => rfl⟩)
  · refine lv_tableIn (off := 187) (tgt := 188) hx hb dX4_fits_1 (by decide) (by decide) (by rfl) (by decide) ?_
    refine lv_iload_n hx hb dX4_fits_188 rfl (lv_at hl 2 rfl) ?_
    refine lv_i2l (v := y2.toInt64) hx hb dX4_fits_189 rfl ?_
    refine lv_lconst (v := 0) hx hb dX4_fits_190 (by decide) ?_
    refine lv_ldc2 (v := 24) hx hb hown (hg _ wd_672) dX4_fits_191 ?_
    refine callR (runS hx hb hg hown hml hl.1 (c_X4_in l D k (y2.toInt64) (0) (24)) [.long y2.toInt64, .long 0, .long 24] [] (preR (mapSome_sub hP [] rfl) hK hN xb0 x0) wd_668 wd_669 wd_53 wd_670 lk_X4_in ⟨rfl, rfl⟩ ⟨by decide, by decide⟩ ⟨Nat.zero_le _, Nat.zero_le _⟩ rfl (Nat.le_of_ble_eq_true rfl) dX4_fits_194) (fun r_194 q_194 => ?_)
    have hB_197 := inB_rgt (x := y2) (lo := 0) (hi := 24) (n := 25) (by omega) (by decide) (by decide)
    obtain rfl := q_194
    exact retRZ (v := zI (inB y2.toInt64 0 24)) hx hb hr hlocks hH (by first | rfl | exact zI_nar _) dX4_fits_197 (⟨_, rfl, fun z => (al_iff (j := 12) (a := y1) (b := y2) (c := y3) (by decide)).mpr (let h := hB_197.mp z; ⟨lim_z, ((lim_rgt (by decide)).mpr h), lim_z⟩), fun h => hB_197.mpr ((lim_rgt (by decide)).mp ((al_iff (j := 12) (a := y1) (b := y2) (c := y3) (by decide)).mp h).2.1)⟩)
  · refine lv_tableIn (off := 71) (tgt := 72) hx hb dX4_fits_1 (by decide) (by decide) (by rfl) (by decide) ?_
    refine lv_iconst (v := 1) hx hb dX4_fits_72 (by decide) ?_
    exact retRZ (v := 1) hx hb hr hlocks hH (by first | rfl | exact zI_nar _) dX4_fits_73 (⟨true, rfl, fun _ => (al_iff (j := 13) (a := y1) (b := y2) (c := y3) (by decide)).mpr ⟨lim_z, lim_z, lim_z⟩, fun _ => rfl⟩)
  · refine lv_tableOut (tgt := 198) hx hb dX4_fits_1 ho (by decide) ?_
    refine lv_iconst (v := 0) hx hb dX4_fits_198 (by decide) ?_
    exact retRZ (v := 0) hx hb hr hlocks hH (by first | rfl | exact zI_nar _) dX4_fits_199 (⟨false, rfl, fun z => (by cases z), fun h => absurd h (al_no hno)⟩)
abbrev rmX4_line : Room := { frames := 3, cells := 0, slots := 0, locals := 68 }
theorem lk_X4_line : Lk yX4_line 4 := by decide +kernel
set_option maxHeartbeats 4000000 in
set_option maxRecDepth 100000 in
/-- line(kind, a, b, c) -/
theorem c_X4_line (l : Launch) (D : va_G) (k : Nat → ClassId) (ad : Nat → Nat) (V : St) {n : Nat} (hv : okV n (pq V)) (y0 y1 y2 y3 : Int32) : CtX noX l yX4_line cX4_line 5 (some .int) rmX4_line D (tyL k) (wQ k ad V) [.ref (ad 0), .int y0, .int y1, .int y2, .int y3] (qI D (wQ k ad) (fun r U => (¬ alR y0 y1 y2 y3 ∧ r = -1 ∧ U = V) ∨ (alR y0 y1 y2 y3 ∧ n = 24 ∧ r = -2 ∧ U = V) ∨ (alR y0 y1 y2 y3 ∧ n < 24 ∧ r = nI n ∧ wrQ n (n + 1) V U y0 y1 y2 y3))) := by
  refine CtX.mk (by decide) (Nat.le_of_ble_eq_true rfl) ?_
  intro p e s m below meth c hx hb hml hown hg hr hlocks hK hN A hA hX hh ls hl
  have hh : Hd D A (wQ k ad V) s.heap s.heap [] := hh
  have hl : lv_has ls 5 [(0, .ref (ad 0)), (1, .int y0), (2, .int y1), (3, .int y2), (4, .int y3)] := hl
  have h00 : V 0 0 = nI n := hv.2.1
  have hn24 := hv.1
  refine lv_iload_n hx hb dX4_line_0 rfl (lv_at hl 1 rfl) ?_
  refine lv_iload_n hx hb dX4_line_1 rfl (lv_at hl 2 rfl) ?_
  refine lv_iload_n hx hb dX4_line_2 rfl (lv_at hl 3 rfl) ?_
  refine lv_iload hx hb dX4_line_3 (lv_at hl 4 rfl) ?_
  refine callR (runS hx hb hg hown hml hl.1 (c_X4_fits l D k y0 y1 y2 y3) [.int y0, .int y1, .int y2, .int y3] [] (preR (mapSome_sub hh.1 [] rfl) hK hN xb0 x0) wd_661 wd_662 wd_53 wd_663 lk_X4_fits ⟨rfl, rfl⟩ ⟨by decide, by decide⟩ ⟨Nat.zero_le _, Nat.zero_le _⟩ rfl (Nat.le_of_ble_eq_true rfl) dX4_line_5) (fun r_5 q_5 => ?_)
  obtain ⟨bA, rfl, hbA⟩ := q_5
  refine lv_if_ne (tgt := 13) hx hb dX4_line_8 (by decide) (fun c_8 => ?_) (fun c_8 => ?_)
  · have c_8 := zI_ne c_8
    refine lv_aload_n hx hb dX4_line_13 rfl (lv_at hl 0 rfl) ?_
    refine gfl hx hb hg inX4 hown hK hh.1 0 (ci := 4) rfl rfl 0 (by decide) wd_551 rfl dX4_line_14 ?_
    refine topv (nI n) h00 ?_
    refine lv_bipush (v := 24) hx hb dX4_line_17 (by decide) ?_
    refine lv_icmp_ne (tgt := 25) hx hb dX4_line_19 (by decide) (fun c_19 => ?_) (fun c_19 => ?_)
    · have c_19 : ¬ n = 24 := fun z => c_19 ((nI_eq (a := n) (b := 24) (by omega) (by omega)).mpr z)
      refine lv_aload_n hx hb dX4_line_25 rfl (lv_at hl 0 rfl) ?_
      refine lv_aload_n hx hb dX4_line_26 rfl (lv_at hl 0 rfl) ?_
      refine gfl hx hb hg inX4 hown hK hh.1 0 (ci := 4) rfl rfl 0 (by decide) wd_551 rfl dX4_line_27 ?_
      refine topv (nI n) h00 ?_
      refine lv_iload_n hx hb dX4_line_30 rfl (lv_at hl 1 rfl) ?_
      refine lv_iload_n hx hb dX4_line_31 rfl (lv_at hl 2 rfl) ?_
      refine lv_iload_n hx hb dX4_line_32 rfl (lv_at hl 3 rfl) ?_
      refine lv_iload hx hb dX4_line_33 (lv_at hl 4 rfl) ?_
      refine callWV (D := D) (wn := fun u9 => wQ k ad u9) (wr := []) (runV hx hb hg hown hml hl.1 ((c_X4_write l D k ad V (q := n) (by omega) (y0) (y1) (y2) (y3)) s.heap.size) [.int (nI n), .int y0, .int y1, .int y2, .int y3] [] (preX (mapSome_sub hh.1 [0, 1, 2, 3, 4, 5, 6, 7, 8, 9, 10, 11, 12, 13, 14, 15, 16, 17, 18, 19, 20, 21, 22] rfl) (hh.2.1.sub [0, 1, 2, 3, 4, 5, 6, 7, 8, 9, 10, 11, 12, 13, 14, 15, 16, 17, 18, 19, 20, 21, 22] (by decide) rfl) hK hN xb0 x0) (va_recv hK hh.1 (ci := 4) (q0 := 0) rfl rfl) wd_673 wd_675 wd_24 wd_53 wd_676 lk_X4_write ⟨rfl, rfl⟩ ⟨by decide, by decide⟩ ⟨Nat.zero_le _, Nat.zero_le _⟩ rfl (Nat.le_of_ble_eq_true rfl) dX4_line_35) hA hh [0, 1, 2, 3, 4, 5, 6, 7, 8, 9, 10, 11, 12, 13, 14, 15, 16, 17, 18, 19, 20, 21, 22] [] [0, 1, 2, 3, 4, 5, 6, 7, 8, 9, 10, 11, 12, 13, 14, 15, 16, 17, 18, 19, 20, 21, 22] rfl rfl (by decide) (by decide) (by decide) (fun _ => rfl) (fun u9 H locs q_35 hh => ?_)
      have w9 := q_35
      refine lv_aload_n hx hb dX4_line_38 rfl (lv_at hl 0 rfl) ?_
      refine lv_dup hx hb dX4_line_39 rfl ?_
      refine gfl hx hb hg inX4 hown hK hh.1 0 (ci := 4) rfl rfl 0 (by decide) wd_551 rfl dX4_line_40 ?_
      refine topv (nI n) (by rw [w9]; exact h00) ?_
      refine lv_iconst (v := 1) hx hb dX4_line_43 (by decide) ?_
      refine lv_iadd hx hb dX4_line_44 ?_
      refine topv (nI (n + 1)) (nI_add n 1) ?_
      refine pfl hx hb hg inX4 tyX4 tyX4_ok nmX4 hown hK hh 0 (ci := 4) rfl rfl 0 (by decide) wd_551 rfl rfl rfl (Nat.le_of_ble_eq_true rfl) dX4_line_45 (wQ k ad (va_up u9 0 (upd (u9 0) 0 (nI (n + 1))))) rfl (fun H locs hh => ?_)
      refine lv_aload_n hx hb dX4_line_48 rfl (lv_at hl 0 rfl) ?_
      refine gfl hx hb hg inX4 hown hK hh.1 0 (ci := 4) rfl rfl 0 (by decide) wd_551 rfl dX4_line_49 ?_
      refine lv_iconst (v := 1) hx hb dX4_line_52 (by decide) ?_
      refine lv_isub hx hb dX4_line_53 ?_
      refine topv (nI (n + 1 - 1)) (pk_sub (a := n + 1) (b := 1) (by omega)) ?_
      exact retI (Wd := wQ k ad) (v := nI (n + 1 - 1)) (va_up u9 0 (upd (u9 0) 0 (nI (n + 1)))) hx hb hr hlocks dX4_line_54 hh (Or.inr (Or.inr ⟨hbA.mp c_8, by omega, rfl, ⟨fun i a b => by rw [up_n a, w9, up_n (by omega), up_n (by omega), up_n (by omega), up_n (by omega), up_n a], fun j a b => by rw [up_s, upd_n a, w9]; show upd (V 0) 22 0 j = V 0 j; rw [upd_n b], by rw [up_s, upd_n (by decide), w9]; rfl, by rw [up_s, upd_s], by rw [up_n (by decide), w9]; rfl, by rw [up_n (by decide), w9]; rfl, by rw [up_n (by decide), w9]; rfl, by rw [up_n (by decide), w9]; rfl⟩⟩))
    · have c_19 : n = 24 := (nI_eq (a := n) (b := 24) (by omega) (by omega)).mp c_19
      refine lv_bipush (v := (-2)) hx hb dX4_line_22 (by decide) ?_
      exact retI (Wd := wQ k ad) (v := (-2)) (V) hx hb hr hlocks dX4_line_24 hh (Or.inr (Or.inl ⟨hbA.mp c_8, c_19, rfl, rfl⟩))
  · have c_8 := zI_0.mp c_8
    refine lv_iconst (v := (-1)) hx hb dX4_line_11 (by decide) ?_
    exact retI (Wd := wQ k ad) (v := (-1)) (V) hx hb hr hlocks dX4_line_12 hh (Or.inl ⟨fun z => (by rw [hbA.mpr z] at c_8; cases c_8), rfl, rfl⟩)
abbrev rmX4_change : Room := { frames := 3, cells := 0, slots := 0, locals := 68 }
theorem lk_X4_change : Lk yX4_change 5 := by decide +kernel
set_option maxHeartbeats 4000000 in
set_option maxRecDepth 100000 in
/-- change(p, kind, a, b, c) -/
theorem c_X4_change (l : Launch) (D : va_G) (k : Nat → ClassId) (ad : Nat → Nat) (V : St) {n : Nat} (hv : okV n (pq V)) (x y0 y1 y2 y3 : Int32) : CtX noX l yX4_change cX4_change 7 (some .int) rmX4_change D (tyL k) (wQ k ad V) [.ref (ad 0), .int x, .int y0, .int y1, .int y2, .int y3] (qI D (wQ k ad) (fun r U => (¬ (rgt x n ∧ alR y0 y1 y2 y3) ∧ r = -1 ∧ U = V) ∨ (∃ q, q < n ∧ x = nI q ∧ alR y0 y1 y2 y3 ∧ r = V 1 q ∧ wrQ q n V U y0 y1 y2 y3))) := by
  refine CtX.mk (by decide) (Nat.le_of_ble_eq_true rfl) ?_
  intro p e s m below meth c hx hb hml hown hg hr hlocks hK hN A hA hX hh ls hl
  have hh : Hd D A (wQ k ad V) s.heap s.heap [] := hh
  have hl : lv_has ls 7 [(0, .ref (ad 0)), (1, .int x), (2, .int y0), (3, .int y1), (4, .int y2), (5, .int y3)] := hl
  have h00 : V 0 0 = nI n := hv.2.1
  have hn24 := hv.1
  refine lv_aload_n hx hb dX4_change_0 rfl (lv_at hl 0 rfl) ?_
  refine lv_iload_n hx hb dX4_change_1 rfl (lv_at hl 1 rfl) ?_
  refine callR (runV hx hb hg hown hml hl.1 (c_X4_isPlace l D k ad V hv (x)) [.int x] [] (preR (mapSome_sub hh.1 [0, 1, 2, 3, 4, 5, 6, 7, 8, 9, 10, 11, 12, 13, 14, 15, 16, 17, 18, 19, 20, 21, 22] rfl) hK hN xb0 x0) (va_recv hK hh.1 (ci := 4) (q0 := 0) rfl rfl) wd_681 wd_683 wd_25 wd_53 wd_684 lk_X4_isPlace ⟨rfl, rfl⟩ ⟨by decide, by decide⟩ ⟨Nat.zero_le _, Nat.zero_le _⟩ rfl (Nat.le_of_ble_eq_true rfl) dX4_change_2) (fun r_2 q_2 => ?_)
  obtain ⟨bP1, rfl, hP1⟩ := q_2
  refine lv_if_eq (tgt := 20) hx hb dX4_change_5 (by decide) (fun c_5 => ?_) (fun c_5 => ?_)
  · have c_5 := zI_0.mp c_5
    have c_5 : ¬ rgt x n := fun z => by rw [hP1.mpr z] at c_5; cases c_5
    refine lv_iconst (v := (-1)) hx hb dX4_change_20 (by decide) ?_
    exact retI (Wd := wQ k ad) (v := (-1)) (V) hx hb hr hlocks dX4_change_21 hh (Or.inl ⟨fun z => c_5 z.1, rfl, rfl⟩)
  · obtain ⟨q, hq, hxe⟩ := hP1.mp (zI_ne c_5)
    refine lv_iload_n hx hb dX4_change_8 rfl (lv_at hl 2 rfl) ?_
    refine lv_iload_n hx hb dX4_change_9 rfl (lv_at hl 3 rfl) ?_
    refine lv_iload hx hb dX4_change_10 (lv_at hl 4 rfl) ?_
    refine lv_iload hx hb dX4_change_12 (lv_at hl 5 rfl) ?_
    refine callR (runS hx hb hg hown hml hl.1 (c_X4_fits l D k y0 y1 y2 y3) [.int y0, .int y1, .int y2, .int y3] [] (preR (mapSome_sub hh.1 [] rfl) hK hN xb0 x0) wd_661 wd_662 wd_53 wd_663 lk_X4_fits ⟨rfl, rfl⟩ ⟨by decide, by decide⟩ ⟨Nat.zero_le _, Nat.zero_le _⟩ rfl (Nat.le_of_ble_eq_true rfl) dX4_change_14) (fun r_14 q_14 => ?_)
    obtain ⟨bA, rfl, hbA⟩ := q_14
    refine lv_if_ne (tgt := 22) hx hb dX4_change_17 (by decide) (fun c_17 => ?_) (fun c_17 => ?_)
    · have c_17 := zI_ne c_17
      refine lv_aload_n hx hb dX4_change_22 rfl (lv_at hl 0 rfl) ?_
      refine gfl hx hb hg inX4 hown hK hh.1 0 (ci := 4) rfl rfl 1 (by decide) wd_552 rfl dX4_change_23 ?_
      refine lv_iload_n hx hb dX4_change_26 rfl (lv_at hl 1 rfl) ?_
      refine topv (nI q) hxe ?_
      refine ldn hx hb hK hh.1 1 0 rfl rfl (by omega) (by decide) dX4_change_27 ?_
      refine lv_istore (lv' := [(6, .int ((V 1) q)), (0, .ref (ad 0)), (1, .int x), (2, .int y0), (3, .int y1), (4, .int y2), (5, .int y3)]) hx hb dX4_change_28 hl (by decide) rfl (fun ls hl => ?_)
      refine lv_aload_n hx hb dX4_change_30 rfl (lv_at hl 1 rfl) ?_
      refine lv_iload_n hx hb dX4_change_31 rfl (lv_at hl 2 rfl) ?_
      refine topv (nI q) hxe ?_
      refine lv_iload_n hx hb dX4_change_32 rfl (lv_at hl 3 rfl) ?_
      refine lv_iload_n hx hb dX4_change_33 rfl (lv_at hl 4 rfl) ?_
      refine lv_iload hx hb dX4_change_34 (lv_at hl 5 rfl) ?_
      refine lv_iload hx hb dX4_change_36 (lv_at hl 6 rfl) ?_
      refine callWV (D := D) (wn := fun u9 => wQ k ad u9) (wr := []) (runV hx hb hg hown hml hl.1 ((c_X4_write l D k ad V (q := q) (by omega) (y0) (y1) (y2) (y3)) s.heap.size) [.int (nI q), .int y0, .int y1, .int y2, .int y3] [] (preX (mapSome_sub hh.1 [0, 1, 2, 3, 4, 5, 6, 7, 8, 9, 10, 11, 12, 13, 14, 15, 16, 17, 18, 19, 20, 21, 22] rfl) (hh.2.1.sub [0, 1, 2, 3, 4, 5, 6, 7, 8, 9, 10, 11, 12, 13, 14, 15, 16, 17, 18, 19, 20, 21, 22] (by decide) rfl) hK hN xb0 x0) (va_recv hK hh.1 (ci := 4) (q0 := 0) rfl rfl) wd_673 wd_675 wd_24 wd_53 wd_676 lk_X4_write ⟨rfl, rfl⟩ ⟨by decide, by decide⟩ ⟨Nat.zero_le _, Nat.zero_le _⟩ rfl (Nat.le_of_ble_eq_true rfl) dX4_change_38) hA hh [0, 1, 2, 3, 4, 5, 6, 7, 8, 9, 10, 11, 12, 13, 14, 15, 16, 17, 18, 19, 20, 21, 22] [] [0, 1, 2, 3, 4, 5, 6, 7, 8, 9, 10, 11, 12, 13, 14, 15, 16, 17, 18, 19, 20, 21, 22] rfl rfl (by decide) (by decide) (by decide) (fun _ => rfl) (fun u9 H locs q_38 hh => ?_)
      have w9 := q_38
      refine lv_iload hx hb dX4_change_41 (lv_at hl 0 rfl) ?_
      exact retI (Wd := wQ k ad) (v := (V 1) q) (u9) hx hb hr hlocks dX4_change_43 hh (Or.inr ⟨q, hq, hxe, hbA.mp c_17, rfl, ⟨fun i a b => by rw [w9, up_n (by omega), up_n (by omega), up_n (by omega), up_n (by omega), up_n a], fun j a b => by rw [w9]; show upd (V 0) 22 0 j = V 0 j; rw [upd_n b], by rw [w9]; rfl, by rw [w9]; exact h00, by rw [w9]; rfl, by rw [w9]; rfl, by rw [w9]; rfl, by rw [w9]; rfl⟩⟩)
    · have c_17 := zI_0.mp c_17
      refine lv_iconst (v := (-1)) hx hb dX4_change_20 (by decide) ?_
      exact retI (Wd := wQ k ad) (v := (-1)) (V) hx hb hr hlocks dX4_change_21 hh (Or.inl ⟨fun z => (by rw [hbA.mpr z.2] at c_17; cases c_17), rfl, rfl⟩)
abbrev rmX4_points : Room := { frames := 1, cells := 0, slots := 0, locals := 25 }
theorem lk_X4_points : Lk yX4_points 2 := by decide +kernel
set_option maxHeartbeats 4000000 in
set_option maxRecDepth 100000 in
/-- points(name, rows) -/
theorem c_X4_points (l : Launch) (D : va_G) (k : Nat → ClassId) (ad : Nat → Nat) (V : St) (x y : Int32) : CtX noX l yX4_points cX4_points 4 (some .int) rmX4_points D (tyL k) (wQ k ad V) [.ref (ad 0), .int x, .int y] (qI D (wQ k ad) (fun r U => (¬ (rgt x 4 ∧ rgt y 16 ∧ ¬ y = 0) ∧ r = -1 ∧ U = V) ∨ (∃ q, q < 4 ∧ x = nI q ∧ (rgt y 16 ∧ ¬ y = 0) ∧ r = V 8 q ∧ U = va_up (va_up V 8 (upd (V 8) q y)) 0 (upd (V 0) 22 0)))) := by
  refine CtX.mk (by decide) (Nat.le_of_ble_eq_true rfl) ?_
  intro p e s m below meth c hx hb hml hown hg hr hlocks hK hN A hA hX hh ls hl
  have hh : Hd D A (wQ k ad V) s.heap s.heap [] := hh
  have hl : lv_has ls 4 [(0, .ref (ad 0)), (1, .int x), (2, .int y)] := hl
  refine lv_iload_n hx hb dX4_points_0 rfl (lv_at hl 1 rfl) ?_
  refine lv_i2l (v := x.toInt64) hx hb dX4_points_1 rfl ?_
  refine lv_lconst (v := 0) hx hb dX4_points_2 (by decide) ?_
  refine lv_ldc2 (v := 3) hx hb hown (hg _ wd_671) dX4_points_3 ?_
  refine callR (runS hx hb hg hown hml hl.1 (c_X4_in l D k (x.toInt64) (0) (3)) [.long x.toInt64, .long 0, .long 3] [] (preR (mapSome_sub hh.1 [] rfl) hK hN xb0 x0) wd_668 wd_669 wd_53 wd_670 lk_X4_in ⟨rfl, rfl⟩ ⟨by decide, by decide⟩ ⟨Nat.zero_le _, Nat.zero_le _⟩ rfl (Nat.le_of_ble_eq_true rfl) dX4_points_6) (fun r_6 q_6 => ?_)
  have hB9 := inB_rgt (x := x) (lo := 0) (hi := 3) (n := 4) (by omega) (by decide) (by decide)
  obtain rfl := q_6
  refine lv_if_eq (tgt := 24) hx hb dX4_points_9 (by decide) (fun c_9 => ?_) (fun c_9 => ?_)
  · have c_9 : ¬ rgt x 4 := fun z => by rw [hB9.mpr z] at c_9; exact absurd c_9 (by decide)
    refine lv_iconst (v := (-1)) hx hb dX4_points_24 (by decide) ?_
    exact retI (Wd := wQ k ad) (v := (-1)) (V) hx hb hr hlocks dX4_points_25 hh (Or.inl ⟨fun z => c_9 z.1, rfl, rfl⟩)
  · have c_9 := zI_ne c_9
    obtain ⟨q, hq, hxe⟩ := hB9.mp c_9
    refine lv_iload_n hx hb dX4_points_12 rfl (lv_at hl 2 rfl) ?_
    refine lv_i2l (v := y.toInt64) hx hb dX4_points_13 rfl ?_
    refine lv_lconst (v := 1) hx hb dX4_points_14 (by decide) ?_
    refine lv_ldc2 (v := 15) hx hb hown (hg _ wd_697) dX4_points_15 ?_
    refine callR (runS hx hb hg hown hml hl.1 (c_X4_in l D k (y.toInt64) (1) (15)) [.long y.toInt64, .long 1, .long 15] [] (preR (mapSome_sub hh.1 [] rfl) hK hN xb0 x0) wd_668 wd_669 wd_53 wd_670 lk_X4_in ⟨rfl, rfl⟩ ⟨by decide, by decide⟩ ⟨Nat.zero_le _, Nat.zero_le _⟩ rfl (Nat.le_of_ble_eq_true rfl) dX4_points_18) (fun r_18 q_18 => ?_)
    obtain rfl := q_18
    refine lv_if_ne (tgt := 26) hx hb dX4_points_21 (by decide) (fun c_21 => ?_) (fun c_21 => ?_)
    · have c_21 := in_pt.mp (zI_ne c_21)
      refine lv_aload_n hx hb dX4_points_26 rfl (lv_at hl 0 rfl) ?_
      refine gfl hx hb hg inX4 hown hK hh.1 0 (ci := 4) rfl rfl 8 (by decide) wd_559 rfl dX4_points_27 ?_
      refine lv_iload_n hx hb dX4_points_30 rfl (lv_at hl 1 rfl) ?_
      refine topv (nI q) hxe ?_
      refine ldn hx hb hK hh.1 8 0 rfl rfl (by omega) (by decide) dX4_points_31 ?_
      refine lv_istore_n (lv' := [(3, .int ((V 8) q)), (0, .ref (ad 0)), (1, .int x), (2, .int y)]) hx hb dX4_points_32 rfl hl (by decide) rfl (fun ls hl => ?_)
      refine lv_aload_n hx hb dX4_points_33 rfl (lv_at hl 1 rfl) ?_
      refine gfl hx hb hg inX4 hown hK hh.1 0 (ci := 4) rfl rfl 8 (by decide) wd_559 rfl dX4_points_34 ?_
      refine lv_iload_n hx hb dX4_points_37 rfl (lv_at hl 2 rfl) ?_
      refine topv (nI q) hxe ?_
      refine lv_iload_n hx hb dX4_points_38 rfl (lv_at hl 3 rfl) ?_
      refine stn (j := q) hx hb hK hh 8 0 rfl rfl (by omega) (by decide) dX4_points_39 (wQ k ad (va_up V 8 (upd (V 8) q y))) rfl (fun H locs hh => ?_)
      refine lv_aload_n hx hb dX4_points_40 rfl (lv_at hl 1 rfl) ?_
      refine lv_iconst (v := 0) hx hb dX4_points_41 (by decide) ?_
      refine pfl hx hb hg inX4 tyX4 tyX4_ok nmX4 hown hK hh 0 (ci := 4) rfl rfl 22 (by decide) wd_573 rfl rfl rfl (Nat.le_of_ble_eq_true rfl) dX4_points_42 (wQ k ad (va_up (va_up V 8 (upd (V 8) q y)) 0 (upd ((va_up V 8 (upd (V 8) q y)) 0) 22 0))) rfl (fun H locs hh => ?_)
      refine lv_iload_n hx hb dX4_points_45 rfl (lv_at hl 0 rfl) ?_
      exact retI (Wd := wQ k ad) (v := (V 8) q) (va_up (va_up V 8 (upd (V 8) q y)) 0 (upd ((va_up V 8 (upd (V 8) q y)) 0) 22 0)) hx hb hr hlocks dX4_points_46 hh (Or.inr ⟨q, hq, hxe, c_21, rfl, rfl⟩)
    · have c_21 : ¬ (rgt y 16 ∧ ¬ y = 0) := fun z => by rw [in_pt.mpr z] at c_21; exact absurd c_21 (by decide)
      refine lv_iconst (v := (-1)) hx hb dX4_points_24 (by decide) ?_
      exact retI (Wd := wQ k ad) (v := (-1)) (V) hx hb hr hlocks dX4_points_25 hh (Or.inl ⟨fun z => c_21 z.2, rfl, rfl⟩)
abbrev rmX4_saw : Room := { frames := 1, cells := 0, slots := 0, locals := 25 }
theorem lk_X4_saw : Lk yX4_saw 1 := by decide +kernel
set_option maxHeartbeats 4000000 in
set_option maxRecDepth 100000 in
/-- saw(k) -/
theorem c_X4_saw (l : Launch) (D : va_G) (k : Nat → ClassId) (ad : Nat → Nat) (V : St) {c9 : Nat} (h12 : V 0 12 = nI c9) (hc9 : c9 ≤ 100) (x : Int32) : CtR noX l yX4_saw cX4_saw 2 (some .int) rmX4_saw D (tyL k) (wQ k ad V) [.ref (ad 0), .int x] (fun r => (∃ q, q < c9 ∧ x = nI q ∧ r = V 10 q) ∨ (¬ rgt x c9 ∧ r = 0)) := by
  refine CtR.mk (by decide) (Nat.le_of_ble_eq_true rfl) ?_
  intro p e s m below meth c hx hb hml hown hg hr hlocks hK hN hX H hH hP ls hl
  have hl : lv_has ls 2 [(0, .ref (ad 0)), (1, .int x)] := hl
  refine lv_iload_n hx hb dX4_saw_0 rfl (lv_at hl 1 rfl) ?_
  refine lv_i2l (v := x.toInt64) hx hb dX4_saw_1 rfl ?_
  refine lv_lconst (v := 0) hx hb dX4_saw_2 (by decide) ?_
  refine lv_aload_n hx hb dX4_saw_3 rfl (lv_at hl 0 rfl) ?_
  refine gfl hx hb hg inX4 hown hK hP 0 (ci := 4) rfl rfl 12 (by decide) wd_563 rfl dX4_saw_4 ?_
  refine topv (nI c9) h12 ?_
  refine lv_iconst (v := 1) hx hb dX4_saw_7 (by decide) ?_
  refine lv_isub hx hb dX4_saw_8 ?_
  refine lv_i2l (v := ((nI c9) - 1).toInt64) hx hb dX4_saw_9 rfl ?_
  refine callR (runS hx hb hg hown hml hl.1 (c_X4_in l D k (x.toInt64) (0) (((nI c9) - 1).toInt64)) [.long x.toInt64, .long 0, .long (((nI c9) - 1).toInt64)] [] (preR (mapSome_sub hP [] rfl) hK hN xb0 x0) wd_668 wd_669 wd_53 wd_670 lk_X4_in ⟨rfl, rfl⟩ ⟨by decide, by decide⟩ ⟨Nat.zero_le _, Nat.zero_le _⟩ rfl (Nat.le_of_ble_eq_true rfl) dX4_saw_10) (fun r_10 q_10 => ?_)
  have hB9 := inB_rgt (x := x) (lo := 0) (hi := ((nI c9) - 1).toInt64) (n := c9) (by omega) (by decide) (by rw [l_ti]; exact pk_sub_toInt (a := c9) (b := 1) (by omega) (by omega))
  obtain rfl := q_10
  refine lv_if_eq (tgt := 25) hx hb dX4_saw_13 (by decide) (fun c_13 => ?_) (fun c_13 => ?_)
  · have c_13 : ¬ rgt x c9 := fun z => by rw [hB9.mpr z] at c_13; exact absurd c_13 (by decide)
    refine lv_iconst (v := 0) hx hb dX4_saw_25 (by decide) ?_
    exact retRI (v := 0) hx hb hr hlocks hH dX4_saw_26 (Or.inr ⟨c_13, rfl⟩)
  · have c_13 := zI_ne c_13
    obtain ⟨q, hq, hxe⟩ := hB9.mp c_13
    refine lv_aload_n hx hb dX4_saw_16 rfl (lv_at hl 0 rfl) ?_
    refine gfl hx hb hg inX4 hown hK hP 0 (ci := 4) rfl rfl 13 (by decide) wd_564 rfl dX4_saw_17 ?_
    refine lv_iload_n hx hb dX4_saw_20 rfl (lv_at hl 1 rfl) ?_
    refine topv (nI q) hxe ?_
    refine ldn hx hb hK hP 10 0 rfl rfl (by omega) (by decide) dX4_saw_21 ?_
    refine lv_goto (tgt := 26) hx hb dX4_saw_22 (by decide) ?_
    exact retRI (v := (V 10) q) hx hb hr hlocks hH dX4_saw_26 (Or.inl ⟨q, hq, hxe, rfl⟩)
abbrev rmX4_on_ : Room := { frames := 1, cells := 0, slots := 0, locals := 25 }
theorem lk_X4_on_ : Lk yX4_on_ 1 := by decide +kernel
set_option maxHeartbeats 4000000 in
set_option maxRecDepth 100000 in
/-- on(k) -/
theorem c_X4_on_ (l : Launch) (D : va_G) (k : Nat → ClassId) (ad : Nat → Nat) (V : St) {c9 : Nat} (h17 : V 0 17 = nI c9) (hc9 : c9 ≤ 24) (x : Int32) : CtR noX l yX4_on_ cX4_on_ 2 (some .int) rmX4_on_ D (tyL k) (wQ k ad V) [.ref (ad 0), .int x] (fun r => (∃ q, q < c9 ∧ x = nI q ∧ r = V 12 q) ∨ (¬ rgt x c9 ∧ r = -4)) := by
  refine CtR.mk (by decide) (Nat.le_of_ble_eq_true rfl) ?_
  intro p e s m below meth c hx hb hml hown hg hr hlocks hK hN hX H hH hP ls hl
  have hl : lv_has ls 2 [(0, .ref (ad 0)), (1, .int x)] := hl
  refine lv_iload_n hx hb dX4_on__0 rfl (lv_at hl 1 rfl) ?_
  refine lv_i2l (v := x.toInt64) hx hb dX4_on__1 rfl ?_
  refine lv_lconst (v := 0) hx hb dX4_on__2 (by decide) ?_
  refine lv_aload_n hx hb dX4_on__3 rfl (lv_at hl 0 rfl) ?_
  refine gfl hx hb hg inX4 hown hK hP 0 (ci := 4) rfl rfl 17 (by decide) wd_568 rfl dX4_on__4 ?_
  refine topv (nI c9) h17 ?_
  refine lv_iconst (v := 1) hx hb dX4_on__7 (by decide) ?_
  refine lv_isub hx hb dX4_on__8 ?_
  refine lv_i2l (v := ((nI c9) - 1).toInt64) hx hb dX4_on__9 rfl ?_
  refine callR (runS hx hb hg hown hml hl.1 (c_X4_in l D k (x.toInt64) (0) (((nI c9) - 1).toInt64)) [.long x.toInt64, .long 0, .long (((nI c9) - 1).toInt64)] [] (preR (mapSome_sub hP [] rfl) hK hN xb0 x0) wd_668 wd_669 wd_53 wd_670 lk_X4_in ⟨rfl, rfl⟩ ⟨by decide, by decide⟩ ⟨Nat.zero_le _, Nat.zero_le _⟩ rfl (Nat.le_of_ble_eq_true rfl) dX4_on__10) (fun r_10 q_10 => ?_)
  have hB9 := inB_rgt (x := x) (lo := 0) (hi := ((nI c9) - 1).toInt64) (n := c9) (by omega) (by decide) (by rw [l_ti]; exact pk_sub_toInt (a := c9) (b := 1) (by omega) (by omega))
  obtain rfl := q_10
  refine lv_if_eq (tgt := 25) hx hb dX4_on__13 (by decide) (fun c_13 => ?_) (fun c_13 => ?_)
  · have c_13 : ¬ rgt x c9 := fun z => by rw [hB9.mpr z] at c_13; exact absurd c_13 (by decide)
    refine lv_bipush (v := (-4)) hx hb dX4_on__25 (by decide) ?_
    exact retRI (v := (-4)) hx hb hr hlocks hH dX4_on__27 (Or.inr ⟨c_13, rfl⟩)
  · have c_13 := zI_ne c_13
    obtain ⟨q, hq, hxe⟩ := hB9.mp c_13
    refine lv_aload_n hx hb dX4_on__16 rfl (lv_at hl 0 rfl) ?_
    refine gfl hx hb hg inX4 hown hK hP 0 (ci := 4) rfl rfl 18 (by decide) wd_569 rfl dX4_on__17 ?_
    refine lv_iload_n hx hb dX4_on__20 rfl (lv_at hl 1 rfl) ?_
    refine topv (nI q) hxe ?_
    refine ldn hx hb hK hP 12 0 rfl rfl (by omega) (by decide) dX4_on__21 ?_
    refine lv_goto (tgt := 27) hx hb dX4_on__22 (by decide) ?_
    exact retRI (v := (V 12) q) hx hb hr hlocks hH dX4_on__27 (Or.inl ⟨q, hq, hxe, rfl⟩)
abbrev rmX4_left : Room := { frames := 1, cells := 0, slots := 0, locals := 25 }
theorem lk_X4_left : Lk yX4_left 1 := by decide +kernel
set_option maxHeartbeats 4000000 in
set_option maxRecDepth 100000 in
/-- left(what) -/
theorem c_X4_left (l : Launch) (D : va_G) (k : Nat → ClassId) (ad : Nat → Nat) (V : St) (x : Int32) : CtR noX l yX4_left cX4_left 2 (some .int) rmX4_left D (tyL k) (wQ k ad V) [.ref (ad 0), .int x] (fun r => (x = 0 ∧ r = V 0 14) ∨ (x = 1 ∧ r = V 0 15) ∨ (∃ q, q < 8 ∧ x = nI (q + 2) ∧ r = V 11 q) ∨ (¬ rgt x 10 ∧ r = 0)) := by
  refine CtR.mk (by decide) (Nat.le_of_ble_eq_true rfl) ?_
  intro p e s m below meth c hx hb hml hown hg hr hlocks hK hN hX H hH hP ls hl
  have hl : lv_has ls 2 [(0, .ref (ad 0)), (1, .int x)] := hl
  refine lv_iload_n hx hb dX4_left_0 rfl (lv_at hl 1 rfl) ?_
  refine lv_if_ne (tgt := 11) hx hb dX4_left_1 (by decide) (fun c_1 => ?_) (fun c_1 => ?_)
  · refine lv_iload_n hx hb dX4_left_11 rfl (lv_at hl 1 rfl) ?_
    refine lv_iconst (v := 1) hx hb dX4_left_12 (by decide) ?_
    refine lv_icmp_ne (tgt := 23) hx hb dX4_left_13 (by decide) (fun c_13 => ?_) (fun c_13 => ?_)
    · refine lv_iload_n hx hb dX4_left_23 rfl (lv_at hl 1 rfl) ?_
      refine lv_i2l (v := x.toInt64) hx hb dX4_left_24 rfl ?_
      refine lv_ldc2 (v := 2) hx hb hown (hg _ wd_830) dX4_left_25 ?_
      refine lv_ldc2 (v := 9) hx hb hown (hg _ wd_831) dX4_left_28 ?_
      refine callR (runS hx hb hg hown hml hl.1 (c_X4_in l D k (x.toInt64) (2) (9)) [.long x.toInt64, .long 2, .long 9] [] (preR (mapSome_sub hP [] rfl) hK hN xb0 x0) wd_668 wd_669 wd_53 wd_670 lk_X4_in ⟨rfl, rfl⟩ ⟨by decide, by decide⟩ ⟨Nat.zero_le _, Nat.zero_le _⟩ rfl (Nat.le_of_ble_eq_true rfl) dX4_left_31) (fun r_31 q_31 => ?_)
      obtain rfl := q_31
      refine lv_if_eq (tgt := 48) hx hb dX4_left_34 (by decide) (fun c_34 => ?_) (fun c_34 => ?_)
      · have c_34 : ¬ ∃ q, q < 8 ∧ x = nI (q + 2) := fun z => by rw [in_29.mpr z] at c_34; exact absurd c_34 (by decide)
        refine lv_iconst (v := 0) hx hb dX4_left_48 (by decide) ?_
        exact retRI (v := 0) hx hb hr hlocks hH dX4_left_49 (Or.inr (Or.inr (Or.inr ⟨left_no2 c_1 c_13 c_34, rfl⟩)))
      · obtain ⟨q, hq, hxe⟩ := in_29.mp (zI_ne c_34)
        refine lv_aload_n hx hb dX4_left_37 rfl (lv_at hl 0 rfl) ?_
        refine gfl hx hb hg inX4 hown hK hP 0 (ci := 4) rfl rfl 16 (by decide) wd_567 rfl dX4_left_38 ?_
        refine lv_iload_n hx hb dX4_left_41 rfl (lv_at hl 1 rfl) ?_
        refine topv (nI (q + 2)) hxe ?_
        refine lv_iconst (v := 2) hx hb dX4_left_42 (by decide) ?_
        refine lv_isub hx hb dX4_left_43 ?_
        refine topv (nI (q + 2 - 2)) (pk_sub (a := q + 2) (b := 2) (by omega)) ?_
        refine topv (nI q) rfl ?_
        refine ldn hx hb hK hP 11 0 rfl rfl (by omega) (by decide) dX4_left_44 ?_
        refine lv_goto (tgt := 49) hx hb dX4_left_45 (by decide) ?_
        exact retRI (v := (V 11) q) hx hb hr hlocks hH dX4_left_49 (Or.inr (Or.inr (Or.inl ⟨q, hq, hxe, rfl⟩)))
    · refine lv_aload_n hx hb dX4_left_16 rfl (lv_at hl 0 rfl) ?_
      refine gfl hx hb hg inX4 hown hK hP 0 (ci := 4) rfl rfl 15 (by decide) wd_566 rfl dX4_left_17 ?_
      refine lv_goto (tgt := 49) hx hb dX4_left_20 (by decide) ?_
      exact retRI (v := V 0 15) hx hb hr hlocks hH dX4_left_49 (Or.inr (Or.inl ⟨c_13, rfl⟩))
  · refine lv_aload_n hx hb dX4_left_4 rfl (lv_at hl 0 rfl) ?_
    refine gfl hx hb hg inX4 hown hK hP 0 (ci := 4) rfl rfl 14 (by decide) wd_565 rfl dX4_left_5 ?_
    refine lv_goto (tgt := 49) hx hb dX4_left_8 (by decide) ?_
    exact retRI (v := V 0 14) hx hb hr hlocks hH dX4_left_49 (Or.inl ⟨c_1, rfl⟩)
abbrev rmX4_test : Room := { frames := 0, cells := 0, slots := 0, locals := 0 }
theorem lk_X4_test : Lk yX4_test 0 := by decide +kernel
set_option maxHeartbeats 4000000 in
set_option maxRecDepth 100000 in
/-- test() -/
theorem c_X4_test (l : Launch) (D : va_G) (k : Nat → ClassId) (ad : Nat → Nat) (V : St) {t : Nat} (h9 : V 0 9 = nI t) (ht : t ≤ 3) : CtX noX l yX4_test cX4_test 2 (some .int) rmX4_test D (tyL k) (wQ k ad V) [.ref (ad 0)] (qI D (wQ k ad) (fun r U => (t = 3 ∧ r = -2 ∧ U = V) ∨ (t < 3 ∧ r = nI t ∧ (∀ c, ¬ c = 0 → ¬ c = 9 → U c = V c) ∧ (∀ j, ¬ j = 9 → U 0 j = V 0 j) ∧ U 0 9 = nI (t + 1) ∧ (∀ j, j < 4 → U 9 (4 * t + j) = V 5 j) ∧ ∀ j, j < 4 * t → U 9 j = V 9 j))) := by
  refine CtX.mk (by decide) (Nat.le_of_ble_eq_true rfl) ?_
  intro p e s m below meth c hx hb hml hown hg hr hlocks hK hN A hA hX hh ls hl
  have hh : Hd D A (wQ k ad V) s.heap s.heap [] := hh
  have hl : lv_has ls 2 [(0, .ref (ad 0))] := hl
  refine lv_aload_n hx hb dX4_test_0 rfl (lv_at hl 0 rfl) ?_
  refine gfl hx hb hg inX4 hown hK hh.1 0 (ci := 4) rfl rfl 9 (by decide) wd_560 rfl dX4_test_1 ?_
  refine topv (nI t) h9 ?_
  refine lv_iconst (v := 3) hx hb dX4_test_4 (by decide) ?_
  refine lv_icmp_ne (tgt := 11) hx hb dX4_test_5 (by decide) (fun c_5 => ?_) (fun c_5 => ?_)
  · have c_5 : ¬ t = 3 := fun z => c_5 ((nI_eq (a := t) (b := 3) (by omega) (by omega)).mpr z)
    refine lv_iconst (v := 0) hx hb dX4_test_11 (by decide) ?_
    refine lv_istore_n (lv' := [(1, .int 0), (0, .ref (ad 0))]) hx hb dX4_test_12 rfl hl (by decide) rfl (fun ls hl => ?_)
    refine loopW (σ := Nat × St) (fun zz9 H locs ls => match zz9 with | (i, U) => Hd D A (wQ k ad U) s.heap H locs ∧ lv_has ls 2 [(0, .ref (ad 0)), (1, .int (nI i))] ∧ (i ≤ 4) ∧ (Fr [9] V U) ∧ (∀ j, j < i → U 9 (4 * t + j) = V 5 j) ∧ (∀ j, j < 4 * t → U 9 j = V 9 j)) (fun zz9 => match zz9 with | (i, U) => 4 - i) ?_ (0, V) ⟨hh, (lv_sub hl [1, 0] rfl), (by omega), Fr.rf, (fun j hj => absurd hj (Nat.not_lt_zero _)), (fun j hj => rfl)⟩
    intro zz9 H locs ls hI ih
    obtain ⟨i, U⟩ := zz9
    obtain ⟨hh, hl, hi, hf, hA2, hB2⟩ := hI
    refine lv_iload_n hx hb dX4_test_13 rfl (lv_at hl 1 rfl) ?_
    refine lv_iconst (v := 4) hx hb dX4_test_14 (by decide) ?_
    refine lv_icmp_ge (tgt := 43) hx hb dX4_test_15 (by decide) (fun c_15 => ?_) (fun c_15 => ?_)
    · have c_15 : 4 ≤ i := (nI_leI (a := 4) (b := i) (by omega) (by omega)).mp c_15
      refine lv_aload_n hx hb dX4_test_43 rfl (lv_at hl 0 rfl) ?_
      refine lv_dup hx hb dX4_test_44 rfl ?_
      refine gfl hx hb hg inX4 hown hK hh.1 0 (ci := 4) rfl rfl 9 (by decide) wd_560 rfl dX4_test_45 ?_
      refine topv (nI t) (by rw [hf 0 (by decide)]; exact h9) ?_
      refine lv_iconst (v := 1) hx hb dX4_test_48 (by decide) ?_
      refine lv_iadd hx hb dX4_test_49 ?_
      refine topv (nI (t + 1)) (nI_add t 1) ?_
      refine pfl hx hb hg inX4 tyX4 tyX4_ok nmX4 hown hK hh 0 (ci := 4) rfl rfl 9 (by decide) wd_560 rfl rfl rfl (Nat.le_of_ble_eq_true rfl) dX4_test_50 (wQ k ad (va_up U 0 (upd (U 0) 9 (nI (t + 1))))) rfl (fun H locs hh => ?_)
      refine lv_aload_n hx hb dX4_test_53 rfl (lv_at hl 0 rfl) ?_
      refine gfl hx hb hg inX4 hown hK hh.1 0 (ci := 4) rfl rfl 9 (by decide) wd_560 rfl dX4_test_54 ?_
      refine lv_iconst (v := 1) hx hb dX4_test_57 (by decide) ?_
      refine lv_isub hx hb dX4_test_58 ?_
      refine topv (nI (t + 1 - 1)) (pk_sub (a := t + 1) (b := 1) (by omega)) ?_
      exact retI (Wd := wQ k ad) (v := nI (t + 1 - 1)) (va_up U 0 (upd (U 0) 9 (nI (t + 1)))) hx hb hr hlocks dX4_test_59 hh (Or.inr ⟨by omega, rfl, fun c a b => by rw [up_n a]; exact hf c (by simp; omega), fun j a => by rw [up_s, upd_n a, hf 0 (by decide)], by rw [up_s, upd_s], fun j hj => by rw [up_n (by decide)]; exact hA2 j (by omega), fun j hj => by rw [up_n (by decide)]; exact hB2 j hj⟩)
    · have c_15 : ¬ 4 ≤ i := fun z => c_15 ((nI_leI (a := 4) (b := i) (by omega) (by omega)).mpr z)
      refine lv_aload_n hx hb dX4_test_18 rfl (lv_at hl 0 rfl) ?_
      refine gfl hx hb hg inX4 hown hK hh.1 0 (ci := 4) rfl rfl 10 (by decide) wd_561 rfl dX4_test_19 ?_
      refine lv_iconst (v := 4) hx hb dX4_test_22 (by decide) ?_
      refine lv_aload_n hx hb dX4_test_23 rfl (lv_at hl 0 rfl) ?_
      refine gfl hx hb hg inX4 hown hK hh.1 0 (ci := 4) rfl rfl 9 (by decide) wd_560 rfl dX4_test_24 ?_
      refine topv (nI t) (by rw [hf 0 (by decide)]; exact h9) ?_
      refine lv_imul hx hb dX4_test_27 ?_
      refine topv (nI (4 * t)) (pk_mul 4 t) ?_
      refine lv_iload_n hx hb dX4_test_28 rfl (lv_at hl 1 rfl) ?_
      refine lv_iadd hx hb dX4_test_29 ?_
      refine topv (nI (4 * t + i)) (nI_add (4 * t) i) ?_
      refine lv_aload_n hx hb dX4_test_30 rfl (lv_at hl 0 rfl) ?_
      refine gfl hx hb hg inX4 hown hK hh.1 0 (ci := 4) rfl rfl 5 (by decide) wd_556 rfl dX4_test_31 ?_
      refine lv_iload_n hx hb dX4_test_34 rfl (lv_at hl 1 rfl) ?_
      refine ldn hx hb hK hh.1 5 0 rfl rfl (by omega) (by decide) dX4_test_35 ?_
      refine stn (j := (4 * t + i)) hx hb hK hh 9 0 rfl rfl (by omega) (by decide) dX4_test_36 (wQ k ad (va_up U 9 (upd (U 9) (4 * t + i) ((U 5) i)))) rfl (fun H locs hh => ?_)
      refine lv_iinc (v := nI (i + 1)) (lv' := [(1, .int (nI (i + 1))), (0, .ref (ad 0))]) hx hb dX4_test_37 hl (k := 1) rfl (nI_succ i).symm (by decide) rfl (fun ls hl => ?_)
      refine lv_goto (tgt := 13) hx hb dX4_test_40 (by decide) ?_
      exact ih (i + 1, va_up U 9 (upd (U 9) (4 * t + i) ((U 5) i))) _ _ _ ⟨hh, (lv_sub hl [1, 0] rfl), (by omega), (hf.up (by decide)), (fun j hj => by rcases Classical.em (j = i) with e | e; (subst e; rw [up_s, upd_s, hf 5 (by decide)]); (rw [up_s, upd_n (by omega)]; exact hA2 j (by omega))), (fun j hj => by rw [up_s, upd_n (by omega)]; exact hB2 j hj)⟩ (by dsimp only; omega)
  · have c_5 : t = 3 := (nI_eq (a := t) (b := 3) (by omega) (by omega)).mp c_5
    refine lv_bipush (v := (-2)) hx hb dX4_test_8 (by decide) ?_
    exact retI (Wd := wQ k ad) (v := (-2)) (V) hx hb hr hlocks dX4_test_10 hh (Or.inl ⟨c_5, rfl, rfl⟩)
abbrev rmX4_follows : Room := { frames := 4, cells := 0, slots := 0, locals := 95 }
theorem lk_X4_follows : Lk yX4_follows 1 := by decide +kernel
set_option maxHeartbeats 4000000 in
set_option maxRecDepth 100000 in
/-- follows(p) -/
theorem c_X4_follows (l : Launch) (D : va_G) (k : Nat → ClassId) (ad : Nat → Nat) (V : St) {n : Nat} (hv : okV n (pq V)) (x : Int32) : CtR noX l yX4_follows cX4_follows 2 (some .int) rmX4_follows D (tyL k) (wQ k ad V) [.ref (ad 0), .int x] (fun r => flR n (pq V) x r) := by
  refine CtR.mk (by decide) (Nat.le_of_ble_eq_true rfl) ?_
  intro p e s m below meth c hx hb hml hown hg hr hlocks hK hN hX H hH hP ls hl
  have hl : lv_has ls 2 [(0, .ref (ad 0)), (1, .int x)] := hl
  have h00 : V 0 0 = nI n := hv.2.1
  have hn24 := hv.1
  refine lv_aload_n hx hb dX4_follows_0 rfl (lv_at hl 0 rfl) ?_
  refine lv_iload_n hx hb dX4_follows_1 rfl (lv_at hl 1 rfl) ?_
  refine callR (runV hx hb hg hown hml hl.1 (c_X4_isPlace l D k ad V hv (x)) [.int x] [] (preR (mapSome_sub hP [0, 1, 2, 3, 4, 5, 6, 7, 8, 9, 10, 11, 12, 13, 14, 15, 16, 17, 18, 19, 20, 21, 22] rfl) hK hN xb0 x0) (va_recv hK hP (ci := 4) (q0 := 0) rfl rfl) wd_681 wd_683 wd_25 wd_53 wd_684 lk_X4_isPlace ⟨rfl, rfl⟩ ⟨by decide, by decide⟩ ⟨Nat.zero_le _, Nat.zero_le _⟩ rfl (Nat.le_of_ble_eq_true rfl) dX4_follows_2) (fun r_2 q_2 => ?_)
  obtain ⟨bP1, rfl, hP1⟩ := q_2
  refine lv_if_eq (tgt := 16) hx hb dX4_follows_5 (by decide) (fun c_5 => ?_) (fun c_5 => ?_)
  · have c_5 := zI_0.mp c_5
    have c_5 : ¬ rgt x n := fun z => by rw [hP1.mpr z] at c_5; cases c_5
    refine lv_iconst (v := (-1)) hx hb dX4_follows_16 (by decide) ?_
    exact retRI (v := (-1)) hx hb hr hlocks hH dX4_follows_17 (Or.inl ⟨c_5, rfl⟩)
  · obtain ⟨q, hq, hxe⟩ := hP1.mp (zI_ne c_5)
    refine lv_aload_n hx hb dX4_follows_8 rfl (lv_at hl 0 rfl) ?_
    refine lv_iload_n hx hb dX4_follows_9 rfl (lv_at hl 1 rfl) ?_
    refine topv (nI q) hxe ?_
    refine callR (runV hx hb hg hown hml hl.1 (c_X4_followers l D k ad V hv (u := q) hq) [.int (nI q)] [] (preR (mapSome_sub hP [0, 1, 2, 3, 4, 5, 6, 7, 8, 9, 10, 11, 12, 13, 14, 15, 16, 17, 18, 19, 20, 21, 22] rfl) hK hN xb0 x0) (va_recv hK hP (ci := 4) (q0 := 0) rfl rfl) wd_706 wd_708 wd_26 wd_53 wd_709 lk_X4_followers ⟨rfl, rfl⟩ ⟨by decide, by decide⟩ ⟨Nat.zero_le _, Nat.zero_le _⟩ rfl (Nat.le_of_ble_eq_true rfl) dX4_follows_10) (fun r_10 q_10 => ?_)
    refine lv_goto (tgt := 17) hx hb dX4_follows_13 (by decide) ?_
    exact retRI (v := r_10) hx hb hr hlocks hH dX4_follows_17 (Or.inr ⟨q, hq, hxe, q_10⟩)
abbrev rmX4_many : Room := { frames := 0, cells := 0, slots := 0, locals := 0 }
theorem lk_X4_many : Lk yX4_many 1 := by decide +kernel
set_option maxHeartbeats 4000000 in
set_option maxRecDepth 100000 in
/-- many(bits) -/
theorem c_X4_many (l : Launch) (D : va_G) (k : Nat → ClassId) (x : Int32) : CtR noX l yX4_many cX4_many 3 (some .int) rmX4_many D (tyL k) ([]) [.int x] (fun r => r = nI (cntN 4 x)) := by
  refine CtR.mk (by decide) (Nat.le_of_ble_eq_true rfl) ?_
  intro p e s m below meth c hx hb hml hown hg hr hlocks hK hN hX H hH hP ls hl
  have hl : lv_has ls 3 [(0, .int x)] := hl
  refine lv_iconst (v := 0) hx hb dX4_many_0 (by decide) ?_
  refine lv_istore_n (lv' := [(1, .int 0), (0, .int x)]) hx hb dX4_many_1 rfl hl (by decide) rfl (fun ls hl => ?_)
  refine lv_iconst (v := 0) hx hb dX4_many_2 (by decide) ?_
  refine lv_istore_n (lv' := [(2, .int 0), (1, .int 0), (0, .int x)]) hx hb dX4_many_3 rfl hl (by decide) rfl (fun ls hl => ?_)
  refine loopR (σ := Nat) (fun i ls => lv_has ls 3 [(0, .int x), (1, .int (nI (cntN i x))), (2, .int (nI i))] ∧ (i ≤ 4)) (fun i => 4 - i) ?_ (0) ⟨(lv_sub hl [2, 1, 0] rfl), (by omega)⟩
  intro zz9 ls hI ih
  obtain ⟨i, rfl⟩ : ∃ z, z = zz9 := ⟨_, rfl⟩
  obtain ⟨hl, hi⟩ := hI
  refine lv_iload_n hx hb dX4_many_4 rfl (lv_at hl 2 rfl) ?_
  refine lv_iconst (v := 4) hx hb dX4_many_5 (by decide) ?_
  refine lv_icmp_ge (tgt := 23) hx hb dX4_many_6 (by decide) (fun c_6 => ?_) (fun c_6 => ?_)
  · have c_6 : 4 ≤ i := (nI_leI (a := 4) (b := i) (by omega) (by omega)).mp c_6
    refine lv_iload_n hx hb dX4_many_23 rfl (lv_at hl 1 rfl) ?_
    exact retRI (v := nI (cntN i x)) hx hb hr hlocks hH dX4_many_24 (by rw [show i = 4 by omega])
  · have c_6 : ¬ 4 ≤ i := fun z => c_6 ((nI_leI (a := 4) (b := i) (by omega) (by omega)).mpr z)
    refine lv_iload_n hx hb dX4_many_9 rfl (lv_at hl 1 rfl) ?_
    refine lv_iload_n hx hb dX4_many_10 rfl (lv_at hl 0 rfl) ?_
    refine lv_iload_n hx hb dX4_many_11 rfl (lv_at hl 2 rfl) ?_
    refine lv_ishr hx hb dX4_many_12 ?_
    refine lv_iconst (v := 1) hx hb dX4_many_13 (by decide) ?_
    refine lv_iand hx hb dX4_many_14 ?_
    refine lv_iadd hx hb dX4_many_15 ?_
    refine topv (nI (cntN (i + 1) x)) (cnt_step x (by omega)) ?_
    refine lv_istore_n (lv' := [(1, .int (nI (cntN (i + 1) x))), (0, .int x), (2, .int (nI i))]) hx hb dX4_many_16 rfl hl (by decide) rfl (fun ls hl => ?_)
    refine lv_iinc (v := nI (i + 1)) (lv' := [(2, .int (nI (i + 1))), (1, .int (nI (cntN (i + 1) x))), (0, .int x)]) hx hb dX4_many_17 hl (k := 2) rfl (nI_succ i).symm (by decide) rfl (fun ls hl => ?_)
    refine lv_goto (tgt := 4) hx hb dX4_many_20 (by decide) ?_
    exact ih (i + 1) _ ⟨(lv_sub hl [2, 1, 0] rfl), (by omega)⟩ (by omega)
abbrev rmX4_causes : Room := { frames := 7, cells := 0, slots := 0, locals := 171 }
theorem lk_X4_causes : Lk yX4_causes 1 := by decide +kernel
set_option maxHeartbeats 4000000 in
set_option maxRecDepth 100000 in
/-- causes(p) -/
theorem c_X4_causes (l : Launch) (D : va_G) (k : Nat → ClassId) (ad : Nat → Nat) (V : St) {n : Nat} (hv : okV n (pq V)) (hc : Cq n V) (x : Int32) : CtX noX l yX4_causes cX4_causes 4 (some .int) rmX4_causes D (tyL k) (wQ k ad V) [.ref (ad 0), .int x] (qI D (wQ k ad) (fun r U => CqS n V U ∧ csR n (pq V) x r)) := by
  refine CtX.mk (by decide) (Nat.le_of_ble_eq_true rfl) ?_
  intro p e s m below meth c hx hb hml hown hg hr hlocks hK hN A hA hX hh ls hl
  have hh : Hd D A (wQ k ad V) s.heap s.heap [] := hh
  have hl : lv_has ls 4 [(0, .ref (ad 0)), (1, .int x)] := hl
  have h00 : V 0 0 = nI n := hv.2.1
  have hn24 := hv.1
  refine lv_aload_n hx hb dX4_causes_0 rfl (lv_at hl 0 rfl) ?_
  refine lv_iload_n hx hb dX4_causes_1 rfl (lv_at hl 1 rfl) ?_
  refine callR (runV hx hb hg hown hml hl.1 (c_X4_isPlace l D k ad V hv (x)) [.int x] [] (preR (mapSome_sub hh.1 [0, 1, 2, 3, 4, 5, 6, 7, 8, 9, 10, 11, 12, 13, 14, 15, 16, 17, 18, 19, 20, 21, 22] rfl) hK hN xb0 x0) (va_recv hK hh.1 (ci := 4) (q0 := 0) rfl rfl) wd_681 wd_683 wd_25 wd_53 wd_684 lk_X4_isPlace ⟨rfl, rfl⟩ ⟨by decide, by decide⟩ ⟨Nat.zero_le _, Nat.zero_le _⟩ rfl (Nat.le_of_ble_eq_true rfl) dX4_causes_2) (fun r_2 q_2 => ?_)
  obtain ⟨bP1, rfl, hP1⟩ := q_2
  refine lv_if_ne (tgt := 10) hx hb dX4_causes_5 (by decide) (fun c_5 => ?_) (fun c_5 => ?_)
  · obtain ⟨q, hq, hxe⟩ := hP1.mp (zI_ne c_5)
    refine lv_aload_n hx hb dX4_causes_10 rfl (lv_at hl 0 rfl) ?_
    refine callWV (D := D) (wn := fun U => wQ k ad U) (wr := []) (runV hx hb hg hown hml hl.1 ((c_X4_look l D k ad V hv hc) s.heap.size) [] [] (preX (mapSome_sub hh.1 [0, 1, 2, 3, 4, 5, 6, 7, 8, 9, 10, 11, 12, 13, 14, 15, 16, 17, 18, 19, 20, 21, 22] rfl) (hh.2.1.sub [0, 1, 2, 3, 4, 5, 6, 7, 8, 9, 10, 11, 12, 13, 14, 15, 16, 17, 18, 19, 20, 21, 22] (by decide) rfl) hK hN xb0 x0) (va_recv hK hh.1 (ci := 4) (q0 := 0) rfl rfl) wd_731 wd_733 wd_31 wd_53 wd_734 lk_X4_look ⟨rfl, rfl⟩ ⟨by decide, by decide⟩ ⟨Nat.zero_le _, Nat.zero_le _⟩ rfl (Nat.le_of_ble_eq_true rfl) dX4_causes_11) hA hh [0, 1, 2, 3, 4, 5, 6, 7, 8, 9, 10, 11, 12, 13, 14, 15, 16, 17, 18, 19, 20, 21, 22] [] [0, 1, 2, 3, 4, 5, 6, 7, 8, 9, 10, 11, 12, 13, 14, 15, 16, 17, 18, 19, 20, 21, 22] rfl rfl (by decide) (by decide) (by decide) (fun _ => rfl) (fun U H locs q_11 hh => ?_)
    obtain ⟨fU, o22, hMG⟩ := q_11
    have hvU : okV n (pq U) := by rw [fU.pq]; exact hv
    have hMU : MG n (pq U) U := by rw [fU.pq]; exact hMG
    refine lv_iconst (v := 0) hx hb dX4_causes_14 (by decide) ?_
    refine lv_istore_n (lv' := [(2, .int 0), (0, .ref (ad 0)), (1, .int x)]) hx hb dX4_causes_15 rfl hl (by decide) rfl (fun ls hl => ?_)
    refine lv_iconst (v := 0) hx hb dX4_causes_16 (by decide) ?_
    refine lv_istore_n (lv' := [(3, .int 0), (2, .int 0), (0, .ref (ad 0)), (1, .int x)]) hx hb dX4_causes_17 rfl hl (by decide) rfl (fun ls hl => ?_)
    refine loopW (σ := Nat) (fun i H locs ls => Hd D A (wQ k ad U) s.heap H locs ∧ lv_has ls 4 [(0, .ref (ad 0)), (1, .int x), (2, .int (nI (cq4 (fun k => U 14 (4 * q + k)) i))), (3, .int (nI i))] ∧ (i ≤ 96)) (fun i => 96 - i) ?_ (0) ⟨hh, (lv_sub hl [2, 3, 1, 0] rfl), (by omega)⟩
    intro zz9 H locs ls hI ih
    obtain ⟨i, rfl⟩ : ∃ z, z = zz9 := ⟨_, rfl⟩
    obtain ⟨hh, hl, hi⟩ := hI
    refine lv_iload_n hx hb dX4_causes_18 rfl (lv_at hl 3 rfl) ?_
    refine lv_bipush (v := 96) hx hb dX4_causes_19 (by decide) ?_
    refine lv_icmp_ge (tgt := 51) hx hb dX4_causes_21 (by decide) (fun c_21 => ?_) (fun c_21 => ?_)
    · have c_21 : 96 ≤ i := (nI_leI (a := 96) (b := i) (by omega) (by omega)).mp c_21
      refine lv_iload_n hx hb dX4_causes_51 rfl (lv_at hl 2 rfl) ?_
      exact retI (Wd := wQ k ad) (v := nI (cq4 (fun k => U 14 (4 * q + k)) i)) (U) hx hb hr hlocks dX4_causes_52 hh (⟨CqS.of fU o22 hMG, Or.inr ⟨q, hq, hxe, (fun k => U 14 (4 * q + k)), fun k hk => hMG.row hv hq hk, by rw [show i = 4 * 24 by omega, cq4_sum]⟩⟩)
    · have c_21 : ¬ 96 ≤ i := fun z => c_21 ((nI_leI (a := 96) (b := i) (by omega) (by omega)).mpr z)
      refine lv_iload_n hx hb dX4_causes_24 rfl (lv_at hl 2 rfl) ?_
      refine lv_aload_n hx hb dX4_causes_25 rfl (lv_at hl 0 rfl) ?_
      refine gfl hx hb hg inX4 hown hK hh.1 0 (ci := 4) rfl rfl 20 (by decide) wd_571 rfl dX4_causes_26 ?_
      refine lv_iconst (v := 4) hx hb dX4_causes_29 (by decide) ?_
      refine lv_iload_n hx hb dX4_causes_30 rfl (lv_at hl 1 rfl) ?_
      refine topv (nI q) hxe ?_
      refine lv_imul hx hb dX4_causes_31 ?_
      refine topv (nI (4 * q)) (pk_mul 4 q) ?_
      refine lv_iload_n hx hb dX4_causes_32 rfl (lv_at hl 3 rfl) ?_
      refine lv_iconst (v := 3) hx hb dX4_causes_33 (by decide) ?_
      refine lv_iand hx hb dX4_causes_34 ?_
      refine topv (nI (i % 4)) (and3 i (by omega)) ?_
      refine lv_iadd hx hb dX4_causes_35 ?_
      refine topv (nI (4 * q + i % 4)) (nI_add (4 * q) (i % 4)) ?_
      refine ldn hx hb hK hh.1 14 0 rfl rfl (by omega) (by decide) dX4_causes_36 ?_
      refine lv_iload_n hx hb dX4_causes_37 rfl (lv_at hl 3 rfl) ?_
      refine lv_iconst (v := 2) hx hb dX4_causes_38 (by decide) ?_
      refine lv_ishr hx hb dX4_causes_39 ?_
      refine topv (nI (i / 4)) (shr2 i (by omega)) ?_
      refine lv_ishr hx hb dX4_causes_40 ?_
      refine lv_iconst (v := 1) hx hb dX4_causes_41 (by decide) ?_
      refine lv_iand hx hb dX4_causes_42 ?_
      refine lv_iadd hx hb dX4_causes_43 ?_
      refine topv (nI (cq4 (fun k => U 14 (4 * q + k)) (i + 1))) (cq4_step (fun k => U 14 (4 * q + k)) (by omega)) ?_
      refine lv_istore_n (lv' := [(2, .int (nI (cq4 (fun k => U 14 (4 * q + k)) (i + 1)))), (0, .ref (ad 0)), (1, .int x), (3, .int (nI i))]) hx hb dX4_causes_44 rfl hl (by decide) rfl (fun ls hl => ?_)
      refine lv_iinc (v := nI (i + 1)) (lv' := [(3, .int (nI (i + 1))), (2, .int (nI (cq4 (fun k => U 14 (4 * q + k)) (i + 1)))), (0, .ref (ad 0)), (1, .int x)]) hx hb dX4_causes_45 hl (k := 3) rfl (nI_succ i).symm (by decide) rfl (fun ls hl => ?_)
      refine lv_goto (tgt := 18) hx hb dX4_causes_48 (by decide) ?_
      exact ih (i + 1) _ _ _ ⟨hh, (lv_sub hl [2, 3, 1, 0] rfl), (by omega)⟩ (by omega)
  · have c_5 := zI_0.mp c_5
    have c_5 : ¬ rgt x n := fun z => by rw [hP1.mpr z] at c_5; cases c_5
    refine lv_iconst (v := (-1)) hx hb dX4_causes_8 (by decide) ?_
    exact retI (Wd := wQ k ad) (v := (-1)) (V) hx hb hr hlocks dX4_causes_9 hh (⟨CqS.rf hc, Or.inl ⟨c_5, rfl⟩⟩)
abbrev rmX4_cause : Room := { frames := 7, cells := 0, slots := 0, locals := 171 }
theorem lk_X4_cause : Lk yX4_cause 3 := by decide +kernel
set_option maxHeartbeats 4000000 in
set_option maxRecDepth 100000 in
/-- cause(p, k, what) -/
theorem c_X4_cause (l : Launch) (D : va_G) (k : Nat → ClassId) (ad : Nat → Nat) (V : St) {n : Nat} (hv : okV n (pq V)) (hc : Cq n V) (x y z : Int32) : CtX noX l yX4_cause cX4_cause 6 (some .int) rmX4_cause D (tyL k) (wQ k ad V) [.ref (ad 0), .int x, .int y, .int z] (qI D (wQ k ad) (fun r U => CqS n V U ∧ cuR n (pq V) x y z r)) := by
  refine CtX.mk (by decide) (Nat.le_of_ble_eq_true rfl) ?_
  intro p e s m below meth c hx hb hml hown hg hr hlocks hK hN A hA hX hh ls hl
  have hh : Hd D A (wQ k ad V) s.heap s.heap [] := hh
  have hl : lv_has ls 6 [(0, .ref (ad 0)), (1, .int x), (2, .int y), (3, .int z)] := hl
  have h00 : V 0 0 = nI n := hv.2.1
  have hn24 := hv.1
  refine lv_aload_n hx hb dX4_cause_0 rfl (lv_at hl 0 rfl) ?_
  refine lv_iload_n hx hb dX4_cause_1 rfl (lv_at hl 1 rfl) ?_
  refine callR (runV hx hb hg hown hml hl.1 (c_X4_isPlace l D k ad V hv (x)) [.int x] [] (preR (mapSome_sub hh.1 [0, 1, 2, 3, 4, 5, 6, 7, 8, 9, 10, 11, 12, 13, 14, 15, 16, 17, 18, 19, 20, 21, 22] rfl) hK hN xb0 x0) (va_recv hK hh.1 (ci := 4) (q0 := 0) rfl rfl) wd_681 wd_683 wd_25 wd_53 wd_684 lk_X4_isPlace ⟨rfl, rfl⟩ ⟨by decide, by decide⟩ ⟨Nat.zero_le _, Nat.zero_le _⟩ rfl (Nat.le_of_ble_eq_true rfl) dX4_cause_2) (fun r_2 q_2 => ?_)
  obtain ⟨bP1, rfl, hP1⟩ := q_2
  refine lv_if_eq (tgt := 22) hx hb dX4_cause_5 (by decide) (fun c_5 => ?_) (fun c_5 => ?_)
  · have c_5 := zI_0.mp c_5
    have c_5 : ¬ rgt x n := fun z => by rw [hP1.mpr z] at c_5; cases c_5
    refine lv_iconst (v := (-1)) hx hb dX4_cause_22 (by decide) ?_
    exact retI (Wd := wQ k ad) (v := (-1)) (V) hx hb hr hlocks dX4_cause_23 hh (⟨CqS.rf hc, Or.inl ⟨fun h => c_5 h.1, rfl⟩⟩)
  · obtain ⟨q, hq, hxe⟩ := hP1.mp (zI_ne c_5)
    refine lv_iload_n hx hb dX4_cause_8 rfl (lv_at hl 2 rfl) ?_
    refine lv_if_lt (tgt := 22) hx hb dX4_cause_9 (by decide) (fun c_9 => ?_) (fun c_9 => ?_)
    · refine lv_iconst (v := (-1)) hx hb dX4_cause_22 (by decide) ?_
      exact retI (Wd := wQ k ad) (v := (-1)) (V) hx hb hr hlocks dX4_cause_23 hh (⟨CqS.rf hc, Or.inl ⟨fun h => h.2.1 c_9, rfl⟩⟩)
    · obtain ⟨kk, hkk, hye⟩ := nI_of c_9
      refine lv_iload_n hx hb dX4_cause_12 rfl (lv_at hl 3 rfl) ?_
      refine lv_i2l (v := z.toInt64) hx hb dX4_cause_13 rfl ?_
      refine lv_lconst (v := 0) hx hb dX4_cause_14 (by decide) ?_
      refine lv_lconst (v := 1) hx hb dX4_cause_15 (by decide) ?_
      refine callR (runS hx hb hg hown hml hl.1 (c_X4_in l D k (z.toInt64) (0) (1)) [.long z.toInt64, .long 0, .long 1] [] (preR (mapSome_sub hh.1 [] rfl) hK hN xb0 x0) wd_668 wd_669 wd_53 wd_670 lk_X4_in ⟨rfl, rfl⟩ ⟨by decide, by decide⟩ ⟨Nat.zero_le _, Nat.zero_le _⟩ rfl (Nat.le_of_ble_eq_true rfl) dX4_cause_16) (fun r_16 q_16 => ?_)
      have hB9 := inB_rgt (x := z) (lo := 0) (hi := 1) (n := 2) (by omega) (by decide) (by decide)
      obtain rfl := q_16
      refine lv_if_ne (tgt := 24) hx hb dX4_cause_19 (by decide) (fun c_19 => ?_) (fun c_19 => ?_)
      · have hz2 := hB9.mp (zI_ne c_19)
        refine lv_aload_n hx hb dX4_cause_24 rfl (lv_at hl 0 rfl) ?_
        refine callWV (D := D) (wn := fun U => wQ k ad U) (wr := []) (runV hx hb hg hown hml hl.1 ((c_X4_look l D k ad V hv hc) s.heap.size) [] [] (preX (mapSome_sub hh.1 [0, 1, 2, 3, 4, 5, 6, 7, 8, 9, 10, 11, 12, 13, 14, 15, 16, 17, 18, 19, 20, 21, 22] rfl) (hh.2.1.sub [0, 1, 2, 3, 4, 5, 6, 7, 8, 9, 10, 11, 12, 13, 14, 15, 16, 17, 18, 19, 20, 21, 22] (by decide) rfl) hK hN xb0 x0) (va_recv hK hh.1 (ci := 4) (q0 := 0) rfl rfl) wd_731 wd_733 wd_31 wd_53 wd_734 lk_X4_look ⟨rfl, rfl⟩ ⟨by decide, by decide⟩ ⟨Nat.zero_le _, Nat.zero_le _⟩ rfl (Nat.le_of_ble_eq_true rfl) dX4_cause_25) hA hh [0, 1, 2, 3, 4, 5, 6, 7, 8, 9, 10, 11, 12, 13, 14, 15, 16, 17, 18, 19, 20, 21, 22] [] [0, 1, 2, 3, 4, 5, 6, 7, 8, 9, 10, 11, 12, 13, 14, 15, 16, 17, 18, 19, 20, 21, 22] rfl rfl (by decide) (by decide) (by decide) (fun _ => rfl) (fun U H locs q_25 hh => ?_)
        obtain ⟨fU, o22, hMG⟩ := q_25
        have hvU : okV n (pq U) := by rw [fU.pq]; exact hv
        have hMU : MG n (pq U) U := by rw [fU.pq]; exact hMG
        refine lv_iload_n hx hb dX4_cause_28 rfl (lv_at hl 2 rfl) ?_
        refine topv (nI kk) hye ?_
        refine lv_istore (lv' := [(4, .int (nI kk)), (0, .ref (ad 0)), (1, .int x), (2, .int y), (3, .int z)]) hx hb dX4_cause_29 hl (by decide) rfl (fun ls hl => ?_)
        refine lv_iconst (v := 0) hx hb dX4_cause_31 (by decide) ?_
        refine lv_istore (lv' := [(5, .int 0), (4, .int (nI kk)), (0, .ref (ad 0)), (1, .int x), (2, .int y), (3, .int z)]) hx hb dX4_cause_32 hl (by decide) rfl (fun ls hl => ?_)
        refine loopW (σ := Nat × Nat) (fun zz9 H locs ls => match zz9 with | (i, c1) => Hd D A (wQ k ad U) s.heap H locs ∧ lv_has ls 6 [(0, .ref (ad 0)), (1, .int x), (2, .int y), (3, .int z), (4, .int (nI c1)), (5, .int (nI i))] ∧ (i ≤ 96) ∧ (c1 < 2 ^ 31) ∧ (kthS (fqB U q) (96 - i) i c1 = kthS (fqB U q) (4 * n) 0 kk)) (fun zz9 => match zz9 with | (i, c1) => 96 - i) ?_ (0, kk) ⟨hh, (lv_sub hl [2, 3, 4, 5, 1, 0] rfl), (by omega), hkk, (by have h9 := kth_more (f := fqB U q) (4 * n) (96 - 4 * n) 0 kk (fun j hj => by cases hb9 : (fqB U q) j with | false => rfl | true => exact absurd (pH_lt ((hMG.row hv hq (Nat.mod_lt j (by decide)) (j / 4)).mp hb9)) (by omega)); rw [show 4 * n + (96 - 4 * n) = 96 by omega] at h9; exact h9)⟩
        intro zz9 H locs ls hI ih
        obtain ⟨i, c1⟩ := zz9
        obtain ⟨hh, hl, hi, hc1, he⟩ := hI
        refine lv_iload hx hb dX4_cause_34 (lv_at hl 5 rfl) ?_
        refine lv_bipush (v := 96) hx hb dX4_cause_36 (by decide) ?_
        refine lv_icmp_ge (tgt := 97) hx hb dX4_cause_38 (by decide) (fun c_38 => ?_) (fun c_38 => ?_)
        · have c_38 : 96 ≤ i := (nI_leI (a := 96) (b := i) (by omega) (by omega)).mp c_38
          refine lv_bipush (v := (-4)) hx hb dX4_cause_97 (by decide) ?_
          exact retI (Wd := wQ k ad) (v := (-4)) (U) hx hb hr hlocks dX4_cause_99 hh (⟨CqS.of fU o22 hMG, Or.inr ⟨q, kk, hq, hxe, hkk, hye, hz2, (fqB U q), (fun i => hMG.row hv hq (Nat.mod_lt i (by decide)) (i / 4)), by rw [← he, show 96 - i = 0 by omega]; rfl⟩⟩)
        · have c_38 : ¬ 96 ≤ i := fun z => c_38 ((nI_leI (a := 96) (b := i) (by omega) (by omega)).mpr z)
          refine lv_aload_n hx hb dX4_cause_41 rfl (lv_at hl 0 rfl) ?_
          refine gfl hx hb hg inX4 hown hK hh.1 0 (ci := 4) rfl rfl 20 (by decide) wd_571 rfl dX4_cause_42 ?_
          refine lv_iconst (v := 4) hx hb dX4_cause_45 (by decide) ?_
          refine lv_iload_n hx hb dX4_cause_46 rfl (lv_at hl 1 rfl) ?_
          refine topv (nI q) hxe ?_
          refine lv_imul hx hb dX4_cause_47 ?_
          refine topv (nI (4 * q)) (pk_mul 4 q) ?_
          refine lv_iload hx hb dX4_cause_48 (lv_at hl 5 rfl) ?_
          refine lv_iconst (v := 3) hx hb dX4_cause_50 (by decide) ?_
          refine lv_iand hx hb dX4_cause_51 ?_
          refine topv (nI (i % 4)) (and3 i (by omega)) ?_
          refine lv_iadd hx hb dX4_cause_52 ?_
          refine topv (nI (4 * q + i % 4)) (nI_add (4 * q) (i % 4)) ?_
          refine ldn hx hb hK hh.1 14 0 rfl rfl (by omega) (by decide) dX4_cause_53 ?_
          refine lv_iload hx hb dX4_cause_54 (lv_at hl 5 rfl) ?_
          refine lv_iconst (v := 2) hx hb dX4_cause_56 (by decide) ?_
          refine lv_ishr hx hb dX4_cause_57 ?_
          refine topv (nI (i / 4)) (shr2 i (by omega)) ?_
          refine lv_ishr hx hb dX4_cause_58 ?_
          refine lv_iconst (v := 1) hx hb dX4_cause_59 (by decide) ?_
          refine lv_iand hx hb dX4_cause_60 ?_
          refine lv_iconst (v := 1) hx hb dX4_cause_61 (by decide) ?_
          refine lv_icmp_ne (tgt := 91) hx hb dX4_cause_62 (by decide) (fun c_62 => ?_) (fun c_62 => ?_)
          · have c_62 : (fqB U q) i = false := sh1_f (x := U 14 (4 * q + i % 4)) (i := i / 4) (by omega) c_62
            refine lv_iinc (v := nI (i + 1)) (lv' := [(5, .int (nI (i + 1))), (0, .ref (ad 0)), (1, .int x), (2, .int y), (3, .int z), (4, .int (nI c1))]) hx hb dX4_cause_91 hl (k := 5) rfl (nI_succ i).symm (by decide) rfl (fun ls hl => ?_)
            refine lv_goto (tgt := 34) hx hb dX4_cause_94 (by decide) ?_
            exact ih (i + 1, c1) _ _ _ ⟨hh, (lv_sub hl [1, 2, 3, 4, 5, 0] rfl), (by omega), hc1, (by rw [← he, kth_f c_62 (by omega), Nat.sub_sub])⟩ (by dsimp only; omega)
          · have c_62 : (fqB U q) i = true := (tS1 (U 14 (4 * q + i % 4)) (p := i / 4) (by omega)).mp c_62
            refine lv_iload hx hb dX4_cause_65 (lv_at hl 4 rfl) ?_
            refine lv_if_ne (tgt := 88) hx hb dX4_cause_67 (by decide) (fun c_67 => ?_) (fun c_67 => ?_)
            · have c_67 : ¬ c1 = 0 := fun z => c_67 ((nI_eq (a := c1) (b := 0) (by omega) (by omega)).mpr z)
              refine lv_iinc (v := nI (c1 - 1)) (lv' := [(4, .int (nI (c1 - 1))), (0, .ref (ad 0)), (1, .int x), (2, .int y), (3, .int z), (5, .int (nI i))]) hx hb dX4_cause_88 hl (k := 4) rfl (by rw [show (Int32.ofInt (-1)) = -1 from rfl, i_m1]; exact pk_sub (a := c1) (b := 1) (by omega)) (by decide) rfl (fun ls hl => ?_)
              refine lv_iinc (v := nI (i + 1)) (lv' := [(5, .int (nI (i + 1))), (4, .int (nI (c1 - 1))), (0, .ref (ad 0)), (1, .int x), (2, .int y), (3, .int z)]) hx hb dX4_cause_91 hl (k := 5) rfl (nI_succ i).symm (by decide) rfl (fun ls hl => ?_)
              refine lv_goto (tgt := 34) hx hb dX4_cause_94 (by decide) ?_
              exact ih (i + 1, c1 - 1) _ _ _ ⟨hh, (lv_sub hl [2, 3, 4, 5, 1, 0] rfl), (by omega), (by omega), (by rw [← he, kth_s c_62 (by omega) c_67, Nat.sub_sub])⟩ (by dsimp only; omega)
            · have c_67 : c1 = 0 := (nI_eq (a := c1) (b := 0) (by omega) (by omega)).mp c_67
              refine lv_iload_n hx hb dX4_cause_70 rfl (lv_at hl 3 rfl) ?_
              refine lv_if_ne (tgt := 81) hx hb dX4_cause_71 (by decide) (fun c_71 => ?_) (fun c_71 => ?_)
              · refine lv_iconst (v := 1) hx hb dX4_cause_81 (by decide) ?_
                refine lv_iload hx hb dX4_cause_82 (lv_at hl 5 rfl) ?_
                refine lv_iconst (v := 3) hx hb dX4_cause_84 (by decide) ?_
                refine lv_iand hx hb dX4_cause_85 ?_
                refine topv (nI (i % 4)) (and3 i (by omega)) ?_
                refine lv_iadd hx hb dX4_cause_86 ?_
                refine topv (nI (1 + i % 4)) (nI_add 1 (i % 4)) ?_
                exact retI (Wd := wQ k ad) (v := nI (1 + i % 4)) (U) hx hb hr hlocks dX4_cause_87 hh (⟨CqS.of fU o22 hMG, Or.inr ⟨q, kk, hq, hxe, hkk, hye, hz2, (fqB U q), (fun i => hMG.row hv hq (Nat.mod_lt i (by decide)) (i / 4)), by obtain rfl := c_67; rw [← he, kth_z c_62 (by omega)]; show _ = ite _ _ _; rw [if_pos (by obtain ⟨z1, hz1, hze⟩ := hz2; have h0 : ¬ z1 = 0 := fun e => c_71 (by rw [hze, e]; rfl); rw [hze, show z1 = 1 by omega]; rfl)]⟩⟩)
              · refine lv_iload hx hb dX4_cause_74 (lv_at hl 5 rfl) ?_
                refine lv_iconst (v := 2) hx hb dX4_cause_76 (by decide) ?_
                refine lv_ishr hx hb dX4_cause_77 ?_
                refine topv (nI (i / 4)) (shr2 i (by omega)) ?_
                refine lv_goto (tgt := 87) hx hb dX4_cause_78 (by decide) ?_
                exact retI (Wd := wQ k ad) (v := nI (i / 4)) (U) hx hb hr hlocks dX4_cause_87 hh (⟨CqS.of fU o22 hMG, Or.inr ⟨q, kk, hq, hxe, hkk, hye, hz2, (fqB U q), (fun i => hMG.row hv hq (Nat.mod_lt i (by decide)) (i / 4)), by obtain rfl := c_67; rw [← he, kth_z c_62 (by omega)]; show _ = ite _ _ _; rw [if_neg (by rw [c_71]; decide)]⟩⟩)
      · have c_19 : ¬ rgt z 2 := fun h => by rw [hB9.mpr h] at c_19; exact absurd c_19 (by decide)
        refine lv_iconst (v := (-1)) hx hb dX4_cause_22 (by decide) ?_
        exact retI (Wd := wQ k ad) (v := (-1)) (V) hx hb hr hlocks dX4_cause_23 hh (⟨CqS.rf hc, Or.inl ⟨fun h => c_19 h.2.2, rfl⟩⟩)
