/-! the reference: reads, sets, setsIt -/
abbrev rmX4_reads : Room := { frames := 0, cells := 0, slots := 0, locals := 0 }
theorem lk_X4_reads : Lk yX4_reads 2 := by decide +kernel
set_option maxHeartbeats 4000000 in
set_option maxRecDepth 100000 in
/-- reads(p, thin) -/
theorem c_X4_reads (l : Launch) (D : va_G) (k : Nat → ClassId) (ad : Nat → Nat) (V : St) {n : Nat} (hv : okV n (pq V)) {q : Nat} (hq : q < 24) (w : Bool) : CtR noX l yX4_reads cX4_reads 3 (some .int) rmX4_reads D (tyL k) (wQ k ad V) [.ref (ad 0), .int (nI q), .int (zI w)] (fun r => r = rrI (pq V) q w) := by
  refine CtR.mk (by decide) (Nat.le_of_ble_eq_true rfl) ?_
  intro p e s m below meth c hx hb hml hown hg hr hlocks hK hN hX H hH hP ls hl
  have hl : lv_has ls 3 [(0, .ref (ad 0)), (1, .int (nI q)), (2, .int (zI w))] := hl
  obtain ⟨j, hk, hj, hlA, hlB, hlC⟩ := hv.2.2.1 q hq
  have hk : V 1 q = nI j := hk
  have hlA : lim (LA.getD j 0) (V 2 q) := hlA
  have hlB : lim (LB.getD j 0) (V 3 q) := hlB
  have hlC : lim (LC.getD j 0) (V 4 q) := hlC
  have hkd : kd (pq V) q = j := kd_of hk hj
  refine lv_aload_n hx hb dX4_reads_0 rfl (lv_at hl 0 rfl) ?_
  refine gfl hx hb hg inX4 hown hK hP 0 (ci := 4) rfl rfl 1 (by decide) wd_552 rfl dX4_reads_1 ?_
  refine lv_iload_n hx hb dX4_reads_4 rfl (lv_at hl 1 rfl) ?_
  refine ldn hx hb hK hP 1 0 rfl rfl (by omega) (by decide) dX4_reads_5 ?_
  refine topv (nI j) hk ?_
  rcases (show j = 0 ∨ j = 1 ∨ j = 2 ∨ j = 3 ∨ j = 4 ∨ j = 5 ∨ j = 6 ∨ j = 7 ∨ j = 8 ∨ j = 9 ∨ j = 10 ∨ j = 11 ∨ j = 12 ∨ j = 13 by omega) with rfl | rfl | rfl | rfl | rfl | rfl | rfl | rfl | rfl | rfl | rfl | rfl | rfl | rfl
  · refine lv_tableOut (tgt := 150) hx hb dX4_reads_6 (by decide) (by decide) ?_
    refine lv_iconst (v := 0) hx hb dX4_reads_150 (by decide) ?_
    exact retRI (v := 0) hx hb hr hlocks hH dX4_reads_151 (by unfold rrI; rw [hkd]; first | (simp; done) | (simp [haq]; done) | (simp [hbq, hcq]; done) | (simp [hw]; done) | (simp [hw, haq]; done) | (simp [hw, haq, hbq]; done) | (simp [hw, hbq]; done))
  · obtain ⟨a, ha1, hae⟩ := lim_nI hlA (by decide)
    have ha1 : a < 8 := ha1
    have haq : ix (pq V 2 q) = a := by show ix (V 2 q) = a; rw [hae, ix_nI (by omega)]
    refine lv_tableOut (tgt := 150) hx hb dX4_reads_6 (by decide) (by decide) ?_
    refine lv_iconst (v := 0) hx hb dX4_reads_150 (by decide) ?_
    exact retRI (v := 0) hx hb hr hlocks hH dX4_reads_151 (by unfold rrI; rw [hkd]; first | (simp; done) | (simp [haq]; done) | (simp [hbq, hcq]; done) | (simp [hw]; done) | (simp [hw, haq]; done) | (simp [hw, haq, hbq]; done) | (simp [hw, hbq]; done))
  · obtain ⟨a, ha1, hae⟩ := lim_nI hlA (by decide)
    have ha1 : a < 8 := ha1
    have haq : ix (pq V 2 q) = a := by show ix (V 2 q) = a; rw [hae, ix_nI (by omega)]
    obtain ⟨b, hb1, hbe⟩ := lim_nI hlB (by decide)
    have hb1 : b < 4 := hb1
    have hbq : ix (pq V 3 q) = b := by show ix (V 3 q) = b; rw [hbe, ix_nI (by omega)]
    refine lv_tableOut (tgt := 150) hx hb dX4_reads_6 (by decide) (by decide) ?_
    refine lv_iconst (v := 0) hx hb dX4_reads_150 (by decide) ?_
    exact retRI (v := 0) hx hb hr hlocks hH dX4_reads_151 (by unfold rrI; rw [hkd]; first | (simp; done) | (simp [haq]; done) | (simp [hbq, hcq]; done) | (simp [hw]; done) | (simp [hw, haq]; done) | (simp [hw, haq, hbq]; done) | (simp [hw, hbq]; done))
  · obtain ⟨a, ha1, hae⟩ := lim_nI hlA (by decide)
    have ha1 : a < 8 := ha1
    have haq : ix (pq V 2 q) = a := by show ix (V 2 q) = a; rw [hae, ix_nI (by omega)]
    obtain ⟨b, hb1, hbe⟩ := lim_nI hlB (by decide)
    have hb1 : b < 8 := hb1
    have hbq : ix (pq V 3 q) = b := by show ix (V 3 q) = b; rw [hbe, ix_nI (by omega)]
    obtain ⟨d, hc1, hce⟩ := lim_nI hlC (by decide)
    have hc1 : d < 8 := hc1
    have hcq : ix (pq V 4 q) = d := by show ix (V 4 q) = d; rw [hce, ix_nI (by omega)]
    refine lv_tableIn (off := 50) (tgt := 56) hx hb dX4_reads_6 (by decide) (by decide) (by rfl) (by decide) ?_
    refine lv_iconst (v := 1) hx hb dX4_reads_56 (by decide) ?_
    refine lv_aload_n hx hb dX4_reads_57 rfl (lv_at hl 0 rfl) ?_
    refine gfl hx hb hg inX4 hown hK hP 0 (ci := 4) rfl rfl 3 (by decide) wd_554 rfl dX4_reads_58 ?_
    refine lv_iload_n hx hb dX4_reads_61 rfl (lv_at hl 1 rfl) ?_
    refine ldn hx hb hK hP 3 0 rfl rfl (by omega) (by decide) dX4_reads_62 ?_
    refine topv (nI b) hbe ?_
    refine lv_ishl hx hb dX4_reads_63 ?_
    refine topv (bitI b) rfl ?_
    refine lv_iconst (v := 1) hx hb dX4_reads_64 (by decide) ?_
    refine lv_aload_n hx hb dX4_reads_65 rfl (lv_at hl 0 rfl) ?_
    refine gfl hx hb hg inX4 hown hK hP 0 (ci := 4) rfl rfl 4 (by decide) wd_555 rfl dX4_reads_66 ?_
    refine lv_iload_n hx hb dX4_reads_69 rfl (lv_at hl 1 rfl) ?_
    refine ldn hx hb hK hP 4 0 rfl rfl (by omega) (by decide) dX4_reads_70 ?_
    refine topv (nI d) hce ?_
    refine lv_ishl hx hb dX4_reads_71 ?_
    refine topv (bitI d) rfl ?_
    refine lv_ior hx hb dX4_reads_72 ?_
    exact retRI (v := (bitI b) ||| (bitI d)) hx hb hr hlocks hH dX4_reads_73 (by unfold rrI; rw [hkd]; first | (simp; done) | (simp [haq]; done) | (simp [hbq, hcq]; done) | (simp [hw]; done) | (simp [hw, haq]; done) | (simp [hw, haq, hbq]; done) | (simp [hw, hbq]; done))
  · obtain ⟨a, ha1, hae⟩ := lim_nI hlA (by decide)
    have ha1 : a < 8 := ha1
    have haq : ix (pq V 2 q) = a := by show ix (V 2 q) = a; rw [hae, ix_nI (by omega)]
    obtain ⟨b, hb1, hbe⟩ := lim_nI hlB (by decide)
    have hb1 : b < 8 := hb1
    have hbq : ix (pq V 3 q) = b := by show ix (V 3 q) = b; rw [hbe, ix_nI (by omega)]
    obtain ⟨d, hc1, hce⟩ := lim_nI hlC (by decide)
    have hc1 : d < 8 := hc1
    have hcq : ix (pq V 4 q) = d := by show ix (V 4 q) = d; rw [hce, ix_nI (by omega)]
    refine lv_tableIn (off := 50) (tgt := 56) hx hb dX4_reads_6 (by decide) (by decide) (by rfl) (by decide) ?_
    refine lv_iconst (v := 1) hx hb dX4_reads_56 (by decide) ?_
    refine lv_aload_n hx hb dX4_reads_57 rfl (lv_at hl 0 rfl) ?_
    refine gfl hx hb hg inX4 hown hK hP 0 (ci := 4) rfl rfl 3 (by decide) wd_554 rfl dX4_reads_58 ?_
    refine lv_iload_n hx hb dX4_reads_61 rfl (lv_at hl 1 rfl) ?_
    refine ldn hx hb hK hP 3 0 rfl rfl (by omega) (by decide) dX4_reads_62 ?_
    refine topv (nI b) hbe ?_
    refine lv_ishl hx hb dX4_reads_63 ?_
    refine topv (bitI b) rfl ?_
    refine lv_iconst (v := 1) hx hb dX4_reads_64 (by decide) ?_
    refine lv_aload_n hx hb dX4_reads_65 rfl (lv_at hl 0 rfl) ?_
    refine gfl hx hb hg inX4 hown hK hP 0 (ci := 4) rfl rfl 4 (by decide) wd_555 rfl dX4_reads_66 ?_
    refine lv_iload_n hx hb dX4_reads_69 rfl (lv_at hl 1 rfl) ?_
    refine ldn hx hb hK hP 4 0 rfl rfl (by omega) (by decide) dX4_reads_70 ?_
    refine topv (nI d) hce ?_
    refine lv_ishl hx hb dX4_reads_71 ?_
    refine topv (bitI d) rfl ?_
    refine lv_ior hx hb dX4_reads_72 ?_
    exact retRI (v := (bitI b) ||| (bitI d)) hx hb hr hlocks hH dX4_reads_73 (by unfold rrI; rw [hkd]; first | (simp; done) | (simp [haq]; done) | (simp [hbq, hcq]; done) | (simp [hw]; done) | (simp [hw, haq]; done) | (simp [hw, haq, hbq]; done) | (simp [hw, hbq]; done))
  · obtain ⟨a, ha1, hae⟩ := lim_nI hlA (by decide)
    have ha1 : a < 8 := ha1
    have haq : ix (pq V 2 q) = a := by show ix (V 2 q) = a; rw [hae, ix_nI (by omega)]
    obtain ⟨b, hb1, hbe⟩ := lim_nI hlB (by decide)
    have hb1 : b < 8 := hb1
    have hbq : ix (pq V 3 q) = b := by show ix (V 3 q) = b; rw [hbe, ix_nI (by omega)]
    obtain ⟨d, hc1, hce⟩ := lim_nI hlC (by decide)
    have hc1 : d < 8 := hc1
    have hcq : ix (pq V 4 q) = d := by show ix (V 4 q) = d; rw [hce, ix_nI (by omega)]
    refine lv_tableIn (off := 50) (tgt := 56) hx hb dX4_reads_6 (by decide) (by decide) (by rfl) (by decide) ?_
    refine lv_iconst (v := 1) hx hb dX4_reads_56 (by decide) ?_
    refine lv_aload_n hx hb dX4_reads_57 rfl (lv_at hl 0 rfl) ?_
    refine gfl hx hb hg inX4 hown hK hP 0 (ci := 4) rfl rfl 3 (by decide) wd_554 rfl dX4_reads_58 ?_
    refine lv_iload_n hx hb dX4_reads_61 rfl (lv_at hl 1 rfl) ?_
    refine ldn hx hb hK hP 3 0 rfl rfl (by omega) (by decide) dX4_reads_62 ?_
    refine topv (nI b) hbe ?_
    refine lv_ishl hx hb dX4_reads_63 ?_
    refine topv (bitI b) rfl ?_
    refine lv_iconst (v := 1) hx hb dX4_reads_64 (by decide) ?_
    refine lv_aload_n hx hb dX4_reads_65 rfl (lv_at hl 0 rfl) ?_
    refine gfl hx hb hg inX4 hown hK hP 0 (ci := 4) rfl rfl 4 (by decide) wd_555 rfl dX4_reads_66 ?_
    refine lv_iload_n hx hb dX4_reads_69 rfl (lv_at hl 1 rfl) ?_
    refine ldn hx hb hK hP 4 0 rfl rfl (by omega) (by decide) dX4_reads_70 ?_
    refine topv (nI d) hce ?_
    refine lv_ishl hx hb dX4_reads_71 ?_
    refine topv (bitI d) rfl ?_
    refine lv_ior hx hb dX4_reads_72 ?_
    exact retRI (v := (bitI b) ||| (bitI d)) hx hb hr hlocks hH dX4_reads_73 (by unfold rrI; rw [hkd]; first | (simp; done) | (simp [haq]; done) | (simp [hbq, hcq]; done) | (simp [hw]; done) | (simp [hw, haq]; done) | (simp [hw, haq, hbq]; done) | (simp [hw, hbq]; done))
  · obtain ⟨a, ha1, hae⟩ := lim_nI hlA (by decide)
    have ha1 : a < 8 := ha1
    have haq : ix (pq V 2 q) = a := by show ix (V 2 q) = a; rw [hae, ix_nI (by omega)]
    obtain ⟨b, hb1, hbe⟩ := lim_nI hlB (by decide)
    have hb1 : b < 8 := hb1
    have hbq : ix (pq V 3 q) = b := by show ix (V 3 q) = b; rw [hbe, ix_nI (by omega)]
    obtain ⟨d, hc1, hce⟩ := lim_nI hlC (by decide)
    have hc1 : d < 8 := hc1
    have hcq : ix (pq V 4 q) = d := by show ix (V 4 q) = d; rw [hce, ix_nI (by omega)]
    refine lv_tableIn (off := 50) (tgt := 56) hx hb dX4_reads_6 (by decide) (by decide) (by rfl) (by decide) ?_
    refine lv_iconst (v := 1) hx hb dX4_reads_56 (by decide) ?_
    refine lv_aload_n hx hb dX4_reads_57 rfl (lv_at hl 0 rfl) ?_
    refine gfl hx hb hg inX4 hown hK hP 0 (ci := 4) rfl rfl 3 (by decide) wd_554 rfl dX4_reads_58 ?_
    refine lv_iload_n hx hb dX4_reads_61 rfl (lv_at hl 1 rfl) ?_
    refine ldn hx hb hK hP 3 0 rfl rfl (by omega) (by decide) dX4_reads_62 ?_
    refine topv (nI b) hbe ?_
    refine lv_ishl hx hb dX4_reads_63 ?_
    refine topv (bitI b) rfl ?_
    refine lv_iconst (v := 1) hx hb dX4_reads_64 (by decide) ?_
    refine lv_aload_n hx hb dX4_reads_65 rfl (lv_at hl 0 rfl) ?_
    refine gfl hx hb hg inX4 hown hK hP 0 (ci := 4) rfl rfl 4 (by decide) wd_555 rfl dX4_reads_66 ?_
    refine lv_iload_n hx hb dX4_reads_69 rfl (lv_at hl 1 rfl) ?_
    refine ldn hx hb hK hP 4 0 rfl rfl (by omega) (by decide) dX4_reads_70 ?_
    refine topv (nI d) hce ?_
    refine lv_ishl hx hb dX4_reads_71 ?_
    refine topv (bitI d) rfl ?_
    refine lv_ior hx hb dX4_reads_72 ?_
    exact retRI (v := (bitI b) ||| (bitI d)) hx hb hr hlocks hH dX4_reads_73 (by unfold rrI; rw [hkd]; first | (simp; done) | (simp [haq]; done) | (simp [hbq, hcq]; done) | (simp [hw]; done) | (simp [hw, haq]; done) | (simp [hw, haq, hbq]; done) | (simp [hw, hbq]; done))
  · obtain ⟨a, ha1, hae⟩ := lim_nI hlA (by decide)
    have ha1 : a < 8 := ha1
    have haq : ix (pq V 2 q) = a := by show ix (V 2 q) = a; rw [hae, ix_nI (by omega)]
    obtain ⟨b, hb1, hbe⟩ := lim_nI hlB (by decide)
    have hb1 : b < 8 := hb1
    have hbq : ix (pq V 3 q) = b := by show ix (V 3 q) = b; rw [hbe, ix_nI (by omega)]
    obtain ⟨d, hc1, hce⟩ := lim_nI hlC (by decide)
    have hc1 : d < 4 := hc1
    have hcq : ix (pq V 4 q) = d := by show ix (V 4 q) = d; rw [hce, ix_nI (by omega)]
    refine lv_tableIn (off := 68) (tgt := 74) hx hb dX4_reads_6 (by decide) (by decide) (by rfl) (by decide) ?_
    refine lv_iload_n hx hb dX4_reads_74 rfl (lv_at hl 2 rfl) ?_
    refine lv_if_eq (tgt := 89) hx hb dX4_reads_75 (by decide) (fun c_75 => ?_) (fun c_75 => ?_)
    · have hw := zI_0.mp c_75
      refine lv_iconst (v := 1) hx hb dX4_reads_89 (by decide) ?_
      refine lv_aload_n hx hb dX4_reads_90 rfl (lv_at hl 0 rfl) ?_
      refine gfl hx hb hg inX4 hown hK hP 0 (ci := 4) rfl rfl 2 (by decide) wd_553 rfl dX4_reads_91 ?_
      refine lv_iload_n hx hb dX4_reads_94 rfl (lv_at hl 1 rfl) ?_
      refine ldn hx hb hK hP 2 0 rfl rfl (by omega) (by decide) dX4_reads_95 ?_
      refine topv (nI a) hae ?_
      refine lv_ishl hx hb dX4_reads_96 ?_
      refine topv (bitI a) rfl ?_
      refine lv_iconst (v := 1) hx hb dX4_reads_97 (by decide) ?_
      refine lv_aload_n hx hb dX4_reads_98 rfl (lv_at hl 0 rfl) ?_
      refine gfl hx hb hg inX4 hown hK hP 0 (ci := 4) rfl rfl 3 (by decide) wd_554 rfl dX4_reads_99 ?_
      refine lv_iload_n hx hb dX4_reads_102 rfl (lv_at hl 1 rfl) ?_
      refine ldn hx hb hK hP 3 0 rfl rfl (by omega) (by decide) dX4_reads_103 ?_
      refine topv (nI b) hbe ?_
      refine lv_ishl hx hb dX4_reads_104 ?_
      refine topv (bitI b) rfl ?_
      refine lv_ior hx hb dX4_reads_105 ?_
      exact retRI (v := (bitI a) ||| (bitI b)) hx hb hr hlocks hH dX4_reads_106 (by unfold rrI; rw [hkd]; first | (simp; done) | (simp [haq]; done) | (simp [hbq, hcq]; done) | (simp [hw]; done) | (simp [hw, haq]; done) | (simp [hw, haq, hbq]; done) | (simp [hw, hbq]; done))
    · have hw := zI_ne c_75
      refine lv_iconst (v := 1) hx hb dX4_reads_78 (by decide) ?_
      refine lv_aload_n hx hb dX4_reads_79 rfl (lv_at hl 0 rfl) ?_
      refine gfl hx hb hg inX4 hown hK hP 0 (ci := 4) rfl rfl 2 (by decide) wd_553 rfl dX4_reads_80 ?_
      refine lv_iload_n hx hb dX4_reads_83 rfl (lv_at hl 1 rfl) ?_
      refine ldn hx hb hK hP 2 0 rfl rfl (by omega) (by decide) dX4_reads_84 ?_
      refine topv (nI a) hae ?_
      refine lv_ishl hx hb dX4_reads_85 ?_
      refine topv (bitI a) rfl ?_
      refine lv_goto (tgt := 106) hx hb dX4_reads_86 (by decide) ?_
      exact retRI (v := bitI a) hx hb hr hlocks hH dX4_reads_106 (by unfold rrI; rw [hkd]; first | (simp; done) | (simp [haq]; done) | (simp [hbq, hcq]; done) | (simp [hw]; done) | (simp [hw, haq]; done) | (simp [hw, haq, hbq]; done) | (simp [hw, hbq]; done))
  · obtain ⟨a, ha1, hae⟩ := lim_nI hlA (by decide)
    have ha1 : a < 8 := ha1
    have haq : ix (pq V 2 q) = a := by show ix (V 2 q) = a; rw [hae, ix_nI (by omega)]
    obtain ⟨b, hb1, hbe⟩ := lim_nI hlB (by decide)
    have hb1 : b < 8 := hb1
    have hbq : ix (pq V 3 q) = b := by show ix (V 3 q) = b; rw [hbe, ix_nI (by omega)]
    obtain ⟨d, hc1, hce⟩ := lim_nI hlC (by decide)
    have hc1 : d < 4 := hc1
    have hcq : ix (pq V 4 q) = d := by show ix (V 4 q) = d; rw [hce, ix_nI (by omega)]
    refine lv_tableIn (off := 101) (tgt := 107) hx hb dX4_reads_6 (by decide) (by decide) (by rfl) (by decide) ?_
    refine lv_iload_n hx hb dX4_reads_107 rfl (lv_at hl 2 rfl) ?_
    refine lv_if_eq (tgt := 115) hx hb dX4_reads_108 (by decide) (fun c_108 => ?_) (fun c_108 => ?_)
    · have hw := zI_0.mp c_108
      refine lv_iconst (v := 1) hx hb dX4_reads_115 (by decide) ?_
      refine lv_aload_n hx hb dX4_reads_116 rfl (lv_at hl 0 rfl) ?_
      refine gfl hx hb hg inX4 hown hK hP 0 (ci := 4) rfl rfl 3 (by decide) wd_554 rfl dX4_reads_117 ?_
      refine lv_iload_n hx hb dX4_reads_120 rfl (lv_at hl 1 rfl) ?_
      refine ldn hx hb hK hP 3 0 rfl rfl (by omega) (by decide) dX4_reads_121 ?_
      refine topv (nI b) hbe ?_
      refine lv_ishl hx hb dX4_reads_122 ?_
      refine topv (bitI b) rfl ?_
      exact retRI (v := bitI b) hx hb hr hlocks hH dX4_reads_123 (by unfold rrI; rw [hkd]; first | (simp; done) | (simp [haq]; done) | (simp [hbq, hcq]; done) | (simp [hw]; done) | (simp [hw, haq]; done) | (simp [hw, haq, hbq]; done) | (simp [hw, hbq]; done))
    · have hw := zI_ne c_108
      refine lv_iconst (v := 0) hx hb dX4_reads_111 (by decide) ?_
      refine lv_goto (tgt := 123) hx hb dX4_reads_112 (by decide) ?_
      exact retRI (v := 0) hx hb hr hlocks hH dX4_reads_123 (by unfold rrI; rw [hkd]; first | (simp; done) | (simp [haq]; done) | (simp [hbq, hcq]; done) | (simp [hw]; done) | (simp [hw, haq]; done) | (simp [hw, haq, hbq]; done) | (simp [hw, hbq]; done))
  · obtain ⟨a, ha1, hae⟩ := lim_nI hlA (by decide)
    have ha1 : a < 8 := ha1
    have haq : ix (pq V 2 q) = a := by show ix (V 2 q) = a; rw [hae, ix_nI (by omega)]
    obtain ⟨b, hb1, hbe⟩ := lim_nI hlB (by decide)
    have hb1 : b < 4 := hb1
    have hbq : ix (pq V 3 q) = b := by show ix (V 3 q) = b; rw [hbe, ix_nI (by omega)]
    refine lv_tableIn (off := 144) (tgt := 150) hx hb dX4_reads_6 (by decide) (by decide) (by rfl) (by decide) ?_
    refine lv_iconst (v := 0) hx hb dX4_reads_150 (by decide) ?_
    exact retRI (v := 0) hx hb hr hlocks hH dX4_reads_151 (by unfold rrI; rw [hkd]; first | (simp; done) | (simp [haq]; done) | (simp [hbq, hcq]; done) | (simp [hw]; done) | (simp [hw, haq]; done) | (simp [hw, haq, hbq]; done) | (simp [hw, hbq]; done))
  · obtain ⟨a, ha1, hae⟩ := lim_nI hlA (by decide)
    have ha1 : a < 8 := ha1
    have haq : ix (pq V 2 q) = a := by show ix (V 2 q) = a; rw [hae, ix_nI (by omega)]
    obtain ⟨b, hb1, hbe⟩ := lim_nI hlB (by decide)
    have hb1 : b < 4 := hb1
    have hbq : ix (pq V 3 q) = b := by show ix (V 3 q) = b; rw [hbe, ix_nI (by omega)]
    refine lv_tableIn (off := 118) (tgt := 124) hx hb dX4_reads_6 (by decide) (by decide) (by rfl) (by decide) ?_
    refine lv_iconst (v := 1) hx hb dX4_reads_124 (by decide) ?_
    refine lv_aload_n hx hb dX4_reads_125 rfl (lv_at hl 0 rfl) ?_
    refine gfl hx hb hg inX4 hown hK hP 0 (ci := 4) rfl rfl 2 (by decide) wd_553 rfl dX4_reads_126 ?_
    refine lv_iload_n hx hb dX4_reads_129 rfl (lv_at hl 1 rfl) ?_
    refine ldn hx hb hK hP 2 0 rfl rfl (by omega) (by decide) dX4_reads_130 ?_
    refine topv (nI a) hae ?_
    refine lv_ishl hx hb dX4_reads_131 ?_
    refine topv (bitI a) rfl ?_
    exact retRI (v := bitI a) hx hb hr hlocks hH dX4_reads_132 (by unfold rrI; rw [hkd]; first | (simp; done) | (simp [haq]; done) | (simp [hbq, hcq]; done) | (simp [hw]; done) | (simp [hw, haq]; done) | (simp [hw, haq, hbq]; done) | (simp [hw, hbq]; done))
  · obtain ⟨a, ha1, hae⟩ := lim_nI hlA (by decide)
    have ha1 : a < 8 := ha1
    have haq : ix (pq V 2 q) = a := by show ix (V 2 q) = a; rw [hae, ix_nI (by omega)]
    obtain ⟨b, hb1, hbe⟩ := lim_nI hlB (by decide)
    have hb1 : b < 25 := hb1
    have hbq : ix (pq V 3 q) = b := by show ix (V 3 q) = b; rw [hbe, ix_nI (by omega)]
    refine lv_tableIn (off := 127) (tgt := 133) hx hb dX4_reads_6 (by decide) (by decide) (by rfl) (by decide) ?_
    refine lv_iload_n hx hb dX4_reads_133 rfl (lv_at hl 2 rfl) ?_
    refine lv_if_eq (tgt := 141) hx hb dX4_reads_134 (by decide) (fun c_134 => ?_) (fun c_134 => ?_)
    · have hw := zI_0.mp c_134
      refine lv_iconst (v := 1) hx hb dX4_reads_141 (by decide) ?_
      refine lv_aload_n hx hb dX4_reads_142 rfl (lv_at hl 0 rfl) ?_
      refine gfl hx hb hg inX4 hown hK hP 0 (ci := 4) rfl rfl 2 (by decide) wd_553 rfl dX4_reads_143 ?_
      refine lv_iload_n hx hb dX4_reads_146 rfl (lv_at hl 1 rfl) ?_
      refine ldn hx hb hK hP 2 0 rfl rfl (by omega) (by decide) dX4_reads_147 ?_
      refine topv (nI a) hae ?_
      refine lv_ishl hx hb dX4_reads_148 ?_
      refine topv (bitI a) rfl ?_
      exact retRI (v := bitI a) hx hb hr hlocks hH dX4_reads_149 (by unfold rrI; rw [hkd]; first | (simp; done) | (simp [haq]; done) | (simp [hbq, hcq]; done) | (simp [hw]; done) | (simp [hw, haq]; done) | (simp [hw, haq, hbq]; done) | (simp [hw, hbq]; done))
    · have hw := zI_ne c_134
      refine lv_iconst (v := 0) hx hb dX4_reads_137 (by decide) ?_
      refine lv_goto (tgt := 149) hx hb dX4_reads_138 (by decide) ?_
      exact retRI (v := 0) hx hb hr hlocks hH dX4_reads_149 (by unfold rrI; rw [hkd]; first | (simp; done) | (simp [haq]; done) | (simp [hbq, hcq]; done) | (simp [hw]; done) | (simp [hw, haq]; done) | (simp [hw, haq, hbq]; done) | (simp [hw, hbq]; done))
  · obtain ⟨b, hb1, hbe⟩ := lim_nI hlB (by decide)
    have hb1 : b < 25 := hb1
    have hbq : ix (pq V 3 q) = b := by show ix (V 3 q) = b; rw [hbe, ix_nI (by omega)]
    refine lv_tableOut (tgt := 150) hx hb dX4_reads_6 (by decide) (by decide) ?_
    refine lv_iconst (v := 0) hx hb dX4_reads_150 (by decide) ?_
    exact retRI (v := 0) hx hb hr hlocks hH dX4_reads_151 (by unfold rrI; rw [hkd]; first | (simp; done) | (simp [haq]; done) | (simp [hbq, hcq]; done) | (simp [hw]; done) | (simp [hw, haq]; done) | (simp [hw, haq, hbq]; done) | (simp [hw, hbq]; done))
  · refine lv_tableOut (tgt := 150) hx hb dX4_reads_6 (by decide) (by decide) ?_
    refine lv_iconst (v := 0) hx hb dX4_reads_150 (by decide) ?_
    exact retRI (v := 0) hx hb hr hlocks hH dX4_reads_151 (by unfold rrI; rw [hkd]; first | (simp; done) | (simp [haq]; done) | (simp [hbq, hcq]; done) | (simp [hw]; done) | (simp [hw, haq]; done) | (simp [hw, haq, hbq]; done) | (simp [hw, hbq]; done))
abbrev rmX4_sets : Room := { frames := 1, cells := 0, slots := 0, locals := 25 }
theorem lk_X4_sets : Lk yX4_sets 1 := by decide +kernel
set_option maxHeartbeats 4000000 in
set_option maxRecDepth 100000 in
/-- sets(p) -/
theorem c_X4_sets (l : Launch) (D : va_G) (k : Nat → ClassId) (ad : Nat → Nat) (V : St) {n : Nat} (hv : okV n (pq V)) {q : Nat} (hq : q < 24) : CtR noX l yX4_sets cX4_sets 3 (some .int) rmX4_sets D (tyL k) (wQ k ad V) [.ref (ad 0), .int (nI q)] (fun r => r = stI (pq V) q) := by
  refine CtR.mk (by decide) (Nat.le_of_ble_eq_true rfl) ?_
  intro p e s m below meth c hx hb hml hown hg hr hlocks hK hN hX H hH hP ls hl
  have hl : lv_has ls 3 [(0, .ref (ad 0)), (1, .int (nI q))] := hl
  obtain ⟨j, hk, hj, hlA, hlB, hlC⟩ := hv.2.2.1 q hq
  have hk : V 1 q = nI j := hk
  have hlA : lim (LA.getD j 0) (V 2 q) := hlA
  have hlB : lim (LB.getD j 0) (V 3 q) := hlB
  have hlC : lim (LC.getD j 0) (V 4 q) := hlC
  have hkd : kd (pq V) q = j := kd_of hk hj
  refine lv_aload_n hx hb dX4_sets_0 rfl (lv_at hl 0 rfl) ?_
  refine gfl hx hb hg inX4 hown hK hP 0 (ci := 4) rfl rfl 1 (by decide) wd_552 rfl dX4_sets_1 ?_
  refine lv_iload_n hx hb dX4_sets_4 rfl (lv_at hl 1 rfl) ?_
  refine ldn hx hb hK hP 1 0 rfl rfl (by omega) (by decide) dX4_sets_5 ?_
  refine topv (nI j) hk ?_
  refine lv_istore_n (lv' := [(2, .int (nI j)), (0, .ref (ad 0)), (1, .int (nI q))]) hx hb dX4_sets_6 rfl hl (by decide) rfl (fun ls hl => ?_)
  refine lv_iload_n hx hb dX4_sets_7 rfl (lv_at hl 0 rfl) ?_
  refine lv_i2l (v := (nI j).toInt64) hx hb dX4_sets_8 rfl ?_
  refine lv_lconst (v := 1) hx hb dX4_sets_9 (by decide) ?_
  refine lv_ldc2 (v := 6) hx hb hown (hg _ wd_759) dX4_sets_10 ?_
  refine callR (runS hx hb hg hown hml hl.1 (c_X4_in l D k ((nI j).toInt64) (1) (6)) [.long ((nI j).toInt64), .long 1, .long 6] [] (preR (mapSome_sub hP [] rfl) hK hN xb0 x0) wd_668 wd_669 wd_53 wd_670 lk_X4_in ⟨rfl, rfl⟩ ⟨by decide, by decide⟩ ⟨Nat.zero_le _, Nat.zero_le _⟩ rfl (Nat.le_of_ble_eq_true rfl) dX4_sets_13) (fun r_13 q_13 => ?_)
  obtain rfl := q_13
  rw [in16 j hj]
  refine lv_if_ne (tgt := 31) hx hb dX4_sets_16 (by decide) (fun c_16 => ?_) (fun c_16 => ?_)
  · have c_16 := zI_ne c_16
    refine lv_aload_n hx hb dX4_sets_31 rfl (lv_at hl 1 rfl) ?_
    refine gfl hx hb hg inX4 hown hK hP 0 (ci := 4) rfl rfl 2 (by decide) wd_553 rfl dX4_sets_32 ?_
    refine lv_iload_n hx hb dX4_sets_35 rfl (lv_at hl 2 rfl) ?_
    refine ldn hx hb hK hP 2 0 rfl rfl (by omega) (by decide) dX4_sets_36 ?_
    refine lv_goto (tgt := 42) hx hb dX4_sets_37 (by decide) ?_
    exact retRI (v := (V 2) q) hx hb hr hlocks hH dX4_sets_42 (by unfold stI; rw [hkd, if_pos (Or.inl (of_decide_eq_true c_16))]; rfl)
  · have c_16 := zI_0.mp c_16
    refine lv_iload_n hx hb dX4_sets_19 rfl (lv_at hl 0 rfl) ?_
    refine lv_bipush (v := 8) hx hb dX4_sets_20 (by decide) ?_
    refine lv_icmp_eq (tgt := 31) hx hb dX4_sets_22 (by decide) (fun c_22 => ?_) (fun c_22 => ?_)
    · have c_22 : j = 8 := (nI_eq (a := j) (b := 8) (by omega) (by omega)).mp c_22
      refine lv_aload_n hx hb dX4_sets_31 rfl (lv_at hl 1 rfl) ?_
      refine gfl hx hb hg inX4 hown hK hP 0 (ci := 4) rfl rfl 2 (by decide) wd_553 rfl dX4_sets_32 ?_
      refine lv_iload_n hx hb dX4_sets_35 rfl (lv_at hl 2 rfl) ?_
      refine ldn hx hb hK hP 2 0 rfl rfl (by omega) (by decide) dX4_sets_36 ?_
      refine lv_goto (tgt := 42) hx hb dX4_sets_37 (by decide) ?_
      exact retRI (v := (V 2) q) hx hb hr hlocks hH dX4_sets_42 (by unfold stI; rw [hkd, if_pos (Or.inr (Or.inl c_22))]; rfl)
    · have c_22 : ¬ j = 8 := fun z => c_22 ((nI_eq (a := j) (b := 8) (by omega) (by omega)).mpr z)
      refine lv_iload_n hx hb dX4_sets_25 rfl (lv_at hl 0 rfl) ?_
      refine lv_bipush (v := 9) hx hb dX4_sets_26 (by decide) ?_
      refine lv_icmp_ne (tgt := 40) hx hb dX4_sets_28 (by decide) (fun c_28 => ?_) (fun c_28 => ?_)
      · have c_28 : ¬ j = 9 := fun z => c_28 ((nI_eq (a := j) (b := 9) (by omega) (by omega)).mpr z)
        refine lv_bipush (v := (-4)) hx hb dX4_sets_40 (by decide) ?_
        exact retRI (v := (-4)) hx hb hr hlocks hH dX4_sets_42 (by unfold stI; rw [hkd, if_neg (by rintro (h | h | h); (rw [decide_eq_true h] at c_16; cases c_16); exact c_22 h; exact c_28 h)])
      · have c_28 : j = 9 := (nI_eq (a := j) (b := 9) (by omega) (by omega)).mp c_28
        refine lv_aload_n hx hb dX4_sets_31 rfl (lv_at hl 1 rfl) ?_
        refine gfl hx hb hg inX4 hown hK hP 0 (ci := 4) rfl rfl 2 (by decide) wd_553 rfl dX4_sets_32 ?_
        refine lv_iload_n hx hb dX4_sets_35 rfl (lv_at hl 2 rfl) ?_
        refine ldn hx hb hK hP 2 0 rfl rfl (by omega) (by decide) dX4_sets_36 ?_
        refine lv_goto (tgt := 42) hx hb dX4_sets_37 (by decide) ?_
        exact retRI (v := (V 2) q) hx hb hr hlocks hH dX4_sets_42 (by unfold stI; rw [hkd, if_pos (Or.inr (Or.inr c_28))]; rfl)
abbrev rmX4_setsIt : Room := { frames := 2, cells := 0, slots := 0, locals := 47 }
theorem lk_X4_setsIt : Lk yX4_setsIt 2 := by decide +kernel
set_option maxHeartbeats 4000000 in
set_option maxRecDepth 100000 in
/-- setsIt(p, what): what a register or a global -/
theorem c_X4_setsIt (l : Launch) (D : va_G) (k : Nat → ClassId) (ad : Nat → Nat) (V : St) {n : Nat} (hv : okV n (pq V)) {q : Nat} (hq : q < 24) {x : Nat} (hx12 : x < 12) : CtR noX l yX4_setsIt cX4_setsIt 3 (some .boolean) rmX4_setsIt D (tyL k) (wQ k ad V) [.ref (ad 0), .int (nI q), .int (nI x)] (fun r => r = zI (decide (setI (pq V) q = bitI x))) := by
  refine CtR.mk (by decide) (Nat.le_of_ble_eq_true rfl) ?_
  intro p e s m below meth c hx hb hml hown hg hr hlocks hK hN hX H hH hP ls hl
  have hl : lv_has ls 3 [(0, .ref (ad 0)), (1, .int (nI q)), (2, .int (nI x))] := hl
  obtain ⟨j, hk, hj, hlA, hlB, hlC⟩ := hv.2.2.1 q hq
  have hk : V 1 q = nI j := hk
  have hlA : lim (LA.getD j 0) (V 2 q) := hlA
  have hlB : lim (LB.getD j 0) (V 3 q) := hlB
  have hlC : lim (LC.getD j 0) (V 4 q) := hlC
  have hkd : kd (pq V) q = j := kd_of hk hj
  have hq0 : okQ (pq V) q := hv.2.2.1 q hq
  refine lv_iload_n hx hb dX4_setsIt_0 rfl (lv_at hl 2 rfl) ?_
  refine lv_if_lt (tgt := 50) hx hb dX4_setsIt_1 (by decide) (fun c_1 => ?_) (fun c_1 => ?_)
  · have c_1 : x < 0 := (nI_ltI (a := x) (b := 0) (by omega) (by omega)).mp c_1
    exact absurd c_1 (by omega)
  · have c_1 : ¬ x < 0 := fun z => c_1 ((nI_ltI (a := x) (b := 0) (by omega) (by omega)).mpr z)
    refine lv_iload_n hx hb dX4_setsIt_4 rfl (lv_at hl 2 rfl) ?_
    refine lv_bipush (v := 8) hx hb dX4_setsIt_5 (by decide) ?_
    refine lv_icmp_ge (tgt := 22) hx hb dX4_setsIt_7 (by decide) (fun c_7 => ?_) (fun c_7 => ?_)
    · have c_7 : 8 ≤ x := (nI_leI (a := 8) (b := x) (by omega) (by omega)).mp c_7
      refine lv_aload_n hx hb dX4_setsIt_22 rfl (lv_at hl 0 rfl) ?_
      refine gfl hx hb hg inX4 hown hK hP 0 (ci := 4) rfl rfl 1 (by decide) wd_552 rfl dX4_setsIt_23 ?_
      refine lv_iload_n hx hb dX4_setsIt_26 rfl (lv_at hl 1 rfl) ?_
      refine ldn hx hb hK hP 1 0 rfl rfl (by omega) (by decide) dX4_setsIt_27 ?_
      refine topv (nI j) hk ?_
      refine lv_bipush (v := 10) hx hb dX4_setsIt_28 (by decide) ?_
      refine lv_icmp_ne (tgt := 50) hx hb dX4_setsIt_30 (by decide) (fun c_30 => ?_) (fun c_30 => ?_)
      · have c_30 : ¬ j = 10 := fun z => c_30 ((nI_eq (a := j) (b := 10) (by omega) (by omega)).mpr z)
        refine lv_iconst (v := 0) hx hb dX4_setsIt_50 (by decide) ?_
        exact retRZ (v := 0) hx hb hr hlocks hH rfl dX4_setsIt_51 (by rw [decide_eq_false (fun z => (by have y := (set_glo hq0 (x := x - 8) (by omega)).mpr (by rw [show 8 + (x - 8) = x by omega]; exact z); exact c_30 (hkd.symm.trans y.1)))]; rfl)
      · have c_30 : j = 10 := (nI_eq (a := j) (b := 10) (by omega) (by omega)).mp c_30
        refine lv_aload_n hx hb dX4_setsIt_33 rfl (lv_at hl 0 rfl) ?_
        refine gfl hx hb hg inX4 hown hK hP 0 (ci := 4) rfl rfl 3 (by decide) wd_554 rfl dX4_setsIt_34 ?_
        refine lv_iload_n hx hb dX4_setsIt_37 rfl (lv_at hl 1 rfl) ?_
        refine ldn hx hb hK hP 3 0 rfl rfl (by omega) (by decide) dX4_setsIt_38 ?_
        refine lv_iload_n hx hb dX4_setsIt_39 rfl (lv_at hl 2 rfl) ?_
        refine lv_bipush (v := 8) hx hb dX4_setsIt_40 (by decide) ?_
        refine lv_isub hx hb dX4_setsIt_42 ?_
        refine topv (nI (x - 8)) (pk_sub (a := x) (b := 8) (by omega)) ?_
        refine lv_icmp_ne (tgt := 50) hx hb dX4_setsIt_43 (by decide) (fun c_43 => ?_) (fun c_43 => ?_)
        · refine lv_iconst (v := 0) hx hb dX4_setsIt_50 (by decide) ?_
          exact retRZ (v := 0) hx hb hr hlocks hH rfl dX4_setsIt_51 (by rw [decide_eq_false (fun z => (by have y := (set_glo hq0 (x := x - 8) (by omega)).mpr (by rw [show 8 + (x - 8) = x by omega]; exact z); exact c_43 y.2))]; rfl)
        · refine lv_iconst (v := 1) hx hb dX4_setsIt_46 (by decide) ?_
          refine lv_goto (tgt := 51) hx hb dX4_setsIt_47 (by decide) ?_
          exact retRZ (v := 1) hx hb hr hlocks hH rfl dX4_setsIt_51 (by rw [decide_eq_true ((by have z := (set_glo hq0 (x := x - 8) (by omega)).mp ⟨hkd.trans c_30, c_43⟩; rw [show 8 + (x - 8) = x by omega] at z; exact z))]; rfl)
    · have c_7 : ¬ 8 ≤ x := fun z => c_7 ((nI_leI (a := 8) (b := x) (by omega) (by omega)).mpr z)
      refine lv_aload_n hx hb dX4_setsIt_10 rfl (lv_at hl 0 rfl) ?_
      refine lv_iload_n hx hb dX4_setsIt_11 rfl (lv_at hl 1 rfl) ?_
      refine callR (runV hx hb hg hown hml hl.1 (c_X4_sets l D k ad V hv hq) [.int (nI q)] [] (preR (mapSome_sub hP [0, 1, 2, 3, 4, 5, 6, 7, 8, 9, 10, 11, 12, 13, 14, 15, 16, 17, 18, 19, 20, 21, 22] rfl) hK hN xb0 x0) (va_recv hK hP (ci := 4) (q0 := 0) rfl rfl) wd_755 wd_757 wd_37 wd_53 wd_758 lk_X4_sets ⟨rfl, rfl⟩ ⟨by decide, by decide⟩ ⟨Nat.zero_le _, Nat.zero_le _⟩ rfl (Nat.le_of_ble_eq_true rfl) dX4_setsIt_12) (fun r_12 q_12 => ?_)
      obtain rfl := q_12
      refine lv_iload_n hx hb dX4_setsIt_15 rfl (lv_at hl 2 rfl) ?_
      refine lv_icmp_ne (tgt := 50) hx hb dX4_setsIt_16 (by decide) (fun c_16 => ?_) (fun c_16 => ?_)
      · refine lv_iconst (v := 0) hx hb dX4_setsIt_50 (by decide) ?_
        exact retRZ (v := 0) hx hb hr hlocks hH rfl dX4_setsIt_51 (by rw [decide_eq_false (fun z => c_16 ((set_reg hq0 (by omega)).mpr z))]; rfl)
      · refine lv_goto (tgt := 46) hx hb dX4_setsIt_19 (by decide) ?_
        refine lv_iconst (v := 1) hx hb dX4_setsIt_46 (by decide) ?_
        refine lv_goto (tgt := 51) hx hb dX4_setsIt_47 (by decide) ?_
        exact retRZ (v := 1) hx hb hr hlocks hH rfl dX4_setsIt_51 (by rw [decide_eq_true ((set_reg hq0 (by omega)).mp c_16)]; rfl)
set_option maxHeartbeats 4000000 in
set_option maxRecDepth 100000 in
/-- setsIt(p, NONE) -/
theorem c_X4_setsIt_N (l : Launch) (D : va_G) (k : Nat → ClassId) (ad : Nat → Nat) (V : St) {n : Nat} (hv : okV n (pq V)) {q : Nat} (hq : q < 24) : CtR noX l yX4_setsIt cX4_setsIt 3 (some .boolean) rmX4_setsIt D (tyL k) (wQ k ad V) [.ref (ad 0), .int (nI q), .int (-4)] (fun r => r = 0) := by
  refine CtR.mk (by decide) (Nat.le_of_ble_eq_true rfl) ?_
  intro p e s m below meth c hx hb hml hown hg hr hlocks hK hN hX H hH hP ls hl
  have hl : lv_has ls 3 [(0, .ref (ad 0)), (1, .int (nI q)), (2, .int (-4))] := hl
  refine lv_iload_n hx hb dX4_setsIt_0 rfl (lv_at hl 2 rfl) ?_
  refine lv_if_lt (tgt := 50) hx hb dX4_setsIt_1 (by decide) (fun c_1 => ?_) (fun c_1 => ?_)
  · refine lv_iconst (v := 0) hx hb dX4_setsIt_50 (by decide) ?_
    exact retRZ (v := 0) hx hb hr hlocks hH rfl dX4_setsIt_51 (rfl)
  · exact absurd (show ¬ ((-4 : Int32) < (0 : Int32)) from c_1) (by decide)
