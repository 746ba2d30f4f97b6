/-! the reference: on, back, forward -/
theorem or4_isM {a b c d : Int32} {A B C D E : Nat → Prop} (h1 : isM a A) (h2 : isM b B) (h3 : isM c C) (h4 : isM d D) (he : ∀ j, (A j ∨ B j ∨ C j ∨ D j) ↔ E j) : isM ((((0 ||| a) ||| b) ||| c) ||| d) E := fun j => by
  rw [b_or, b_or, b_or, b_or, b_0, ← he j, ← h1 j, ← h2 j, ← h3 j, ← h4 j]
  simp [or_assoc]
theorem or3_isM {a b c : Int32} {A B C E : Nat → Prop} (h1 : isM a A) (h2 : isM b B) (h3 : isM c C) (he : ∀ j, (A j ∨ B j ∨ C j) ↔ E j) : isM (((0 ||| a) ||| b) ||| c) E := fun j => by
  rw [b_or, b_or, b_or, b_0, ← he j, ← h1 j, ← h2 j, ← h3 j]
  simp [or_assoc]
abbrev rmX4_on : Room := { frames := 0, cells := 0, slots := 0, locals := 0 }
theorem lk_X4_on : Lk yX4_on 2 := by decide +kernel
set_option maxHeartbeats 4000000 in
set_option maxRecDepth 100000 in
/-- on(v, all) -/
theorem c_X4_on (l : Launch) (D : va_G) (k : Nat → ClassId) (ad : Nat → Nat) (V : St) {n : Nat} (hv : okV n (pq V)) (hm : MG n (pq V) V) {v : Nat} (hvn : v < n) : CtR noX l yX4_on cX4_on 5 (some .int) rmX4_on D (tyL k) (wQ k ad V) [.ref (ad 0), .int (nI v), .int 0] (fun r => isM r (HA n (pq V) v)) := by
  refine CtR.mk (by decide) (Nat.le_of_ble_eq_true rfl) ?_
  intro p e s m below meth c hx hb hml hown hg hr hlocks hK hN hX H hH hP ls hl
  have hl : lv_has ls 5 [(0, .ref (ad 0)), (1, .int (nI v)), (2, .int 0)] := hl
  have h00 : V 0 0 = nI n := hv.2.1
  have hn24 := hv.1
  have hf := hm.2 v hvn
  refine lv_iconst (v := 0) hx hb dX4_on_0 (by decide) ?_
  refine lv_istore_n (lv' := [(3, .int 0), (0, .ref (ad 0)), (1, .int (nI v)), (2, .int 0)]) hx hb dX4_on_1 rfl hl (by decide) rfl (fun ls hl => ?_)
  refine lv_iconst (v := 0) hx hb dX4_on_2 (by decide) ?_
  refine lv_istore (lv' := [(4, .int 0), (3, .int 0), (0, .ref (ad 0)), (1, .int (nI v)), (2, .int 0)]) hx hb dX4_on_3 hl (by decide) rfl (fun ls hl => ?_)
  refine lv_iload hx hb dX4_on_5 (lv_at hl 0 rfl) ?_
  refine lv_iload_n hx hb dX4_on_7 rfl (lv_at hl 4 rfl) ?_
  refine lv_if_eq (tgt := 15) hx hb dX4_on_8 (by decide) (fun c_8 => ?_) (fun c_8 => ?_)
  · refine lv_iconst (v := 4) hx hb dX4_on_15 (by decide) ?_
    refine lv_icmp_ge (tgt := 57) hx hb dX4_on_16 (by decide) (fun c_16 => ?_) (fun c_16 => ?_)
    · exact absurd (show (4 : Int32) ≤ (0 : Int32) from c_16) (by decide)
    · refine lv_iload_n hx hb dX4_on_19 rfl (lv_at hl 1 rfl) ?_
      refine lv_iload_n hx hb dX4_on_20 rfl (lv_at hl 4 rfl) ?_
      refine lv_if_eq (tgt := 38) hx hb dX4_on_21 (by decide) (fun c_21 => ?_) (fun c_21 => ?_)
      · refine lv_aload_n hx hb dX4_on_38 rfl (lv_at hl 2 rfl) ?_
        refine gfl hx hb hg inX4 hown hK hP 0 (ci := 4) rfl rfl 20 (by decide) wd_571 rfl dX4_on_39 ?_
        refine lv_iconst (v := 4) hx hb dX4_on_42 (by decide) ?_
        refine lv_iload_n hx hb dX4_on_43 rfl (lv_at hl 3 rfl) ?_
        refine lv_imul hx hb dX4_on_44 ?_
        refine topv (nI (4 * v)) (pk_mul 4 v) ?_
        refine lv_iload hx hb dX4_on_45 (lv_at hl 0 rfl) ?_
        refine lv_iadd hx hb dX4_on_47 ?_
        refine topv (nI (4 * v + 0)) (nI_add (4 * v) 0) ?_
        refine ldn hx hb hK hP 14 0 rfl rfl (by omega) (by decide) dX4_on_48 ?_
        refine lv_ior hx hb dX4_on_49 ?_
        refine lv_istore_n (lv' := [(3, .int (0 ||| ((V 14) (4 * v + 0)))), (4, .int 0), (0, .ref (ad 0)), (1, .int (nI v)), (2, .int 0)]) hx hb dX4_on_50 rfl hl (by decide) rfl (fun ls hl => ?_)
        refine lv_iinc (v := 1) (lv' := [(4, .int 1), (3, .int (0 ||| ((V 14) (4 * v + 0)))), (0, .ref (ad 0)), (1, .int (nI v)), (2, .int 0)]) hx hb dX4_on_51 hl (k := 1) rfl (by decide) (by decide) rfl (fun ls hl => ?_)
        refine lv_goto (tgt := 5) hx hb dX4_on_54 (by decide) ?_
        refine lv_iload hx hb dX4_on_5 (lv_at hl 0 rfl) ?_
        refine lv_iload_n hx hb dX4_on_7 rfl (lv_at hl 4 rfl) ?_
        refine lv_if_eq (tgt := 15) hx hb dX4_on_8 (by decide) (fun c_8 => ?_) (fun c_8 => ?_)
        · refine lv_iconst (v := 4) hx hb dX4_on_15 (by decide) ?_
          refine lv_icmp_ge (tgt := 57) hx hb dX4_on_16 (by decide) (fun c_16 => ?_) (fun c_16 => ?_)
          · exact absurd (show (4 : Int32) ≤ (1 : Int32) from c_16) (by decide)
          · refine lv_iload_n hx hb dX4_on_19 rfl (lv_at hl 1 rfl) ?_
            refine lv_iload_n hx hb dX4_on_20 rfl (lv_at hl 4 rfl) ?_
            refine lv_if_eq (tgt := 38) hx hb dX4_on_21 (by decide) (fun c_21 => ?_) (fun c_21 => ?_)
            · refine lv_aload_n hx hb dX4_on_38 rfl (lv_at hl 2 rfl) ?_
              refine gfl hx hb hg inX4 hown hK hP 0 (ci := 4) rfl rfl 20 (by decide) wd_571 rfl dX4_on_39 ?_
              refine lv_iconst (v := 4) hx hb dX4_on_42 (by decide) ?_
              refine lv_iload_n hx hb dX4_on_43 rfl (lv_at hl 3 rfl) ?_
              refine lv_imul hx hb dX4_on_44 ?_
              refine topv (nI (4 * v)) (pk_mul 4 v) ?_
              refine lv_iload hx hb dX4_on_45 (lv_at hl 0 rfl) ?_
              refine lv_iadd hx hb dX4_on_47 ?_
              refine topv (nI (4 * v + 1)) (nI_add (4 * v) 1) ?_
              refine ldn hx hb hK hP 14 0 rfl rfl (by omega) (by decide) dX4_on_48 ?_
              refine lv_ior hx hb dX4_on_49 ?_
              refine lv_istore_n (lv' := [(3, .int ((0 ||| ((V 14) (4 * v + 0))) ||| ((V 14) (4 * v + 1)))), (4, .int 1), (0, .ref (ad 0)), (1, .int (nI v)), (2, .int 0)]) hx hb dX4_on_50 rfl hl (by decide) rfl (fun ls hl => ?_)
              refine lv_iinc (v := 2) (lv' := [(4, .int 2), (3, .int ((0 ||| ((V 14) (4 * v + 0))) ||| ((V 14) (4 * v + 1)))), (0, .ref (ad 0)), (1, .int (nI v)), (2, .int 0)]) hx hb dX4_on_51 hl (k := 1) rfl (by decide) (by decide) rfl (fun ls hl => ?_)
              refine lv_goto (tgt := 5) hx hb dX4_on_54 (by decide) ?_
              refine lv_iload hx hb dX4_on_5 (lv_at hl 0 rfl) ?_
              refine lv_iload_n hx hb dX4_on_7 rfl (lv_at hl 4 rfl) ?_
              refine lv_if_eq (tgt := 15) hx hb dX4_on_8 (by decide) (fun c_8 => ?_) (fun c_8 => ?_)
              · refine lv_iconst (v := 4) hx hb dX4_on_15 (by decide) ?_
                refine lv_icmp_ge (tgt := 57) hx hb dX4_on_16 (by decide) (fun c_16 => ?_) (fun c_16 => ?_)
                · exact absurd (show (4 : Int32) ≤ (2 : Int32) from c_16) (by decide)
                · refine lv_iload_n hx hb dX4_on_19 rfl (lv_at hl 1 rfl) ?_
                  refine lv_iload_n hx hb dX4_on_20 rfl (lv_at hl 4 rfl) ?_
                  refine lv_if_eq (tgt := 38) hx hb dX4_on_21 (by decide) (fun c_21 => ?_) (fun c_21 => ?_)
                  · refine lv_aload_n hx hb dX4_on_38 rfl (lv_at hl 2 rfl) ?_
                    refine gfl hx hb hg inX4 hown hK hP 0 (ci := 4) rfl rfl 20 (by decide) wd_571 rfl dX4_on_39 ?_
                    refine lv_iconst (v := 4) hx hb dX4_on_42 (by decide) ?_
                    refine lv_iload_n hx hb dX4_on_43 rfl (lv_at hl 3 rfl) ?_
                    refine lv_imul hx hb dX4_on_44 ?_
                    refine topv (nI (4 * v)) (pk_mul 4 v) ?_
                    refine lv_iload hx hb dX4_on_45 (lv_at hl 0 rfl) ?_
                    refine lv_iadd hx hb dX4_on_47 ?_
                    refine topv (nI (4 * v + 2)) (nI_add (4 * v) 2) ?_
                    refine ldn hx hb hK hP 14 0 rfl rfl (by omega) (by decide) dX4_on_48 ?_
                    refine lv_ior hx hb dX4_on_49 ?_
                    refine lv_istore_n (lv' := [(3, .int (((0 ||| ((V 14) (4 * v + 0))) ||| ((V 14) (4 * v + 1))) ||| ((V 14) (4 * v + 2)))), (4, .int 2), (0, .ref (ad 0)), (1, .int (nI v)), (2, .int 0)]) hx hb dX4_on_50 rfl hl (by decide) rfl (fun ls hl => ?_)
                    refine lv_iinc (v := 3) (lv' := [(4, .int 3), (3, .int (((0 ||| ((V 14) (4 * v + 0))) ||| ((V 14) (4 * v + 1))) ||| ((V 14) (4 * v + 2)))), (0, .ref (ad 0)), (1, .int (nI v)), (2, .int 0)]) hx hb dX4_on_51 hl (k := 1) rfl (by decide) (by decide) rfl (fun ls hl => ?_)
                    refine lv_goto (tgt := 5) hx hb dX4_on_54 (by decide) ?_
                    refine lv_iload hx hb dX4_on_5 (lv_at hl 0 rfl) ?_
                    refine lv_iload_n hx hb dX4_on_7 rfl (lv_at hl 4 rfl) ?_
                    refine lv_if_eq (tgt := 15) hx hb dX4_on_8 (by decide) (fun c_8 => ?_) (fun c_8 => ?_)
                    · refine lv_iconst (v := 4) hx hb dX4_on_15 (by decide) ?_
                      refine lv_icmp_ge (tgt := 57) hx hb dX4_on_16 (by decide) (fun c_16 => ?_) (fun c_16 => ?_)
                      · exact absurd (show (4 : Int32) ≤ (3 : Int32) from c_16) (by decide)
                      · refine lv_iload_n hx hb dX4_on_19 rfl (lv_at hl 1 rfl) ?_
                        refine lv_iload_n hx hb dX4_on_20 rfl (lv_at hl 4 rfl) ?_
                        refine lv_if_eq (tgt := 38) hx hb dX4_on_21 (by decide) (fun c_21 => ?_) (fun c_21 => ?_)
                        · refine lv_aload_n hx hb dX4_on_38 rfl (lv_at hl 2 rfl) ?_
                          refine gfl hx hb hg inX4 hown hK hP 0 (ci := 4) rfl rfl 20 (by decide) wd_571 rfl dX4_on_39 ?_
                          refine lv_iconst (v := 4) hx hb dX4_on_42 (by decide) ?_
                          refine lv_iload_n hx hb dX4_on_43 rfl (lv_at hl 3 rfl) ?_
                          refine lv_imul hx hb dX4_on_44 ?_
                          refine topv (nI (4 * v)) (pk_mul 4 v) ?_
                          refine lv_iload hx hb dX4_on_45 (lv_at hl 0 rfl) ?_
                          refine lv_iadd hx hb dX4_on_47 ?_
                          refine topv (nI (4 * v + 3)) (nI_add (4 * v) 3) ?_
                          refine ldn hx hb hK hP 14 0 rfl rfl (by omega) (by decide) dX4_on_48 ?_
                          refine lv_ior hx hb dX4_on_49 ?_
                          refine lv_istore_n (lv' := [(3, .int ((((0 ||| ((V 14) (4 * v + 0))) ||| ((V 14) (4 * v + 1))) ||| ((V 14) (4 * v + 2))) ||| ((V 14) (4 * v + 3)))), (4, .int 3), (0, .ref (ad 0)), (1, .int (nI v)), (2, .int 0)]) hx hb dX4_on_50 rfl hl (by decide) rfl (fun ls hl => ?_)
                          refine lv_iinc (v := 4) (lv' := [(4, .int 4), (3, .int ((((0 ||| ((V 14) (4 * v + 0))) ||| ((V 14) (4 * v + 1))) ||| ((V 14) (4 * v + 2))) ||| ((V 14) (4 * v + 3)))), (0, .ref (ad 0)), (1, .int (nI v)), (2, .int 0)]) hx hb dX4_on_51 hl (k := 1) rfl (by decide) (by decide) rfl (fun ls hl => ?_)
                          refine lv_goto (tgt := 5) hx hb dX4_on_54 (by decide) ?_
                          refine lv_iload hx hb dX4_on_5 (lv_at hl 0 rfl) ?_
                          refine lv_iload_n hx hb dX4_on_7 rfl (lv_at hl 4 rfl) ?_
                          refine lv_if_eq (tgt := 15) hx hb dX4_on_8 (by decide) (fun c_8 => ?_) (fun c_8 => ?_)
                          · refine lv_iconst (v := 4) hx hb dX4_on_15 (by decide) ?_
                            refine lv_icmp_ge (tgt := 57) hx hb dX4_on_16 (by decide) (fun c_16 => ?_) (fun c_16 => ?_)
                            · refine lv_iload_n hx hb dX4_on_57 rfl (lv_at hl 1 rfl) ?_
                              exact retRI (v := (((0 ||| ((V 14) (4 * v + 0))) ||| ((V 14) (4 * v + 1))) ||| ((V 14) (4 * v + 2))) ||| ((V 14) (4 * v + 3))) hx hb hr hlocks hH dX4_on_58 (or4_isM hf.1.1 hf.1.2.1 hf.1.2.2.1 hf.1.2.2.2 (fun j => by rw [g1_pH hv hvn, g2_pH, g3_pH hv hvn]; exact Iff.rfl))
                            · exact absurd (show ¬ ((4 : Int32) ≤ (4 : Int32)) from c_16) (by decide)
                          · exact absurd (show ¬ (0 : Int32) = (0 : Int32) from c_8) (by decide)
                        · exact absurd (show ¬ (0 : Int32) = (0 : Int32) from c_21) (by decide)
                    · exact absurd (show ¬ (0 : Int32) = (0 : Int32) from c_8) (by decide)
                  · exact absurd (show ¬ (0 : Int32) = (0 : Int32) from c_21) (by decide)
              · exact absurd (show ¬ (0 : Int32) = (0 : Int32) from c_8) (by decide)
            · exact absurd (show ¬ (0 : Int32) = (0 : Int32) from c_21) (by decide)
        · exact absurd (show ¬ (0 : Int32) = (0 : Int32) from c_8) (by decide)
      · exact absurd (show ¬ (0 : Int32) = (0 : Int32) from c_21) (by decide)
  · exact absurd (show ¬ (0 : Int32) = (0 : Int32) from c_8) (by decide)
abbrev rmX4_back : Room := { frames := 1, cells := 0, slots := 0, locals := 24 }
theorem lk_X4_back : Lk yX4_back 2 := by decide +kernel
set_option maxHeartbeats 4000000 in
set_option maxRecDepth 100000 in
/-- back(v, all) -/
theorem c_X4_back (l : Launch) (D : va_G) (k : Nat → ClassId) (ad : Nat → Nat) (V : St) {n : Nat} (hv : okV n (pq V)) (hm : MG n (pq V) V) {v : Nat} (hvn : v < n) : CtR noX l yX4_back cX4_back 6 (some .int) rmX4_back D (tyL k) (wQ k ad V) [.ref (ad 0), .int (nI v), .int 0] (fun r => isM r (Bk n (pq V) v)) := by
  refine CtR.mk (by decide) (Nat.le_of_ble_eq_true rfl) ?_
  intro p e s m below meth c hx hb hml hown hg hr hlocks hK hN hX H hH hP ls hl
  have hl : lv_has ls 6 [(0, .ref (ad 0)), (1, .int (nI v)), (2, .int 0)] := hl
  have h00 : V 0 0 = nI n := hv.2.1
  have hn24 := hv.1
  refine lv_iconst (v := 1) hx hb dX4_back_0 (by decide) ?_
  refine lv_iload_n hx hb dX4_back_1 rfl (lv_at hl 1 rfl) ?_
  refine lv_ishl hx hb dX4_back_2 ?_
  refine topv (bitI v) rfl ?_
  refine lv_istore_n (lv' := [(3, .int (bitI v)), (0, .ref (ad 0)), (1, .int (nI v)), (2, .int 0)]) hx hb dX4_back_3 rfl hl (by decide) rfl (fun ls hl => ?_)
  refine lv_iconst (v := 0) hx hb dX4_back_4 (by decide) ?_
  refine lv_istore (lv' := [(4, .int 0), (3, .int (bitI v)), (0, .ref (ad 0)), (1, .int (nI v)), (2, .int 0)]) hx hb dX4_back_5 hl (by decide) rfl (fun ls hl => ?_)
  refine loopR (σ := Int32 × Int32) (fun zz9 ls => match zz9 with | (x, b) => lv_has ls 6 [(0, .ref (ad 0)), (1, .int (nI v)), (2, .int 0), (3, .int x), (4, .int b)] ∧ (Sat (fun j => j = v) (fun y z => y < n ∧ HA n (pq V) y z) x b) ∧ (∀ j, (fun j => j = v) j → bt x j = true)) (fun zz9 => match zz9 with | (x, b) => if x = b then 0 else 33 - cnt x) ?_ (bitI v, 0) ⟨(lv_sub hl [2, 3, 4, 1, 0] rfl), ⟨fun j hj => Cl.base (by rw [b_bit (by omega), decide_eq_true_eq] at hj; exact hj), fun e => ⟨fun j hj => by subst hj; rw [b_bit (by omega)]; simp, fun y z hy _ => by rw [e, b_0] at hy; cases hy⟩⟩, (fun j hj => by subst hj; rw [b_bit (by omega)]; simp)⟩
  intro zz9 ls hI ih
  obtain ⟨x, b⟩ := zz9
  obtain ⟨hl, hs, hX0⟩ := hI
  have iho := ih; clear ih
  refine lv_iload_n hx hb dX4_back_7 rfl (lv_at hl 3 rfl) ?_
  refine lv_iload hx hb dX4_back_8 (lv_at hl 4 rfl) ?_
  refine lv_icmp_eq (tgt := 61) hx hb dX4_back_10 (by decide) (fun c_10 => ?_) (fun c_10 => ?_)
  · refine lv_iload_n hx hb dX4_back_61 rfl (lv_at hl 3 rfl) ?_
    exact retRI (v := x) hx hb hr hlocks hH dX4_back_62 (fun j => hs.done c_10 j)
  · refine lv_iload_n hx hb dX4_back_13 rfl (lv_at hl 3 rfl) ?_
    refine lv_istore (lv' := [(4, .int x), (0, .ref (ad 0)), (1, .int (nI v)), (2, .int 0), (3, .int x)]) hx hb dX4_back_14 hl (by decide) rfl (fun ls hl => ?_)
    refine lv_iconst (v := 0) hx hb dX4_back_16 (by decide) ?_
    refine lv_istore (lv' := [(5, .int 0), (4, .int x), (0, .ref (ad 0)), (1, .int (nI v)), (2, .int 0), (3, .int x)]) hx hb dX4_back_17 hl (by decide) rfl (fun ls hl => ?_)
    refine loopR (σ := Int32 × Nat) (fun zz9 ls => match zz9 with | (x1, i) => lv_has ls 6 [(0, .ref (ad 0)), (1, .int (nI v)), (2, .int 0), (3, .int x1), (4, .int x), (5, .int (nI i))] ∧ (Inn (fun j => j = v) (fun y z => y < n ∧ HA n (pq V) y z) x x1 i) ∧ (i ≤ n)) (fun zz9 => match zz9 with | (x1, i) => n - i) ?_ (x, 0) ⟨(lv_sub hl [2, 3, 4, 5, 1, 0] rfl), (Inn.start hs.1), (by omega)⟩
    intro zz9 ls hI ih
    obtain ⟨x1, i⟩ := zz9
    obtain ⟨hl, hI, hi⟩ := hI
    refine lv_iload hx hb dX4_back_19 (lv_at hl 5 rfl) ?_
    refine lv_aload_n hx hb dX4_back_21 rfl (lv_at hl 0 rfl) ?_
    refine gfl hx hb hg inX4 hown hK hP 0 (ci := 4) rfl rfl 0 (by decide) wd_551 rfl dX4_back_22 ?_
    refine topv (nI n) h00 ?_
    refine lv_icmp_ge (tgt := 58) hx hb dX4_back_25 (by decide) (fun c_25 => ?_) (fun c_25 => ?_)
    · have c_25 : n ≤ i := (nI_leI (a := n) (b := i) (by omega) (by omega)).mp c_25
      refine lv_goto (tgt := 7) hx hb dX4_back_58 (by decide) ?_
      exact iho (x1, x) _ ⟨(lv_sub hl [0, 1, 2, 3, 4] rfl), (hI.sat hX0 (fun y z h => by have := h.1; omega)), (fun j hj => hI.2.1 j (hX0 j hj))⟩ (satmu c_10 hI.2.1)
    · have c_25 : ¬ n ≤ i := fun z => c_25 ((nI_leI (a := n) (b := i) (by omega) (by omega)).mpr z)
      refine lv_iload_n hx hb dX4_back_28 rfl (lv_at hl 3 rfl) ?_
      refine lv_iload hx hb dX4_back_29 (lv_at hl 5 rfl) ?_
      refine lv_ishr hx hb dX4_back_31 ?_
      refine lv_iconst (v := 1) hx hb dX4_back_32 (by decide) ?_
      refine lv_iand hx hb dX4_back_33 ?_
      refine lv_iconst (v := 1) hx hb dX4_back_34 (by decide) ?_
      refine lv_icmp_ne (tgt := 50) hx hb dX4_back_35 (by decide) (fun c_35 => ?_) (fun c_35 => ?_)
      · have c_35 := sh1_f (x := x1) (i := i) (by omega) c_35
        refine lv_iload_n hx hb dX4_back_50 rfl (lv_at hl 3 rfl) ?_
        refine lv_istore_n (lv' := [(3, .int x1), (0, .ref (ad 0)), (1, .int (nI v)), (2, .int 0), (4, .int x), (5, .int (nI i))]) hx hb dX4_back_51 rfl hl (by decide) rfl (fun ls hl => ?_)
        refine lv_iinc (v := nI (i + 1)) (lv' := [(5, .int (nI (i + 1))), (3, .int x1), (0, .ref (ad 0)), (1, .int (nI v)), (2, .int 0), (4, .int x)]) hx hb dX4_back_52 hl (k := 5) rfl (nI_succ i).symm (by decide) rfl (fun ls hl => ?_)
        refine lv_goto (tgt := 19) hx hb dX4_back_55 (by decide) ?_
        exact ih (x1, i + 1) _ ⟨(lv_sub hl [2, 3, 4, 1, 5, 0] rfl), (hI.no (fun hi z hz => by rw [hi] at c_35; cases c_35)), (by omega)⟩ (by dsimp only; omega)
      · have c_35 := (tS1 x1 (p := i) (by omega)).mp c_35
        refine lv_iload_n hx hb dX4_back_38 rfl (lv_at hl 3 rfl) ?_
        refine lv_aload_n hx hb dX4_back_39 rfl (lv_at hl 0 rfl) ?_
        refine lv_iload hx hb dX4_back_40 (lv_at hl 5 rfl) ?_
        refine lv_iload_n hx hb dX4_back_42 rfl (lv_at hl 2 rfl) ?_
        refine callR (runV hx hb hg hown hml hl.1 (c_X4_on l D k ad V hv hm (v := i) (by omega)) [.int (nI i), .int 0] [.int x1] (preR (mapSome_sub hP [0, 1, 2, 3, 4, 5, 6, 7, 8, 9, 10, 11, 12, 13, 14, 15, 16, 17, 18, 19, 20, 21, 22] rfl) hK hN xb0 x0) (va_recv hK hP (ci := 4) (q0 := 0) rfl rfl) wd_768 wd_770 wd_40 wd_53 wd_771 lk_X4_on ⟨rfl, rfl⟩ ⟨by decide, by decide⟩ ⟨Nat.zero_le _, Nat.zero_le _⟩ rfl (Nat.le_of_ble_eq_true rfl) dX4_back_43) (fun r_43 q_43 => ?_)
        refine lv_ior hx hb dX4_back_46 ?_
        refine lv_goto (tgt := 51) hx hb dX4_back_47 (by decide) ?_
        refine lv_istore_n (lv' := [(3, .int (x1 ||| r_43)), (0, .ref (ad 0)), (1, .int (nI v)), (2, .int 0), (4, .int x), (5, .int (nI i))]) hx hb dX4_back_51 rfl hl (by decide) rfl (fun ls hl => ?_)
        refine lv_iinc (v := nI (i + 1)) (lv' := [(5, .int (nI (i + 1))), (3, .int (x1 ||| r_43)), (0, .ref (ad 0)), (1, .int (nI v)), (2, .int 0), (4, .int x)]) hx hb dX4_back_52 hl (k := 5) rfl (nI_succ i).symm (by decide) rfl (fun ls hl => ?_)
        refine lv_goto (tgt := 19) hx hb dX4_back_55 (by decide) ?_
        exact ih (x1 ||| r_43, i + 1) _ ⟨(lv_sub hl [2, 3, 4, 1, 5, 0] rfl), (hI.yes c_35 (fun z => by rw [q_43 z]; exact ⟨fun h => ⟨by omega, h⟩, fun h => h.2⟩)), (by omega)⟩ (by dsimp only; omega)
abbrev rmX4_forward : Room := { frames := 2, cells := 0, slots := 0, locals := 49 }
theorem lk_X4_forward : Lk yX4_forward 2 := by decide +kernel
set_option maxHeartbeats 4000000 in
set_option maxRecDepth 100000 in
/-- forward(u, all) -/
theorem c_X4_forward (l : Launch) (D : va_G) (k : Nat → ClassId) (ad : Nat → Nat) (V : St) {n : Nat} (hv : okV n (pq V)) (hm : MG n (pq V) V) {u : Nat} (hu : u < n) : CtR noX l yX4_forward cX4_forward 5 (some .int) rmX4_forward D (tyL k) (wQ k ad V) [.ref (ad 0), .int (nI u), .int 0] (fun r => isM r (fun v9 => v9 < n ∧ Bk n (pq V) v9 u)) := by
  refine CtR.mk (by decide) (Nat.le_of_ble_eq_true rfl) ?_
  intro p e s m below meth c hx hb hml hown hg hr hlocks hK hN hX H hH hP ls hl
  have hl : lv_has ls 5 [(0, .ref (ad 0)), (1, .int (nI u)), (2, .int 0)] := hl
  have h00 : V 0 0 = nI n := hv.2.1
  have hn24 := hv.1
  refine lv_iconst (v := 0) hx hb dX4_forward_0 (by decide) ?_
  refine lv_istore_n (lv' := [(3, .int 0), (0, .ref (ad 0)), (1, .int (nI u)), (2, .int 0)]) hx hb dX4_forward_1 rfl hl (by decide) rfl (fun ls hl => ?_)
  refine lv_iconst (v := 0) hx hb dX4_forward_2 (by decide) ?_
  refine lv_istore (lv' := [(4, .int 0), (3, .int 0), (0, .ref (ad 0)), (1, .int (nI u)), (2, .int 0)]) hx hb dX4_forward_3 hl (by decide) rfl (fun ls hl => ?_)
  refine loopR (σ := Int32 × Nat) (fun zz9 ls => match zz9 with | (y1, i) => lv_has ls 5 [(0, .ref (ad 0)), (1, .int (nI u)), (2, .int 0), (3, .int y1), (4, .int (nI i))] ∧ (i ≤ n) ∧ (accM y1 i (fun v9 => Bk n (pq V) v9 u))) (fun zz9 => match zz9 with | (y1, i) => n - i) ?_ (0, 0) ⟨(lv_sub hl [2, 3, 4, 1, 0] rfl), (by omega), acc_0⟩
  intro zz9 ls hI ih
  obtain ⟨y1, i⟩ := zz9
  obtain ⟨hl, hi, hY⟩ := hI
  refine lv_iload hx hb dX4_forward_5 (lv_at hl 4 rfl) ?_
  refine lv_aload_n hx hb dX4_forward_7 rfl (lv_at hl 0 rfl) ?_
  refine gfl hx hb hg inX4 hown hK hP 0 (ci := 4) rfl rfl 0 (by decide) wd_551 rfl dX4_forward_8 ?_
  refine topv (nI n) h00 ?_
  refine lv_icmp_ge (tgt := 46) hx hb dX4_forward_11 (by decide) (fun c_11 => ?_) (fun c_11 => ?_)
  · have c_11 : n ≤ i := (nI_leI (a := n) (b := i) (by omega) (by omega)).mp c_11
    refine lv_iload_n hx hb dX4_forward_46 rfl (lv_at hl 3 rfl) ?_
    exact retRI (v := y1) hx hb hr hlocks hH dX4_forward_47 (by have e9 : i = n := (by omega); rw [e9] at hY; exact hY)
  · have c_11 : ¬ n ≤ i := fun z => c_11 ((nI_leI (a := n) (b := i) (by omega) (by omega)).mpr z)
    refine lv_aload_n hx hb dX4_forward_14 rfl (lv_at hl 0 rfl) ?_
    refine lv_iload hx hb dX4_forward_15 (lv_at hl 4 rfl) ?_
    refine lv_iload_n hx hb dX4_forward_17 rfl (lv_at hl 2 rfl) ?_
    refine callR (runV hx hb hg hown hml hl.1 (c_X4_back l D k ad V hv hm (v := i) (by omega)) [.int (nI i), .int 0] [] (preR (mapSome_sub hP [0, 1, 2, 3, 4, 5, 6, 7, 8, 9, 10, 11, 12, 13, 14, 15, 16, 17, 18, 19, 20, 21, 22] rfl) hK hN xb0 x0) (va_recv hK hP (ci := 4) (q0 := 0) rfl rfl) wd_764 wd_766 wd_39 wd_53 wd_767 lk_X4_back ⟨rfl, rfl⟩ ⟨by decide, by decide⟩ ⟨Nat.zero_le _, Nat.zero_le _⟩ rfl (Nat.le_of_ble_eq_true rfl) dX4_forward_18) (fun r_18 q_18 => ?_)
    refine lv_iload_n hx hb dX4_forward_21 rfl (lv_at hl 1 rfl) ?_
    refine lv_ishr hx hb dX4_forward_22 ?_
    refine lv_iconst (v := 1) hx hb dX4_forward_23 (by decide) ?_
    refine lv_iand hx hb dX4_forward_24 ?_
    refine lv_iconst (v := 1) hx hb dX4_forward_25 (by decide) ?_
    refine lv_icmp_ne (tgt := 38) hx hb dX4_forward_26 (by decide) (fun c_26 => ?_) (fun c_26 => ?_)
    · have c_26 := sh1_f (x := r_18) (i := u) (by omega) c_26
      refine lv_iload_n hx hb dX4_forward_38 rfl (lv_at hl 3 rfl) ?_
      refine lv_istore_n (lv' := [(3, .int y1), (0, .ref (ad 0)), (1, .int (nI u)), (2, .int 0), (4, .int (nI i))]) hx hb dX4_forward_39 rfl hl (by decide) rfl (fun ls hl => ?_)
      refine lv_iinc (v := nI (i + 1)) (lv' := [(4, .int (nI (i + 1))), (3, .int y1), (0, .ref (ad 0)), (1, .int (nI u)), (2, .int 0)]) hx hb dX4_forward_40 hl (k := 4) rfl (nI_succ i).symm (by decide) rfl (fun ls hl => ?_)
      refine lv_goto (tgt := 5) hx hb dX4_forward_43 (by decide) ?_
      exact ih (y1, i + 1) _ ⟨(lv_sub hl [2, 3, 4, 1, 0] rfl), (by omega), (acc_no hY (fun z => by rw [(q_18 u).mpr z] at c_26; cases c_26))⟩ (by dsimp only; omega)
    · have c_26 := (tS1 r_18 (p := u) (by omega)).mp c_26
      refine lv_iload_n hx hb dX4_forward_29 rfl (lv_at hl 3 rfl) ?_
      refine lv_iconst (v := 1) hx hb dX4_forward_30 (by decide) ?_
      refine lv_iload hx hb dX4_forward_31 (lv_at hl 4 rfl) ?_
      refine lv_ishl hx hb dX4_forward_33 ?_
      refine topv (bitI i) rfl ?_
      refine lv_ior hx hb dX4_forward_34 ?_
      refine lv_goto (tgt := 39) hx hb dX4_forward_35 (by decide) ?_
      refine lv_istore_n (lv' := [(3, .int (y1 ||| (bitI i))), (0, .ref (ad 0)), (1, .int (nI u)), (2, .int 0), (4, .int (nI i))]) hx hb dX4_forward_39 rfl hl (by decide) rfl (fun ls hl => ?_)
      refine lv_iinc (v := nI (i + 1)) (lv' := [(4, .int (nI (i + 1))), (3, .int (y1 ||| (bitI i))), (0, .ref (ad 0)), (1, .int (nI u)), (2, .int 0)]) hx hb dX4_forward_40 hl (k := 4) rfl (nI_succ i).symm (by decide) rfl (fun ls hl => ?_)
      refine lv_goto (tgt := 5) hx hb dX4_forward_43 (by decide) ?_
      exact ih (y1 ||| bitI i, i + 1) _ ⟨(lv_sub hl [2, 3, 4, 1, 0] rfl), (by omega), (acc_yes (by omega) hY ((q_18 u).mp c_26))⟩ (by dsimp only; omega)
set_option maxHeartbeats 4000000 in
set_option maxRecDepth 100000 in
/-- on(v, thin) -/
theorem c_X4_on_T (l : Launch) (D : va_G) (k : Nat → ClassId) (ad : Nat → Nat) (V : St) {n : Nat} (hv : okV n (pq V)) (hm : MG n (pq V) V) {v : Nat} (hvn : v < n) : CtR noX l yX4_on cX4_on 5 (some .int) rmX4_on D (tyL k) (wQ k ad V) [.ref (ad 0), .int (nI v), .int 1] (fun r => isM r (HT n (pq V) v)) := by
  refine CtR.mk (by decide) (Nat.le_of_ble_eq_true rfl) ?_
  intro p e s m below meth c hx hb hml hown hg hr hlocks hK hN hX H hH hP ls hl
  have hl : lv_has ls 5 [(0, .ref (ad 0)), (1, .int (nI v)), (2, .int 1)] := hl
  have h00 : V 0 0 = nI n := hv.2.1
  have hn24 := hv.1
  have hf := hm.2 v hvn
  refine lv_iconst (v := 0) hx hb dX4_on_0 (by decide) ?_
  refine lv_istore_n (lv' := [(3, .int 0), (0, .ref (ad 0)), (1, .int (nI v)), (2, .int 1)]) hx hb dX4_on_1 rfl hl (by decide) rfl (fun ls hl => ?_)
  refine lv_iconst (v := 0) hx hb dX4_on_2 (by decide) ?_
  refine lv_istore (lv' := [(4, .int 0), (3, .int 0), (0, .ref (ad 0)), (1, .int (nI v)), (2, .int 1)]) hx hb dX4_on_3 hl (by decide) rfl (fun ls hl => ?_)
  refine lv_iload hx hb dX4_on_5 (lv_at hl 0 rfl) ?_
  refine lv_iload_n hx hb dX4_on_7 rfl (lv_at hl 4 rfl) ?_
  refine lv_if_eq (tgt := 15) hx hb dX4_on_8 (by decide) (fun c_8 => ?_) (fun c_8 => ?_)
  · exact absurd (show (1 : Int32) = (0 : Int32) from c_8) (by decide)
  · refine lv_iconst (v := 3) hx hb dX4_on_11 (by decide) ?_
    refine lv_goto (tgt := 16) hx hb dX4_on_12 (by decide) ?_
    refine lv_icmp_ge (tgt := 57) hx hb dX4_on_16 (by decide) (fun c_16 => ?_) (fun c_16 => ?_)
    · exact absurd (show (3 : Int32) ≤ (0 : Int32) from c_16) (by decide)
    · refine lv_iload_n hx hb dX4_on_19 rfl (lv_at hl 1 rfl) ?_
      refine lv_iload_n hx hb dX4_on_20 rfl (lv_at hl 4 rfl) ?_
      refine lv_if_eq (tgt := 38) hx hb dX4_on_21 (by decide) (fun c_21 => ?_) (fun c_21 => ?_)
      · exact absurd (show (1 : Int32) = (0 : Int32) from c_21) (by decide)
      · refine lv_aload_n hx hb dX4_on_24 rfl (lv_at hl 2 rfl) ?_
        refine gfl hx hb hg inX4 hown hK hP 0 (ci := 4) rfl rfl 21 (by decide) wd_572 rfl dX4_on_25 ?_
        refine lv_iconst (v := 3) hx hb dX4_on_28 (by decide) ?_
        refine lv_iload_n hx hb dX4_on_29 rfl (lv_at hl 3 rfl) ?_
        refine lv_imul hx hb dX4_on_30 ?_
        refine topv (nI (3 * v)) (pk_mul 3 v) ?_
        refine lv_iload hx hb dX4_on_31 (lv_at hl 0 rfl) ?_
        refine lv_iadd hx hb dX4_on_33 ?_
        refine topv (nI (3 * v + 0)) (nI_add (3 * v) 0) ?_
        refine ldn hx hb hK hP 15 0 rfl rfl (by omega) (by decide) dX4_on_34 ?_
        refine lv_goto (tgt := 49) hx hb dX4_on_35 (by decide) ?_
        refine lv_ior hx hb dX4_on_49 ?_
        refine lv_istore_n (lv' := [(3, .int (0 ||| ((V 15) (3 * v + 0)))), (4, .int 0), (0, .ref (ad 0)), (1, .int (nI v)), (2, .int 1)]) hx hb dX4_on_50 rfl hl (by decide) rfl (fun ls hl => ?_)
        refine lv_iinc (v := 1) (lv' := [(4, .int 1), (3, .int (0 ||| ((V 15) (3 * v + 0)))), (0, .ref (ad 0)), (1, .int (nI v)), (2, .int 1)]) hx hb dX4_on_51 hl (k := 1) rfl (by decide) (by decide) rfl (fun ls hl => ?_)
        refine lv_goto (tgt := 5) hx hb dX4_on_54 (by decide) ?_
        refine lv_iload hx hb dX4_on_5 (lv_at hl 0 rfl) ?_
        refine lv_iload_n hx hb dX4_on_7 rfl (lv_at hl 4 rfl) ?_
        refine lv_if_eq (tgt := 15) hx hb dX4_on_8 (by decide) (fun c_8 => ?_) (fun c_8 => ?_)
        · exact absurd (show (1 : Int32) = (0 : Int32) from c_8) (by decide)
        · refine lv_iconst (v := 3) hx hb dX4_on_11 (by decide) ?_
          refine lv_goto (tgt := 16) hx hb dX4_on_12 (by decide) ?_
          refine lv_icmp_ge (tgt := 57) hx hb dX4_on_16 (by decide) (fun c_16 => ?_) (fun c_16 => ?_)
          · exact absurd (show (3 : Int32) ≤ (1 : Int32) from c_16) (by decide)
          · refine lv_iload_n hx hb dX4_on_19 rfl (lv_at hl 1 rfl) ?_
            refine lv_iload_n hx hb dX4_on_20 rfl (lv_at hl 4 rfl) ?_
            refine lv_if_eq (tgt := 38) hx hb dX4_on_21 (by decide) (fun c_21 => ?_) (fun c_21 => ?_)
            · exact absurd (show (1 : Int32) = (0 : Int32) from c_21) (by decide)
            · refine lv_aload_n hx hb dX4_on_24 rfl (lv_at hl 2 rfl) ?_
              refine gfl hx hb hg inX4 hown hK hP 0 (ci := 4) rfl rfl 21 (by decide) wd_572 rfl dX4_on_25 ?_
              refine lv_iconst (v := 3) hx hb dX4_on_28 (by decide) ?_
              refine lv_iload_n hx hb dX4_on_29 rfl (lv_at hl 3 rfl) ?_
              refine lv_imul hx hb dX4_on_30 ?_
              refine topv (nI (3 * v)) (pk_mul 3 v) ?_
              refine lv_iload hx hb dX4_on_31 (lv_at hl 0 rfl) ?_
              refine lv_iadd hx hb dX4_on_33 ?_
              refine topv (nI (3 * v + 1)) (nI_add (3 * v) 1) ?_
              refine ldn hx hb hK hP 15 0 rfl rfl (by omega) (by decide) dX4_on_34 ?_
              refine lv_goto (tgt := 49) hx hb dX4_on_35 (by decide) ?_
              refine lv_ior hx hb dX4_on_49 ?_
              refine lv_istore_n (lv' := [(3, .int ((0 ||| ((V 15) (3 * v + 0))) ||| ((V 15) (3 * v + 1)))), (4, .int 1), (0, .ref (ad 0)), (1, .int (nI v)), (2, .int 1)]) hx hb dX4_on_50 rfl hl (by decide) rfl (fun ls hl => ?_)
              refine lv_iinc (v := 2) (lv' := [(4, .int 2), (3, .int ((0 ||| ((V 15) (3 * v + 0))) ||| ((V 15) (3 * v + 1)))), (0, .ref (ad 0)), (1, .int (nI v)), (2, .int 1)]) hx hb dX4_on_51 hl (k := 1) rfl (by decide) (by decide) rfl (fun ls hl => ?_)
              refine lv_goto (tgt := 5) hx hb dX4_on_54 (by decide) ?_
              refine lv_iload hx hb dX4_on_5 (lv_at hl 0 rfl) ?_
              refine lv_iload_n hx hb dX4_on_7 rfl (lv_at hl 4 rfl) ?_
              refine lv_if_eq (tgt := 15) hx hb dX4_on_8 (by decide) (fun c_8 => ?_) (fun c_8 => ?_)
              · exact absurd (show (1 : Int32) = (0 : Int32) from c_8) (by decide)
              · refine lv_iconst (v := 3) hx hb dX4_on_11 (by decide) ?_
                refine lv_goto (tgt := 16) hx hb dX4_on_12 (by decide) ?_
                refine lv_icmp_ge (tgt := 57) hx hb dX4_on_16 (by decide) (fun c_16 => ?_) (fun c_16 => ?_)
                · exact absurd (show (3 : Int32) ≤ (2 : Int32) from c_16) (by decide)
                · refine lv_iload_n hx hb dX4_on_19 rfl (lv_at hl 1 rfl) ?_
                  refine lv_iload_n hx hb dX4_on_20 rfl (lv_at hl 4 rfl) ?_
                  refine lv_if_eq (tgt := 38) hx hb dX4_on_21 (by decide) (fun c_21 => ?_) (fun c_21 => ?_)
                  · exact absurd (show (1 : Int32) = (0 : Int32) from c_21) (by decide)
                  · refine lv_aload_n hx hb dX4_on_24 rfl (lv_at hl 2 rfl) ?_
                    refine gfl hx hb hg inX4 hown hK hP 0 (ci := 4) rfl rfl 21 (by decide) wd_572 rfl dX4_on_25 ?_
                    refine lv_iconst (v := 3) hx hb dX4_on_28 (by decide) ?_
                    refine lv_iload_n hx hb dX4_on_29 rfl (lv_at hl 3 rfl) ?_
                    refine lv_imul hx hb dX4_on_30 ?_
                    refine topv (nI (3 * v)) (pk_mul 3 v) ?_
                    refine lv_iload hx hb dX4_on_31 (lv_at hl 0 rfl) ?_
                    refine lv_iadd hx hb dX4_on_33 ?_
                    refine topv (nI (3 * v + 2)) (nI_add (3 * v) 2) ?_
                    refine ldn hx hb hK hP 15 0 rfl rfl (by omega) (by decide) dX4_on_34 ?_
                    refine lv_goto (tgt := 49) hx hb dX4_on_35 (by decide) ?_
                    refine lv_ior hx hb dX4_on_49 ?_
                    refine lv_istore_n (lv' := [(3, .int (((0 ||| ((V 15) (3 * v + 0))) ||| ((V 15) (3 * v + 1))) ||| ((V 15) (3 * v + 2)))), (4, .int 2), (0, .ref (ad 0)), (1, .int (nI v)), (2, .int 1)]) hx hb dX4_on_50 rfl hl (by decide) rfl (fun ls hl => ?_)
                    refine lv_iinc (v := 3) (lv' := [(4, .int 3), (3, .int (((0 ||| ((V 15) (3 * v + 0))) ||| ((V 15) (3 * v + 1))) ||| ((V 15) (3 * v + 2)))), (0, .ref (ad 0)), (1, .int (nI v)), (2, .int 1)]) hx hb dX4_on_51 hl (k := 1) rfl (by decide) (by decide) rfl (fun ls hl => ?_)
                    refine lv_goto (tgt := 5) hx hb dX4_on_54 (by decide) ?_
                    refine lv_iload hx hb dX4_on_5 (lv_at hl 0 rfl) ?_
                    refine lv_iload_n hx hb dX4_on_7 rfl (lv_at hl 4 rfl) ?_
                    refine lv_if_eq (tgt := 15) hx hb dX4_on_8 (by decide) (fun c_8 => ?_) (fun c_8 => ?_)
                    · exact absurd (show (1 : Int32) = (0 : Int32) from c_8) (by decide)
                    · refine lv_iconst (v := 3) hx hb dX4_on_11 (by decide) ?_
                      refine lv_goto (tgt := 16) hx hb dX4_on_12 (by decide) ?_
                      refine lv_icmp_ge (tgt := 57) hx hb dX4_on_16 (by decide) (fun c_16 => ?_) (fun c_16 => ?_)
                      · refine lv_iload_n hx hb dX4_on_57 rfl (lv_at hl 1 rfl) ?_
                        exact retRI (v := ((0 ||| ((V 15) (3 * v + 0))) ||| ((V 15) (3 * v + 1))) ||| ((V 15) (3 * v + 2))) hx hb hr hlocks hH dX4_on_58 (or3_isM hf.2.1 hf.2.2.1 hf.2.2.2 (fun j => thin_HT hv hvn))
                      · exact absurd (show ¬ ((3 : Int32) ≤ (3 : Int32)) from c_16) (by decide)
set_option maxHeartbeats 4000000 in
set_option maxRecDepth 100000 in
/-- back(v, thin) -/
theorem c_X4_back_T (l : Launch) (D : va_G) (k : Nat → ClassId) (ad : Nat → Nat) (V : St) {n : Nat} (hv : okV n (pq V)) (hm : MG n (pq V) V) {v : Nat} (hvn : v < n) : CtR noX l yX4_back cX4_back 6 (some .int) rmX4_back D (tyL k) (wQ k ad V) [.ref (ad 0), .int (nI v), .int 1] (fun r => isM r (Tn n (pq V) v)) := by
  refine CtR.mk (by decide) (Nat.le_of_ble_eq_true rfl) ?_
  intro p e s m below meth c hx hb hml hown hg hr hlocks hK hN hX H hH hP ls hl
  have hl : lv_has ls 6 [(0, .ref (ad 0)), (1, .int (nI v)), (2, .int 1)] := hl
  have h00 : V 0 0 = nI n := hv.2.1
  have hn24 := hv.1
  refine lv_iconst (v := 1) hx hb dX4_back_0 (by decide) ?_
  refine lv_iload_n hx hb dX4_back_1 rfl (lv_at hl 1 rfl) ?_
  refine lv_ishl hx hb dX4_back_2 ?_
  refine topv (bitI v) rfl ?_
  refine lv_istore_n (lv' := [(3, .int (bitI v)), (0, .ref (ad 0)), (1, .int (nI v)), (2, .int 1)]) hx hb dX4_back_3 rfl hl (by decide) rfl (fun ls hl => ?_)
  refine lv_iconst (v := 0) hx hb dX4_back_4 (by decide) ?_
  refine lv_istore (lv' := [(4, .int 0), (3, .int (bitI v)), (0, .ref (ad 0)), (1, .int (nI v)), (2, .int 1)]) hx hb dX4_back_5 hl (by decide) rfl (fun ls hl => ?_)
  refine loopR (σ := Int32 × Int32) (fun zz9 ls => match zz9 with | (x, b) => lv_has ls 6 [(0, .ref (ad 0)), (1, .int (nI v)), (2, .int 1), (3, .int x), (4, .int b)] ∧ (Sat (fun j => j = v) (fun y z => y < n ∧ HT n (pq V) y z) x b) ∧ (∀ j, (fun j => j = v) j → bt x j = true)) (fun zz9 => match zz9 with | (x, b) => if x = b then 0 else 33 - cnt x) ?_ (bitI v, 0) ⟨(lv_sub hl [2, 3, 4, 1, 0] rfl), ⟨fun j hj => Cl.base (by rw [b_bit (by omega), decide_eq_true_eq] at hj; exact hj), fun e => ⟨fun j hj => by subst hj; rw [b_bit (by omega)]; simp, fun y z hy _ => by rw [e, b_0] at hy; cases hy⟩⟩, (fun j hj => by subst hj; rw [b_bit (by omega)]; simp)⟩
  intro zz9 ls hI ih
  obtain ⟨x, b⟩ := zz9
  obtain ⟨hl, hs, hX0⟩ := hI
  have iho := ih; clear ih
  refine lv_iload_n hx hb dX4_back_7 rfl (lv_at hl 3 rfl) ?_
  refine lv_iload hx hb dX4_back_8 (lv_at hl 4 rfl) ?_
  refine lv_icmp_eq (tgt := 61) hx hb dX4_back_10 (by decide) (fun c_10 => ?_) (fun c_10 => ?_)
  · refine lv_iload_n hx hb dX4_back_61 rfl (lv_at hl 3 rfl) ?_
    exact retRI (v := x) hx hb hr hlocks hH dX4_back_62 (fun j => hs.done c_10 j)
  · refine lv_iload_n hx hb dX4_back_13 rfl (lv_at hl 3 rfl) ?_
    refine lv_istore (lv' := [(4, .int x), (0, .ref (ad 0)), (1, .int (nI v)), (2, .int 1), (3, .int x)]) hx hb dX4_back_14 hl (by decide) rfl (fun ls hl => ?_)
    refine lv_iconst (v := 0) hx hb dX4_back_16 (by decide) ?_
    refine lv_istore (lv' := [(5, .int 0), (4, .int x), (0, .ref (ad 0)), (1, .int (nI v)), (2, .int 1), (3, .int x)]) hx hb dX4_back_17 hl (by decide) rfl (fun ls hl => ?_)
    refine loopR (σ := Int32 × Nat) (fun zz9 ls => match zz9 with | (x1, i) => lv_has ls 6 [(0, .ref (ad 0)), (1, .int (nI v)), (2, .int 1), (3, .int x1), (4, .int x), (5, .int (nI i))] ∧ (Inn (fun j => j = v) (fun y z => y < n ∧ HT n (pq V) y z) x x1 i) ∧ (i ≤ n)) (fun zz9 => match zz9 with | (x1, i) => n - i) ?_ (x, 0) ⟨(lv_sub hl [2, 3, 4, 5, 1, 0] rfl), (Inn.start hs.1), (by omega)⟩
    intro zz9 ls hI ih
    obtain ⟨x1, i⟩ := zz9
    obtain ⟨hl, hI, hi⟩ := hI
    refine lv_iload hx hb dX4_back_19 (lv_at hl 5 rfl) ?_
    refine lv_aload_n hx hb dX4_back_21 rfl (lv_at hl 0 rfl) ?_
    refine gfl hx hb hg inX4 hown hK hP 0 (ci := 4) rfl rfl 0 (by decide) wd_551 rfl dX4_back_22 ?_
    refine topv (nI n) h00 ?_
    refine lv_icmp_ge (tgt := 58) hx hb dX4_back_25 (by decide) (fun c_25 => ?_) (fun c_25 => ?_)
    · have c_25 : n ≤ i := (nI_leI (a := n) (b := i) (by omega) (by omega)).mp c_25
      refine lv_goto (tgt := 7) hx hb dX4_back_58 (by decide) ?_
      exact iho (x1, x) _ ⟨(lv_sub hl [0, 1, 2, 3, 4] rfl), (hI.sat hX0 (fun y z h => by have := h.1; omega)), (fun j hj => hI.2.1 j (hX0 j hj))⟩ (satmu c_10 hI.2.1)
    · have c_25 : ¬ n ≤ i := fun z => c_25 ((nI_leI (a := n) (b := i) (by omega) (by omega)).mpr z)
      refine lv_iload_n hx hb dX4_back_28 rfl (lv_at hl 3 rfl) ?_
      refine lv_iload hx hb dX4_back_29 (lv_at hl 5 rfl) ?_
      refine lv_ishr hx hb dX4_back_31 ?_
      refine lv_iconst (v := 1) hx hb dX4_back_32 (by decide) ?_
      refine lv_iand hx hb dX4_back_33 ?_
      refine lv_iconst (v := 1) hx hb dX4_back_34 (by decide) ?_
      refine lv_icmp_ne (tgt := 50) hx hb dX4_back_35 (by decide) (fun c_35 => ?_) (fun c_35 => ?_)
      · have c_35 := sh1_f (x := x1) (i := i) (by omega) c_35
        refine lv_iload_n hx hb dX4_back_50 rfl (lv_at hl 3 rfl) ?_
        refine lv_istore_n (lv' := [(3, .int x1), (0, .ref (ad 0)), (1, .int (nI v)), (2, .int 1), (4, .int x), (5, .int (nI i))]) hx hb dX4_back_51 rfl hl (by decide) rfl (fun ls hl => ?_)
        refine lv_iinc (v := nI (i + 1)) (lv' := [(5, .int (nI (i + 1))), (3, .int x1), (0, .ref (ad 0)), (1, .int (nI v)), (2, .int 1), (4, .int x)]) hx hb dX4_back_52 hl (k := 5) rfl (nI_succ i).symm (by decide) rfl (fun ls hl => ?_)
        refine lv_goto (tgt := 19) hx hb dX4_back_55 (by decide) ?_
        exact ih (x1, i + 1) _ ⟨(lv_sub hl [2, 3, 4, 1, 5, 0] rfl), (hI.no (fun hi z hz => by rw [hi] at c_35; cases c_35)), (by omega)⟩ (by dsimp only; omega)
      · have c_35 := (tS1 x1 (p := i) (by omega)).mp c_35
        refine lv_iload_n hx hb dX4_back_38 rfl (lv_at hl 3 rfl) ?_
        refine lv_aload_n hx hb dX4_back_39 rfl (lv_at hl 0 rfl) ?_
        refine lv_iload hx hb dX4_back_40 (lv_at hl 5 rfl) ?_
        refine lv_iload_n hx hb dX4_back_42 rfl (lv_at hl 2 rfl) ?_
        refine callR (runV hx hb hg hown hml hl.1 (c_X4_on_T l D k ad V hv hm (v := i) (by omega)) [.int (nI i), .int 1] [.int x1] (preR (mapSome_sub hP [0, 1, 2, 3, 4, 5, 6, 7, 8, 9, 10, 11, 12, 13, 14, 15, 16, 17, 18, 19, 20, 21, 22] rfl) hK hN xb0 x0) (va_recv hK hP (ci := 4) (q0 := 0) rfl rfl) wd_768 wd_770 wd_40 wd_53 wd_771 lk_X4_on ⟨rfl, rfl⟩ ⟨by decide, by decide⟩ ⟨Nat.zero_le _, Nat.zero_le _⟩ rfl (Nat.le_of_ble_eq_true rfl) dX4_back_43) (fun r_43 q_43 => ?_)
        refine lv_ior hx hb dX4_back_46 ?_
        refine lv_goto (tgt := 51) hx hb dX4_back_47 (by decide) ?_
        refine lv_istore_n (lv' := [(3, .int (x1 ||| r_43)), (0, .ref (ad 0)), (1, .int (nI v)), (2, .int 1), (4, .int x), (5, .int (nI i))]) hx hb dX4_back_51 rfl hl (by decide) rfl (fun ls hl => ?_)
        refine lv_iinc (v := nI (i + 1)) (lv' := [(5, .int (nI (i + 1))), (3, .int (x1 ||| r_43)), (0, .ref (ad 0)), (1, .int (nI v)), (2, .int 1), (4, .int x)]) hx hb dX4_back_52 hl (k := 5) rfl (nI_succ i).symm (by decide) rfl (fun ls hl => ?_)
        refine lv_goto (tgt := 19) hx hb dX4_back_55 (by decide) ?_
        exact ih (x1 ||| r_43, i + 1) _ ⟨(lv_sub hl [2, 3, 4, 1, 5, 0] rfl), (hI.yes c_35 (fun z => by rw [q_43 z]; exact ⟨fun h => ⟨by omega, h⟩, fun h => h.2⟩)), (by omega)⟩ (by dsimp only; omega)
set_option maxHeartbeats 4000000 in
set_option maxRecDepth 100000 in
/-- forward(u, thin) -/
theorem c_X4_forward_T (l : Launch) (D : va_G) (k : Nat → ClassId) (ad : Nat → Nat) (V : St) {n : Nat} (hv : okV n (pq V)) (hm : MG n (pq V) V) {u : Nat} (hu : u < n) : CtR noX l yX4_forward cX4_forward 5 (some .int) rmX4_forward D (tyL k) (wQ k ad V) [.ref (ad 0), .int (nI u), .int 1] (fun r => isM r (fun v9 => v9 < n ∧ Tn n (pq V) v9 u)) := by
  refine CtR.mk (by decide) (Nat.le_of_ble_eq_true rfl) ?_
  intro p e s m below meth c hx hb hml hown hg hr hlocks hK hN hX H hH hP ls hl
  have hl : lv_has ls 5 [(0, .ref (ad 0)), (1, .int (nI u)), (2, .int 1)] := hl
  have h00 : V 0 0 = nI n := hv.2.1
  have hn24 := hv.1
  refine lv_iconst (v := 0) hx hb dX4_forward_0 (by decide) ?_
  refine lv_istore_n (lv' := [(3, .int 0), (0, .ref (ad 0)), (1, .int (nI u)), (2, .int 1)]) hx hb dX4_forward_1 rfl hl (by decide) rfl (fun ls hl => ?_)
  refine lv_iconst (v := 0) hx hb dX4_forward_2 (by decide) ?_
  refine lv_istore (lv' := [(4, .int 0), (3, .int 0), (0, .ref (ad 0)), (1, .int (nI u)), (2, .int 1)]) hx hb dX4_forward_3 hl (by decide) rfl (fun ls hl => ?_)
  refine loopR (σ := Int32 × Nat) (fun zz9 ls => match zz9 with | (y1, i) => lv_has ls 5 [(0, .ref (ad 0)), (1, .int (nI u)), (2, .int 1), (3, .int y1), (4, .int (nI i))] ∧ (i ≤ n) ∧ (accM y1 i (fun v9 => Tn n (pq V) v9 u))) (fun zz9 => match zz9 with | (y1, i) => n - i) ?_ (0, 0) ⟨(lv_sub hl [2, 3, 4, 1, 0] rfl), (by omega), acc_0⟩
  intro zz9 ls hI ih
  obtain ⟨y1, i⟩ := zz9
  obtain ⟨hl, hi, hY⟩ := hI
  refine lv_iload hx hb dX4_forward_5 (lv_at hl 4 rfl) ?_
  refine lv_aload_n hx hb dX4_forward_7 rfl (lv_at hl 0 rfl) ?_
  refine gfl hx hb hg inX4 hown hK hP 0 (ci := 4) rfl rfl 0 (by decide) wd_551 rfl dX4_forward_8 ?_
  refine topv (nI n) h00 ?_
  refine lv_icmp_ge (tgt := 46) hx hb dX4_forward_11 (by decide) (fun c_11 => ?_) (fun c_11 => ?_)
  · have c_11 : n ≤ i := (nI_leI (a := n) (b := i) (by omega) (by omega)).mp c_11
    refine lv_iload_n hx hb dX4_forward_46 rfl (lv_at hl 3 rfl) ?_
    exact retRI (v := y1) hx hb hr hlocks hH dX4_forward_47 (by have e9 : i = n := (by omega); rw [e9] at hY; exact hY)
  · have c_11 : ¬ n ≤ i := fun z => c_11 ((nI_leI (a := n) (b := i) (by omega) (by omega)).mpr z)
    refine lv_aload_n hx hb dX4_forward_14 rfl (lv_at hl 0 rfl) ?_
    refine lv_iload hx hb dX4_forward_15 (lv_at hl 4 rfl) ?_
    refine lv_iload_n hx hb dX4_forward_17 rfl (lv_at hl 2 rfl) ?_
    refine callR (runV hx hb hg hown hml hl.1 (c_X4_back_T l D k ad V hv hm (v := i) (by omega)) [.int (nI i), .int 1] [] (preR (mapSome_sub hP [0, 1, 2, 3, 4, 5, 6, 7, 8, 9, 10, 11, 12, 13, 14, 15, 16, 17, 18, 19, 20, 21, 22] rfl) hK hN xb0 x0) (va_recv hK hP (ci := 4) (q0 := 0) rfl rfl) wd_764 wd_766 wd_39 wd_53 wd_767 lk_X4_back ⟨rfl, rfl⟩ ⟨by decide, by decide⟩ ⟨Nat.zero_le _, Nat.zero_le _⟩ rfl (Nat.le_of_ble_eq_true rfl) dX4_forward_18) (fun r_18 q_18 => ?_)
    refine lv_iload_n hx hb dX4_forward_21 rfl (lv_at hl 1 rfl) ?_
    refine lv_ishr hx hb dX4_forward_22 ?_
    refine lv_iconst (v := 1) hx hb dX4_forward_23 (by decide) ?_
    refine lv_iand hx hb dX4_forward_24 ?_
    refine lv_iconst (v := 1) hx hb dX4_forward_25 (by decide) ?_
    refine lv_icmp_ne (tgt := 38) hx hb dX4_forward_26 (by decide) (fun c_26 => ?_) (fun c_26 => ?_)
    · have c_26 := sh1_f (x := r_18) (i := u) (by omega) c_26
      refine lv_iload_n hx hb dX4_forward_38 rfl (lv_at hl 3 rfl) ?_
      refine lv_istore_n (lv' := [(3, .int y1), (0, .ref (ad 0)), (1, .int (nI u)), (2, .int 1), (4, .int (nI i))]) hx hb dX4_forward_39 rfl hl (by decide) rfl (fun ls hl => ?_)
      refine lv_iinc (v := nI (i + 1)) (lv' := [(4, .int (nI (i + 1))), (3, .int y1), (0, .ref (ad 0)), (1, .int (nI u)), (2, .int 1)]) hx hb dX4_forward_40 hl (k := 4) rfl (nI_succ i).symm (by decide) rfl (fun ls hl => ?_)
      refine lv_goto (tgt := 5) hx hb dX4_forward_43 (by decide) ?_
      exact ih (y1, i + 1) _ ⟨(lv_sub hl [2, 3, 4, 1, 0] rfl), (by omega), (acc_no hY (fun z => by rw [(q_18 u).mpr z] at c_26; cases c_26))⟩ (by dsimp only; omega)
    · have c_26 := (tS1 r_18 (p := u) (by omega)).mp c_26
      refine lv_iload_n hx hb dX4_forward_29 rfl (lv_at hl 3 rfl) ?_
      refine lv_iconst (v := 1) hx hb dX4_forward_30 (by decide) ?_
      refine lv_iload hx hb dX4_forward_31 (lv_at hl 4 rfl) ?_
      refine lv_ishl hx hb dX4_forward_33 ?_
      refine topv (bitI i) rfl ?_
      refine lv_ior hx hb dX4_forward_34 ?_
      refine lv_goto (tgt := 39) hx hb dX4_forward_35 (by decide) ?_
      refine lv_istore_n (lv' := [(3, .int (y1 ||| (bitI i))), (0, .ref (ad 0)), (1, .int (nI u)), (2, .int 1), (4, .int (nI i))]) hx hb dX4_forward_39 rfl hl (by decide) rfl (fun ls hl => ?_)
      refine lv_iinc (v := nI (i + 1)) (lv' := [(4, .int (nI (i + 1))), (3, .int (y1 ||| (bitI i))), (0, .ref (ad 0)), (1, .int (nI u)), (2, .int 1)]) hx hb dX4_forward_40 hl (k := 4) rfl (nI_succ i).symm (by decide) rfl (fun ls hl => ?_)
      refine lv_goto (tgt := 5) hx hb dX4_forward_43 (by decide) ?_
      exact ih (y1 ||| bitI i, i + 1) _ ⟨(lv_sub hl [2, 3, 4, 1, 0] rfl), (by omega), (acc_yes (by omega) hY ((q_18 u).mp c_26))⟩ (by dsimp only; omega)
