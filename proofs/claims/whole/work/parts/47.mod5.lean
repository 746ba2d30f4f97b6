/-! the reference: sources -/
abbrev rmX4_sources : Room := { frames := 3, cells := 0, slots := 0, locals := 69 }
theorem lk_X4_sources : Lk yX4_sources 2 := by decide +kernel
set_option maxHeartbeats 4000000 in
set_option maxRecDepth 100000 in
/-- sources(v, what) -/
theorem c_X4_sources (l : Launch) (D : va_G) (k : Nat → ClassId) (ad : Nat → Nat) (V : St) {n : Nat} (hv : okV n (pq V)) {v : Nat} (hvn : v < n) {x9 : Nat} (hx9 : x9 < 12) : CtR noX l yX4_sources cX4_sources 9 (some .int) rmX4_sources D (tyL k) (wQ k ad V) [.ref (ad 0), .int (nI v), .int (nI x9)] (fun r => ∀ j, bt r j = true ↔ Cl (fun u => u < n ∧ bt (nxI n (pq V) u) v = true) (fun s1 u => u < n ∧ s1 < n ∧ bt (nxI n (pq V) u) s1 = true ∧ decide (setI (pq V) s1 = bitI x9) = false) j) := by
  refine CtR.mk (by decide) (Nat.le_of_ble_eq_true rfl) ?_
  intro p e s m below meth c hx hb hml hown hg hr hlocks hK hN hX H hH hP ls hl
  have hl : lv_has ls 9 [(0, .ref (ad 0)), (1, .int (nI v)), (2, .int (nI x9))] := hl
  have h00 : V 0 0 = nI n := hv.2.1
  have hn24 := hv.1
  refine lv_iconst (v := 0) hx hb dX4_sources_0 (by decide) ?_
  refine lv_istore_n (lv' := [(3, .int 0), (0, .ref (ad 0)), (1, .int (nI v)), (2, .int (nI x9))]) hx hb dX4_sources_1 rfl hl (by decide) rfl (fun ls hl => ?_)
  refine lv_bipush (v := (-4)) hx hb dX4_sources_2 (by decide) ?_
  refine lv_istore (lv' := [(4, .int (-4)), (3, .int 0), (0, .ref (ad 0)), (1, .int (nI v)), (2, .int (nI x9))]) hx hb dX4_sources_4 hl (by decide) rfl (fun ls hl => ?_)
  refine loopR (σ := Int32 × Int32) (fun zz9 ls => match zz9 with | (x, b) => lv_has ls 9 [(0, .ref (ad 0)), (1, .int (nI v)), (2, .int (nI x9)), (3, .int x), (4, .int b)] ∧ (Sat (fun u => u < n ∧ bt (nxI n (pq V) u) v = true) (fun s1 u => u < n ∧ s1 < n ∧ bt (nxI n (pq V) u) s1 = true ∧ decide (setI (pq V) s1 = bitI x9) = false) x b)) (fun zz9 => match zz9 with | (x, b) => if x = b then 0 else 33 - cnt x) ?_ (0, (-4)) ⟨(lv_sub hl [2, 3, 4, 1, 0] rfl), ⟨fun j hj => (by rw [b_0] at hj; cases hj), fun e => absurd e (by decide)⟩⟩
  intro zz9 ls hI ih
  obtain ⟨x, b⟩ := zz9
  obtain ⟨hl, hs⟩ := hI
  have iho := ih; clear ih
  refine lv_iload_n hx hb dX4_sources_6 rfl (lv_at hl 3 rfl) ?_
  refine lv_iload hx hb dX4_sources_7 (lv_at hl 4 rfl) ?_
  refine lv_icmp_eq (tgt := 139) hx hb dX4_sources_9 (by decide) (fun c_9 => ?_) (fun c_9 => ?_)
  · refine lv_iload_n hx hb dX4_sources_139 rfl (lv_at hl 3 rfl) ?_
    exact retRI (v := x) hx hb hr hlocks hH dX4_sources_140 (fun j => hs.done c_9 j)
  · refine lv_iload_n hx hb dX4_sources_12 rfl (lv_at hl 3 rfl) ?_
    refine lv_istore (lv' := [(4, .int x), (0, .ref (ad 0)), (1, .int (nI v)), (2, .int (nI x9)), (3, .int x)]) hx hb dX4_sources_13 hl (by decide) rfl (fun ls hl => ?_)
    refine lv_iconst (v := 0) hx hb dX4_sources_15 (by decide) ?_
    refine lv_istore (lv' := [(5, .int 0), (4, .int x), (0, .ref (ad 0)), (1, .int (nI v)), (2, .int (nI x9)), (3, .int x)]) hx hb dX4_sources_16 hl (by decide) rfl (fun ls hl => ?_)
    refine loopR (σ := Int32 × Nat) (fun zz9 ls => match zz9 with | (x1, u) => lv_has ls 9 [(0, .ref (ad 0)), (1, .int (nI v)), (2, .int (nI x9)), (3, .int x1), (4, .int x), (5, .int (nI u))] ∧ (u ≤ n) ∧ (InT (fun u => u < n ∧ bt (nxI n (pq V) u) v = true) (fun s1 u => u < n ∧ s1 < n ∧ bt (nxI n (pq V) u) s1 = true ∧ decide (setI (pq V) s1 = bitI x9) = false) x x1 (fun z => z < u))) (fun zz9 => match zz9 with | (x1, u) => n - u) ?_ (x, 0) ⟨(lv_sub hl [2, 3, 4, 5, 1, 0] rfl), (by omega), (InT.start hs.1 (fun z hz => by omega))⟩
    intro zz9 ls hI ih
    obtain ⟨x1, u⟩ := zz9
    obtain ⟨hl, hu, hIT⟩ := hI
    have ihm := ih; clear ih
    refine lv_iload hx hb dX4_sources_18 (lv_at hl 5 rfl) ?_
    refine lv_aload_n hx hb dX4_sources_20 rfl (lv_at hl 0 rfl) ?_
    refine gfl hx hb hg inX4 hown hK hP 0 (ci := 4) rfl rfl 0 (by decide) wd_551 rfl dX4_sources_21 ?_
    refine topv (nI n) h00 ?_
    refine lv_icmp_ge (tgt := 136) hx hb dX4_sources_24 (by decide) (fun c_24 => ?_) (fun c_24 => ?_)
    · have c_24 : n ≤ u := (nI_leI (a := n) (b := u) (by omega) (by omega)).mp c_24
      refine lv_goto (tgt := 6) hx hb dX4_sources_136 (by decide) ?_
      exact iho (x1, x) _ ⟨(lv_sub hl [0, 1, 2, 3, 4] rfl), (hIT.sat (fun j hj => Or.inr (by have := hj.1; omega)) (fun y z h => by have := h.1; omega))⟩ (satmu c_9 hIT.2.1)
    · have c_24 : ¬ n ≤ u := fun z => c_24 ((nI_leI (a := n) (b := u) (by omega) (by omega)).mpr z)
      refine lv_aload_n hx hb dX4_sources_27 rfl (lv_at hl 0 rfl) ?_
      refine lv_iload hx hb dX4_sources_28 (lv_at hl 5 rfl) ?_
      refine lv_iconst (v := 0) hx hb dX4_sources_30 (by decide) ?_
      refine callR (runV hx hb hg hown hml hl.1 (c_X4_nexts l D k ad V hv (q := u) (by omega) false) [.int (nI u), .int 0] [] (preR (mapSome_sub hP [0, 1, 2, 3, 4, 5, 6, 7, 8, 9, 10, 11, 12, 13, 14, 15, 16, 17, 18, 19, 20, 21, 22] rfl) hK hN xb0 x0) (va_recv hK hP (ci := 4) (q0 := 0) rfl rfl) wd_714 wd_716 wd_28 wd_53 wd_717 lk_X4_nexts ⟨rfl, rfl⟩ ⟨by decide, by decide⟩ ⟨Nat.zero_le _, Nat.zero_le _⟩ rfl (Nat.le_of_ble_eq_true rfl) dX4_sources_31) (fun r_31 q_31 => ?_)
      obtain rfl := q_31
      refine lv_istore (lv' := [(6, .int (nxI n (pq V) u)), (0, .ref (ad 0)), (1, .int (nI v)), (2, .int (nI x9)), (3, .int x1), (4, .int x), (5, .int (nI u))]) hx hb dX4_sources_34 hl (by decide) rfl (fun ls hl => ?_)
      refine lv_iload hx hb dX4_sources_36 (lv_at hl 0 rfl) ?_
      refine lv_iload_n hx hb dX4_sources_38 rfl (lv_at hl 2 rfl) ?_
      refine lv_ishr hx hb dX4_sources_39 ?_
      refine lv_iconst (v := 1) hx hb dX4_sources_40 (by decide) ?_
      refine lv_iand hx hb dX4_sources_41 ?_
      refine lv_iconst (v := 1) hx hb dX4_sources_42 (by decide) ?_
      refine lv_icmp_ne (tgt := 50) hx hb dX4_sources_43 (by decide) (fun c_43 => ?_) (fun c_43 => ?_)
      · have c_43 := sh1_f (x := (nxI n (pq V) u)) (i := v) (by omega) c_43
        refine lv_iconst (v := 0) hx hb dX4_sources_50 (by decide) ?_
        refine lv_istore (lv' := [(7, .int 0), (6, .int (nxI n (pq V) u)), (0, .ref (ad 0)), (1, .int (nI v)), (2, .int (nI x9)), (3, .int x1), (4, .int x), (5, .int (nI u))]) hx hb dX4_sources_51 hl (by decide) rfl (fun ls hl => ?_)
        refine lv_iconst (v := 0) hx hb dX4_sources_53 (by decide) ?_
        refine lv_istore (lv' := [(8, .int 0), (7, .int 0), (6, .int (nxI n (pq V) u)), (0, .ref (ad 0)), (1, .int (nI v)), (2, .int (nI x9)), (3, .int x1), (4, .int x), (5, .int (nI u))]) hx hb dX4_sources_54 hl (by decide) rfl (fun ls hl => ?_)
        refine loopR (σ := Bool × Nat) (fun zz9 ls => match zz9 with | (lb, i) => lv_has ls 9 [(0, .ref (ad 0)), (1, .int (nI v)), (2, .int (nI x9)), (3, .int x1), (4, .int x), (5, .int (nI u)), (6, .int (nxI n (pq V) u)), (7, .int (zI lb)), (8, .int (nI i))] ∧ (i ≤ n) ∧ (lb = true ↔ (bt (nxI n (pq V) u) v = true ∨ ∃ s1, s1 < i ∧ bt (nxI n (pq V) u) s1 = true ∧ bt x1 s1 = true ∧ decide (setI (pq V) s1 = bitI x9) = false))) (fun zz9 => match zz9 with | (lb, i) => n - i) ?_ (false, 0) ⟨(lv_sub hl [3, 4, 5, 6, 7, 8, 2, 1, 0] rfl), (by omega), ⟨fun z => (by cases z), fun z => z.elim (fun z => by rw [z] at c_43; cases c_43) (fun ⟨_, h, _⟩ => absurd h (Nat.not_lt_zero _))⟩⟩
        intro zz9 ls hI ih
        obtain ⟨lb, i⟩ := zz9
        obtain ⟨hl, hi, hlb⟩ := hI
        refine lv_iload hx hb dX4_sources_56 (lv_at hl 8 rfl) ?_
        refine lv_aload_n hx hb dX4_sources_58 rfl (lv_at hl 0 rfl) ?_
        refine gfl hx hb hg inX4 hown hK hP 0 (ci := 4) rfl rfl 0 (by decide) wd_551 rfl dX4_sources_59 ?_
        refine topv (nI n) h00 ?_
        refine lv_icmp_ge (tgt := 114) hx hb dX4_sources_62 (by decide) (fun c_62 => ?_) (fun c_62 => ?_)
        · have c_62 : n ≤ i := (nI_leI (a := n) (b := i) (by omega) (by omega)).mp c_62
          refine lv_iload hx hb dX4_sources_114 (lv_at hl 7 rfl) ?_
          refine lv_if_eq (tgt := 128) hx hb dX4_sources_116 (by decide) (fun c_116 => ?_) (fun c_116 => ?_)
          · have c_116 := zI_0.mp c_116
            refine lv_iload_n hx hb dX4_sources_128 rfl (lv_at hl 3 rfl) ?_
            refine lv_istore_n (lv' := [(3, .int x1), (0, .ref (ad 0)), (1, .int (nI v)), (2, .int (nI x9)), (4, .int x), (5, .int (nI u)), (6, .int (nxI n (pq V) u)), (7, .int (zI lb)), (8, .int (nI i))]) hx hb dX4_sources_129 rfl hl (by decide) rfl (fun ls hl => ?_)
            refine lv_iinc (v := nI (u + 1)) (lv' := [(5, .int (nI (u + 1))), (3, .int x1), (0, .ref (ad 0)), (1, .int (nI v)), (2, .int (nI x9)), (4, .int x), (6, .int (nxI n (pq V) u)), (7, .int (zI lb)), (8, .int (nI i))]) hx hb dX4_sources_130 hl (k := 5) rfl (nI_succ u).symm (by decide) rfl (fun ls hl => ?_)
            refine lv_goto (tgt := 18) hx hb dX4_sources_133 (by decide) ?_
            exact ihm (x1, u + 1) _ ⟨(lv_sub hl [2, 3, 4, 1, 5, 0] rfl), (by omega), (hIT.no (i := u) (fun z => by have hz : lb = true := hlb.mpr (z.elim (fun a => Or.inl a.2) (fun ⟨y, h1, h2⟩ => Or.inr ⟨y, (by have := h2.2.1; omega), h2.2.2.1, h1, h2.2.2.2⟩)); rw [hz] at c_116; cases c_116) (fun z hz => by omega))⟩ (by dsimp only; omega)
          · have c_116 := zI_ne c_116
            refine lv_iload_n hx hb dX4_sources_119 rfl (lv_at hl 3 rfl) ?_
            refine lv_iconst (v := 1) hx hb dX4_sources_120 (by decide) ?_
            refine lv_iload hx hb dX4_sources_121 (lv_at hl 5 rfl) ?_
            refine lv_ishl hx hb dX4_sources_123 ?_
            refine topv (bitI u) rfl ?_
            refine lv_ior hx hb dX4_sources_124 ?_
            refine lv_goto (tgt := 129) hx hb dX4_sources_125 (by decide) ?_
            refine lv_istore_n (lv' := [(3, .int (x1 ||| (bitI u))), (0, .ref (ad 0)), (1, .int (nI v)), (2, .int (nI x9)), (4, .int x), (5, .int (nI u)), (6, .int (nxI n (pq V) u)), (7, .int (zI lb)), (8, .int (nI i))]) hx hb dX4_sources_129 rfl hl (by decide) rfl (fun ls hl => ?_)
            refine lv_iinc (v := nI (u + 1)) (lv' := [(5, .int (nI (u + 1))), (3, .int (x1 ||| (bitI u))), (0, .ref (ad 0)), (1, .int (nI v)), (2, .int (nI x9)), (4, .int x), (6, .int (nxI n (pq V) u)), (7, .int (zI lb)), (8, .int (nI i))]) hx hb dX4_sources_130 hl (k := 5) rfl (nI_succ u).symm (by decide) rfl (fun ls hl => ?_)
            refine lv_goto (tgt := 18) hx hb dX4_sources_133 (by decide) ?_
            exact ihm (x1 ||| bitI u, u + 1) _ ⟨(lv_sub hl [2, 3, 4, 1, 5, 0] rfl), (by omega), (hIT.yes (i := u) (by omega) (by rcases hlb.mp c_116 with z | ⟨s1, h1, h2, h3, h4⟩; exact Or.inl ⟨by omega, z⟩; exact Or.inr ⟨s1, h3, by omega, by omega, h2, h4⟩) (fun z hz => by omega))⟩ (by dsimp only; omega)
        · have c_62 : ¬ n ≤ i := fun z => c_62 ((nI_leI (a := n) (b := i) (by omega) (by omega)).mpr z)
          refine lv_iload hx hb dX4_sources_65 (lv_at hl 7 rfl) ?_
          refine lv_if_ne (tgt := 114) hx hb dX4_sources_67 (by decide) (fun c_67 => ?_) (fun c_67 => ?_)
          · have c_67 := zI_ne c_67
            refine lv_iload hx hb dX4_sources_114 (lv_at hl 7 rfl) ?_
            refine lv_if_eq (tgt := 128) hx hb dX4_sources_116 (by decide) (fun c_116 => ?_) (fun c_116 => ?_)
            · have c_116 := zI_0.mp c_116
              exact absurd c_116 (by rw [c_67]; decide)
            · have c_116 := zI_ne c_116
              refine lv_iload_n hx hb dX4_sources_119 rfl (lv_at hl 3 rfl) ?_
              refine lv_iconst (v := 1) hx hb dX4_sources_120 (by decide) ?_
              refine lv_iload hx hb dX4_sources_121 (lv_at hl 5 rfl) ?_
              refine lv_ishl hx hb dX4_sources_123 ?_
              refine topv (bitI u) rfl ?_
              refine lv_ior hx hb dX4_sources_124 ?_
              refine lv_goto (tgt := 129) hx hb dX4_sources_125 (by decide) ?_
              refine lv_istore_n (lv' := [(3, .int (x1 ||| (bitI u))), (0, .ref (ad 0)), (1, .int (nI v)), (2, .int (nI x9)), (4, .int x), (5, .int (nI u)), (6, .int (nxI n (pq V) u)), (7, .int (zI lb)), (8, .int (nI i))]) hx hb dX4_sources_129 rfl hl (by decide) rfl (fun ls hl => ?_)
              refine lv_iinc (v := nI (u + 1)) (lv' := [(5, .int (nI (u + 1))), (3, .int (x1 ||| (bitI u))), (0, .ref (ad 0)), (1, .int (nI v)), (2, .int (nI x9)), (4, .int x), (6, .int (nxI n (pq V) u)), (7, .int (zI lb)), (8, .int (nI i))]) hx hb dX4_sources_130 hl (k := 5) rfl (nI_succ u).symm (by decide) rfl (fun ls hl => ?_)
              refine lv_goto (tgt := 18) hx hb dX4_sources_133 (by decide) ?_
              exact ihm (x1 ||| bitI u, u + 1) _ ⟨(lv_sub hl [2, 3, 4, 1, 5, 0] rfl), (by omega), (hIT.yes (i := u) (by omega) (by rcases hlb.mp c_116 with z | ⟨s1, h1, h2, h3, h4⟩; exact Or.inl ⟨by omega, z⟩; exact Or.inr ⟨s1, h3, by omega, by omega, h2, h4⟩) (fun z hz => by omega))⟩ (by dsimp only; omega)
          · have c_67 := zI_0.mp c_67
            refine lv_iload hx hb dX4_sources_70 (lv_at hl 6 rfl) ?_
            refine lv_iload hx hb dX4_sources_72 (lv_at hl 8 rfl) ?_
            refine lv_ishr hx hb dX4_sources_74 ?_
            refine lv_iconst (v := 1) hx hb dX4_sources_75 (by decide) ?_
            refine lv_iand hx hb dX4_sources_76 ?_
            refine lv_iconst (v := 1) hx hb dX4_sources_77 (by decide) ?_
            refine lv_icmp_ne (tgt := 105) hx hb dX4_sources_78 (by decide) (fun c_78 => ?_) (fun c_78 => ?_)
            · have c_78 := sh1_f (x := (nxI n (pq V) u)) (i := i) (by omega) c_78
              refine lv_iconst (v := 0) hx hb dX4_sources_105 (by decide) ?_
              refine lv_istore (lv' := [(7, .int 0), (0, .ref (ad 0)), (1, .int (nI v)), (2, .int (nI x9)), (3, .int x1), (4, .int x), (5, .int (nI u)), (6, .int (nxI n (pq V) u)), (8, .int (nI i))]) hx hb dX4_sources_106 hl (by decide) rfl (fun ls hl => ?_)
              refine lv_iinc (v := nI (i + 1)) (lv' := [(8, .int (nI (i + 1))), (7, .int 0), (0, .ref (ad 0)), (1, .int (nI v)), (2, .int (nI x9)), (3, .int x1), (4, .int x), (5, .int (nI u)), (6, .int (nxI n (pq V) u))]) hx hb dX4_sources_108 hl (k := 8) rfl (nI_succ i).symm (by decide) rfl (fun ls hl => ?_)
              refine lv_goto (tgt := 56) hx hb dX4_sources_111 (by decide) ?_
              exact ih (false, i + 1) _ ⟨(lv_sub hl [2, 3, 4, 5, 6, 7, 8, 1, 0] rfl), (by omega), ⟨fun z => (by cases z), fun z => by rw [← c_67]; refine hlb.mpr (z.imp id (fun ⟨s1, h1, h2, h3, h4⟩ => ⟨s1, ?_, h2, h3, h4⟩)); rcases Classical.em (s1 = i) with e | e; (subst e; exact absurd trivial (fun _ => (by rw [h2] at c_78; cases c_78))); omega⟩⟩ (by dsimp only; omega)
            · have c_78 := (tS1 (nxI n (pq V) u) (p := i) (by omega)).mp c_78
              refine lv_iload_n hx hb dX4_sources_81 rfl (lv_at hl 3 rfl) ?_
              refine lv_iload hx hb dX4_sources_82 (lv_at hl 8 rfl) ?_
              refine lv_ishr hx hb dX4_sources_84 ?_
              refine lv_iconst (v := 1) hx hb dX4_sources_85 (by decide) ?_
              refine lv_iand hx hb dX4_sources_86 ?_
              refine lv_iconst (v := 1) hx hb dX4_sources_87 (by decide) ?_
              refine lv_icmp_ne (tgt := 105) hx hb dX4_sources_88 (by decide) (fun c_88 => ?_) (fun c_88 => ?_)
              · have c_88 := sh1_f (x := x1) (i := i) (by omega) c_88
                refine lv_iconst (v := 0) hx hb dX4_sources_105 (by decide) ?_
                refine lv_istore (lv' := [(7, .int 0), (0, .ref (ad 0)), (1, .int (nI v)), (2, .int (nI x9)), (3, .int x1), (4, .int x), (5, .int (nI u)), (6, .int (nxI n (pq V) u)), (8, .int (nI i))]) hx hb dX4_sources_106 hl (by decide) rfl (fun ls hl => ?_)
                refine lv_iinc (v := nI (i + 1)) (lv' := [(8, .int (nI (i + 1))), (7, .int 0), (0, .ref (ad 0)), (1, .int (nI v)), (2, .int (nI x9)), (3, .int x1), (4, .int x), (5, .int (nI u)), (6, .int (nxI n (pq V) u))]) hx hb dX4_sources_108 hl (k := 8) rfl (nI_succ i).symm (by decide) rfl (fun ls hl => ?_)
                refine lv_goto (tgt := 56) hx hb dX4_sources_111 (by decide) ?_
                exact ih (false, i + 1) _ ⟨(lv_sub hl [2, 3, 4, 5, 6, 7, 8, 1, 0] rfl), (by omega), ⟨fun z => (by cases z), fun z => by rw [← c_67]; refine hlb.mpr (z.imp id (fun ⟨s1, h1, h2, h3, h4⟩ => ⟨s1, ?_, h2, h3, h4⟩)); rcases Classical.em (s1 = i) with e | e; (subst e; exact absurd trivial (fun _ => (by rw [h3] at c_88; cases c_88))); omega⟩⟩ (by dsimp only; omega)
              · have c_88 := (tS1 x1 (p := i) (by omega)).mp c_88
                refine lv_aload_n hx hb dX4_sources_91 rfl (lv_at hl 0 rfl) ?_
                refine lv_iload hx hb dX4_sources_92 (lv_at hl 8 rfl) ?_
                refine lv_iload_n hx hb dX4_sources_94 rfl (lv_at hl 2 rfl) ?_
                refine callR (runV hx hb hg hown hml hl.1 (c_X4_setsIt l D k ad V hv (q := i) (by omega) (x := x9) hx9) [.int (nI i), .int (nI x9)] [] (preR (mapSome_sub hP [0, 1, 2, 3, 4, 5, 6, 7, 8, 9, 10, 11, 12, 13, 14, 15, 16, 17, 18, 19, 20, 21, 22] rfl) hK hN xb0 x0) (va_recv hK hP (ci := 4) (q0 := 0) rfl rfl) wd_751 wd_753 wd_36 wd_53 wd_754 lk_X4_setsIt ⟨rfl, rfl⟩ ⟨by decide, by decide⟩ ⟨Nat.zero_le _, Nat.zero_le _⟩ rfl (Nat.le_of_ble_eq_true rfl) dX4_sources_95) (fun r_95 q_95 => ?_)
                obtain rfl := q_95
                refine lv_if_ne (tgt := 105) hx hb dX4_sources_98 (by decide) (fun c_98 => ?_) (fun c_98 => ?_)
                · have c_98 := zI_ne c_98
                  refine lv_iconst (v := 0) hx hb dX4_sources_105 (by decide) ?_
                  refine lv_istore (lv' := [(7, .int 0), (0, .ref (ad 0)), (1, .int (nI v)), (2, .int (nI x9)), (3, .int x1), (4, .int x), (5, .int (nI u)), (6, .int (nxI n (pq V) u)), (8, .int (nI i))]) hx hb dX4_sources_106 hl (by decide) rfl (fun ls hl => ?_)
                  refine lv_iinc (v := nI (i + 1)) (lv' := [(8, .int (nI (i + 1))), (7, .int 0), (0, .ref (ad 0)), (1, .int (nI v)), (2, .int (nI x9)), (3, .int x1), (4, .int x), (5, .int (nI u)), (6, .int (nxI n (pq V) u))]) hx hb dX4_sources_108 hl (k := 8) rfl (nI_succ i).symm (by decide) rfl (fun ls hl => ?_)
                  refine lv_goto (tgt := 56) hx hb dX4_sources_111 (by decide) ?_
                  exact ih (false, i + 1) _ ⟨(lv_sub hl [2, 3, 4, 5, 6, 7, 8, 1, 0] rfl), (by omega), ⟨fun z => (by cases z), fun z => by rw [← c_67]; refine hlb.mpr (z.imp id (fun ⟨s1, h1, h2, h3, h4⟩ => ⟨s1, ?_, h2, h3, h4⟩)); rcases Classical.em (s1 = i) with e | e; (subst e; exact absurd trivial (fun _ => (by rw [h4] at c_98; cases c_98))); omega⟩⟩ (by dsimp only; omega)
                · have c_98 := zI_0.mp c_98
                  refine lv_iconst (v := 1) hx hb dX4_sources_101 (by decide) ?_
                  refine lv_goto (tgt := 106) hx hb dX4_sources_102 (by decide) ?_
                  refine lv_istore (lv' := [(7, .int 1), (0, .ref (ad 0)), (1, .int (nI v)), (2, .int (nI x9)), (3, .int x1), (4, .int x), (5, .int (nI u)), (6, .int (nxI n (pq V) u)), (8, .int (nI i))]) hx hb dX4_sources_106 hl (by decide) rfl (fun ls hl => ?_)
                  refine lv_iinc (v := nI (i + 1)) (lv' := [(8, .int (nI (i + 1))), (7, .int 1), (0, .ref (ad 0)), (1, .int (nI v)), (2, .int (nI x9)), (3, .int x1), (4, .int x), (5, .int (nI u)), (6, .int (nxI n (pq V) u))]) hx hb dX4_sources_108 hl (k := 8) rfl (nI_succ i).symm (by decide) rfl (fun ls hl => ?_)
                  refine lv_goto (tgt := 56) hx hb dX4_sources_111 (by decide) ?_
                  exact ih (true, i + 1) _ ⟨(lv_sub hl [2, 3, 4, 5, 6, 7, 8, 1, 0] rfl), (by omega), ⟨fun _ => Or.inr ⟨i, by omega, c_78, c_88, c_98⟩, fun _ => rfl⟩⟩ (by dsimp only; omega)
      · have c_43 := (tS1 (nxI n (pq V) u) (p := v) (by omega)).mp c_43
        refine lv_iconst (v := 1) hx hb dX4_sources_46 (by decide) ?_
        refine lv_goto (tgt := 51) hx hb dX4_sources_47 (by decide) ?_
        refine lv_istore (lv' := [(7, .int 1), (6, .int (nxI n (pq V) u)), (0, .ref (ad 0)), (1, .int (nI v)), (2, .int (nI x9)), (3, .int x1), (4, .int x), (5, .int (nI u))]) hx hb dX4_sources_51 hl (by decide) rfl (fun ls hl => ?_)
        refine lv_iconst (v := 0) hx hb dX4_sources_53 (by decide) ?_
        refine lv_istore (lv' := [(8, .int 0), (7, .int 1), (6, .int (nxI n (pq V) u)), (0, .ref (ad 0)), (1, .int (nI v)), (2, .int (nI x9)), (3, .int x1), (4, .int x), (5, .int (nI u))]) hx hb dX4_sources_54 hl (by decide) rfl (fun ls hl => ?_)
        refine loopR (σ := Bool × Nat) (fun zz9 ls => match zz9 with | (lb, i) => lv_has ls 9 [(0, .ref (ad 0)), (1, .int (nI v)), (2, .int (nI x9)), (3, .int x1), (4, .int x), (5, .int (nI u)), (6, .int (nxI n (pq V) u)), (7, .int (zI lb)), (8, .int (nI i))] ∧ (i ≤ n) ∧ (lb = true ↔ (bt (nxI n (pq V) u) v = true ∨ ∃ s1, s1 < i ∧ bt (nxI n (pq V) u) s1 = true ∧ bt x1 s1 = true ∧ decide (setI (pq V) s1 = bitI x9) = false))) (fun zz9 => match zz9 with | (lb, i) => n - i) ?_ (true, 0) ⟨(lv_sub hl [3, 4, 5, 6, 7, 8, 2, 1, 0] rfl), (by omega), ⟨fun _ => Or.inl c_43, fun _ => rfl⟩⟩
        intro zz9 ls hI ih
        obtain ⟨lb, i⟩ := zz9
        obtain ⟨hl, hi, hlb⟩ := hI
        refine lv_iload hx hb dX4_sources_56 (lv_at hl 8 rfl) ?_
        refine lv_aload_n hx hb dX4_sources_58 rfl (lv_at hl 0 rfl) ?_
        refine gfl hx hb hg inX4 hown hK hP 0 (ci := 4) rfl rfl 0 (by decide) wd_551 rfl dX4_sources_59 ?_
        refine topv (nI n) h00 ?_
        refine lv_icmp_ge (tgt := 114) hx hb dX4_sources_62 (by decide) (fun c_62 => ?_) (fun c_62 => ?_)
        · have c_62 : n ≤ i := (nI_leI (a := n) (b := i) (by omega) (by omega)).mp c_62
          refine lv_iload hx hb dX4_sources_114 (lv_at hl 7 rfl) ?_
          refine lv_if_eq (tgt := 128) hx hb dX4_sources_116 (by decide) (fun c_116 => ?_) (fun c_116 => ?_)
          · have c_116 := zI_0.mp c_116
            refine lv_iload_n hx hb dX4_sources_128 rfl (lv_at hl 3 rfl) ?_
            refine lv_istore_n (lv' := [(3, .int x1), (0, .ref (ad 0)), (1, .int (nI v)), (2, .int (nI x9)), (4, .int x), (5, .int (nI u)), (6, .int (nxI n (pq V) u)), (7, .int (zI lb)), (8, .int (nI i))]) hx hb dX4_sources_129 rfl hl (by decide) rfl (fun ls hl => ?_)
            refine lv_iinc (v := nI (u + 1)) (lv' := [(5, .int (nI (u + 1))), (3, .int x1), (0, .ref (ad 0)), (1, .int (nI v)), (2, .int (nI x9)), (4, .int x), (6, .int (nxI n (pq V) u)), (7, .int (zI lb)), (8, .int (nI i))]) hx hb dX4_sources_130 hl (k := 5) rfl (nI_succ u).symm (by decide) rfl (fun ls hl => ?_)
            refine lv_goto (tgt := 18) hx hb dX4_sources_133 (by decide) ?_
            exact ihm (x1, u + 1) _ ⟨(lv_sub hl [2, 3, 4, 1, 5, 0] rfl), (by omega), (hIT.no (i := u) (fun z => by have hz : lb = true := hlb.mpr (z.elim (fun a => Or.inl a.2) (fun ⟨y, h1, h2⟩ => Or.inr ⟨y, (by have := h2.2.1; omega), h2.2.2.1, h1, h2.2.2.2⟩)); rw [hz] at c_116; cases c_116) (fun z hz => by omega))⟩ (by dsimp only; omega)
          · have c_116 := zI_ne c_116
            refine lv_iload_n hx hb dX4_sources_119 rfl (lv_at hl 3 rfl) ?_
            refine lv_iconst (v := 1) hx hb dX4_sources_120 (by decide) ?_
            refine lv_iload hx hb dX4_sources_121 (lv_at hl 5 rfl) ?_
            refine lv_ishl hx hb dX4_sources_123 ?_
            refine topv (bitI u) rfl ?_
            refine lv_ior hx hb dX4_sources_124 ?_
            refine lv_goto (tgt := 129) hx hb dX4_sources_125 (by decide) ?_
            refine lv_istore_n (lv' := [(3, .int (x1 ||| (bitI u))), (0, .ref (ad 0)), (1, .int (nI v)), (2, .int (nI x9)), (4, .int x), (5, .int (nI u)), (6, .int (nxI n (pq V) u)), (7, .int (zI lb)), (8, .int (nI i))]) hx hb dX4_sources_129 rfl hl (by decide) rfl (fun ls hl => ?_)
            refine lv_iinc (v := nI (u + 1)) (lv' := [(5, .int (nI (u + 1))), (3, .int (x1 ||| (bitI u))), (0, .ref (ad 0)), (1, .int (nI v)), (2, .int (nI x9)), (4, .int x), (6, .int (nxI n (pq V) u)), (7, .int (zI lb)), (8, .int (nI i))]) hx hb dX4_sources_130 hl (k := 5) rfl (nI_succ u).symm (by decide) rfl (fun ls hl => ?_)
            refine lv_goto (tgt := 18) hx hb dX4_sources_133 (by decide) ?_
            exact ihm (x1 ||| bitI u, u + 1) _ ⟨(lv_sub hl [2, 3, 4, 1, 5, 0] rfl), (by omega), (hIT.yes (i := u) (by omega) (by rcases hlb.mp c_116 with z | ⟨s1, h1, h2, h3, h4⟩; exact Or.inl ⟨by omega, z⟩; exact Or.inr ⟨s1, h3, by omega, by omega, h2, h4⟩) (fun z hz => by omega))⟩ (by dsimp only; omega)
        · have c_62 : ¬ n ≤ i := fun z => c_62 ((nI_leI (a := n) (b := i) (by omega) (by omega)).mpr z)
          refine lv_iload hx hb dX4_sources_65 (lv_at hl 7 rfl) ?_
          refine lv_if_ne (tgt := 114) hx hb dX4_sources_67 (by decide) (fun c_67 => ?_) (fun c_67 => ?_)
          · have c_67 := zI_ne c_67
            refine lv_iload hx hb dX4_sources_114 (lv_at hl 7 rfl) ?_
            refine lv_if_eq (tgt := 128) hx hb dX4_sources_116 (by decide) (fun c_116 => ?_) (fun c_116 => ?_)
            · have c_116 := zI_0.mp c_116
              exact absurd c_116 (by rw [c_67]; decide)
            · have c_116 := zI_ne c_116
              refine lv_iload_n hx hb dX4_sources_119 rfl (lv_at hl 3 rfl) ?_
              refine lv_iconst (v := 1) hx hb dX4_sources_120 (by decide) ?_
              refine lv_iload hx hb dX4_sources_121 (lv_at hl 5 rfl) ?_
              refine lv_ishl hx hb dX4_sources_123 ?_
              refine topv (bitI u) rfl ?_
              refine lv_ior hx hb dX4_sources_124 ?_
              refine lv_goto (tgt := 129) hx hb dX4_sources_125 (by decide) ?_
              refine lv_istore_n (lv' := [(3, .int (x1 ||| (bitI u))), (0, .ref (ad 0)), (1, .int (nI v)), (2, .int (nI x9)), (4, .int x), (5, .int (nI u)), (6, .int (nxI n (pq V) u)), (7, .int (zI lb)), (8, .int (nI i))]) hx hb dX4_sources_129 rfl hl (by decide) rfl (fun ls hl => ?_)
              refine lv_iinc (v := nI (u + 1)) (lv' := [(5, .int (nI (u + 1))), (3, .int (x1 ||| (bitI u))), (0, .ref (ad 0)), (1, .int (nI v)), (2, .int (nI x9)), (4, .int x), (6, .int (nxI n (pq V) u)), (7, .int (zI lb)), (8, .int (nI i))]) hx hb dX4_sources_130 hl (k := 5) rfl (nI_succ u).symm (by decide) rfl (fun ls hl => ?_)
              refine lv_goto (tgt := 18) hx hb dX4_sources_133 (by decide) ?_
              exact ihm (x1 ||| bitI u, u + 1) _ ⟨(lv_sub hl [2, 3, 4, 1, 5, 0] rfl), (by omega), (hIT.yes (i := u) (by omega) (by rcases hlb.mp c_116 with z | ⟨s1, h1, h2, h3, h4⟩; exact Or.inl ⟨by omega, z⟩; exact Or.inr ⟨s1, h3, by omega, by omega, h2, h4⟩) (fun z hz => by omega))⟩ (by dsimp only; omega)
          · have c_67 := zI_0.mp c_67
            refine lv_iload hx hb dX4_sources_70 (lv_at hl 6 rfl) ?_
            refine lv_iload hx hb dX4_sources_72 (lv_at hl 8 rfl) ?_
            refine lv_ishr hx hb dX4_sources_74 ?_
            refine lv_iconst (v := 1) hx hb dX4_sources_75 (by decide) ?_
            refine lv_iand hx hb dX4_sources_76 ?_
            refine lv_iconst (v := 1) hx hb dX4_sources_77 (by decide) ?_
            refine lv_icmp_ne (tgt := 105) hx hb dX4_sources_78 (by decide) (fun c_78 => ?_) (fun c_78 => ?_)
            · have c_78 := sh1_f (x := (nxI n (pq V) u)) (i := i) (by omega) c_78
              refine lv_iconst (v := 0) hx hb dX4_sources_105 (by decide) ?_
              refine lv_istore (lv' := [(7, .int 0), (0, .ref (ad 0)), (1, .int (nI v)), (2, .int (nI x9)), (3, .int x1), (4, .int x), (5, .int (nI u)), (6, .int (nxI n (pq V) u)), (8, .int (nI i))]) hx hb dX4_sources_106 hl (by decide) rfl (fun ls hl => ?_)
              refine lv_iinc (v := nI (i + 1)) (lv' := [(8, .int (nI (i + 1))), (7, .int 0), (0, .ref (ad 0)), (1, .int (nI v)), (2, .int (nI x9)), (3, .int x1), (4, .int x), (5, .int (nI u)), (6, .int (nxI n (pq V) u))]) hx hb dX4_sources_108 hl (k := 8) rfl (nI_succ i).symm (by decide) rfl (fun ls hl => ?_)
              refine lv_goto (tgt := 56) hx hb dX4_sources_111 (by decide) ?_
              exact ih (false, i + 1) _ ⟨(lv_sub hl [2, 3, 4, 5, 6, 7, 8, 1, 0] rfl), (by omega), ⟨fun z => (by cases z), fun z => by rw [← c_67]; refine hlb.mpr (z.imp id (fun ⟨s1, h1, h2, h3, h4⟩ => ⟨s1, ?_, h2, h3, h4⟩)); rcases Classical.em (s1 = i) with e | e; (subst e; exact absurd trivial (fun _ => (by rw [h2] at c_78; cases c_78))); omega⟩⟩ (by dsimp only; omega)
            · have c_78 := (tS1 (nxI n (pq V) u) (p := i) (by omega)).mp c_78
              refine lv_iload_n hx hb dX4_sources_81 rfl (lv_at hl 3 rfl) ?_
              refine lv_iload hx hb dX4_sources_82 (lv_at hl 8 rfl) ?_
              refine lv_ishr hx hb dX4_sources_84 ?_
              refine lv_iconst (v := 1) hx hb dX4_sources_85 (by decide) ?_
              refine lv_iand hx hb dX4_sources_86 ?_
              refine lv_iconst (v := 1) hx hb dX4_sources_87 (by decide) ?_
              refine lv_icmp_ne (tgt := 105) hx hb dX4_sources_88 (by decide) (fun c_88 => ?_) (fun c_88 => ?_)
              · have c_88 := sh1_f (x := x1) (i := i) (by omega) c_88
                refine lv_iconst (v := 0) hx hb dX4_sources_105 (by decide) ?_
                refine lv_istore (lv' := [(7, .int 0), (0, .ref (ad 0)), (1, .int (nI v)), (2, .int (nI x9)), (3, .int x1), (4, .int x), (5, .int (nI u)), (6, .int (nxI n (pq V) u)), (8, .int (nI i))]) hx hb dX4_sources_106 hl (by decide) rfl (fun ls hl => ?_)
                refine lv_iinc (v := nI (i + 1)) (lv' := [(8, .int (nI (i + 1))), (7, .int 0), (0, .ref (ad 0)), (1, .int (nI v)), (2, .int (nI x9)), (3, .int x1), (4, .int x), (5, .int (nI u)), (6, .int (nxI n (pq V) u))]) hx hb dX4_sources_108 hl (k := 8) rfl (nI_succ i).symm (by decide) rfl (fun ls hl => ?_)
                refine lv_goto (tgt := 56) hx hb dX4_sources_111 (by decide) ?_
                exact ih (false, i + 1) _ ⟨(lv_sub hl [2, 3, 4, 5, 6, 7, 8, 1, 0] rfl), (by omega), ⟨fun z => (by cases z), fun z => by rw [← c_67]; refine hlb.mpr (z.imp id (fun ⟨s1, h1, h2, h3, h4⟩ => ⟨s1, ?_, h2, h3, h4⟩)); rcases Classical.em (s1 = i) with e | e; (subst e; exact absurd trivial (fun _ => (by rw [h3] at c_88; cases c_88))); omega⟩⟩ (by dsimp only; omega)
              · have c_88 := (tS1 x1 (p := i) (by omega)).mp c_88
                refine lv_aload_n hx hb dX4_sources_91 rfl (lv_at hl 0 rfl) ?_
                refine lv_iload hx hb dX4_sources_92 (lv_at hl 8 rfl) ?_
                refine lv_iload_n hx hb dX4_sources_94 rfl (lv_at hl 2 rfl) ?_
                refine callR (runV hx hb hg hown hml hl.1 (c_X4_setsIt l D k ad V hv (q := i) (by omega) (x := x9) hx9) [.int (nI i), .int (nI x9)] [] (preR (mapSome_sub hP [0, 1, 2, 3, 4, 5, 6, 7, 8, 9, 10, 11, 12, 13, 14, 15, 16, 17, 18, 19, 20, 21, 22] rfl) hK hN xb0 x0) (va_recv hK hP (ci := 4) (q0 := 0) rfl rfl) wd_751 wd_753 wd_36 wd_53 wd_754 lk_X4_setsIt ⟨rfl, rfl⟩ ⟨by decide, by decide⟩ ⟨Nat.zero_le _, Nat.zero_le _⟩ rfl (Nat.le_of_ble_eq_true rfl) dX4_sources_95) (fun r_95 q_95 => ?_)
                obtain rfl := q_95
                refine lv_if_ne (tgt := 105) hx hb dX4_sources_98 (by decide) (fun c_98 => ?_) (fun c_98 => ?_)
                · have c_98 := zI_ne c_98
                  refine lv_iconst (v := 0) hx hb dX4_sources_105 (by decide) ?_
                  refine lv_istore (lv' := [(7, .int 0), (0, .ref (ad 0)), (1, .int (nI v)), (2, .int (nI x9)), (3, .int x1), (4, .int x), (5, .int (nI u)), (6, .int (nxI n (pq V) u)), (8, .int (nI i))]) hx hb dX4_sources_106 hl (by decide) rfl (fun ls hl => ?_)
                  refine lv_iinc (v := nI (i + 1)) (lv' := [(8, .int (nI (i + 1))), (7, .int 0), (0, .ref (ad 0)), (1, .int (nI v)), (2, .int (nI x9)), (3, .int x1), (4, .int x), (5, .int (nI u)), (6, .int (nxI n (pq V) u))]) hx hb dX4_sources_108 hl (k := 8) rfl (nI_succ i).symm (by decide) rfl (fun ls hl => ?_)
                  refine lv_goto (tgt := 56) hx hb dX4_sources_111 (by decide) ?_
                  exact ih (false, i + 1) _ ⟨(lv_sub hl [2, 3, 4, 5, 6, 7, 8, 1, 0] rfl), (by omega), ⟨fun z => (by cases z), fun z => by rw [← c_67]; refine hlb.mpr (z.imp id (fun ⟨s1, h1, h2, h3, h4⟩ => ⟨s1, ?_, h2, h3, h4⟩)); rcases Classical.em (s1 = i) with e | e; (subst e; exact absurd trivial (fun _ => (by rw [h4] at c_98; cases c_98))); omega⟩⟩ (by dsimp only; omega)
                · have c_98 := zI_0.mp c_98
                  refine lv_iconst (v := 1) hx hb dX4_sources_101 (by decide) ?_
                  refine lv_goto (tgt := 106) hx hb dX4_sources_102 (by decide) ?_
                  refine lv_istore (lv' := [(7, .int 1), (0, .ref (ad 0)), (1, .int (nI v)), (2, .int (nI x9)), (3, .int x1), (4, .int x), (5, .int (nI u)), (6, .int (nxI n (pq V) u)), (8, .int (nI i))]) hx hb dX4_sources_106 hl (by decide) rfl (fun ls hl => ?_)
                  refine lv_iinc (v := nI (i + 1)) (lv' := [(8, .int (nI (i + 1))), (7, .int 1), (0, .ref (ad 0)), (1, .int (nI v)), (2, .int (nI x9)), (3, .int x1), (4, .int x), (5, .int (nI u)), (6, .int (nxI n (pq V) u))]) hx hb dX4_sources_108 hl (k := 8) rfl (nI_succ i).symm (by decide) rfl (fun ls hl => ?_)
                  refine lv_goto (tgt := 56) hx hb dX4_sources_111 (by decide) ?_
                  exact ih (true, i + 1) _ ⟨(lv_sub hl [2, 3, 4, 5, 6, 7, 8, 1, 0] rfl), (by omega), ⟨fun _ => Or.inr ⟨i, by omega, c_78, c_88, c_98⟩, fun _ => rfl⟩⟩ (by dsimp only; omega)
set_option maxHeartbeats 4000000 in
set_option maxRecDepth 100000 in
/-- sources(v, what) -/
theorem c_X4_sources_N (l : Launch) (D : va_G) (k : Nat → ClassId) (ad : Nat → Nat) (V : St) {n : Nat} (hv : okV n (pq V)) {v : Nat} (hvn : v < n)  : CtR noX l yX4_sources cX4_sources 9 (some .int) rmX4_sources D (tyL k) (wQ k ad V) [.ref (ad 0), .int (nI v), .int (-4)] (fun r => ∀ j, bt r j = true ↔ Cl (fun u => u < n ∧ bt (nxI n (pq V) u) v = true) (fun s1 u => u < n ∧ s1 < n ∧ bt (nxI n (pq V) u) s1 = true ∧ false = false) j) := by
  refine CtR.mk (by decide) (Nat.le_of_ble_eq_true rfl) ?_
  intro p e s m below meth c hx hb hml hown hg hr hlocks hK hN hX H hH hP ls hl
  have hl : lv_has ls 9 [(0, .ref (ad 0)), (1, .int (nI v)), (2, .int (-4))] := hl
  have h00 : V 0 0 = nI n := hv.2.1
  have hn24 := hv.1
  refine lv_iconst (v := 0) hx hb dX4_sources_0 (by decide) ?_
  refine lv_istore_n (lv' := [(3, .int 0), (0, .ref (ad 0)), (1, .int (nI v)), (2, .int (-4))]) hx hb dX4_sources_1 rfl hl (by decide) rfl (fun ls hl => ?_)
  refine lv_bipush (v := (-4)) hx hb dX4_sources_2 (by decide) ?_
  refine lv_istore (lv' := [(4, .int (-4)), (3, .int 0), (0, .ref (ad 0)), (1, .int (nI v)), (2, .int (-4))]) hx hb dX4_sources_4 hl (by decide) rfl (fun ls hl => ?_)
  refine loopR (σ := Int32 × Int32) (fun zz9 ls => match zz9 with | (x, b) => lv_has ls 9 [(0, .ref (ad 0)), (1, .int (nI v)), (2, .int (-4)), (3, .int x), (4, .int b)] ∧ (Sat (fun u => u < n ∧ bt (nxI n (pq V) u) v = true) (fun s1 u => u < n ∧ s1 < n ∧ bt (nxI n (pq V) u) s1 = true ∧ false = false) x b)) (fun zz9 => match zz9 with | (x, b) => if x = b then 0 else 33 - cnt x) ?_ (0, (-4)) ⟨(lv_sub hl [2, 3, 4, 1, 0] rfl), ⟨fun j hj => (by rw [b_0] at hj; cases hj), fun e => absurd e (by decide)⟩⟩
  intro zz9 ls hI ih
  obtain ⟨x, b⟩ := zz9
  obtain ⟨hl, hs⟩ := hI
  have iho := ih; clear ih
  refine lv_iload_n hx hb dX4_sources_6 rfl (lv_at hl 3 rfl) ?_
  refine lv_iload hx hb dX4_sources_7 (lv_at hl 4 rfl) ?_
  refine lv_icmp_eq (tgt := 139) hx hb dX4_sources_9 (by decide) (fun c_9 => ?_) (fun c_9 => ?_)
  · refine lv_iload_n hx hb dX4_sources_139 rfl (lv_at hl 3 rfl) ?_
    exact retRI (v := x) hx hb hr hlocks hH dX4_sources_140 (fun j => hs.done c_9 j)
  · refine lv_iload_n hx hb dX4_sources_12 rfl (lv_at hl 3 rfl) ?_
    refine lv_istore (lv' := [(4, .int x), (0, .ref (ad 0)), (1, .int (nI v)), (2, .int (-4)), (3, .int x)]) hx hb dX4_sources_13 hl (by decide) rfl (fun ls hl => ?_)
    refine lv_iconst (v := 0) hx hb dX4_sources_15 (by decide) ?_
    refine lv_istore (lv' := [(5, .int 0), (4, .int x), (0, .ref (ad 0)), (1, .int (nI v)), (2, .int (-4)), (3, .int x)]) hx hb dX4_sources_16 hl (by decide) rfl (fun ls hl => ?_)
    refine loopR (σ := Int32 × Nat) (fun zz9 ls => match zz9 with | (x1, u) => lv_has ls 9 [(0, .ref (ad 0)), (1, .int (nI v)), (2, .int (-4)), (3, .int x1), (4, .int x), (5, .int (nI u))] ∧ (u ≤ n) ∧ (InT (fun u => u < n ∧ bt (nxI n (pq V) u) v = true) (fun s1 u => u < n ∧ s1 < n ∧ bt (nxI n (pq V) u) s1 = true ∧ false = false) x x1 (fun z => z < u))) (fun zz9 => match zz9 with | (x1, u) => n - u) ?_ (x, 0) ⟨(lv_sub hl [2, 3, 4, 5, 1, 0] rfl), (by omega), (InT.start hs.1 (fun z hz => by omega))⟩
    intro zz9 ls hI ih
    obtain ⟨x1, u⟩ := zz9
    obtain ⟨hl, hu, hIT⟩ := hI
    have ihm := ih; clear ih
    refine lv_iload hx hb dX4_sources_18 (lv_at hl 5 rfl) ?_
    refine lv_aload_n hx hb dX4_sources_20 rfl (lv_at hl 0 rfl) ?_
    refine gfl hx hb hg inX4 hown hK hP 0 (ci := 4) rfl rfl 0 (by decide) wd_551 rfl dX4_sources_21 ?_
    refine topv (nI n) h00 ?_
    refine lv_icmp_ge (tgt := 136) hx hb dX4_sources_24 (by decide) (fun c_24 => ?_) (fun c_24 => ?_)
    · have c_24 : n ≤ u := (nI_leI (a := n) (b := u) (by omega) (by omega)).mp c_24
      refine lv_goto (tgt := 6) hx hb dX4_sources_136 (by decide) ?_
      exact iho (x1, x) _ ⟨(lv_sub hl [0, 1, 2, 3, 4] rfl), (hIT.sat (fun j hj => Or.inr (by have := hj.1; omega)) (fun y z h => by have := h.1; omega))⟩ (satmu c_9 hIT.2.1)
    · have c_24 : ¬ n ≤ u := fun z => c_24 ((nI_leI (a := n) (b := u) (by omega) (by omega)).mpr z)
      refine lv_aload_n hx hb dX4_sources_27 rfl (lv_at hl 0 rfl) ?_
      refine lv_iload hx hb dX4_sources_28 (lv_at hl 5 rfl) ?_
      refine lv_iconst (v := 0) hx hb dX4_sources_30 (by decide) ?_
      refine callR (runV hx hb hg hown hml hl.1 (c_X4_nexts l D k ad V hv (q := u) (by omega) false) [.int (nI u), .int 0] [] (preR (mapSome_sub hP [0, 1, 2, 3, 4, 5, 6, 7, 8, 9, 10, 11, 12, 13, 14, 15, 16, 17, 18, 19, 20, 21, 22] rfl) hK hN xb0 x0) (va_recv hK hP (ci := 4) (q0 := 0) rfl rfl) wd_714 wd_716 wd_28 wd_53 wd_717 lk_X4_nexts ⟨rfl, rfl⟩ ⟨by decide, by decide⟩ ⟨Nat.zero_le _, Nat.zero_le _⟩ rfl (Nat.le_of_ble_eq_true rfl) dX4_sources_31) (fun r_31 q_31 => ?_)
      obtain rfl := q_31
      refine lv_istore (lv' := [(6, .int (nxI n (pq V) u)), (0, .ref (ad 0)), (1, .int (nI v)), (2, .int (-4)), (3, .int x1), (4, .int x), (5, .int (nI u))]) hx hb dX4_sources_34 hl (by decide) rfl (fun ls hl => ?_)
      refine lv_iload hx hb dX4_sources_36 (lv_at hl 0 rfl) ?_
      refine lv_iload_n hx hb dX4_sources_38 rfl (lv_at hl 2 rfl) ?_
      refine lv_ishr hx hb dX4_sources_39 ?_
      refine lv_iconst (v := 1) hx hb dX4_sources_40 (by decide) ?_
      refine lv_iand hx hb dX4_sources_41 ?_
      refine lv_iconst (v := 1) hx hb dX4_sources_42 (by decide) ?_
      refine lv_icmp_ne (tgt := 50) hx hb dX4_sources_43 (by decide) (fun c_43 => ?_) (fun c_43 => ?_)
      · have c_43 := sh1_f (x := (nxI n (pq V) u)) (i := v) (by omega) c_43
        refine lv_iconst (v := 0) hx hb dX4_sources_50 (by decide) ?_
        refine lv_istore (lv' := [(7, .int 0), (6, .int (nxI n (pq V) u)), (0, .ref (ad 0)), (1, .int (nI v)), (2, .int (-4)), (3, .int x1), (4, .int x), (5, .int (nI u))]) hx hb dX4_sources_51 hl (by decide) rfl (fun ls hl => ?_)
        refine lv_iconst (v := 0) hx hb dX4_sources_53 (by decide) ?_
        refine lv_istore (lv' := [(8, .int 0), (7, .int 0), (6, .int (nxI n (pq V) u)), (0, .ref (ad 0)), (1, .int (nI v)), (2, .int (-4)), (3, .int x1), (4, .int x), (5, .int (nI u))]) hx hb dX4_sources_54 hl (by decide) rfl (fun ls hl => ?_)
        refine loopR (σ := Bool × Nat) (fun zz9 ls => match zz9 with | (lb, i) => lv_has ls 9 [(0, .ref (ad 0)), (1, .int (nI v)), (2, .int (-4)), (3, .int x1), (4, .int x), (5, .int (nI u)), (6, .int (nxI n (pq V) u)), (7, .int (zI lb)), (8, .int (nI i))] ∧ (i ≤ n) ∧ (lb = true ↔ (bt (nxI n (pq V) u) v = true ∨ ∃ s1, s1 < i ∧ bt (nxI n (pq V) u) s1 = true ∧ bt x1 s1 = true ∧ false = false))) (fun zz9 => match zz9 with | (lb, i) => n - i) ?_ (false, 0) ⟨(lv_sub hl [3, 4, 5, 6, 7, 8, 2, 1, 0] rfl), (by omega), ⟨fun z => (by cases z), fun z => z.elim (fun z => by rw [z] at c_43; cases c_43) (fun ⟨_, h, _⟩ => absurd h (Nat.not_lt_zero _))⟩⟩
        intro zz9 ls hI ih
        obtain ⟨lb, i⟩ := zz9
        obtain ⟨hl, hi, hlb⟩ := hI
        refine lv_iload hx hb dX4_sources_56 (lv_at hl 8 rfl) ?_
        refine lv_aload_n hx hb dX4_sources_58 rfl (lv_at hl 0 rfl) ?_
        refine gfl hx hb hg inX4 hown hK hP 0 (ci := 4) rfl rfl 0 (by decide) wd_551 rfl dX4_sources_59 ?_
        refine topv (nI n) h00 ?_
        refine lv_icmp_ge (tgt := 114) hx hb dX4_sources_62 (by decide) (fun c_62 => ?_) (fun c_62 => ?_)
        · have c_62 : n ≤ i := (nI_leI (a := n) (b := i) (by omega) (by omega)).mp c_62
          refine lv_iload hx hb dX4_sources_114 (lv_at hl 7 rfl) ?_
          refine lv_if_eq (tgt := 128) hx hb dX4_sources_116 (by decide) (fun c_116 => ?_) (fun c_116 => ?_)
          · have c_116 := zI_0.mp c_116
            refine lv_iload_n hx hb dX4_sources_128 rfl (lv_at hl 3 rfl) ?_
            refine lv_istore_n (lv' := [(3, .int x1), (0, .ref (ad 0)), (1, .int (nI v)), (2, .int (-4)), (4, .int x), (5, .int (nI u)), (6, .int (nxI n (pq V) u)), (7, .int (zI lb)), (8, .int (nI i))]) hx hb dX4_sources_129 rfl hl (by decide) rfl (fun ls hl => ?_)
            refine lv_iinc (v := nI (u + 1)) (lv' := [(5, .int (nI (u + 1))), (3, .int x1), (0, .ref (ad 0)), (1, .int (nI v)), (2, .int (-4)), (4, .int x), (6, .int (nxI n (pq V) u)), (7, .int (zI lb)), (8, .int (nI i))]) hx hb dX4_sources_130 hl (k := 5) rfl (nI_succ u).symm (by decide) rfl (fun ls hl => ?_)
            refine lv_goto (tgt := 18) hx hb dX4_sources_133 (by decide) ?_
            exact ihm (x1, u + 1) _ ⟨(lv_sub hl [2, 3, 4, 1, 5, 0] rfl), (by omega), (hIT.no (i := u) (fun z => by have hz : lb = true := hlb.mpr (z.elim (fun a => Or.inl a.2) (fun ⟨y, h1, h2⟩ => Or.inr ⟨y, (by have := h2.2.1; omega), h2.2.2.1, h1, h2.2.2.2⟩)); rw [hz] at c_116; cases c_116) (fun z hz => by omega))⟩ (by dsimp only; omega)
          · have c_116 := zI_ne c_116
            refine lv_iload_n hx hb dX4_sources_119 rfl (lv_at hl 3 rfl) ?_
            refine lv_iconst (v := 1) hx hb dX4_sources_120 (by decide) ?_
            refine lv_iload hx hb dX4_sources_121 (lv_at hl 5 rfl) ?_
            refine lv_ishl hx hb dX4_sources_123 ?_
            refine topv (bitI u) rfl ?_
            refine lv_ior hx hb dX4_sources_124 ?_
            refine lv_goto (tgt := 129) hx hb dX4_sources_125 (by decide) ?_
            refine lv_istore_n (lv' := [(3, .int (x1 ||| (bitI u))), (0, .ref (ad 0)), (1, .int (nI v)), (2, .int (-4)), (4, .int x), (5, .int (nI u)), (6, .int (nxI n (pq V) u)), (7, .int (zI lb)), (8, .int (nI i))]) hx hb dX4_sources_129 rfl hl (by decide) rfl (fun ls hl => ?_)
            refine lv_iinc (v := nI (u + 1)) (lv' := [(5, .int (nI (u + 1))), (3, .int (x1 ||| (bitI u))), (0, .ref (ad 0)), (1, .int (nI v)), (2, .int (-4)), (4, .int x), (6, .int (nxI n (pq V) u)), (7, .int (zI lb)), (8, .int (nI i))]) hx hb dX4_sources_130 hl (k := 5) rfl (nI_succ u).symm (by decide) rfl (fun ls hl => ?_)
            refine lv_goto (tgt := 18) hx hb dX4_sources_133 (by decide) ?_
            exact ihm (x1 ||| bitI u, u + 1) _ ⟨(lv_sub hl [2, 3, 4, 1, 5, 0] rfl), (by omega), (hIT.yes (i := u) (by omega) (by rcases hlb.mp c_116 with z | ⟨s1, h1, h2, h3, h4⟩; exact Or.inl ⟨by omega, z⟩; exact Or.inr ⟨s1, h3, by omega, by omega, h2, h4⟩) (fun z hz => by omega))⟩ (by dsimp only; omega)
        · have c_62 : ¬ n ≤ i := fun z => c_62 ((nI_leI (a := n) (b := i) (by omega) (by omega)).mpr z)
          refine lv_iload hx hb dX4_sources_65 (lv_at hl 7 rfl) ?_
          refine lv_if_ne (tgt := 114) hx hb dX4_sources_67 (by decide) (fun c_67 => ?_) (fun c_67 => ?_)
          · have c_67 := zI_ne c_67
            refine lv_iload hx hb dX4_sources_114 (lv_at hl 7 rfl) ?_
            refine lv_if_eq (tgt := 128) hx hb dX4_sources_116 (by decide) (fun c_116 => ?_) (fun c_116 => ?_)
            · have c_116 := zI_0.mp c_116
              exact absurd c_116 (by rw [c_67]; decide)
            · have c_116 := zI_ne c_116
              refine lv_iload_n hx hb dX4_sources_119 rfl (lv_at hl 3 rfl) ?_
              refine lv_iconst (v := 1) hx hb dX4_sources_120 (by decide) ?_
              refine lv_iload hx hb dX4_sources_121 (lv_at hl 5 rfl) ?_
              refine lv_ishl hx hb dX4_sources_123 ?_
              refine topv (bitI u) rfl ?_
              refine lv_ior hx hb dX4_sources_124 ?_
              refine lv_goto (tgt := 129) hx hb dX4_sources_125 (by decide) ?_
              refine lv_istore_n (lv' := [(3, .int (x1 ||| (bitI u))), (0, .ref (ad 0)), (1, .int (nI v)), (2, .int (-4)), (4, .int x), (5, .int (nI u)), (6, .int (nxI n (pq V) u)), (7, .int (zI lb)), (8, .int (nI i))]) hx hb dX4_sources_129 rfl hl (by decide) rfl (fun ls hl => ?_)
              refine lv_iinc (v := nI (u + 1)) (lv' := [(5, .int (nI (u + 1))), (3, .int (x1 ||| (bitI u))), (0, .ref (ad 0)), (1, .int (nI v)), (2, .int (-4)), (4, .int x), (6, .int (nxI n (pq V) u)), (7, .int (zI lb)), (8, .int (nI i))]) hx hb dX4_sources_130 hl (k := 5) rfl (nI_succ u).symm (by decide) rfl (fun ls hl => ?_)
              refine lv_goto (tgt := 18) hx hb dX4_sources_133 (by decide) ?_
              exact ihm (x1 ||| bitI u, u + 1) _ ⟨(lv_sub hl [2, 3, 4, 1, 5, 0] rfl), (by omega), (hIT.yes (i := u) (by omega) (by rcases hlb.mp c_116 with z | ⟨s1, h1, h2, h3, h4⟩; exact Or.inl ⟨by omega, z⟩; exact Or.inr ⟨s1, h3, by omega, by omega, h2, h4⟩) (fun z hz => by omega))⟩ (by dsimp only; omega)
          · have c_67 := zI_0.mp c_67
            refine lv_iload hx hb dX4_sources_70 (lv_at hl 6 rfl) ?_
            refine lv_iload hx hb dX4_sources_72 (lv_at hl 8 rfl) ?_
            refine lv_ishr hx hb dX4_sources_74 ?_
            refine lv_iconst (v := 1) hx hb dX4_sources_75 (by decide) ?_
            refine lv_iand hx hb dX4_sources_76 ?_
            refine lv_iconst (v := 1) hx hb dX4_sources_77 (by decide) ?_
            refine lv_icmp_ne (tgt := 105) hx hb dX4_sources_78 (by decide) (fun c_78 => ?_) (fun c_78 => ?_)
            · have c_78 := sh1_f (x := (nxI n (pq V) u)) (i := i) (by omega) c_78
              refine lv_iconst (v := 0) hx hb dX4_sources_105 (by decide) ?_
              refine lv_istore (lv' := [(7, .int 0), (0, .ref (ad 0)), (1, .int (nI v)), (2, .int (-4)), (3, .int x1), (4, .int x), (5, .int (nI u)), (6, .int (nxI n (pq V) u)), (8, .int (nI i))]) hx hb dX4_sources_106 hl (by decide) rfl (fun ls hl => ?_)
              refine lv_iinc (v := nI (i + 1)) (lv' := [(8, .int (nI (i + 1))), (7, .int 0), (0, .ref (ad 0)), (1, .int (nI v)), (2, .int (-4)), (3, .int x1), (4, .int x), (5, .int (nI u)), (6, .int (nxI n (pq V) u))]) hx hb dX4_sources_108 hl (k := 8) rfl (nI_succ i).symm (by decide) rfl (fun ls hl => ?_)
              refine lv_goto (tgt := 56) hx hb dX4_sources_111 (by decide) ?_
              exact ih (false, i + 1) _ ⟨(lv_sub hl [2, 3, 4, 5, 6, 7, 8, 1, 0] rfl), (by omega), ⟨fun z => (by cases z), fun z => by rw [← c_67]; refine hlb.mpr (z.imp id (fun ⟨s1, h1, h2, h3, h4⟩ => ⟨s1, ?_, h2, h3, h4⟩)); rcases Classical.em (s1 = i) with e | e; (subst e; exact absurd trivial (fun _ => (by rw [h2] at c_78; cases c_78))); omega⟩⟩ (by dsimp only; omega)
            · have c_78 := (tS1 (nxI n (pq V) u) (p := i) (by omega)).mp c_78
              refine lv_iload_n hx hb dX4_sources_81 rfl (lv_at hl 3 rfl) ?_
              refine lv_iload hx hb dX4_sources_82 (lv_at hl 8 rfl) ?_
              refine lv_ishr hx hb dX4_sources_84 ?_
              refine lv_iconst (v := 1) hx hb dX4_sources_85 (by decide) ?_
              refine lv_iand hx hb dX4_sources_86 ?_
              refine lv_iconst (v := 1) hx hb dX4_sources_87 (by decide) ?_
              refine lv_icmp_ne (tgt := 105) hx hb dX4_sources_88 (by decide) (fun c_88 => ?_) (fun c_88 => ?_)
              · have c_88 := sh1_f (x := x1) (i := i) (by omega) c_88
                refine lv_iconst (v := 0) hx hb dX4_sources_105 (by decide) ?_
                refine lv_istore (lv' := [(7, .int 0), (0, .ref (ad 0)), (1, .int (nI v)), (2, .int (-4)), (3, .int x1), (4, .int x), (5, .int (nI u)), (6, .int (nxI n (pq V) u)), (8, .int (nI i))]) hx hb dX4_sources_106 hl (by decide) rfl (fun ls hl => ?_)
                refine lv_iinc (v := nI (i + 1)) (lv' := [(8, .int (nI (i + 1))), (7, .int 0), (0, .ref (ad 0)), (1, .int (nI v)), (2, .int (-4)), (3, .int x1), (4, .int x), (5, .int (nI u)), (6, .int (nxI n (pq V) u))]) hx hb dX4_sources_108 hl (k := 8) rfl (nI_succ i).symm (by decide) rfl (fun ls hl => ?_)
                refine lv_goto (tgt := 56) hx hb dX4_sources_111 (by decide) ?_
                exact ih (false, i + 1) _ ⟨(lv_sub hl [2, 3, 4, 5, 6, 7, 8, 1, 0] rfl), (by omega), ⟨fun z => (by cases z), fun z => by rw [← c_67]; refine hlb.mpr (z.imp id (fun ⟨s1, h1, h2, h3, h4⟩ => ⟨s1, ?_, h2, h3, h4⟩)); rcases Classical.em (s1 = i) with e | e; (subst e; exact absurd trivial (fun _ => (by rw [h3] at c_88; cases c_88))); omega⟩⟩ (by dsimp only; omega)
              · have c_88 := (tS1 x1 (p := i) (by omega)).mp c_88
                refine lv_aload_n hx hb dX4_sources_91 rfl (lv_at hl 0 rfl) ?_
                refine lv_iload hx hb dX4_sources_92 (lv_at hl 8 rfl) ?_
                refine lv_iload_n hx hb dX4_sources_94 rfl (lv_at hl 2 rfl) ?_
                refine callR (runV hx hb hg hown hml hl.1 (c_X4_setsIt_N l D k ad V hv (q := i) (by omega)) [.int (nI i), .int (-4)] [] (preR (mapSome_sub hP [0, 1, 2, 3, 4, 5, 6, 7, 8, 9, 10, 11, 12, 13, 14, 15, 16, 17, 18, 19, 20, 21, 22] rfl) hK hN xb0 x0) (va_recv hK hP (ci := 4) (q0 := 0) rfl rfl) wd_751 wd_753 wd_36 wd_53 wd_754 lk_X4_setsIt ⟨rfl, rfl⟩ ⟨by decide, by decide⟩ ⟨Nat.zero_le _, Nat.zero_le _⟩ rfl (Nat.le_of_ble_eq_true rfl) dX4_sources_95) (fun r_95 q_95 => ?_)
                obtain rfl := q_95
                refine lv_if_ne (tgt := 105) hx hb dX4_sources_98 (by decide) (fun c_98 => ?_) (fun c_98 => ?_)
                · exact absurd (show ¬ (0 : Int32) = (0 : Int32) from c_98) (by decide)
                · refine lv_iconst (v := 1) hx hb dX4_sources_101 (by decide) ?_
                  refine lv_goto (tgt := 106) hx hb dX4_sources_102 (by decide) ?_
                  refine lv_istore (lv' := [(7, .int 1), (0, .ref (ad 0)), (1, .int (nI v)), (2, .int (-4)), (3, .int x1), (4, .int x), (5, .int (nI u)), (6, .int (nxI n (pq V) u)), (8, .int (nI i))]) hx hb dX4_sources_106 hl (by decide) rfl (fun ls hl => ?_)
                  refine lv_iinc (v := nI (i + 1)) (lv' := [(8, .int (nI (i + 1))), (7, .int 1), (0, .ref (ad 0)), (1, .int (nI v)), (2, .int (-4)), (3, .int x1), (4, .int x), (5, .int (nI u)), (6, .int (nxI n (pq V) u))]) hx hb dX4_sources_108 hl (k := 8) rfl (nI_succ i).symm (by decide) rfl (fun ls hl => ?_)
                  refine lv_goto (tgt := 56) hx hb dX4_sources_111 (by decide) ?_
                  exact ih (true, i + 1) _ ⟨(lv_sub hl [2, 3, 4, 5, 6, 7, 8, 1, 0] rfl), (by omega), ⟨fun _ => Or.inr ⟨i, by omega, c_78, c_88, rfl⟩, fun _ => rfl⟩⟩ (by dsimp only; omega)
      · have c_43 := (tS1 (nxI n (pq V) u) (p := v) (by omega)).mp c_43
        refine lv_iconst (v := 1) hx hb dX4_sources_46 (by decide) ?_
        refine lv_goto (tgt := 51) hx hb dX4_sources_47 (by decide) ?_
        refine lv_istore (lv' := [(7, .int 1), (6, .int (nxI n (pq V) u)), (0, .ref (ad 0)), (1, .int (nI v)), (2, .int (-4)), (3, .int x1), (4, .int x), (5, .int (nI u))]) hx hb dX4_sources_51 hl (by decide) rfl (fun ls hl => ?_)
        refine lv_iconst (v := 0) hx hb dX4_sources_53 (by decide) ?_
        refine lv_istore (lv' := [(8, .int 0), (7, .int 1), (6, .int (nxI n (pq V) u)), (0, .ref (ad 0)), (1, .int (nI v)), (2, .int (-4)), (3, .int x1), (4, .int x), (5, .int (nI u))]) hx hb dX4_sources_54 hl (by decide) rfl (fun ls hl => ?_)
        refine loopR (σ := Bool × Nat) (fun zz9 ls => match zz9 with | (lb, i) => lv_has ls 9 [(0, .ref (ad 0)), (1, .int (nI v)), (2, .int (-4)), (3, .int x1), (4, .int x), (5, .int (nI u)), (6, .int (nxI n (pq V) u)), (7, .int (zI lb)), (8, .int (nI i))] ∧ (i ≤ n) ∧ (lb = true ↔ (bt (nxI n (pq V) u) v = true ∨ ∃ s1, s1 < i ∧ bt (nxI n (pq V) u) s1 = true ∧ bt x1 s1 = true ∧ false = false))) (fun zz9 => match zz9 with | (lb, i) => n - i) ?_ (true, 0) ⟨(lv_sub hl [3, 4, 5, 6, 7, 8, 2, 1, 0] rfl), (by omega), ⟨fun _ => Or.inl c_43, fun _ => rfl⟩⟩
        intro zz9 ls hI ih
        obtain ⟨lb, i⟩ := zz9
        obtain ⟨hl, hi, hlb⟩ := hI
        refine lv_iload hx hb dX4_sources_56 (lv_at hl 8 rfl) ?_
        refine lv_aload_n hx hb dX4_sources_58 rfl (lv_at hl 0 rfl) ?_
        refine gfl hx hb hg inX4 hown hK hP 0 (ci := 4) rfl rfl 0 (by decide) wd_551 rfl dX4_sources_59 ?_
        refine topv (nI n) h00 ?_
        refine lv_icmp_ge (tgt := 114) hx hb dX4_sources_62 (by decide) (fun c_62 => ?_) (fun c_62 => ?_)
        · have c_62 : n ≤ i := (nI_leI (a := n) (b := i) (by omega) (by omega)).mp c_62
          refine lv_iload hx hb dX4_sources_114 (lv_at hl 7 rfl) ?_
          refine lv_if_eq (tgt := 128) hx hb dX4_sources_116 (by decide) (fun c_116 => ?_) (fun c_116 => ?_)
          · have c_116 := zI_0.mp c_116
            refine lv_iload_n hx hb dX4_sources_128 rfl (lv_at hl 3 rfl) ?_
            refine lv_istore_n (lv' := [(3, .int x1), (0, .ref (ad 0)), (1, .int (nI v)), (2, .int (-4)), (4, .int x), (5, .int (nI u)), (6, .int (nxI n (pq V) u)), (7, .int (zI lb)), (8, .int (nI i))]) hx hb dX4_sources_129 rfl hl (by decide) rfl (fun ls hl => ?_)
            refine lv_iinc (v := nI (u + 1)) (lv' := [(5, .int (nI (u + 1))), (3, .int x1), (0, .ref (ad 0)), (1, .int (nI v)), (2, .int (-4)), (4, .int x), (6, .int (nxI n (pq V) u)), (7, .int (zI lb)), (8, .int (nI i))]) hx hb dX4_sources_130 hl (k := 5) rfl (nI_succ u).symm (by decide) rfl (fun ls hl => ?_)
            refine lv_goto (tgt := 18) hx hb dX4_sources_133 (by decide) ?_
            exact ihm (x1, u + 1) _ ⟨(lv_sub hl [2, 3, 4, 1, 5, 0] rfl), (by omega), (hIT.no (i := u) (fun z => by have hz : lb = true := hlb.mpr (z.elim (fun a => Or.inl a.2) (fun ⟨y, h1, h2⟩ => Or.inr ⟨y, (by have := h2.2.1; omega), h2.2.2.1, h1, h2.2.2.2⟩)); rw [hz] at c_116; cases c_116) (fun z hz => by omega))⟩ (by dsimp only; omega)
          · have c_116 := zI_ne c_116
            refine lv_iload_n hx hb dX4_sources_119 rfl (lv_at hl 3 rfl) ?_
            refine lv_iconst (v := 1) hx hb dX4_sources_120 (by decide) ?_
            refine lv_iload hx hb dX4_sources_121 (lv_at hl 5 rfl) ?_
            refine lv_ishl hx hb dX4_sources_123 ?_
            refine topv (bitI u) rfl ?_
            refine lv_ior hx hb dX4_sources_124 ?_
            refine lv_goto (tgt := 129) hx hb dX4_sources_125 (by decide) ?_
            refine lv_istore_n (lv' := [(3, .int (x1 ||| (bitI u))), (0, .ref (ad 0)), (1, .int (nI v)), (2, .int (-4)), (4, .int x), (5, .int (nI u)), (6, .int (nxI n (pq V) u)), (7, .int (zI lb)), (8, .int (nI i))]) hx hb dX4_sources_129 rfl hl (by decide) rfl (fun ls hl => ?_)
            refine lv_iinc (v := nI (u + 1)) (lv' := [(5, .int (nI (u + 1))), (3, .int (x1 ||| (bitI u))), (0, .ref (ad 0)), (1, .int (nI v)), (2, .int (-4)), (4, .int x), (6, .int (nxI n (pq V) u)), (7, .int (zI lb)), (8, .int (nI i))]) hx hb dX4_sources_130 hl (k := 5) rfl (nI_succ u).symm (by decide) rfl (fun ls hl => ?_)
            refine lv_goto (tgt := 18) hx hb dX4_sources_133 (by decide) ?_
            exact ihm (x1 ||| bitI u, u + 1) _ ⟨(lv_sub hl [2, 3, 4, 1, 5, 0] rfl), (by omega), (hIT.yes (i := u) (by omega) (by rcases hlb.mp c_116 with z | ⟨s1, h1, h2, h3, h4⟩; exact Or.inl ⟨by omega, z⟩; exact Or.inr ⟨s1, h3, by omega, by omega, h2, h4⟩) (fun z hz => by omega))⟩ (by dsimp only; omega)
        · have c_62 : ¬ n ≤ i := fun z => c_62 ((nI_leI (a := n) (b := i) (by omega) (by omega)).mpr z)
          refine lv_iload hx hb dX4_sources_65 (lv_at hl 7 rfl) ?_
          refine lv_if_ne (tgt := 114) hx hb dX4_sources_67 (by decide) (fun c_67 => ?_) (fun c_67 => ?_)
          · have c_67 := zI_ne c_67
            refine lv_iload hx hb dX4_sources_114 (lv_at hl 7 rfl) ?_
            refine lv_if_eq (tgt := 128) hx hb dX4_sources_116 (by decide) (fun c_116 => ?_) (fun c_116 => ?_)
            · have c_116 := zI_0.mp c_116
              exact absurd c_116 (by rw [c_67]; decide)
            · have c_116 := zI_ne c_116
              refine lv_iload_n hx hb dX4_sources_119 rfl (lv_at hl 3 rfl) ?_
              refine lv_iconst (v := 1) hx hb dX4_sources_120 (by decide) ?_
              refine lv_iload hx hb dX4_sources_121 (lv_at hl 5 rfl) ?_
              refine lv_ishl hx hb dX4_sources_123 ?_
              refine topv (bitI u) rfl ?_
              refine lv_ior hx hb dX4_sources_124 ?_
              refine lv_goto (tgt := 129) hx hb dX4_sources_125 (by decide) ?_
              refine lv_istore_n (lv' := [(3, .int (x1 ||| (bitI u))), (0, .ref (ad 0)), (1, .int (nI v)), (2, .int (-4)), (4, .int x), (5, .int (nI u)), (6, .int (nxI n (pq V) u)), (7, .int (zI lb)), (8, .int (nI i))]) hx hb dX4_sources_129 rfl hl (by decide) rfl (fun ls hl => ?_)
              refine lv_iinc (v := nI (u + 1)) (lv' := [(5, .int (nI (u + 1))), (3, .int (x1 ||| (bitI u))), (0, .ref (ad 0)), (1, .int (nI v)), (2, .int (-4)), (4, .int x), (6, .int (nxI n (pq V) u)), (7, .int (zI lb)), (8, .int (nI i))]) hx hb dX4_sources_130 hl (k := 5) rfl (nI_succ u).symm (by decide) rfl (fun ls hl => ?_)
              refine lv_goto (tgt := 18) hx hb dX4_sources_133 (by decide) ?_
              exact ihm (x1 ||| bitI u, u + 1) _ ⟨(lv_sub hl [2, 3, 4, 1, 5, 0] rfl), (by omega), (hIT.yes (i := u) (by omega) (by rcases hlb.mp c_116 with z | ⟨s1, h1, h2, h3, h4⟩; exact Or.inl ⟨by omega, z⟩; exact Or.inr ⟨s1, h3, by omega, by omega, h2, h4⟩) (fun z hz => by omega))⟩ (by dsimp only; omega)
          · have c_67 := zI_0.mp c_67
            refine lv_iload hx hb dX4_sources_70 (lv_at hl 6 rfl) ?_
            refine lv_iload hx hb dX4_sources_72 (lv_at hl 8 rfl) ?_
            refine lv_ishr hx hb dX4_sources_74 ?_
            refine lv_iconst (v := 1) hx hb dX4_sources_75 (by decide) ?_
            refine lv_iand hx hb dX4_sources_76 ?_
            refine lv_iconst (v := 1) hx hb dX4_sources_77 (by decide) ?_
            refine lv_icmp_ne (tgt := 105) hx hb dX4_sources_78 (by decide) (fun c_78 => ?_) (fun c_78 => ?_)
            · have c_78 := sh1_f (x := (nxI n (pq V) u)) (i := i) (by omega) c_78
              refine lv_iconst (v := 0) hx hb dX4_sources_105 (by decide) ?_
              refine lv_istore (lv' := [(7, .int 0), (0, .ref (ad 0)), (1, .int (nI v)), (2, .int (-4)), (3, .int x1), (4, .int x), (5, .int (nI u)), (6, .int (nxI n (pq V) u)), (8, .int (nI i))]) hx hb dX4_sources_106 hl (by decide) rfl (fun ls hl => ?_)
              refine lv_iinc (v := nI (i + 1)) (lv' := [(8, .int (nI (i + 1))), (7, .int 0), (0, .ref (ad 0)), (1, .int (nI v)), (2, .int (-4)), (3, .int x1), (4, .int x), (5, .int (nI u)), (6, .int (nxI n (pq V) u))]) hx hb dX4_sources_108 hl (k := 8) rfl (nI_succ i).symm (by decide) rfl (fun ls hl => ?_)
              refine lv_goto (tgt := 56) hx hb dX4_sources_111 (by decide) ?_
              exact ih (false, i + 1) _ ⟨(lv_sub hl [2, 3, 4, 5, 6, 7, 8, 1, 0] rfl), (by omega), ⟨fun z => (by cases z), fun z => by rw [← c_67]; refine hlb.mpr (z.imp id (fun ⟨s1, h1, h2, h3, h4⟩ => ⟨s1, ?_, h2, h3, h4⟩)); rcases Classical.em (s1 = i) with e | e; (subst e; exact absurd trivial (fun _ => (by rw [h2] at c_78; cases c_78))); omega⟩⟩ (by dsimp only; omega)
            · have c_78 := (tS1 (nxI n (pq V) u) (p := i) (by omega)).mp c_78
              refine lv_iload_n hx hb dX4_sources_81 rfl (lv_at hl 3 rfl) ?_
              refine lv_iload hx hb dX4_sources_82 (lv_at hl 8 rfl) ?_
              refine lv_ishr hx hb dX4_sources_84 ?_
              refine lv_iconst (v := 1) hx hb dX4_sources_85 (by decide) ?_
              refine lv_iand hx hb dX4_sources_86 ?_
              refine lv_iconst (v := 1) hx hb dX4_sources_87 (by decide) ?_
              refine lv_icmp_ne (tgt := 105) hx hb dX4_sources_88 (by decide) (fun c_88 => ?_) (fun c_88 => ?_)
              · have c_88 := sh1_f (x := x1) (i := i) (by omega) c_88
                refine lv_iconst (v := 0) hx hb dX4_sources_105 (by decide) ?_
                refine lv_istore (lv' := [(7, .int 0), (0, .ref (ad 0)), (1, .int (nI v)), (2, .int (-4)), (3, .int x1), (4, .int x), (5, .int (nI u)), (6, .int (nxI n (pq V) u)), (8, .int (nI i))]) hx hb dX4_sources_106 hl (by decide) rfl (fun ls hl => ?_)
                refine lv_iinc (v := nI (i + 1)) (lv' := [(8, .int (nI (i + 1))), (7, .int 0), (0, .ref (ad 0)), (1, .int (nI v)), (2, .int (-4)), (3, .int x1), (4, .int x), (5, .int (nI u)), (6, .int (nxI n (pq V) u))]) hx hb dX4_sources_108 hl (k := 8) rfl (nI_succ i).symm (by decide) rfl (fun ls hl => ?_)
                refine lv_goto (tgt := 56) hx hb dX4_sources_111 (by decide) ?_
                exact ih (false, i + 1) _ ⟨(lv_sub hl [2, 3, 4, 5, 6, 7, 8, 1, 0] rfl), (by omega), ⟨fun z => (by cases z), fun z => by rw [← c_67]; refine hlb.mpr (z.imp id (fun ⟨s1, h1, h2, h3, h4⟩ => ⟨s1, ?_, h2, h3, h4⟩)); rcases Classical.em (s1 = i) with e | e; (subst e; exact absurd trivial (fun _ => (by rw [h3] at c_88; cases c_88))); omega⟩⟩ (by dsimp only; omega)
              · have c_88 := (tS1 x1 (p := i) (by omega)).mp c_88
                refine lv_aload_n hx hb dX4_sources_91 rfl (lv_at hl 0 rfl) ?_
                refine lv_iload hx hb dX4_sources_92 (lv_at hl 8 rfl) ?_
                refine lv_iload_n hx hb dX4_sources_94 rfl (lv_at hl 2 rfl) ?_
                refine callR (runV hx hb hg hown hml hl.1 (c_X4_setsIt_N l D k ad V hv (q := i) (by omega)) [.int (nI i), .int (-4)] [] (preR (mapSome_sub hP [0, 1, 2, 3, 4, 5, 6, 7, 8, 9, 10, 11, 12, 13, 14, 15, 16, 17, 18, 19, 20, 21, 22] rfl) hK hN xb0 x0) (va_recv hK hP (ci := 4) (q0 := 0) rfl rfl) wd_751 wd_753 wd_36 wd_53 wd_754 lk_X4_setsIt ⟨rfl, rfl⟩ ⟨by decide, by decide⟩ ⟨Nat.zero_le _, Nat.zero_le _⟩ rfl (Nat.le_of_ble_eq_true rfl) dX4_sources_95) (fun r_95 q_95 => ?_)
                obtain rfl := q_95
                refine lv_if_ne (tgt := 105) hx hb dX4_sources_98 (by decide) (fun c_98 => ?_) (fun c_98 => ?_)
                · exact absurd (show ¬ (0 : Int32) = (0 : Int32) from c_98) (by decide)
                · refine lv_iconst (v := 1) hx hb dX4_sources_101 (by decide) ?_
                  refine lv_goto (tgt := 106) hx hb dX4_sources_102 (by decide) ?_
                  refine lv_istore (lv' := [(7, .int 1), (0, .ref (ad 0)), (1, .int (nI v)), (2, .int (-4)), (3, .int x1), (4, .int x), (5, .int (nI u)), (6, .int (nxI n (pq V) u)), (8, .int (nI i))]) hx hb dX4_sources_106 hl (by decide) rfl (fun ls hl => ?_)
                  refine lv_iinc (v := nI (i + 1)) (lv' := [(8, .int (nI (i + 1))), (7, .int 1), (0, .ref (ad 0)), (1, .int (nI v)), (2, .int (-4)), (3, .int x1), (4, .int x), (5, .int (nI u)), (6, .int (nxI n (pq V) u))]) hx hb dX4_sources_108 hl (k := 8) rfl (nI_succ i).symm (by decide) rfl (fun ls hl => ?_)
                  refine lv_goto (tgt := 56) hx hb dX4_sources_111 (by decide) ?_
                  exact ih (true, i + 1) _ ⟨(lv_sub hl [2, 3, 4, 5, 6, 7, 8, 1, 0] rfl), (by omega), ⟨fun _ => Or.inr ⟨i, by omega, c_78, c_88, rfl⟩, fun _ => rfl⟩⟩ (by dsimp only; omega)
