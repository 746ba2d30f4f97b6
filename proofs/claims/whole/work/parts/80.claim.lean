/-! THE CLAIM OUT OF ONE WALK OF THE LAW'S BODY. Your part is whole_start (and what it stands on); all else here is the same for every law, but numbers. -/
def R_law : String := "SliceWhyLaw"
def lw_P (b : Addr) (xs : List Int32) (args : Array Value) (s : State) : Prop := args = #[.ref b] ∧ s.IntsAt b xs ∧ xs.length ≤ 3072 ∧ (Jvm.Cond.and given_1 narrow_1).before args s = true
def lw_Q (_ : Array Value) (s : State) (o : Outcome) (t : State) : Prop := o = .returned (some (.int 1)) ∧ Framed s o t [] 600000 7302249
def lw_Z (below : List Frame) (a : Array Value) (s : State) : State → Prop := fun t => ∃ o, t.status = .running ∧ Ended t below o ∧ lw_Q a s o t
/-- the law's own end, with 1 on the stack, nothing written that was there before, its room as the claim has it -/
theorem lw_ret {p : Program} {l : Launch} {e : Env} {s : State} {m : MethodId} {below : List Frame} {meth : Method} {c : Code} {b : Nat} (hx : p.tables.exec = Jvm.exec) (hb : c.code = code) (hr : meth.sig.returnType = ret) (hlocks : meth.locks = false) {pc : Nat} {H : Heap} {ls : Array Slot} (hdg : decode code pc = .ok (.ireturn, 1)) : W p l e room_1 s m #[Value.ref b] below meth c H [] 600000 7302249 (lw_Z below #[Value.ref b] s) (F0 m pc ls [.int 1]) := by
  intro T hT X
  obtain ⟨fs, hret, hrun, hended, hW, hframe⟩ := X.leave (v := some (.int 1)) (hlocks := hlocks) (fun h => by rw [hr] at h; cases h)
  have hmeth' : T.vm.method? m = some meth := X.method'
  refine ⟨T.setFrames fs, ?_, .returned (some (.int 1)), hrun, hended, rfl, ⟨_, rfl⟩, hW, hframe⟩
  jvm_step X.here [X.here.top, hx, hb, hdg, hmeth', hr, ret, narrow_b1]
  (try refine ⟨rfl, ?_⟩); (try refine ⟨rfl, ?_⟩)
  first | (intro acts; rw [hret _ acts rfl rfl rfl]) | rw [hret _ _ rfl rfl rfl]
  exact Steps.refl _
/-- what holds at the law's entry: the machine, the code, the tables' words (any of lw_tbl by 'hts w (by decide +kernel)'), the script of L ints xs at the cell b, what the Statement gives of the start (any of its parts by flat_of_before) -/
def lw_At (p : Program) (s : State) (m : MethodId) (meth : Method) (c : Code) (b L : Nat) (xs : Nat → Int32) : Prop :=
  p.tables.exec = Jvm.exec ∧ c.code = code ∧ meth.sig.returnType = ret ∧ c.maxLocals = 4 ∧ s.vm.findClass R_law = some m.cls ∧ (∀ w ∈ lw_tbl, w.before #[Value.ref b] s = true) ∧ va_X b L xs s s.heap ∧ b < s.heap.size ∧ meth.locks = false ∧ (Jvm.Cond.and given_1 narrow_1).before #[Value.ref b] s = true
theorem ovA {args : Array Value} {s : State} (h : (Cond.arrayOver (.array .int)).before args s = true) : ∃ (c : ClassId) (k : Class) (comp : ClassId), s.vm.classes[c]? = some k ∧ k.kind = .array comp (.array .int) ∧ s.vm.findClass ("[" ++ (FieldType.array .int).toString) = some c := by
  unfold Cond.before at h
  simp only [Cond.holds, Cond.value, beq_iff_eq] at h
  cases hc : s.vm.findClass (FieldType.array FieldType.int).toString with
  | none => simp [hc] at h
  | some comp =>
    simp only [hc, Option.bind_some, Option.bind_eq_some_iff, Option.map_eq_some_iff] at h
    obtain ⟨c, hi, k, hk, hb⟩ := h
    cases hkind : k.kind with
    | array component ty =>
      rw [hkind] at hb
      simp at hb
      exact ⟨c, k, component, hk, by rw [hkind, hb.1], hb.2⟩
    | _ => rw [hkind] at hb; simp at hb
theorem rel0 : Rel 0 0 0 0 sz0 qz := by
  refine ⟨⟨⟨by omega, rfl, fun q hq => ⟨0, rfl, by omega, Or.inl rfl, Or.inl rfl, Or.inl rfl⟩, fun g hg => ⟨false, rfl⟩, fun g hg => ?_⟩, pjq.mpr ⟨rfl, rfl, rfl, rfl, rfl, rfl, rfl, rfl⟩, Or.inl rfl, Or.inl rfl⟩, rfl, ⟨rfl, rfl, by omega, fun j hj => absurd hj (Nat.not_lt_zero _)⟩, rfl, ⟨rfl, rfl, by omega, fun j hj => absurd hj (Nat.not_lt_zero _), rfl, rfl, fun j hj => rfl⟩, ⟨rfl, rfl, by omega, fun j hj => absurd hj (Nat.not_lt_zero _)⟩⟩
  rcases (show g = 0 ∨ g = 1 ∨ g = 2 ∨ g = 3 by omega) with rfl | rfl | rfl | rfl <;> exact ⟨1, by omega, by omega, rfl⟩
set_option maxRecDepth 100000 in
theorem in_A : ∀ j, j < 14 → Cond.eq (Term.elem (Term.static "SliceWhy" "A_LIMITS" "[I") (.int (Int32.ofNat j))) (.int (nI (LA.getD j 0))) ∈ flatC (Jvm.Cond.and given_1 narrow_1) := by decide +kernel
set_option maxRecDepth 100000 in
theorem in_Al : Cond.eq (Term.length (Term.static "SliceWhy" "A_LIMITS" "[I")) (.int (Int32.ofNat 14)) ∈ flatC (Jvm.Cond.and given_1 narrow_1) := by decide +kernel
set_option maxRecDepth 100000 in
theorem in_Aa : Cond.arrayOf (Term.static "SliceWhy" "A_LIMITS" "[I") .int ∈ flatC (Jvm.Cond.and given_1 narrow_1) := by decide +kernel
theorem ls_A : lw_tbl[236]? = some (Cond.laysStatic "SliceWhy" "A_LIMITS" "[I") := by decide +kernel
set_option maxRecDepth 100000 in
theorem in_B : ∀ j, j < 14 → Cond.eq (Term.elem (Term.static "SliceWhy" "B_LIMITS" "[I") (.int (Int32.ofNat j))) (.int (nI (LB.getD j 0))) ∈ flatC (Jvm.Cond.and given_1 narrow_1) := by decide +kernel
set_option maxRecDepth 100000 in
theorem in_Bl : Cond.eq (Term.length (Term.static "SliceWhy" "B_LIMITS" "[I")) (.int (Int32.ofNat 14)) ∈ flatC (Jvm.Cond.and given_1 narrow_1) := by decide +kernel
set_option maxRecDepth 100000 in
theorem in_Ba : Cond.arrayOf (Term.static "SliceWhy" "B_LIMITS" "[I") .int ∈ flatC (Jvm.Cond.and given_1 narrow_1) := by decide +kernel
theorem ls_B : lw_tbl[241]? = some (Cond.laysStatic "SliceWhy" "B_LIMITS" "[I") := by decide +kernel
set_option maxRecDepth 100000 in
theorem in_C : ∀ j, j < 14 → Cond.eq (Term.elem (Term.static "SliceWhy" "C_LIMITS" "[I") (.int (Int32.ofNat j))) (.int (nI (LC.getD j 0))) ∈ flatC (Jvm.Cond.and given_1 narrow_1) := by decide +kernel
set_option maxRecDepth 100000 in
theorem in_Cl : Cond.eq (Term.length (Term.static "SliceWhy" "C_LIMITS" "[I")) (.int (Int32.ofNat 14)) ∈ flatC (Jvm.Cond.and given_1 narrow_1) := by decide +kernel
set_option maxRecDepth 100000 in
theorem in_Ca : Cond.arrayOf (Term.static "SliceWhy" "C_LIMITS" "[I") .int ∈ flatC (Jvm.Cond.and given_1 narrow_1) := by decide +kernel
theorem ls_C : lw_tbl[243]? = some (Cond.laysStatic "SliceWhy" "C_LIMITS" "[I") := by decide +kernel
theorem sta_of {s : State} {b : Nat} (hts : ∀ w ∈ lw_tbl, w.before #[Value.ref b] s = true) (hgv : (Jvm.Cond.and given_1 narrow_1).before #[Value.ref b] s = true) : Sta (fun q : Nat => s.heap.size ≤ q) s s.heap := by
  have hs := flat_of_before _ hgv
  have hO : ∀ a : Nat, a < s.heap.size → ¬ (fun q : Nat => s.heap.size ≤ q) a := fun a h z => absurd h (Nat.not_lt.mpr z)
  have hI : (Cond.initialized "SliceWhy").before #[Value.ref b] s = true := hts _ (List.mem_filter.mp wd_49).1
  obtain ⟨tA, vA, hA⟩ := va_Tof (tm := Term.static "SliceWhy" "A_LIMITS" "[I") (ty := .int) (N := 14) (f := fun j => .int (nI (LA.getD j 0))) (A := fun q : Nat => s.heap.size ≤ q) (by decide) (hs _ in_Aa) (va_eqt (hs _ in_Al)) (fun j hj => va_eqt (hs _ (in_A j hj))) hO
  obtain ⟨tB, vB, hB⟩ := va_Tof (tm := Term.static "SliceWhy" "B_LIMITS" "[I") (ty := .int) (N := 14) (f := fun j => .int (nI (LB.getD j 0))) (A := fun q : Nat => s.heap.size ≤ q) (by decide) (hs _ in_Ba) (va_eqt (hs _ in_Bl)) (fun j hj => va_eqt (hs _ (in_B j hj))) hO
  obtain ⟨tC, vC, hC⟩ := va_Tof (tm := Term.static "SliceWhy" "C_LIMITS" "[I") (ty := .int) (N := 14) (f := fun j => .int (nI (LC.getD j 0))) (A := fun q : Nat => s.heap.size ≤ q) (by decide) (hs _ in_Ca) (va_eqt (hs _ in_Cl)) (fun j hj => va_eqt (hs _ (in_C j hj))) hO
  exact ⟨tA, tB, tC, ⟨va_Zref (hts _ (List.mem_of_getElem? ls_A)) hI vA hO, hA⟩, ⟨va_Zref (hts _ (List.mem_of_getElem? ls_B)) hI vB hO, hB⟩, ⟨va_Zref (hts _ (List.mem_of_getElem? ls_C)) hI vC hO, hC⟩⟩
set_option maxHeartbeats 4000000 in
set_option maxRecDepth 100000 in
theorem whole_start {p : Program} {e : Env} {s : State} {m : MethodId} {below : List Frame} {meth : Method} {c : Code} (l : Launch) {b L : Nat} {xs : Nat → Int32} (hL : L ≤ 3072) (C0 : lw_At p s m meth c b L xs) : W p l e room_1 s m #[Value.ref b] below meth c s.heap [] 0 0 (lw_Z below #[Value.ref b] s) (entryFrame m ([Value.ref b] : List Value).toArray 4) := by
  obtain ⟨hx, hb, hr, hml, hown, hts, hX, hbl, hlocks, hgv⟩ := id C0
  have hown : s.vm.findClass "SliceWhyLaw" = some m.cls := hown
  have hA : ∀ q : Nat, s.heap.size ≤ q → (fun q : Nat => s.heap.size ≤ q) q := fun _ h => h
  have hbA : ¬ (fun q : Nat => s.heap.size ≤ q) b := Nat.not_le.mpr hbl
  have hg : ∀ w ∈ Gw, w.before #[Value.ref b] s = true := fun w hw => hts w (List.mem_filter.mp hw).1
  have hN : NstU s := fun w hw hi => va_Nw.of (isNest_on hi) (hts w hw)
  have ht1 := hts _ (List.mem_of_getElem? nst_118)
  have ht2 := hts _ (List.mem_of_getElem? nst_190)
  obtain ⟨c0, iS0, hKn0⟩ := u_known (C := RX0) (T := TX0) (N := 9) (n := 9) hts (fun w hw => (List.mem_filter.mp (inX0 w hw)).1) (hg _ wd_152)
  obtain ⟨c1, iS1, hKn1⟩ := u_known (C := RX1) (T := TX1) (N := 8) (n := 8) hts (fun w hw => (List.mem_filter.mp (inX1 w hw)).1) (hg _ wd_65)
  obtain ⟨c2, iS2, hKn2⟩ := u_known (C := RX2) (T := TX2) (N := 10) (n := 10) hts (fun w hw => (List.mem_filter.mp (inX2 w hw)).1) (hg _ wd_112)
  obtain ⟨c3, iS3, hKn3⟩ := u_known (C := RX3) (T := TX3) (N := 12) (n := 12) hts (fun w hw => (List.mem_filter.mp (inX3 w hw)).1) (hg _ wd_57)
  obtain ⟨c4, iS4, hKn4⟩ := u_known (C := RX4) (T := TX4) (N := 35) (n := 35) hts (fun w hw => (List.mem_filter.mp (inX4 w hw)).1) (hg _ wd_546)
  obtain ⟨dC, dI, hKc⟩ : ∃ (dC : Nat → ClassId) (dI : Nat → Nat → Nat), ∀ (k : Nat) (q : vw_C), vwCl[k]? = some q → u_Kn s q.1 q.2.1 q.2.2 (dC k) (dI k) := by
    refine ⟨fun k => if k = 0 then c0 else if k = 1 then c1 else if k = 2 then c2 else if k = 3 then c3 else c4, fun k => if k = 0 then iS0 else if k = 1 then iS1 else if k = 2 then iS2 else if k = 3 then iS3 else iS4, ?_⟩
    intro k q hq
    match k, hq with
    | 0, hq => cases hq; exact hKn0
    | 1, hq => cases hq; exact hKn1
    | 2, hq => cases hq; exact hKn2
    | 3, hq => cases hq; exact hKn3
    | 4, hq => cases hq; exact hKn4
    | k + 5, hq => simp [vwCl] at hq
  obtain ⟨k0, a0, b0, e0, f0, g0⟩ := Cond.arrayClass_spec (hg _ wd_109)
  obtain ⟨k1, a1, b1, e1, f1, g1⟩ := Cond.arrayClass_spec (hg _ wd_110)
  obtain ⟨k2, a2, b2, f2, g2, e2⟩ := ovA ht1
  obtain ⟨b3, k3, a3, e3c, _, f3, g3, e3⟩ := Cond.arrayOver_spec ht2
  obtain ⟨kf, hkf0, hkf1, hkf2, hkf3⟩ : ∃ kf : Nat → ClassId, kf 0 = k0 ∧ kf 1 = k1 ∧ kf 2 = k2 ∧ kf 3 = k3 := ⟨fun i => if i = 0 then k0 else if i = 1 then k1 else if i = 2 then k2 else k3, rfl, rfl, rfl, rfl⟩
  subst hkf0 hkf1 hkf2 hkf3
  have hK : va_K (dC, dI) vwCl (tyL kf) s := by
    refine ⟨hKc, fun j q hq => ?_⟩
    match j, hq with
    | 0, hq => cases hq; exact ⟨fun N z => ⟨(fun k h => by cases h), a0, f0, b0, g0⟩, e0⟩
    | 1, hq => cases hq; exact ⟨fun N z => ⟨(fun k h => by cases h), a1, f1, b1, g1⟩, e1⟩
    | 2, hq => cases hq; exact ⟨fun N z => ⟨(fun k h => by cases h), a2, f2, b2, g2⟩, e2⟩
    | 3, hq => cases hq; exact ⟨fun N z => ⟨(fun k h => by cases h), a3, f3, b3, g3⟩, a3, b3, f3, g3, e3c, e3⟩
    | j + 4, hq => simp [tyL] at hq
  have hXo : aoX s := ⟨va_AO.of ht2, va_AOA.of ht1⟩
  have hSt : Sta (fun q : Nat => s.heap.size ≤ q) s s.heap := sta_of hts hgv
  have hh : Hd (dC, dI) (fun q : Nat => s.heap.size ≤ q) [] s.heap s.heap [] := ⟨fun k q h => by simp at h, ⟨fun i j p q h => by simp at h, fun k q h => by simp at h⟩, va_S.rf⟩
  have hl := lv_entry ([.ref b]) (n := 4) (Nat.le_of_ble_eq_true rfl)
  rw [lg_entry_eq]
  generalize (lg_sl ([.ref b]) ++ List.replicate (4 - (lg_sl ([.ref b])).length) Slot.unset).toArray = ls at hl ⊢
  have hl : lv_has ls 4 [(0, .ref b)] := hl
  refine nwo (ci := 3) (fs := [.null, .null, .int 0, .null, .null, .int 0, .null, .int 0, .null, .null, .null, .int 0]) hx hb hg inX3 tyX3 tyX3_ok hown wd_56 wd_57 wd_49 hK hA hh rfl (by decide +kernel) (by decide) (by decide) dL_law_0 (fun q0 H hh => ?_)
  have hh : Hd (dC, dI) (fun q : Nat => s.heap.size ≤ q) [(q0, .inr (3, [.null, .null, .int 0, .null, .null, .int 0, .null, .int 0, .null, .null, .null, .int 0]))] s.heap H [] := hh
  refine lv_dup hx hb dL_law_3 rfl ?_
  refine callN (wc := [(q0, .inr (3, [.null, .null, .int 0, .null, .null, .int 0, .null, .int 0, .null, .null, .null, .int 0]))]) (wr := []) (runI hx hb hg hown hml hl.1 ((c_X3_init l (dC, dI) kf q0) H.size) [.ref q0] (preX (mapSome_sub hh.1 [0] rfl) (hh.2.1.sub [0] (by decide) rfl) hK hN aoX_b (aoX_at hXo)) wd_58 wd_59 wd_49 wd_60 rfl lk_X3_init ⟨rfl, rfl⟩ ⟨by decide, by decide⟩ ⟨by decide, by decide⟩ (Nat.le_of_ble_eq_true rfl) dL_law_4) hA hh [0] [] rfl rfl (by decide) (by decide) (fun ad H locs h_ad hh2 => ?_)
  subst h_ad
  have hh : Hd (dC, dI) (fun q : Nat => s.heap.size ≤ q) (wS kf ad sz0) s.heap H locs := hh2
  refine lv_astore_n (lv' := [(1, .ref (ad 0)), (0, .ref b)]) hx hb dL_law_7 rfl hl (by decide) rfl (fun ls hl => ?_)
  refine nwo (ci := 4) (fs := (.int 0 :: .null :: .null :: .null :: .null :: .null :: .null :: .null :: .null :: .int 0 :: .null :: .int 0 :: .int 0 :: .null :: .int 0 :: .int 0 :: .null :: .int 0 :: .null :: .null :: .null :: .null :: .int 0 :: .null :: .null :: .null :: .null :: .null :: .int 0 :: .int 0 :: .int 0 :: .null :: .int 0 :: .int 0 :: .null :: [])) hx hb hg inX4 tyX4 tyX4_ok hown wd_545 wd_546 wd_53 hK hA hh rfl (by decide +kernel) (by decide) (by decide) dL_law_8 (fun q8 H hh => ?_)
  have hh : Hd (dC, dI) (fun q : Nat => s.heap.size ≤ q) (wS kf ad sz0 ++ [(q8, .inr (4, (.int 0 :: .null :: .null :: .null :: .null :: .null :: .null :: .null :: .null :: .int 0 :: .null :: .int 0 :: .int 0 :: .null :: .int 0 :: .int 0 :: .null :: .int 0 :: .null :: .null :: .null :: .null :: .int 0 :: .null :: .null :: .null :: .null :: .null :: .int 0 :: .int 0 :: .int 0 :: .null :: .int 0 :: .int 0 :: .null :: [])))]) s.heap H locs := hh
  refine lv_dup hx hb dL_law_11 rfl ?_
  refine callN (wc := [(q8, .inr (4, (.int 0 :: .null :: .null :: .null :: .null :: .null :: .null :: .null :: .null :: .int 0 :: .null :: .int 0 :: .int 0 :: .null :: .int 0 :: .int 0 :: .null :: .int 0 :: .null :: .null :: .null :: .null :: .int 0 :: .null :: .null :: .null :: .null :: .null :: .int 0 :: .int 0 :: .int 0 :: .null :: .int 0 :: .int 0 :: .null :: [])))]) (wr := wS kf ad sz0) (runI hx hb hg hown hml hl.1 ((c_X4_init l (dC, dI) kf q8) H.size) [.ref q8] (preX (mapSome_sub hh.1 [61] rfl) (hh.2.1.sub [61] (by decide) rfl) hK hN aoX_b (aoX_at hXo)) wd_547 wd_548 wd_53 wd_549 rfl lk_X4_init ⟨rfl, rfl⟩ ⟨by decide, by decide⟩ ⟨by decide, by decide⟩ (Nat.le_of_ble_eq_true rfl) dL_law_12) hA hh [61] (0 :: 1 :: 2 :: 3 :: 4 :: 5 :: 6 :: 7 :: 8 :: 9 :: 10 :: 11 :: 12 :: 13 :: 14 :: 15 :: 16 :: 17 :: 18 :: 19 :: 20 :: 21 :: 22 :: 23 :: 24 :: 25 :: 26 :: 27 :: 28 :: 29 :: 30 :: 31 :: 32 :: 33 :: 34 :: 35 :: 36 :: 37 :: 38 :: 39 :: 40 :: 41 :: 42 :: 43 :: 44 :: 45 :: 46 :: 47 :: 48 :: 49 :: 50 :: 51 :: 52 :: 53 :: 54 :: 55 :: 56 :: 57 :: 58 :: 59 :: 60 :: []) rfl rfl (by decide) (by decide) (fun bd H locs h_bd hh2 => ?_)
  subst h_bd
  have hh : Hd (dC, dI) (fun q : Nat => s.heap.size ≤ q) (wS kf ad sz0 ++ wQ kf bd qz) s.heap H locs := hh2
  refine lv_astore_n (lv' := [(2, .ref (bd 0)), (1, .ref (ad 0)), (0, .ref b)]) hx hb dL_law_15 rfl hl (by decide) rfl (fun ls hl => ?_)
  refine lv_iconst (v := 0) hx hb dL_law_16 (by decide) ?_
  refine lv_istore_n (lv' := [(3, .int 0), (2, .ref (bd 0)), (1, .ref (ad 0)), (0, .ref b)]) hx hb dL_law_17 rfl hl (by decide) rfl (fun ls hl => ?_)
  refine W.widen (k := 600000) (n := 7302249) (by decide) (by decide) ?_
  exact law_loop hx hb hg hml hown hK hN hA hX hbl hbA hL ⟨Nat.le_refl _, Nat.le_refl _⟩ hSt rel0 hh (lv_sub hl [3, 2, 1, 0] rfl) (fun H locs ls hS => by
    refine lv_iconst (v := 1) hx hb dL_law_794 (by decide) ?_
    refine va_forget (fun q hq => hS.2.2 q hq) ?_
    exact lw_ret hx hb hr hlocks dL_law_795)
