/-! Constructors: contracts of what makes cells; rows for new arrays and objects -/
def aoX (U : State) : Prop := va_AO RX0 U ∧ va_AOA .int U
theorem aoX_b : ∀ (U : State) (g : JFrame) (mk : MethodId) (a : Array Value), aoX U → aoX (U.calling g mk a) := fun U g mk a h => ⟨va_AO.moved (u := U) (U := U.calling g mk a) (Vm.Alike.refl U.vm) h.1, va_AOA.moved (u := U) (U := U.calling g mk a) (Vm.Alike.refl U.vm) h.2⟩
theorem aoX_at {s : State} {H : Heap} (h : aoX s) : ∀ U : State, U.heap = H → s.WarmedH U.vm → aoX U := fun U _ hW => ⟨h.1.moved hW.alike, h.2.moved hW.alike⟩
/-- a constructor's contract: mc cells of ms slots come -/
def CtN (X : State → Prop) (l : Launch) (y : MethodName) (bytes : ByteArray) (maxL : Nat) (rm : Room) (D : va_G) (tys : List (ClassId × FieldType)) (w : va_W) (av : List Value) (Qc : (Nat → Prop) → Array Value → State → Outcome → State → Prop) (mc ms : Nat) : Prop :=
  ∀ sz : Nat, Met l y (Cond.code y bytes maxL none :: Gw) rm (va_Pc av (Pre D tys w sz X)) (Qc (va_A w sz)) mc ms (va_A w sz)
theorem CtN.mk {X : State → Prop} {l : Launch} {y : MethodName} {bytes : ByteArray} {maxL : Nat} {rm : Room} {D : va_G} {tys : List (ClassId × FieldType)} {w : va_W} {av : List Value} {Qc : (Nat → Prop) → Array Value → State → Outcome → State → Prop} {mc ms : Nat}
    (hy : plainName y.cls = true) (hlen : (lg_sl av).length ≤ maxL)
    (body : ∀ (p : Program) (e : Env) (s : State) (m : MethodId) (below : List Frame) (meth : Method) (c : Code), p.tables.exec = Jvm.exec → c.code = bytes → c.maxLocals = maxL → s.vm.findClass y.cls = some m.cls → (∀ w ∈ Gw, w.before av.toArray s = true) → meth.sig.returnType = none → meth.locks = false → meth.name = y.name → va_K D vwCl tys s → NstU s →
      ∀ A : Nat → Prop, (∀ q, s.heap.size ≤ q → A q) → X s → Hd D A w s.heap s.heap [] → ∀ ls : Array Slot, lv_has ls maxL (lv_args 0 av) →
      W p l e rm s m av.toArray below meth c s.heap [] 0 0 (MQ below (Qc A) av.toArray s mc ms A) (F0 m 0 ls [])) : CtN X l y bytes maxL rm D tys w av Qc mc ms := by
  intro sz
  refine Met.ofW (cc := bytes) (maxL := maxL) (ret := none) hy rfl ?_
  intro p e s m args below meth c s₁ B hml hv
  obtain ⟨rfl, hsz, hP, hK, hD0, hN, hX⟩ := hv
  subst hsz
  have hts := atoms_spec (ws := Cond.code y bytes maxL none :: Gw) B.pre
  have hl := lv_entry av (n := maxL) hlen
  rw [lg_entry_eq]
  exact body p e s m below meth c B.exec B.bytes hml (findClass_of_methodNamed B.named) (fun w hw => hts w (List.mem_cons_of_mem _ hw)) B.returns B.notSynchronized (name_of_methodNamed B.named B.method).1 hK hN _ (fun q h => Or.inr h) hX ⟨hP, hD0.self (sz := s.heap.size), va_S.rf⟩ _ hl
section B8
variable {p : Program} {l : Launch} {e : Env} {R : Room} {s : State} {m : MethodId} {args : Array Value} {below : List Frame} {meth : Method} {c : Code} {H : Heap} {locs : List Loc} {cells slots : Nat} {Q : State → Prop}
variable {cc : ByteArray} {pc : Nat} {ls : Array Slot} {rest : List Value} {D : va_G} {A : Nat → Prop} {a : Nat} {tys : List (ClassId × FieldType)} {w : va_W} {H0 : Heap} {k : Nat → ClassId}
theorem retN {S : Type} {Wd : S → va_W} {post : S → Prop} {mc ms : Nat} (u : S) (hx : p.tables.exec = Jvm.exec) (hb : c.code = cc) (hr : meth.sig.returnType = none) (hlocks : meth.locks = false) (hdg : decode cc pc = .ok (.return_, 1)) (hh : Hd D A (Wd u) s.heap H locs) (hp : post u) : W p l e R s m args below meth c H locs mc ms (MQ below (qV D Wd post A) args s mc ms A) (F0 m pc ls []) :=
  W.vret hx hb hr (fun t ht _ => ⟨⟨u, rfl, hp, by rw [ht]; exact hh.1, hh.2.1⟩, hh.2.2.F ht⟩) hh.2.2.2.2 hdg hlocks
theorem Hd.perm {w' : va_W} (hh : Hd D A w H0 H locs) (is : List Nat) (hn : va_nd is = true) (hs : is.map (fun i => w[i]?) = w'.map some) : Hd D A w' H0 H locs := ⟨mapSome_sub hh.1 is hs, hh.2.1.sub is hn hs, hh.2.2⟩
theorem Hd.aR {q0 n : Nat} {cA : ClassId} {f g : Nat → Option Nat} (hh : Hd D A w H0 H locs) (ha : w[q0]? = some (a, Pilot.CSliceWhyLaw_law_r1743_20bfb7.aR cA n f)) (h : ∀ i, i < n → f i = g i) (w' : va_W) (hw' : w.set q0 (a, Pilot.CSliceWhyLaw_law_r1743_20bfb7.aR cA n g) = w') : Hd D A w' H0 H locs := by
  subst hw'
  have e : vp_cell cA (n, .inr (.inr (.inr (.inr f)))) = vp_cell cA (n, .inr (.inr (.inr (.inr g)))) := by
    rw [vp_cell_q, vp_cell_q]
    unfold arrV
    congr 1
    apply Array.ext
    · simp
    · intro i h1 h2
      simp at h1
      simp [h i h1]
  have hc : H[a]? = some (vp_cell cA (n, .inr (.inr (.inr (.inr g))))) := by rw [← e]; exact hh.1 q0 _ ha
  exact ⟨hh.1.set hh.2.1 ha hc (fun _ _ => rfl), hh.2.1.set ha, hh.2.2⟩
theorem cls_i (hK : va_K D vwCl (tyL k) s) : s.vm.findClass ("[" ++ FieldType.int.toString) = some (k 0) := (hK.2 0 (k 0, .int) rfl).2
theorem cls_z (hK : va_K D vwCl (tyL k) s) : s.vm.findClass ("[" ++ FieldType.boolean.toString) = some (k 1) := (hK.2 1 (k 1, .boolean) rfl).2
theorem cls_a (hK : va_K D vwCl (tyL k) s) : s.vm.findClass ("[" ++ (FieldType.array .int).toString) = some (k 2) := (hK.2 2 (k 2, .array .int) rfl).2
theorem cls_m (hK : va_K D vwCl (tyL k) s) : s.vm.findClass ("[" ++ (FieldType.object RX0).toString) = some (k 3) := by
  obtain ⟨kA, comp, _, _, _, h⟩ := (hK.2 3 (k 3, .object RX0) rfl).2
  exact h
/-- new int[N] -/
theorem nwa (hx : p.tables.exec = Jvm.exec) (hb : c.code = cc) (hg : ∀ w ∈ Gw, w.before args s = true) (hK : va_K D vwCl (tyL k) s) (hA : ∀ q, H0.size ≤ q → A q) (hh : Hd D A w H0 H locs) {n : Int32} (N : Nat) (hn : ¬ n < 0) (hN : n.toNatClampNeg = N) (hby : N * 4 ≤ 536870912) (hcells : cells + 1 ≤ R.cells) (hslots : slots + N ≤ R.slots) (hdg : decode cc pc = .ok (.newarray .int, 2))
    (kk : ∀ (q : Nat) (H1 : Heap), Hd D A (w ++ [(q, aI k N (fun _ => 0))]) H0 H1 locs → W p l e R s m args below meth c H1 locs (cells + 1) (slots + N) Q (F0 m (pc + 2) ls (.ref q :: rest))) : W p l e R s m args below meth c H locs cells slots Q (F0 m pc ls (.int n :: rest)) := by
  refine va_newa (atype := .int) (ty := .int) hx hb (hg _ wd_109) rfl hK hh.1 hh.2.1 hh.2.2 hA (a0 := (N, .inl (fun _ => 0))) (fun cA => rfl) hn hN hby hcells hslots hdg (fun q cA H1 hK1 h1 h2 h3 => ?_)
  have e : some cA = some (k 0) := ((hK1.2 4 (cA, .int) rfl).2 : s.vm.findClass ("[" ++ FieldType.int.toString) = some cA).symm.trans (cls_i hK)
  cases e
  exact kk q H1 ⟨h1, h2, h3⟩
theorem nwz (hx : p.tables.exec = Jvm.exec) (hb : c.code = cc) (hg : ∀ w ∈ Gw, w.before args s = true) (hK : va_K D vwCl (tyL k) s) (hA : ∀ q, H0.size ≤ q → A q) (hh : Hd D A w H0 H locs) {n : Int32} (N : Nat) (hn : ¬ n < 0) (hN : n.toNatClampNeg = N) (hby : N * 1 ≤ 536870912) (hcells : cells + 1 ≤ R.cells) (hslots : slots + N ≤ R.slots) (hdg : decode cc pc = .ok (.newarray .boolean, 2))
    (kk : ∀ (q : Nat) (H1 : Heap), Hd D A (w ++ [(q, aZ k N (fun _ => 0))]) H0 H1 locs → W p l e R s m args below meth c H1 locs (cells + 1) (slots + N) Q (F0 m (pc + 2) ls (.ref q :: rest))) : W p l e R s m args below meth c H locs cells slots Q (F0 m pc ls (.int n :: rest)) := by
  refine va_newa (atype := .boolean) (ty := .boolean) hx hb (hg _ wd_110) rfl hK hh.1 hh.2.1 hh.2.2 hA (a0 := (N, .inl (fun _ => 0))) (fun cA => rfl) hn hN hby hcells hslots hdg (fun q cA H1 hK1 h1 h2 h3 => ?_)
  have e : some cA = some (k 1) := ((hK1.2 4 (cA, .boolean) rfl).2 : s.vm.findClass ("[" ++ FieldType.boolean.toString) = some cA).symm.trans (cls_z hK)
  cases e
  exact kk q H1 ⟨h1, h2, h3⟩
/-- new Machine[N] -/
theorem nwq (hx : p.tables.exec = Jvm.exec) (hb : c.code = cc) (hX : aoX s) {own : String} {index : Nat} (hown : s.vm.findClass own = some m.cls) (hcl : (Cond.classLink own index RX0).before args s = true) (hK : va_K D vwCl (tyL k) s) (hA : ∀ q, H0.size ≤ q → A q) (hh : Hd D A w H0 H locs) {n : Int32} (N : Nat) (hn : ¬ n < 0) (hN : n.toNatClampNeg = N) (hby : N * 4 ≤ 536870912) (hcells : cells + 1 ≤ R.cells) (hslots : slots + N ≤ R.slots) (hdg : decode cc pc = .ok (.anewarray index, 3))
    (kk : ∀ (q : Nat) (H1 : Heap), Hd D A (w ++ [(q, aR (k 3) N (fun _ => none))]) H0 H1 locs → W p l e R s m args below meth c H1 locs (cells + 1) (slots + N) Q (F0 m (pc + 3) ls (.ref q :: rest))) : W p l e R s m args below meth c H locs cells slots Q (F0 m pc ls (.int n :: rest)) := by
  refine va_newq hx hb hown hcl hX.1 hK hh.1 hh.2.1 hh.2.2 hA hn hN hby hcells hslots hdg (fun q cA H1 hK1 h1 h2 h3 => ?_)
  obtain ⟨kA, comp, _, _, _, h9⟩ := (hK1.2 4 (cA, .object RX0) rfl).2
  have e : some cA = some (k 3) := h9.symm.trans (cls_m hK)
  cases e
  exact kk q H1 ⟨h1, h2, h3⟩
/-- new int[N][K] -/
theorem nwm (hx : p.tables.exec = Jvm.exec) (hb : c.code = cc) (hg : ∀ w ∈ Gw, w.before args s = true) (hX : aoX s) {own : String} {index : Nat} (hown : s.vm.findClass own = some m.cls) (hcl : (Cond.classLink own index "[[I").before args s = true) (hK : va_K D vwCl (tyL k) s) (hA : ∀ q, H0.size ≤ q → A q) (hh : Hd D A w H0 H locs) {n z : Int32} (N K : Nat) (hn : ¬ n < 0) (hz : ¬ z < 0) (hN : n.toNatClampNeg = N) (hM : z.toNatClampNeg = K) (hb1 : N * 4 ≤ 536870912) (hb2 : K * 4 ≤ 536870912) (hcells : cells + (1 + N) ≤ R.cells) (hslots : slots + (N + N * K) ≤ R.slots) (hdg : decode cc pc = .ok (.multianewarray index 2, 4))
    (kk : ∀ (q : Nat) (r : Nat → Nat) (H1 : Heap), Hd D A (w ++ [(q, aR (k 2) N (fun i => if i < N then some (r i) else none))] ++ (List.range N).map (fun i => (r i, aI k K (fun _ => 0)))) H0 H1 locs → W p l e R s m args below meth c H1 locs (cells + 1 + N) (slots + N + N * K) Q (F0 m (pc + 4) ls (.ref q :: rest))) : W p l e R s m args below meth c H locs cells slots Q (F0 m pc ls (.int z :: .int n :: rest)) := by
  have e0 : w ++ va_pl [] (fun _ => .inl (k 0, K, .inl (fun _ => 0))) = w := List.append_nil w
  refine va_mna (X := w) (L := []) (f := fun _ => .inl (k 0, K, .inl (fun _ => 0))) (ty := .int) (cy := k 0) (z := (K, .inl (fun _ => 0))) hx hb hown hcl hX.2 (hg _ wd_109) (cls_i hK) hK (by rw [e0]; exact hh.1) (by rw [e0]; exact hh.2.1) hh.2.2 hA hn hz hN hM hb1 hb2 (by omega) rfl rfl hcells hslots (fun cA => by first | rfl | exact arrV_new _ _ _) hdg (fun q r cA H1 _ _ hK1 h1 h2 h3 => ?_)
  have e : some cA = some (k 2) := ((hK1.2 4 (cA, .array .int) rfl).2 : s.vm.findClass ("[" ++ (FieldType.array .int).toString) = some cA).symm.trans (cls_a hK)
  cases e
  have e1 : va_pl ([] ++ (List.range N).map r) (vr_up (fun _ => .inl (k 0, K, .inl (fun _ => 0))) ((List.range N).map r) (.inl (k 0, (K, .inl (fun _ => 0))))) = (List.range N).map (fun i => (r i, aI k K (fun _ => 0))) := by
    unfold va_pl
    rw [List.nil_append, List.map_map]
    apply List.map_congr_left
    intro i hi
    show (r i, vr_up _ _ _ (r i)) = _
    rw [vr_up_in (List.mem_map.mpr ⟨i, hi, rfl⟩)]
  rw [e1] at h1 h2
  exact kk q r H1 ⟨h1, h2, h3⟩
/-- new C -/
theorem nwo (hx : p.tables.exec = Jvm.exec) (hb : c.code = cc) (hg : ∀ w ∈ Gw, w.before args s = true) {own C : String} {T : u_T} {N ci index : Nat} (hin : ∀ w ∈ u_ws C T N, w ∈ Gw) (ty : Nat → FieldType) (hty : ∀ k, k < N → parseFieldDescriptor (T k).2.2.1 = some (ty k)) (hown : s.vm.findClass own = some m.cls) (hcl : Cond.classLink own index C ∈ Gw) (hinst : Cond.instantiable C N ∈ Gw) (hini : Cond.initialized C ∈ Gw)
    (hK : va_K D vwCl tys s) (hA : ∀ q, H0.size ≤ q → A q) (hh : Hd D A w H0 H locs) (hc : vwCl[ci]? = some (C, T, N)) {fs : List Value} (hfs : ∀ j, j < N → defaultValue (ty j) = vp_V fs j) (hcells : cells + 1 ≤ R.cells) (hslots : slots + N ≤ R.slots) (hdg : decode cc pc = .ok (.new index, 3))
    (kk : ∀ (q : Nat) (H1 : Heap), Hd D A (w ++ [(q, .inr (ci, fs))]) H0 H1 locs → W p l e R s m args below meth c H1 locs (cells + 1) (slots + N) Q (F0 m (pc + 3) ls (.ref q :: rest))) : W p l e R s m args below meth c H locs cells slots Q (F0 m pc ls rest) :=
  va_new hx hb hg hin ty hty hown (hg _ hcl) (hg _ hinst) (hg _ hini) hK hh.1 hh.2.1 hh.2.2 hA hc hfs hcells hslots hdg (fun q H1 h1 h2 h3 => kk q H1 ⟨h1, h2, h3⟩)
/-- a final field in its constructor -/
theorem pff (hx : p.tables.exec = Jvm.exec) (hb : c.code = cc) (hg : ∀ w ∈ Gw, w.before args s = true) {own C : String} {T : u_T} {N ci index : Nat} (hin : ∀ w ∈ u_ws C T N, w ∈ Gw) (ty0 : Nat → FieldType) (hty : ∀ k, k < N → parseFieldDescriptor (T k).2.2.1 = some (ty0 k)) (hnm : ∀ a, a < N → ∀ b, b < N → a ≠ b → (T a).2.1 ≠ (T b).2.1) (hown : s.vm.findClass own = some m.cls) (hK : va_K D vwCl tys s) (hh : Hd D A w H0 H locs) (q0 : Nat) {fs : List Value} (he : w[q0]? = some (a, .inr (ci, fs))) (hc : vwCl[ci]? = some (C, T, N)) (k : Nat) (hk : k < N)
    (hlink : Cond.fieldLink own index (T k).1 (T k).2.1 (T k).2.2.1 ∈ Gw) (hfin : (T k).2.2.2 = true) (hin2 : meth.name = "<init>") (hdecl : (T k).1 = own) {v : Value} (hn : narrow (ty0 k) v = v) (hfit : fits (ty0 k) v = true) (hl : k < fs.length) (hdg : decode cc pc = .ok (.putfield index, 3)) (w' : va_W) (hw' : w.set q0 (a, .inr (ci, fs.set k v)) = w')
    (kk : ∀ (H1 : Heap) (locs1 : List Loc), Hd D A w' H0 H1 locs1 → W p l e R s m args below meth c H1 locs1 cells slots Q (F0 m (pc + 3) ls rest)) : W p l e R s m args below meth c H locs cells slots Q (F0 m pc ls (v :: .ref a :: rest)) :=
  va_putF hx hb hg hin ty0 hty hnm hown hK hh.1 hh.2.1 hh.2.2 q0 he hc k hk (hg _ hlink) (fun _ h => h) hfin hin2 hdecl (hty k hk) hn hfit hl hdg (fun H1 locs1 h1 h2 h3 => kk H1 locs1 (hw' ▸ ⟨h1, h2, h3⟩))
theorem stq (hx : p.tables.exec = Jvm.exec) (hb : c.code = cc) (hK : va_K D vwCl tys s) (hh : Hd D A w H0 H locs) (q0 t0 qk ci : Nat) {cA : ClassId} {r : vw_C} {n v : Nat} {vs : List Value} {f : Nat → Option Nat} (ha : w[q0]? = some (a, .inl (cA, n, .inr (.inr (.inr (.inr f)))))) (ht : tys[t0]? = some (cA, .object r.1)) (hv : w[qk]? = some (v, .inr (ci, vs))) (hc : vwCl[ci]? = some r) {j : Nat} (hj : j < n) (hn : n < 2 ^ 31) (hdg : decode cc pc = .ok (.aastore, 1)) (w' : va_W) (hw' : w.set q0 (a, .inl (cA, n, .inr (.inr (.inr (.inr (va_up f j (some v))))))) = w')
    (kk : ∀ (H1 : Heap) (locs1 : List Loc), Hd D A w' H0 H1 locs1 → W p l e R s m args below meth c H1 locs1 cells slots Q (F0 m (pc + 1) ls rest)) : W p l e R s m args below meth c H locs cells slots Q (F0 m pc ls (.ref v :: .int (nI j) :: .ref a :: rest)) := by
  refine va_astq hx hb hK hh.1 hh.2.1 hh.2.2 q0 t0 qk ci ha ht hv hc (vp_in_nI hj hn) hdg (fun H1 locs1 h1 h2 h3 => kk H1 locs1 ?_)
  rw [nI_clamp (Nat.lt_trans hj hn), hw'] at h1 h2
  exact ⟨h1, h2, h3⟩
theorem obI (hx : p.tables.exec = Jvm.exec) (hb : c.code = cc) (hg : ∀ w ∈ Gw, w.before args s = true) {own : String} {nL : Nat} (hown : s.vm.findClass own = some m.cls) (hml : c.maxLocals = nL) (hls : ls.size = nL) {idx : Nat} (hlink : Cond.methodLink own idx Lib.objectInit ∈ Gw) (hdg : decode cc pc = .ok (.invokespecial idx, 3)) (hR : 1 ≤ R.frames ∧ 12 ≤ R.locals) (kk : W p l e R s m args below meth c H locs cells slots Q (F0 m (pc + 3) ls [])) : W p l e R s m args below meth c H locs cells slots Q (F0 m pc ls [.ref a]) :=
  W.objInit hx hb hown (hg _ hlink) (hg _ wd_62) (hg _ wd_63) rfl (by rw [hml]; exact hls) rfl hdg hR.1 hR.2 kk
variable {y : MethodName} {bytes : ByteArray} {maxL nL index mc ms : Nat} {rm : Room} {Pc : Array Value → State → Prop} {Qc : Array Value → State → Outcome → State → Prop} {free : Addr → Prop} {own : String} {b : Addr} {st0 : List Value}
theorem runI (hx : p.tables.exec = Jvm.exec) (hb : c.code = cc) (hg : ∀ w ∈ Gw, w.before args s = true) (hown : s.vm.findClass own = some m.cls) (hml : c.maxLocals = nL) (hls : ls.size = nL) (hM : Met l y (Cond.code y bytes maxL none :: Gw) rm Pc Qc mc ms free) (rest : List Value) (hpc : FrameBlind Pc ∧ ∀ U : State, U.heap = H → s.WarmedH U.vm → Pc ([Value.ref b] : List Value).toArray U)
    (ml : Cond.methodLink own index y ∈ Gw) (im : Cond.instanceMethod y ∈ Gw) (ini : Cond.initialized y.cls ∈ Gw) (cd : Cond.code y bytes maxL none ∈ Gw) (hy : y.name = "<init>") (hd : Lk y 0) (hrm : rm.cells = mc ∧ rm.slots = ms) (hR : rm.frames + 1 ≤ R.frames ∧ 8 + (maxL + 11) + rm.locals ≤ R.locals) (hcs : cells + mc ≤ R.cells ∧ slots + ms ≤ R.slots) (hrest : (rest.map fun v => v.category).sum ≤ 8) (hdg : decode cc pc = .ok (.invokespecial index, 3)) :
    va_Run p l e R s m args below meth c H locs cells slots mc ms (F0 m pc ls (.ref b :: rest)) rest (Qc ([Value.ref b] : List Value).toArray) free :=
  va_runI (As := []) (Ts := Gw) (own := own) ⟨hx, hb, hml, hown, hg⟩ hM (cwI 0 hg (Gw_GoodIn cd) rfl hrm.1 hrm.2 (hg _ ini) (hg _ ml) (hg _ im) hy hd hR) hpc rfl rfl hls rfl (lv_room hrest) hdg hcs
theorem runIN {host : String} (hx : p.tables.exec = Jvm.exec) (hb : c.code = cc) (hg : ∀ w ∈ Gw, w.before args s = true) (hown : s.vm.findClass own = some m.cls) (hml : c.maxLocals = nL) (hls : ls.size = nL) (hN : NstU s) (hM : Met l y (Cond.code y bytes maxL none :: Gw) rm Pc Qc mc ms free) (rest : List Value) (hpc : FrameBlind Pc ∧ ∀ U : State, U.heap = H → s.WarmedH U.vm → Pc ([Value.ref b] : List Value).toArray U)
    (i : Nat) (ml : lw_tbl[i]? = some (Cond.methodLinkNest own index y host)) (im : Cond.instanceMethod y ∈ Gw) (ini : Cond.initialized y.cls ∈ Gw) (cd : Cond.code y bytes maxL none ∈ Gw) (hy : y.name = "<init>") (hd : Lk y 0) (hrm : rm.cells = mc ∧ rm.slots = ms) (hR : rm.frames + 1 ≤ R.frames ∧ 8 + (maxL + 11) + rm.locals ≤ R.locals) (hcs : cells + mc ≤ R.cells ∧ slots + ms ≤ R.slots) (hrest : (rest.map fun v => v.category).sum ≤ 8) (hdg : decode cc pc = .ok (.invokespecial index, 3)) :
    va_Run p l e R s m args below meth c H locs cells slots mc ms (F0 m pc ls (.ref b :: rest)) rest (Qc ([Value.ref b] : List Value).toArray) free :=
  va_runIN (As := []) (Ts := Gw) (own := own) (host := host) ⟨hx, hb, hml, hown, hg⟩ hM ⟨va_cnB 0 hg (Gw_GoodIn cd) rfl hrm.1 hrm.2 (hN.nw i ml rfl) (hg _ ini) hd hR, hy, hg _ im⟩ hpc rfl rfl hls rfl (lv_room hrest) hdg hcs
/-- behind a constructor: its cells as it says, beside the others -/
theorem callN {S : Type} {Wd : S → va_W} {post : S → Prop} {av : Array Value} {wc wr : va_W} {st1 : List Value} (hr : va_Run p l e R s m args below meth c H locs cells slots mc ms (F0 m pc ls st1) rest (qV D Wd post (va_A wc H.size) av) (va_A wc H.size))
    (hA : ∀ q, s.heap.size ≤ q → A q) (hh : Hd D A w s.heap H locs) (isC isR : List Nat) (hC : isC.map (fun i => w[i]?) = wc.map some) (hR : isR.map (fun i => w[i]?) = wr.map some) (hn : va_nd isR = true) (hdis : ∀ i ∈ isR, i ∉ isC)
    (kk : ∀ (u : S) (H1 : Heap) (locs1 : List Loc), post u → Hd D A (wr ++ Wd u) s.heap H1 locs1 → W p l e R s m args below meth c H1 locs1 (cells + mc) (slots + ms) Q (F0 m (pc + 3) ls rest)) : W p l e R s m args below meth c H locs cells slots Q (F0 m pc ls st1) :=
  va_callv hr hh.2.2 (fun q _ h => hh.free hA isC hC q h) (hh.free hA isC hC) (fun u t H1 locs1 ht _ hp hB _ hk hS => by
    obtain ⟨h1, h2⟩ := va_join (wr := wr) (w1 := Wd u) hh.1 hh.2.1 isC isR hC hR hn hdis hk (hh.free hA isC hC) (ht ▸ hB.1) hB.2
    exact kk u H1 locs1 hp ⟨h1, h2, hS⟩)
end B8
