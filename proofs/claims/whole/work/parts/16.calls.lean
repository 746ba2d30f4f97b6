/-! Read-only contracts, and calls -/
def PreR (D : va_G) (tys : List (ClassId × FieldType)) (w : va_W) (X : State → Prop) (U : State) : Prop := va_P D vwCl w U.heap ∧ va_K D vwCl tys U ∧ NstU U ∧ X U
abbrev qR (post : Int32 → Prop) : Array Value → State → Outcome → State → Prop := fun _ st oc t => (∃ r : Int32, oc = .returned (some (.int r)) ∧ post r) ∧ t.heap = st.heap
def CtR (X : State → Prop) (l : Launch) (y : MethodName) (bytes : ByteArray) (maxL : Nat) (ret : Option FieldType) (rm : Room) (D : va_G) (tys : List (ClassId × FieldType)) (w : va_W) (av : List Value) (post : Int32 → Prop) : Prop :=
  Met l y (Cond.code y bytes maxL ret :: Gw) rm (va_Pc av (PreR D tys w X)) (qR post) 0 0 (fun _ => False)
theorem CtR.mk {X : State → Prop} {l : Launch} {y : MethodName} {bytes : ByteArray} {maxL : Nat} {ret : Option FieldType} {rm : Room} {D : va_G} {tys : List (ClassId × FieldType)} {w : va_W} {av : List Value} {post : Int32 → Prop}
    (hy : plainName y.cls = true) (hlen : (lg_sl av).length ≤ maxL)
    (body : ∀ (p : Program) (e : Env) (s : State) (m : MethodId) (below : List Frame) (meth : Method) (c : Code), p.tables.exec = Jvm.exec → c.code = bytes → c.maxLocals = maxL → s.vm.findClass y.cls = some m.cls → (∀ w ∈ Gw, w.before av.toArray s = true) → meth.sig.returnType = ret → meth.locks = false → va_K D vwCl tys s → NstU s → X s → ∀ H : Heap, s.heap = H → va_P D vwCl w H → ∀ ls : Array Slot, lv_has ls maxL (lv_args 0 av) →
      W p l e rm s m av.toArray below meth c H [] 0 0 (MQ below (qR post) av.toArray s 0 0 (fun _ => False)) (F0 m 0 ls [])) : CtR X l y bytes maxL ret rm D tys w av post := by
  refine Met.ofW (cc := bytes) (maxL := maxL) (ret := ret) hy rfl ?_
  intro p e s m args below meth c s₁ B hml hv
  obtain ⟨rfl, hP, hK, hN, hX⟩ := hv
  have hts := atoms_spec (ws := Cond.code y bytes maxL ret :: Gw) B.pre
  have hl := lv_entry av (n := maxL) hlen
  rw [lg_entry_eq]
  exact body p e s m below meth c B.exec B.bytes hml (findClass_of_methodNamed B.named) (fun w hw => hts w (List.mem_cons_of_mem _ hw)) B.returns B.notSynchronized hK hN hX s.heap rfl hP _ hl
theorem CtR.weaken {X : State → Prop} {l : Launch} {y : MethodName} {bytes : ByteArray} {maxL : Nat} {ret : Option FieldType} {rm : Room} {D : va_G} {tys : List (ClassId × FieldType)} {w : va_W} {av : List Value} {post post' : Int32 → Prop} (h : CtR X l y bytes maxL ret rm D tys w av post) (hp : ∀ r, post r → post' r) : CtR X l y bytes maxL ret rm D tys w av post' := by
  intro p e h1 h2 h3 s m args below h4 h5 h6 h7
  obtain ⟨k, o, a1, a2, a3, ⟨⟨⟨r, e1, e2⟩, e3⟩, e4⟩⟩ := h p e h1 h2 h3 s m args below h4 h5 h6 h7
  exact ⟨k, o, a1, a2, a3, ⟨⟨r, e1, hp r e2⟩, e3⟩, e4⟩
section B2
variable {p : Program} {l : Launch} {e : Env} {R : Room} {s : State} {m : MethodId} {args : Array Value} {below : List Frame} {meth : Method} {c : Code} {H : Heap} {locs : List Loc} {cells slots : Nat} {Q : State → Prop}
variable {cc : ByteArray} {pc : Nat} {ls : Array Slot} {D : va_G} {A : Nat → Prop} {a : Nat} {tys : List (ClassId × FieldType)} {w : va_W} {H0 : Heap} {X : State → Prop}
variable {y : MethodName} {bytes : ByteArray} {maxL nL index : Nat} {ret : Option FieldType} {rm : Room} {Pc : Array Value → State → Prop} {Qc : Array Value → State → Outcome → State → Prop} {free : Addr → Prop} {own C : String} {b : Addr} {st0 : List Value}
theorem retRI {post : Int32 → Prop} {v : Int32} (hx : p.tables.exec = Jvm.exec) (hb : c.code = cc) (hr : meth.sig.returnType = some .int) (hlocks : meth.locks = false) (hH : s.heap = H) (hdg : decode cc pc = .ok (.ireturn, 1)) (hp : post v) : W p l e R s m args below meth c H [] 0 0 (MQ below (qR post) args s 0 0 (fun _ => False)) (F0 m pc ls [.int v]) :=
  W.iret (v := v) hx hb hr (fun t ht _ => ⟨⟨v, rfl, hp⟩, ht.trans hH.symm⟩) (fun _ h => by cases h) hdg hlocks
theorem retRZ {post : Int32 → Prop} {v : Int32} (hx : p.tables.exec = Jvm.exec) (hb : c.code = cc) (hr : meth.sig.returnType = some .boolean) (hlocks : meth.locks = false) (hH : s.heap = H) (hn : narrow .boolean (.int v) = .int v) (hdg : decode cc pc = .ok (.ireturn, 1)) (hp : post v) : W p l e R s m args below meth c H [] 0 0 (MQ below (qR post) args s 0 0 (fun _ => False)) (F0 m pc ls [.int v]) :=
  W.zret (v := v) hx hb hr hn (fun t ht _ => ⟨⟨v, rfl, hp⟩, ht.trans hH.symm⟩) (fun _ h => by cases h) hdg hlocks
abbrev Lk (y : MethodName) (n : Nat) : Prop := y.cls ≠ "java/lang/invoke/MethodHandle" ∧ y.cls ≠ "java/lang/invoke/VarHandle" ∧ (parseMethodDescriptor y.desc).map (fun d => d.parameters.length) = some n
theorem runV (hx : p.tables.exec = Jvm.exec) (hb : c.code = cc) (hg : ∀ w ∈ Gw, w.before args s = true) (hown : s.vm.findClass own = some m.cls) (hml : c.maxLocals = nL) (hls : ls.size = nL)
    (hM : Met l y (Cond.code y bytes maxL ret :: Gw) rm Pc Qc 0 0 free) (As rest : List Value) (hpc : FrameBlind Pc ∧ ∀ U : State, U.heap = H → s.WarmedH U.vm → Pc (Value.ref b :: As).toArray U) (hrecv : ∃ cellB : Cell, H[b]? = some cellB ∧ cellB.vm.isStatics = false ∧ s.vm.findClass C = some cellB.cls)
    (ml : Cond.methodLink own index y ∈ Gw) (im : Cond.instanceMethod y ∈ Gw) (sel : Cond.selects C y y ∈ Gw) (ini : Cond.initialized y.cls ∈ Gw) (cd : Cond.code y bytes maxL ret ∈ Gw) (hd : Lk y As.length) (hrm : rm.cells = 0 ∧ rm.slots = 0) (hR : rm.frames + 1 ≤ R.frames ∧ 8 + (maxL + 11) + rm.locals ≤ R.locals) (hcs : cells ≤ R.cells ∧ slots ≤ R.slots)
    (hst : st0 = As.reverse ++ .ref b :: rest) (hrest : (rest.map fun v => v.category).sum ≤ 8) (hdg : decode cc pc = .ok (.invokevirtual index, 3)) :
    va_Run p l e R s m args below meth c H locs cells slots 0 0 (F0 m pc ls st0) rest (Qc (Value.ref b :: As).toArray) free :=
  va_runV (n := As.length) (C := C) (Ts := Gw) (own := own) ⟨hx, hb, hml, hown, hg⟩ hM ⟨callB_of As.length hg (Gw_GoodIn cd) rfl hrm.1 hrm.2 (hg _ ini) (hg _ ml) hd hR, hg _ im, hg _ sel⟩ ⟨hpc.1, hrecv, hpc.2⟩ rfl rfl hls hst (lv_room hrest) hdg hcs
theorem runS (hx : p.tables.exec = Jvm.exec) (hb : c.code = cc) (hg : ∀ w ∈ Gw, w.before args s = true) (hown : s.vm.findClass own = some m.cls) (hml : c.maxLocals = nL) (hls : ls.size = nL)
    (hM : Met l y (Cond.code y bytes maxL ret :: Gw) rm Pc Qc 0 0 free) (As rest : List Value) (hpc : FrameBlind Pc ∧ ∀ U : State, U.heap = H → s.WarmedH U.vm → Pc As.toArray U)
    (ml : Cond.methodLink own index y ∈ Gw) (im : Cond.static y ∈ Gw) (ini : Cond.initialized y.cls ∈ Gw) (cd : Cond.code y bytes maxL ret ∈ Gw) (hd : Lk y As.length) (hrm : rm.cells = 0 ∧ rm.slots = 0) (hR : rm.frames + 1 ≤ R.frames ∧ 8 + (maxL + 11) + rm.locals ≤ R.locals) (hcs : cells ≤ R.cells ∧ slots ≤ R.slots)
    (hst : st0 = As.reverse ++ rest) (hrest : (rest.map fun v => v.category).sum ≤ 8) (hdg : decode cc pc = .ok (.invokestatic index, 3)) :
    va_Run p l e R s m args below meth c H locs cells slots 0 0 (F0 m pc ls st0) rest (Qc As.toArray) free :=
  va_runS (n := As.length) (Ts := Gw) (own := own) ⟨hx, hb, hml, hown, hg⟩ hM ⟨callB_of As.length hg (Gw_GoodIn cd) rfl hrm.1 hrm.2 (hg _ ini) (hg _ ml) hd hR, hg _ im⟩ hpc rfl rfl hls hst (lv_room hrest) hdg hcs
theorem runSN {host : String} (hx : p.tables.exec = Jvm.exec) (hb : c.code = cc) (hg : ∀ w ∈ Gw, w.before args s = true) (hown : s.vm.findClass own = some m.cls) (hml : c.maxLocals = nL) (hls : ls.size = nL) (hN : NstU s)
    (hM : Met l y (Cond.code y bytes maxL ret :: Gw) rm Pc Qc 0 0 free) (As rest : List Value) (hpc : FrameBlind Pc ∧ ∀ U : State, U.heap = H → s.WarmedH U.vm → Pc As.toArray U)
    (i : Nat) (ml : lw_tbl[i]? = some (Cond.methodLinkNest own index y host)) (im : Cond.static y ∈ Gw) (ini : Cond.initialized y.cls ∈ Gw) (cd : Cond.code y bytes maxL ret ∈ Gw) (hd : Lk y As.length) (hrm : rm.cells = 0 ∧ rm.slots = 0) (hR : rm.frames + 1 ≤ R.frames ∧ 8 + (maxL + 11) + rm.locals ≤ R.locals) (hcs : cells ≤ R.cells ∧ slots ≤ R.slots)
    (hst : st0 = As.reverse ++ rest) (hrest : (rest.map fun v => v.category).sum ≤ 8) (hdg : decode cc pc = .ok (.invokestatic index, 3)) :
    va_Run p l e R s m args below meth c H locs cells slots 0 0 (F0 m pc ls st0) rest (Qc As.toArray) free :=
  va_runSN (n := As.length) (Ts := Gw) (own := own) (host := host) ⟨hx, hb, hml, hown, hg⟩ hM ⟨va_cnB As.length hg (Gw_GoodIn cd) rfl hrm.1 hrm.2 (hN.nw i ml rfl) (hg _ ini) hd hR, hg _ im, trivial⟩ hpc rfl rfl hls hst (lv_room hrest) hdg hcs
theorem preR {av : List Value} (hP : va_P D vwCl w H) (hK : va_K D vwCl tys s) (hN : NstU s) (hXb : ∀ (U : State) (g : JFrame) (mk : MethodId) (a : Array Value), X U → X (U.calling g mk a)) (hX : ∀ U : State, U.heap = H → s.WarmedH U.vm → X U) : FrameBlind (va_Pc av (PreR D tys w X)) ∧ ∀ U : State, U.heap = H → s.WarmedH U.vm → va_Pc av (PreR D tys w X) av.toArray U :=
  ⟨fun a U g mk q => by
    obtain ⟨q0, qP, qK, qN, qX⟩ := q
    exact ⟨q0, qP, va_K.moved (u := U) (U := U.calling g mk a) (Vm.Alike.refl U.vm) qK, qN.same rfl, hXb _ _ _ _ qX⟩,
   fun U hU hW => ⟨rfl, by rw [hU]; exact hP, va_K.moved hW.alike hK, hN.warm hW, hX U hU hW⟩⟩
theorem preX {av : List Value} (hP : va_P D vwCl w H) (hD : va_D A w) (hK : va_K D vwCl tys s) (hN : NstU s) (hXb : ∀ (U : State) (g : JFrame) (mk : MethodId) (a : Array Value), X U → X (U.calling g mk a)) (hX : ∀ U : State, U.heap = H → s.WarmedH U.vm → X U) : FrameBlind (va_Pc av (Pre D tys w H.size X)) ∧ ∀ U : State, U.heap = H → s.WarmedH U.vm → va_Pc av (Pre D tys w H.size X) av.toArray U :=
  ⟨fun a U g mk q => by
    obtain ⟨q0, q1, qP, qK, qD, qN, qX⟩ := q
    exact ⟨q0, q1, qP, va_K.moved (u := U) (U := U.calling g mk a) (Vm.Alike.refl U.vm) qK, qD, qN.same rfl, hXb _ _ _ _ qX⟩,
   fun U hU hW => ⟨rfl, by rw [hU], by rw [hU]; exact hP, va_K.moved hW.alike hK, hD.weaken (fun _ _ _ _ => trivial), hN.warm hW, hX U hU hW⟩⟩
theorem xb0 : ∀ (U : State) (g : JFrame) (mk : MethodId) (a : Array Value), noX U → noX (U.calling g mk a) := fun _ _ _ _ h => h
theorem x0 {s : State} {H : Heap} : ∀ U : State, U.heap = H → s.WarmedH U.vm → noX U := fun _ _ _ => trivial
/-- behind a read-only call nothing has changed -/
theorem callR {post : Int32 → Prop} {rest : List Value} {av : Array Value} (hr : va_Run p l e R s m args below meth c H locs cells slots 0 0 (F0 m pc ls st0) rest (qR post av) (fun _ => False))
    (kk : ∀ r : Int32, post r → W p l e R s m args below meth c H locs cells slots Q (F0 m (pc + 3) ls (.int r :: rest))) : W p l e R s m args below meth c H locs cells slots Q (F0 m pc ls st0) := by
  intro T hT X
  obtain ⟨v, st₀, t, T', L, h0, X', hL, e1, e2, ⟨⟨r, hv, hp⟩, hz⟩, st⟩ := hr T hT X
  cases hv
  have hL0 : L = [] := by
    cases L with
    | nil => rfl
    | cons q L => exact (hL q List.mem_cons_self).elim
  subst hL0
  rw [List.append_nil] at X'
  obtain ⟨t2, a1, b1⟩ := kk r hp T' (e1.trans (hz.trans h0)) X'
  exact ⟨t2, st t2 a1, b1⟩
/-- behind a call that writes: the callee's cells as it says, the others as they were -/
theorem callWI {S : Type} {Wd : S → va_W} {post : Int32 → S → Prop} {rest : List Value} {av : Array Value} {wc wr : va_W} {wn : S → va_W} (hr : va_Run p l e R s m args below meth c H locs cells slots 0 0 (F0 m pc ls st0) rest (qI D Wd post (va_A wc H.size) av) (va_A wc H.size))
    (hA : ∀ q, s.heap.size ≤ q → A q) (hh : Hd D A w s.heap H locs) (isC isR pm : List Nat) (hC : isC.map (fun i => w[i]?) = wc.map some) (hR : isR.map (fun i => w[i]?) = wr.map some) (hn : va_nd isR = true) (hdis : ∀ i ∈ isR, i ∉ isC) (hpn : va_nd pm = true) (hpm : ∀ u, pm.map (fun i => (wr ++ Wd u)[i]?) = (wn u).map some)
    (kk : ∀ (r : Int32) (u : S) (H1 : Heap) (locs1 : List Loc), post r u → Hd D A (wn u) s.heap H1 locs1 → W p l e R s m args below meth c H1 locs1 cells slots Q (F0 m (pc + 3) ls (.int r :: rest))) : W p l e R s m args below meth c H locs cells slots Q (F0 m pc ls st0) :=
  va_calli hr hh.2.2 (fun q _ h => hh.free hA isC hC q h) (hh.free hA isC hC) (fun r u t H1 locs1 ht _ hp hB _ hk hS => kk r u H1 locs1 hp (hh.join hA isC isR pm hC hR hn hdis hpn (hpm u) hk (ht ▸ hB.1) hB.2 hS))
theorem callWV {S : Type} {Wd : S → va_W} {post : S → Prop} {rest : List Value} {av : Array Value} {wc wr : va_W} {wn : S → va_W} (hr : va_Run p l e R s m args below meth c H locs cells slots 0 0 (F0 m pc ls st0) rest (qV D Wd post (va_A wc H.size) av) (va_A wc H.size))
    (hA : ∀ q, s.heap.size ≤ q → A q) (hh : Hd D A w s.heap H locs) (isC isR pm : List Nat) (hC : isC.map (fun i => w[i]?) = wc.map some) (hR : isR.map (fun i => w[i]?) = wr.map some) (hn : va_nd isR = true) (hdis : ∀ i ∈ isR, i ∉ isC) (hpn : va_nd pm = true) (hpm : ∀ u, pm.map (fun i => (wr ++ Wd u)[i]?) = (wn u).map some)
    (kk : ∀ (u : S) (H1 : Heap) (locs1 : List Loc), post u → Hd D A (wn u) s.heap H1 locs1 → W p l e R s m args below meth c H1 locs1 cells slots Q (F0 m (pc + 3) ls rest)) : W p l e R s m args below meth c H locs cells slots Q (F0 m pc ls st0) :=
  va_callv hr hh.2.2 (fun q _ h => hh.free hA isC hC q h) (hh.free hA isC hC) (fun u t H1 locs1 ht _ hp hB _ hk hS => kk u H1 locs1 hp (hh.join hA isC isR pm hC hR hn hdis hpn (hpm u) hk (ht ▸ hB.1) hB.2 hS))
end B2
