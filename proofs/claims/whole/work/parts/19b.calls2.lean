/-! Calls that write, over large worlds: the world behind it is laid out as before -/
section B7
variable {p : Program} {l : Launch} {e : Env} {R : Room} {s : State} {m : MethodId} {args : Array Value} {below : List Frame} {meth : Method} {c : Code} {H : Heap} {locs : List Loc} {cells slots : Nat} {Q : State → Prop}
variable {cc : ByteArray} {pc : Nat} {ls : Array Slot} {D : va_G} {A : Nat → Prop} {a : Nat} {tys : List (ClassId × FieldType)} {w : va_W} {H0 : Heap} {st0 : List Value}
theorem Hd.join2 {wc w1 wn : va_W} {H1 : Heap} {locs1 : List Loc} (hh : Hd D A w H0 H locs) (isC isR : List Nat) (hC : isC.map (fun i => w[i]?) = wc.map some) (hC1 : isC.map (fun i => wn[i]?) = w1.map some) (hR : isR.map (fun i => wn[i]?) = isR.map (fun i => w[i]?)) (ha : wn.map (fun q => q.1) = w.map (fun q => q.1)) (hcov : ∀ k, k < w.length → k ∈ isC ∨ k ∈ isR) (hdis : ∀ i ∈ isR, i ∉ isC)
    (hk : ∀ q : Nat, q < H.size → ¬ va_A wc H.size q → H1[q]? = H[q]?) (hP1 : va_P D vwCl w1 H1) (hS1 : va_S A H0 H1 locs1) : Hd D A wn H0 H1 locs1 := by
  have hlen : wn.length = w.length := by have := congrArg List.length ha; simpa using this
  have hadr : ∀ (k : Nat) (q : Nat × va_E), wn[k]? = some q → ∃ q' : Nat × va_E, w[k]? = some q' ∧ q'.1 = q.1 := fun k q hq => by
    have h1 : (wn.map (fun q => q.1))[k]? = some q.1 := by rw [List.getElem?_map, hq]; rfl
    rw [ha, List.getElem?_map] at h1
    obtain ⟨q', h2, h3⟩ := Option.map_eq_some_iff.mp h1
    exact ⟨q', h2, h3⟩
  refine ⟨fun k q hq => ?_, ⟨fun i j x y hx hy hxy => ?_, fun k q hq => ?_⟩, hS1⟩
  · have hkl : k < w.length := by rw [← hlen]; exact (List.getElem?_eq_some_iff.mp hq).1
    rcases hcov k hkl with hm | hm
    · obtain ⟨j, hj⟩ := List.getElem?_of_mem hm
      have h1 : (isC.map (fun i => wn[i]?))[j]? = some (some q) := by rw [List.getElem?_map, hj]; exact congrArg some hq
      rw [hC1, List.getElem?_map] at h1
      obtain ⟨q', h2, h3⟩ := Option.map_eq_some_iff.mp h1
      cases h3
      exact hP1 j q h2
    · have h1 : wn[k]? = w[k]? := by
        obtain ⟨j, hj⟩ := List.getElem?_of_mem hm
        have h2 : (isR.map (fun i => wn[i]?))[j]? = some wn[k]? := by rw [List.getElem?_map, hj]; rfl
        rw [hR, List.getElem?_map, hj] at h2
        exact (Option.some.inj h2).symm
      rw [h1] at hq
      have h2 := hh.1 k q hq
      refine h2.kept (hk q.1 h2.lt (fun z => ?_))
      rcases z with ⟨k', e', h3⟩ | z
      · have h4 : (wc.map some)[k']? = some (some (q.1, e')) := by rw [List.getElem?_map, h3]; rfl
        rw [← hC, List.getElem?_map] at h4
        obtain ⟨i, h5, h6⟩ := Option.map_eq_some_iff.mp h4
        have h7 : i = k := hh.2.1.1 i k _ _ h6 hq rfl
        subst h7
        exact hdis i hm (List.mem_of_getElem? h5)
      · have := h2.lt; omega
  · obtain ⟨x', h1, h2⟩ := hadr i x hx
    obtain ⟨y', h3, h4⟩ := hadr j y hy
    exact hh.2.1.1 i j x' y' h1 h3 (by rw [h2, h4, hxy])
  · obtain ⟨q', h1, h2⟩ := hadr k q hq
    rw [← h2]
    exact hh.2.1.2 k q' h1
theorem callI2 {S : Type} {Wd : S → va_W} {post : Int32 → S → Prop} {rest : List Value} {av : Array Value} {wc : va_W} {wn : S → va_W} (hr : va_Run p l e R s m args below meth c H locs cells slots 0 0 (F0 m pc ls st0) rest (qI D Wd post (va_A wc H.size) av) (va_A wc H.size))
    (hA : ∀ q, s.heap.size ≤ q → A q) (hh : Hd D A w s.heap H locs) (isC isR : List Nat) (hC : isC.map (fun i => w[i]?) = wc.map some) (hC1 : ∀ u, isC.map (fun i => (wn u)[i]?) = (Wd u).map some) (hR : ∀ u, isR.map (fun i => (wn u)[i]?) = isR.map (fun i => w[i]?)) (ha : ∀ u, (wn u).map (fun q => q.1) = w.map (fun q => q.1)) (hcov : ∀ k, k < w.length → k ∈ isC ∨ k ∈ isR) (hdis : ∀ i ∈ isR, i ∉ isC)
    (kk : ∀ (r : Int32) (u : S) (H1 : Heap) (locs1 : List Loc), post r u → Hd D A (wn u) s.heap H1 locs1 → W p l e R s m args below meth c H1 locs1 cells slots Q (F0 m (pc + 3) ls (.int r :: rest))) : W p l e R s m args below meth c H locs cells slots Q (F0 m pc ls st0) :=
  va_calli hr hh.2.2 (fun q _ h => hh.free hA isC hC q h) (hh.free hA isC hC) (fun r u t H1 locs1 ht _ hp hB _ hk hS => kk r u H1 locs1 hp (hh.join2 isC isR hC (hC1 u) (hR u) (ha u) hcov hdis hk (ht ▸ hB.1) hS))
theorem callV2 {S : Type} {Wd : S → va_W} {post : S → Prop} {rest : List Value} {av : Array Value} {wc : va_W} {wn : S → va_W} (hr : va_Run p l e R s m args below meth c H locs cells slots 0 0 (F0 m pc ls st0) rest (qV D Wd post (va_A wc H.size) av) (va_A wc H.size))
    (hA : ∀ q, s.heap.size ≤ q → A q) (hh : Hd D A w s.heap H locs) (isC isR : List Nat) (hC : isC.map (fun i => w[i]?) = wc.map some) (hC1 : ∀ u, isC.map (fun i => (wn u)[i]?) = (Wd u).map some) (hR : ∀ u, isR.map (fun i => (wn u)[i]?) = isR.map (fun i => w[i]?)) (ha : ∀ u, (wn u).map (fun q => q.1) = w.map (fun q => q.1)) (hcov : ∀ k, k < w.length → k ∈ isC ∨ k ∈ isR) (hdis : ∀ i ∈ isR, i ∉ isC)
    (kk : ∀ (u : S) (H1 : Heap) (locs1 : List Loc), post u → Hd D A (wn u) s.heap H1 locs1 → W p l e R s m args below meth c H1 locs1 cells slots Q (F0 m (pc + 3) ls rest)) : W p l e R s m args below meth c H locs cells slots Q (F0 m pc ls st0) :=
  va_callv hr hh.2.2 (fun q _ h => hh.free hA isC hC q h) (hh.free hA isC hC) (fun u t H1 locs1 ht _ hp hB _ hk hS => kk u H1 locs1 hp (hh.join2 isC isR hC (hC1 u) (hR u) (ha u) hcov hdis hk (ht ▸ hB.1) hS))
abbrev qA (D : va_G) {S : Type} (Wd : S → va_W) (post : S → Prop) (a0 : Nat) : (Nat → Prop) → Array Value → State → Outcome → State → Prop := fun A => va_Qr post (fun u a t => a = a0 ∧ Aft D (Wd u) A t) A
theorem callA2 {S : Type} {Wd : S → va_W} {post : S → Prop} {a0 : Nat} {rest : List Value} {av : Array Value} {wc : va_W} {wn : S → va_W} (hr : va_Run p l e R s m args below meth c H locs cells slots 0 0 (F0 m pc ls st0) rest (qA D Wd post a0 (va_A wc H.size) av) (va_A wc H.size))
    (hA : ∀ q, s.heap.size ≤ q → A q) (hh : Hd D A w s.heap H locs) (isC isR : List Nat) (hC : isC.map (fun i => w[i]?) = wc.map some) (hC1 : ∀ u, isC.map (fun i => (wn u)[i]?) = (Wd u).map some) (hR : ∀ u, isR.map (fun i => (wn u)[i]?) = isR.map (fun i => w[i]?)) (ha : ∀ u, (wn u).map (fun q => q.1) = w.map (fun q => q.1)) (hcov : ∀ k, k < w.length → k ∈ isC ∨ k ∈ isR) (hdis : ∀ i ∈ isR, i ∉ isC)
    (kk : ∀ (u : S) (H1 : Heap) (locs1 : List Loc), post u → Hd D A (wn u) s.heap H1 locs1 → W p l e R s m args below meth c H1 locs1 cells slots Q (F0 m (pc + 3) ls (.ref a0 :: rest))) : W p l e R s m args below meth c H locs cells slots Q (F0 m pc ls st0) :=
  va_callr hr hh.2.2 (fun q _ h => hh.free hA isC hC q h) (hh.free hA isC hC) (fun u ra t H1 locs1 ht _ hp hB _ hk hS => by
    obtain ⟨rfl, hB1, hB2⟩ := hB
    exact kk u H1 locs1 hp (hh.join2 isC isR hC (hC1 u) (hR u) (ha u) hcov hdis hk (ht ▸ hB1) hS))
end B7
