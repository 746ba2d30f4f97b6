/-! Integer.bitCount counts the bits of a mask below 24 -/
theorem bt_nat (Y i : Nat) : bt (nI Y) i = (decide (i < 32) && Y.testBit i) := by
  unfold bt
  show (BitVec.ofNat 32 Y).getLsbD i = _
  exact BitVec.getLsbD_ofNat 32 Y i
theorem nI_and (X M : Nat) : nI X &&& nI M = nI (X &&& M) := b_ext fun i hi => by
  rw [b_and, bt_nat, bt_nat, bt_nat, Nat.testBit_and]
  simp [hi]
theorem nI_ushr (X k : Nat) (hX : X < 2 ^ 32) (hk : k < 32) : ((nI X).toUInt32 >>> ((nI k).toUInt32 &&& Int32.toUInt32 31)).toInt32 = nI (X / 2 ^ k) := b_ext fun i hi => by
  rw [b_ushr k hk, bt_nat, bt_nat, Nat.testBit_div_two_pow, Nat.add_comm i k]
  by_cases h : k + i < 32
  · simp [h, hi]
  · have : X.testBit (k + i) = false := Nat.testBit_lt_two_pow (Nat.lt_of_lt_of_le hX (Nat.pow_le_pow_right (by decide) (by omega)))
    rw [this]; simp
def dg (a b c : Nat) : Nat := a + 256 * b + 65536 * c
theorem land8 (a b m M : Nat) (ha : a < 256) (hm : m < 256) : (a + 256 * b) &&& (m + 256 * M) = (a &&& m) + 256 * (b &&& M) := by
  have h1 : ((a + 256 * b) &&& (m + 256 * M)) % 2 ^ 8 = a &&& m := by
    rw [Nat.and_mod_two_pow, show (a + 256 * b) % 2 ^ 8 = a by omega, show (m + 256 * M) % 2 ^ 8 = m by omega]
  have h2 : ((a + 256 * b) &&& (m + 256 * M)) / 2 ^ 8 = b &&& M := by
    rw [Nat.and_div_two_pow, show (a + 256 * b) / 2 ^ 8 = b by omega, show (m + 256 * M) / 2 ^ 8 = M by omega]
  omega
theorem land24 (a b c m : Nat) (ha : a < 256) (hb : b < 256) (hm : m < 256) : dg a b c &&& (m + 256 * (m + 256 * (m + 256 * m))) = dg (a &&& m) (b &&& m) (c &&& (m + 256 * m)) := by
  unfold dg
  rw [show a + 256 * b + 65536 * c = a + 256 * (b + 256 * c) by omega, land8 _ _ _ _ ha hm, land8 _ _ _ _ hb hm]
  omega
theorem q1 : ∀ t, t < 256 → ∀ e, e < 2 → (t / 2 + 128 * e) &&& 85 = t / 2 &&& 85 ∧ (t / 2 &&& 85) ≤ t := by decide +kernel
theorem q1' : ∀ t, t < 256 → t / 2 &&& 21845 = t / 2 &&& 85 := by decide +kernel
theorem q2 : ∀ t, t < 256 → ∀ e, e < 4 → (t / 4 + 64 * e) &&& 51 = t / 4 &&& 51 := by decide +kernel
theorem q2' : ∀ t, t < 256 → t / 4 &&& 13107 = t / 4 &&& 51 ∧ t &&& 13107 = t &&& 51 := by decide +kernel
def w2 (t : Nat) : Nat := ((t - (t / 2 &&& 85)) &&& 51) + ((t - (t / 2 &&& 85)) / 4 &&& 51)
theorem w2_b : ∀ t, t < 256 → w2 t ≤ 68 ∧ w2 t % 16 ≤ 4 ∧ w2 t / 16 ≤ 4 := by decide +kernel
theorem w2_c : ∀ t, t < 256 → w2 t % 16 + w2 t / 16 = cntN 8 (nI t) := by decide +kernel
theorem q3 : ∀ s, s < 9 → ∀ e, e < 16 → (s + 16 * e) &&& 15 = s ∧ (s + 16 * e) &&& 3855 = s := by decide +kernel
theorem q5 (s t : Nat) (hs : s < 64) : (s + 256 * t) &&& 63 = s := by
  rw [show (63 : Nat) = 2 ^ 6 - 1 from rfl, Nat.and_two_pow_sub_one_eq_mod]; omega
theorem cnt_8 (X : Nat) : ∀ k, k ≤ 24 → cntN (8 + k) (nI X) = cntN 8 (nI (X % 256)) + cntN k (nI (X / 256))
  | 0, _ => by
    have h : ∀ m, m ≤ 8 → cntN m (nI X) = cntN m (nI (X % 256)) := by
      intro m
      induction m with
      | zero => intro _; rfl
      | succ m ih =>
        intro hm
        show cntN m (nI X) + _ = cntN m (nI (X % 256)) + _
        rw [ih (by omega), bt_nat, bt_nat, show (256 : Nat) = 2 ^ 8 from rfl, Nat.testBit_mod_two_pow]
        simp [show m < 8 by omega]
    exact h 8 (Nat.le_refl _)
  | k + 1, hk => by
    show cntN (8 + k) (nI X) + _ = cntN 8 (nI (X % 256)) + (cntN k (nI (X / 256)) + _)
    rw [cnt_8 X k (by omega), bt_nat, bt_nat, show (256 : Nat) = 2 ^ 8 from rfl, Nat.testBit_div_two_pow, Nat.add_comm k 8]
    simp [show k < 32 by omega, show 8 + k < 32 by omega]
    omega
theorem st1 (a b c : Nat) (ha : a < 256) (hb : b < 256) (hc : c < 256) : bc1 (nI (dg a b c)) = nI (dg (a - (a / 2 &&& 85)) (b - (b / 2 &&& 85)) (c - (c / 2 &&& 85))) := by
  have hX : dg a b c < 2 ^ 32 := by unfold dg; omega
  unfold bc1
  have e1 := nI_ushr (dg a b c) 1 hX (by decide)
  have e1 : ((nI (dg a b c)).toUInt32 >>> ((1 : Int32).toUInt32 &&& Int32.toUInt32 31)).toInt32 = nI (dg a b c / 2 ^ 1) := e1
  rw [e1, show (1431655765 : Int32) = nI (85 + 256 * (85 + 256 * (85 + 256 * 85))) from rfl, nI_and, show dg a b c / 2 ^ 1 = dg (a / 2 + 128 * (b % 2)) (b / 2 + 128 * (c % 2)) (c / 2) by unfold dg; omega, land24 _ _ _ _ (by omega) (by omega) (by decide), (q1 a ha (b % 2) (by omega)).1, (q1 b hb (c % 2) (by omega)).1, show c / 2 &&& (85 + 256 * 85) = c / 2 &&& 85 from q1' c hc]
  have h1 := (q1 a ha 0 (by decide)).2
  have h2 := (q1 b hb 0 (by decide)).2
  have h3 := (q1 c hc 0 (by decide)).2
  rw [pk_sub (by unfold dg; omega)]
  congr 1
  unfold dg; omega
theorem st2 (a b c : Nat) (ha : a < 256) (hb : b < 256) (hc : c < 256) : bc2 (nI (dg a b c)) = nI (dg ((a &&& 51) + (a / 4 &&& 51)) ((b &&& 51) + (b / 4 &&& 51)) ((c &&& 51) + (c / 4 &&& 51))) := by
  have hX : dg a b c < 2 ^ 32 := by unfold dg; omega
  unfold bc2
  have e1 := nI_ushr (dg a b c) 2 hX (by decide)
  have e1 : ((nI (dg a b c)).toUInt32 >>> ((2 : Int32).toUInt32 &&& Int32.toUInt32 31)).toInt32 = nI (dg a b c / 2 ^ 2) := e1
  rw [e1, show (858993459 : Int32) = nI (51 + 256 * (51 + 256 * (51 + 256 * 51))) from rfl, nI_and, nI_and, show dg a b c / 2 ^ 2 = dg (a / 4 + 64 * (b % 4)) (b / 4 + 64 * (c % 4)) (c / 4) by unfold dg; omega, land24 _ _ _ _ (by omega) (by omega) (by decide), land24 _ _ _ _ (by omega) (by omega) (by decide), q2 a ha (b % 4) (by omega), q2 b hb (c % 4) (by omega), show c / 4 &&& (51 + 256 * 51) = c / 4 &&& 51 from (q2' c hc).1, show c &&& (51 + 256 * 51) = c &&& 51 from (q2' c hc).2, nI_add]
  congr 1
  unfold dg; omega
theorem st3 (A B C : Nat) (ha : A ≤ 68 ∧ A % 16 ≤ 4 ∧ A / 16 ≤ 4) (hb : B ≤ 68 ∧ B % 16 ≤ 4 ∧ B / 16 ≤ 4) (hc : C ≤ 68 ∧ C % 16 ≤ 4 ∧ C / 16 ≤ 4) : bc3 (nI (dg A B C)) = nI (dg (A % 16 + A / 16) (B % 16 + B / 16) (C % 16 + C / 16)) := by
  have hX : dg A B C < 2 ^ 32 := by unfold dg; omega
  unfold bc3
  have e1 := nI_ushr (dg A B C) 4 hX (by decide)
  have e1 : ((nI (dg A B C)).toUInt32 >>> ((4 : Int32).toUInt32 &&& Int32.toUInt32 31)).toInt32 = nI (dg A B C / 2 ^ 4) := e1
  rw [e1, show (252645135 : Int32) = nI (15 + 256 * (15 + 256 * (15 + 256 * 15))) from rfl, nI_add, nI_and, show dg A B C + dg A B C / 2 ^ 4 = dg ((A % 16 + A / 16) + 16 * (A / 16 + B % 16)) ((B % 16 + B / 16) + 16 * (B / 16 + C % 16)) ((C % 16 + C / 16) + 16 * (C / 16)) by unfold dg; omega, land24 _ _ _ _ (by omega) (by omega) (by decide), (q3 (A % 16 + A / 16) (by omega) (A / 16 + B % 16) (by omega)).1, (q3 (B % 16 + B / 16) (by omega) (B / 16 + C % 16) (by omega)).1, show ((C % 16 + C / 16) + 16 * (C / 16)) &&& (15 + 256 * 15) = C % 16 + C / 16 from (q3 (C % 16 + C / 16) (by omega) (C / 16) (by omega)).2]
theorem st45 (a b c : Nat) (ha : a ≤ 8) (hb : b ≤ 8) (hc : c ≤ 8) : bc5 (bc4 (nI (dg a b c))) &&& 63 = nI (a + b + c) := by
  have hX : dg a b c < 2 ^ 32 := by unfold dg; omega
  have hY : dg (a + b) (b + c) c < 2 ^ 32 := by unfold dg; omega
  have e1 := nI_ushr (dg a b c) 8 hX (by decide)
  have e1 : ((nI (dg a b c)).toUInt32 >>> ((8 : Int32).toUInt32 &&& Int32.toUInt32 31)).toInt32 = nI (dg a b c / 2 ^ 8) := e1
  have e2 := nI_ushr (dg (a + b) (b + c) c) 16 hY (by decide)
  have e2 : ((nI (dg (a + b) (b + c) c)).toUInt32 >>> ((16 : Int32).toUInt32 &&& Int32.toUInt32 31)).toInt32 = nI (dg (a + b) (b + c) c / 2 ^ 16) := e2
  unfold bc4
  rw [e1, nI_add, show dg a b c + dg a b c / 2 ^ 8 = dg (a + b) (b + c) c by unfold dg; omega]
  unfold bc5
  rw [e2, nI_add, show dg (a + b) (b + c) c + dg (a + b) (b + c) c / 2 ^ 16 = (a + b + c) + 256 * (b + c + 256 * c) by unfold dg; omega, show (63 : Int32) = nI 63 from rfl, nI_and, q5 _ _ (by omega)]
theorem bcI_dg (a b c : Nat) (ha : a < 256) (hb : b < 256) (hc : c < 256) : bcI (nI (dg a b c)) = nI (cntN 8 (nI a) + cntN 8 (nI b) + cntN 8 (nI c)) := by
  unfold bcI
  have h1 := (q1 a ha 0 (by decide)).2
  have h2 := (q1 b hb 0 (by decide)).2
  have h3 := (q1 c hc 0 (by decide)).2
  rw [st1 a b c ha hb hc, st2 _ _ _ (by omega) (by omega) (by omega)]
  show bc5 (bc4 (bc3 (nI (dg (w2 a) (w2 b) (w2 c))))) &&& 63 = _
  rw [st3 _ _ _ (w2_b a ha) (w2_b b hb) (w2_b c hc), w2_c a ha, w2_c b hb, w2_c c hc]
  exact st45 _ _ _ (cntN_le 8 _) (cntN_le 8 _) (cntN_le 8 _)
theorem bcI_24 {x : Int32} (h : ∀ i, bt x i = true → i < 24) : bcI x = nI (cntN 24 x) := by
  have hx : x = nI x.toBitVec.toNat := by
    apply Int32.toBitVec_inj.mp
    show x.toBitVec = BitVec.ofNat 32 x.toBitVec.toNat
    rw [BitVec.ofNat_toNat, BitVec.setWidth_eq]
  have hX : x.toBitVec.toNat < 2 ^ 24 := Nat.lt_pow_two_of_testBit _ (fun i hi => by
    cases hb : x.toBitVec.toNat.testBit i with
    | false => rfl
    | true => exact absurd (h i hb) (by omega))
  generalize x.toBitVec.toNat = X at hx hX
  rw [hx]
  have e : X = dg (X % 256) (X / 256 % 256) (X / 256 / 256) := by unfold dg; omega
  have e24 : cntN 24 (nI X) = cntN 8 (nI (X % 256)) + cntN 8 (nI (X / 256 % 256)) + cntN 8 (nI (X / 256 / 256)) := by
    rw [show 24 = 8 + 16 from rfl, cnt_8 X 16 (by decide), show 16 = 8 + 8 from rfl, cnt_8 (X / 256) 8 (by decide)]
    omega
  rw [e24, ← bcI_dg (X % 256) (X / 256 % 256) (X / 256 / 256) (by omega) (by omega) (by omega), ← e]
