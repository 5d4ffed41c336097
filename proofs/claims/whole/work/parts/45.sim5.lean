/-! side by side: foreseeing, renewing, fetching -/
theorem inv_copy {B : Mem} {n cN : Nat} (hI : InvB B 0 n cN) (h10 : cN ≤ 10) (h40 : n ≤ 40) : InvB (becM B 1 0) 1 n cN := by
  obtain ⟨i1, i2, i3, i4, i5, i6⟩ := hI
  have e : ∀ t w, t < n → w < 11 → oc (becM B 1 0) 1 t w = oc B 0 t w := fun t w ht hw => becM_9 (by omega) hw
  have b8 : ∀ i, i < 10 → becM B 1 0 8 1 0 i = B 8 0 0 i := fun i hi => by
    unfold becM
    rw [rset_k (by decide), rset_k (by decide), rset_cell]
    unfold va_cpy
    rw [if_pos (by omega)]
    congr 1
    omega
  exact ⟨fun t ht => by rw [e t 0 ht (by decide)]; exact i1 t ht, fun i hi => by rw [b8 i (by omega)]; exact i2 i hi, fun t ht => by rw [e t 1 ht (by decide)]; exact i3 t ht, fun t ht => by rw [e t 2 ht (by decide)]; exact i4 t ht, fun t ht hs => by
    rw [e t 6 ht (by decide)] at hs
    rw [e t 8 ht (by decide)]
    exact i5 t ht hs, fun t ht => by rw [e t 6 ht (by decide)]; exact i6 t ht⟩
theorem buy_copy {A B : Mem} {n cN : Nat} (hb : BuyS A B 0) (hz : ∀ w, w < 7 → B 12 0 0 w = -1 → B 13 0 0 w = 0) : BuyS (shopC A 1 0 cN n) (becM B 1 0) 1 := fun w hw => by
  have e12 : becM B 1 0 12 0 0 w = B 12 0 0 w := by
    unfold becM
    rw [rset_k (by decide), rset_k (by decide), rset_k (by decide), rset_k (by decide), cpK_k _ (by decide)]
  have e13 : becM B 1 0 13 0 0 w = B 13 0 0 w := by
    unfold becM
    rw [rset_k (by decide), rset_k (by decide), rset_k (by decide), rset_k (by decide), cpK_k _ (by decide)]
  have a0 : shopC A 1 0 cN n 3 1 w 0 = A 3 0 w 0 := by
    unfold shopC cpyM shM buyK scaK cpK
    simp [hw]
  have a1 : shopC A 1 0 cN n 3 1 w 1 = if A 3 0 w 0 = -1 then 0 else A 3 0 w 1 := by
    unfold shopC cpyM shM buyK scaK cpK
    simp [hw]
  obtain ⟨h1, h2⟩ := hb w hw
  rw [e12, e13, a0, a1]
  refine ⟨h1, ?_⟩
  by_cases e : A 3 0 w 0 = -1
  · rw [if_pos e]
    exact (hz w hw (h1.symm.trans e)).symm
  · rw [if_neg e]
    exact h2
theorem sim_fore {A B : Mem} {n cN D : Nat} (h : SimD A B 0 n cN) (hI : InvB B 0 n cN) (hb : BuyS A B 0) (hz : ∀ w, w < 7 → B 12 0 0 w = -1 → B 13 0 0 w = 0) (h10 : cN ≤ 10) (h40 : n ≤ 40) : ∀ w, foreV (shopC A 1 0 cN n) n D w = mforeV (becM B 1 0) n D w := by
  obtain ⟨g1, g2, -, -⟩ := sim_goN (sim_copy h h10 h40) (inv_copy hI h10 h40) (buy_copy hb hz) h10 h40 D
  intro w
  match w with
  | 0 => exact g2.2.1
  | 1 => exact g1
  | _ + 2 => exact sim_how g2 2
theorem mset_cj {M : Mem} {k s i j k' s' i' j' : Nat} {x y : Int32} (h : ¬ j = j') : mset (mset M k s i j x) k' s' i' j' y = mset (mset M k' s' i' j' y) k s i j x := by
  funext a b c d
  unfold mset
  by_cases e : a = k' ∧ b = s' ∧ c = i' ∧ d = j'
  · rw [if_pos e, if_neg (fun z => h (z.2.2.2.symm.trans e.2.2.2)), if_pos e]
  · rw [if_neg e, if_neg e]
theorem sim_t0 {A B : Mem} {n cN : Nat} (h : SimD A B 0 n cN) : SimD A (mset B 11 0 0 0 0) 0 n cN := simD_k h rfl rfl rfl rfl (mset_k (by decide)) (mset_k (by decide)) (mset_k (by decide)) (mset_k (by decide)) (mset_k (by decide))
theorem sim_pay {A B : Mem} {n cN a : Nat} {x y : Int32} (h : SimD A B 0 n cN) (ha : a < cN) : SimD (mset (mset (mset A 1 0 a 0 (A 1 0 a 0 - x)) 0 0 0 1 (A 0 0 0 1 + x)) 0 0 0 2 (A 0 0 0 2 + y)) (payM B a x y) 0 n cN := by
  have h2 := h
  obtain ⟨-, c1, c2, -, -, -, hC, -, -⟩ := h2
  unfold payM
  rw [c1, c2, (hC a ha).1]
  exact sim_int (sim_coins (sim_own (sim_t0 h)))
theorem sim_renew {A B : Mem} {n cN i a : Nat} (h : SimD A B 0 n cN) (hi : i < n) (ha : a < cN) : intr (A 0 0 0 0) (A 2 0 i 5) (A 2 0 i 4) = intr (B 6 0 0 0) (oc B 0 i 10) (oc B 0 i 4) ∧
    SimD (mset (mset (mset (mset (mset (mset A 1 0 a 0 (A 1 0 a 0 - intr (A 0 0 0 0) (A 2 0 i 5) (A 2 0 i 4))) 0 0 0 1 (A 0 0 0 1 + intr (A 0 0 0 0) (A 2 0 i 5) (A 2 0 i 4))) 0 0 0 2 (A 0 0 0 2 + intr (A 0 0 0 0) (A 2 0 i 5) (A 2 0 i 4))) 2 0 i 5 (A 0 0 0 0)) 2 0 i 6 (A 0 0 0 0 + 60)) 2 0 i 9 (A 2 0 i 9 + 1)) (mrenM B i a) 0 n cN := by
  have h2 := h
  obtain ⟨c0, -, -, -, -, -, -, hT, -⟩ := h2
  obtain ⟨-, -, -, -, t4, t5, -, -, -, t9⟩ := hT i hi
  have e : intr (A 0 0 0 0) (A 2 0 i 5) (A 2 0 i 4) = intr (B 6 0 0 0) (oc B 0 i 10) (oc B 0 i 4) := by rw [c0, t5, t4]
  refine ⟨e, ?_⟩
  rw [e, c0, t9]
  unfold mrenM
  rw [mset_cj (j := 11 * i + 5) (j' := 11 * i + 10) (by omega)]
  exact sim_setT (j := 9) (sim_setT (j := 6) (sim_setT (j := 5) (sim_pay h ha) (by decide)) (by decide)) (by decide)
theorem intr_sub (x y : Int32) : x + y - x = y := by
  rw [Int32.sub_eq_add_neg, Int32.add_comm x y, Int32.add_assoc, ← Int32.sub_eq_add_neg x x, Int32.sub_self, Int32.add_zero]
theorem sim_fetch {A B : Mem} {n cN i a : Nat} (h : SimD A B 0 n cN) (hi : i < n) (ha : a < cN) (hs : oc B 0 i 6 = 0) (htr : ∃ q, q ≤ 10 ∧ B 8 0 0 a = nI q) : debtV A 0 i (A 0 0 0 0) = owedV B 0 i ∧
    SimD (mset (clrM (mset (mset (mset (mset A 1 0 a 0 (A 1 0 a 0 - debtV A 0 i (A 0 0 0 0))) 0 0 0 1 (A 0 0 0 1 + debtV A 0 i (A 0 0 0 0))) 0 0 0 2 (A 0 0 0 2 + intr (A 0 0 0 0) (A 2 0 i 5) (A 2 0 i 4))) 2 0 i 7 1) 0 (nI i) 3) 1 0 a 1 (trV (A 1 0 a 1) 1)) (mfetM B i a) 0 n cN := by
  have h2 := h
  obtain ⟨c0, -, -, -, -, -, hC, hT, -⟩ := h2
  obtain ⟨-, -, -, -, t4, t5, -, -, -, -⟩ := hT i hi
  have ho := sim_owed h hi
  have e : intr (A 0 0 0 0) (A 2 0 i 5) (A 2 0 i 4) = owedV B 0 i - oc B 0 i 4 := by
    unfold owedV
    rw [if_pos hs, intr_sub, c0, t5, t4]
  obtain ⟨q, hq, hqe⟩ := htr
  have et : trV (A 1 0 a 1) 1 = mn 10 (B 8 0 0 a + 1) := by
    rw [(hC a ha).2, hqe]
    exact tr_up q hq
  refine ⟨ho, ?_⟩
  rw [ho, e, et]
  unfold mfetM
  exact sim_tru (sim_clr (sim_setT (j := 7) (sim_pay h ha) (by decide)))
