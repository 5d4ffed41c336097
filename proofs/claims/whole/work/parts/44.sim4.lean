/-! side by side: days -/
theorem sim_ages {A B : Mem} {s n cN : Nat} (h : SimD A B s n cN) (hI : InvB B s n cN) (h10 : cN ≤ 10) : ∀ t, t ≤ n → SimD (ageN A s t) (magN B s t) s n cN ∧ InvB (magN B s t) s n cN
  | 0, _ => ⟨h, hI⟩
  | t + 1, ht => by
    obtain ⟨h1, h2⟩ := sim_ages h hI h10 t (by omega)
    obtain ⟨h3, h4⟩ := sim_age1 h1 (by omega) h10 (h2.1 t (by omega)) h2.2.1
    exact ⟨h3, inv_mag h2 h4⟩
theorem inv_buy {B : Mem} {s n cN w : Nat} (hI : InvB B s n cN) : InvB (mbuyR B s n w).2 s n cN := by
  obtain ⟨i1, i2, i3, i4, i5, i6⟩ := hI
  have hf : ∀ t j, j < 11 → ¬ j = 6 → ¬ j = 7 → oc (mbuyR B s n w).2 s t j = oc B s t j := fun t j hj h6 h7 => mbuy_f hj h6 h7
  have h6 : ∀ t, oc (mbuyR B s n w).2 s t 6 = oc B s t 6 ∨ oc (mbuyR B s n w).2 s t 6 = 3 := fun t => by
    unfold mbuyR
    split
    · exact Or.inl rfl
    · split
      · exact Or.inl rfl
      · rename_i q _
        show mbuyM B s q 9 s 0 (11 * t + 6) = _ ∨ mbuyM B s q 9 s 0 (11 * t + 6) = 3
        unfold mbuyM takeM
        rw [mset_s (by omega), rset_k (by decide)]
        by_cases e : t = q
        · subst e
          exact Or.inr (if_pos ⟨rfl, rfl, rfl, rfl⟩)
        · rw [mset_s (by omega), mset_k (by decide)]
          exact Or.inl rfl
  refine ⟨fun t ht => ?_, fun i hi => ?_, fun t ht => ?_, fun t ht => ?_, fun t ht hs => ?_, fun t ht => ?_⟩
  · rw [hf t 0 (by decide) (by decide) (by decide)]; exact i1 t ht
  · rw [mbuy_k (by decide) (by decide) (by decide)]; exact i2 i hi
  · rw [hf t 1 (by decide) (by decide) (by decide)]; exact i3 t ht
  · rw [hf t 2 (by decide) (by decide) (by decide)]; exact i4 t ht
  · rw [hf t 8 (by decide) (by decide) (by decide)]
    rcases h6 t with e | e
    · exact i5 t ht (e.symm.trans hs)
    · exact absurd (e.symm.trans hs) (by decide)
  · rcases h6 t with e | e
    · rw [e]; exact i6 t ht
    · exact Or.inr (Or.inr (Or.inr e))
def BuyS (A B : Mem) (s : Nat) : Prop := ∀ w, w < 7 → A 3 s w 0 = B 12 0 0 w ∧ A 3 s w 1 = B 13 0 0 w
theorem day_k {A : Mem} {s n k : Nat} (h0 : ¬ k = 0) (h1 : ¬ k = 1) (h2 : ¬ k = 2) (h4 : ¬ k = 4) : (dayR A s n).2 k = A k := by
  unfold dayR
  dsimp only
  rw [mset_k h0, sell_k h0 h2 h4, ageN_k h1 h2]
theorem goN_k {A : Mem} {s n k : Nat} (h0 : ¬ k = 0) (h1 : ¬ k = 1) (h2 : ¬ k = 2) (h4 : ¬ k = 4) : ∀ D, (goN A s n D).2 k = A k
  | 0 => rfl
  | D + 1 => (day_k h0 h1 h2 h4).trans (goN_k h0 h1 h2 h4 D)
theorem sim_dayR {A B : Mem} {s n cN : Nat} (h : SimD A B s n cN) (hI : InvB B s n cN) (hb : BuyS A B s) (h10 : cN ≤ 10) (h40 : n ≤ 40) :
    (dayR A s n).1 = (mdayR B s n).1 ∧ SimD (dayR A s n).2 (mdayR B s n).2 s n cN ∧ InvB (mdayR B s n).2 s n cN ∧ BuyS (dayR A s n).2 (mdayR B s n).2 s := by
  obtain ⟨h1, h2⟩ := sim_ages h hI h10 n (Nat.le_refl n)
  have hw : (B 6 s 0 0).toNatClampNeg % 7 < 7 := Nat.mod_lt _ (by decide)
  have hb2 : ageN A s n 3 s ((B 6 s 0 0).toNatClampNeg % 7) 0 = magN B s n 12 0 0 ((B 6 s 0 0).toNatClampNeg % 7) ∧ ageN A s n 3 s ((B 6 s 0 0).toNatClampNeg % 7) 1 = magN B s n 13 0 0 ((B 6 s 0 0).toNatClampNeg % 7) := by
    rw [ageN_k (by decide) (by decide), magN_k (by decide) (by decide), magN_k (by decide) (by decide)]
    exact hb _ hw
  obtain ⟨h3, h4⟩ := sim_sell h1 h2 hb2 h40
  have e0 : A 0 s 0 0 = B 6 s 0 0 := h.1
  refine ⟨?_, ?_, ?_, fun w hw => ?_⟩
  · unfold dayR mdayR
    dsimp only
    rw [e0]
    exact h3
  · unfold dayR mdayR
    dsimp only
    rw [e0]
    exact sim_day h4
  · unfold mdayR
    dsimp only
    exact inv_buy h2
  · rw [day_k (by decide) (by decide) (by decide) (by decide), mday_k (by decide) (by decide) (by decide) (by decide), mday_k (by decide) (by decide) (by decide) (by decide)]
    exact hb w hw
theorem sim_goN {A B : Mem} {s n cN : Nat} (h : SimD A B s n cN) (hI : InvB B s n cN) (hb : BuyS A B s) (h10 : cN ≤ 10) (h40 : n ≤ 40) : ∀ D,
    (goN A s n D).1 = (mgoN B s n D).1 ∧ SimD (goN A s n D).2 (mgoN B s n D).2 s n cN ∧ InvB (mgoN B s n D).2 s n cN ∧ BuyS (goN A s n D).2 (mgoN B s n D).2 s
  | 0 => ⟨rfl, h, hI, hb⟩
  | D + 1 => by
    obtain ⟨h1, h2, h3, h4⟩ := sim_goN h hI hb h10 h40 D
    obtain ⟨g1, g2, g3, g4⟩ := sim_dayR h2 h3 h4 h10 h40
    refine ⟨?_, g2, g3, g4⟩
    show (goN A s n D).1 + (dayR (goN A s n D).2 s n).1 = (mgoN B s n D).1 + (mdayR (mgoN B s n D).2 s n).1
    rw [h1, g1]
/-- what class and reference read is their own part -/
theorem simD_k {A A' B B' : Mem} {s n cN : Nat} (h : SimD A B s n cN) (a0 : A' 0 = A 0) (a1 : A' 1 = A 1) (a2 : A' 2 = A 2) (a4 : A' 4 = A 4) (b6 : B' 6 = B 6) (b7 : B' 7 = B 7) (b8 : B' 8 = B 8) (b9 : B' 9 = B 9) (b10 : B' 10 = B 10) : SimD A' B' s n cN := by
  obtain ⟨h0, h1, h2, h3, h4, h5, hC, hT, hp⟩ := h
  refine ⟨by rw [a0, b6]; exact h0, by rw [a0, b6]; exact h1, by rw [a0, b6]; exact h2, by rw [a0]; exact h3, by rw [a0]; exact h4, by rw [b6]; exact h5, fun i hi => by rw [a1, b7, b8]; exact hC i hi, fun t ht => simT_iff.mpr (fun j hj => ?_), fun g j hg hj => by rw [a4, b10]; exact hp g j hg hj⟩
  show A' 2 s t j = B' 9 s 0 (11 * t + fw j)
  rw [a2, b9]
  exact simT_iff.mp (hT t ht) j hj
theorem invB_k {B B' : Mem} {s n cN : Nat} (h : InvB B s n cN) (b8 : B' 8 = B 8) (b9 : B' 9 = B 9) : InvB B' s n cN := by
  have e : ∀ t w, oc B' s t w = oc B s t w := fun t w => by show B' 9 s 0 _ = B 9 s 0 _; rw [b9]
  obtain ⟨i1, i2, i3, i4, i5, i6⟩ := h
  exact ⟨fun t ht => by rw [e]; exact i1 t ht, fun i hi => by rw [b8]; exact i2 i hi, fun t ht => by rw [e]; exact i3 t ht, fun t ht => by rw [e]; exact i4 t ht, fun t ht hs => by rw [e] at hs ⊢; exact i5 t ht hs, fun t ht => by rw [e]; exact i6 t ht⟩
/-- what is foreseen: the copies say alike -/
theorem sim_copy {A B : Mem} {n cN : Nat} (h : SimD A B 0 n cN) (h10 : cN ≤ 10) (h40 : n ≤ 40) : SimD (shopC A 1 0 cN n) (becM B 1 0) 1 n cN := by
  obtain ⟨h0, h1, h2, h3, h4, h5, hC, hT, hp⟩ := h
  have b7 : ∀ i, i < 10 → becM B 1 0 7 1 0 i = B 7 0 0 i := fun i hi => by
    unfold becM
    rw [rset_k (by decide), rset_k (by decide), rset_k (by decide), rset_cell]
    unfold va_cpy
    rw [if_pos (by omega)]
    congr 1
    omega
  have b8 : ∀ i, i < 10 → becM B 1 0 8 1 0 i = B 8 0 0 i := fun i hi => by
    unfold becM
    rw [rset_k (by decide), rset_k (by decide), rset_cell]
    unfold va_cpy
    rw [if_pos (by omega)]
    congr 1
    omega
  have b10 : ∀ i, i < 60 → becM B 1 0 10 1 0 i = B 10 0 0 i := fun i hi => by
    unfold becM
    rw [rset_cell]
    unfold va_cpy
    rw [if_pos (by omega)]
    congr 1
    omega
  refine ⟨?_, ?_, ?_, (shopC_0 (by decide)).trans h3, (shopC_0 (by decide)).trans h4, (becM_6 (by decide)).trans h5, fun i hi => ⟨?_, ?_⟩, fun t ht => simT_iff.mpr (fun j hj => ?_), fun g j hg hj => ?_⟩
  · rw [shopC_0 (by decide), becM_6 (by decide)]; exact h0
  · rw [shopC_0 (by decide), becM_6 (by decide)]; exact h1
  · rw [shopC_0 (by decide), becM_6 (by decide)]; exact h2
  · rw [b7 i (by omega), ← (hC i hi).1]
    unfold shopC cpyM shM buyK scaK cpK
    simp [hi]
  · rw [b8 i (by omega), ← (hC i hi).2]
    unfold shopC cpyM shM buyK scaK cpK
    simp [hi]
  · rw [shopC_2 ht hj, becM_9 (by omega) (fw_lt j hj)]
    exact simT_iff.mp (hT t ht) j hj
  · have hf := frN_s hg
    have hf2 := frN_le hg
    rw [b10 _ (by omega), ← hp g j hg hj]
    unfold shopC cpyM shM cpyF buyK scaK cpK
    simp [hg, hj]
