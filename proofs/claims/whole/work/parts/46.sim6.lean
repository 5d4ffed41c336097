/-! side by side: coming, earning, buyers, pledging -/
theorem sim_come {A B : Mem} {n cN : Nat} {x : Int32} (h : SimD A B 0 n cN) : SimD (mset (mset (mset A 1 0 cN 0 x) 1 0 cN 1 5) 0 0 0 3 (nI (cN + 1))) (mset (mset (mset (mset B 11 0 0 0 0) 7 0 0 cN x) 8 0 0 cN 5) 11 0 0 1 (nI (cN + 1))) 0 n (cN + 1) := by
  obtain ⟨h0, h1, h2, h3, h4, h5, hC, hT, hp⟩ := h
  refine ⟨h0, h1, h2, if_pos ⟨rfl, rfl, rfl, rfl⟩, h4, h5, fun i hi => ?_, hT, hp⟩
  show mset (mset A 1 0 cN 0 x) 1 0 cN 1 5 1 0 i 0 = mset (mset B 11 0 0 0 0) 7 0 0 cN x 7 0 0 i ∧ mset (mset A 1 0 cN 0 x) 1 0 cN 1 5 1 0 i 1 = mset (mset (mset B 11 0 0 0 0) 7 0 0 cN x) 8 0 0 cN 5 8 0 0 i
  by_cases e : i = cN
  · subst e
    exact ⟨(mset_s (by decide)).trans ((if_pos ⟨rfl, rfl, rfl, rfl⟩).trans (if_pos ⟨rfl, rfl, rfl, rfl⟩).symm), (if_pos ⟨rfl, rfl, rfl, rfl⟩).trans (if_pos ⟨rfl, rfl, rfl, rfl⟩).symm⟩
  · obtain ⟨g1, g2⟩ := hC i (by omega)
    refine ⟨(mset_s (by decide)).trans ((if_neg (fun z => e z.2.2.1)).trans (g1.trans ?_)), (if_neg (fun z => e z.2.2.1)).trans ((if_neg (fun z => e z.2.2.1)).trans (g2.trans ?_))⟩
    · exact (if_neg (fun z => e z.2.2.2)).symm
    · exact (if_neg (fun z => e z.2.2.2)).symm
theorem sim_earn {A B : Mem} {n cN i : Nat} {x : Int32} (h : SimD A B 0 n cN) (hi : i < cN) : A 1 0 i 0 + x = B 7 0 0 i + x ∧ SimD (mset A 1 0 i 0 (A 1 0 i 0 + x)) (mset (mset B 11 0 0 0 0) 7 0 0 i (B 7 0 0 i + x)) 0 n cN := by
  have h2 := h
  obtain ⟨-, -, -, -, -, -, hC, -, -⟩ := h2
  rw [(hC i hi).1]
  exact ⟨rfl, sim_own (sim_t0 h)⟩
theorem sim_buyer {A B : Mem} {n cN j : Nat} {k p : Int32} (h : SimD A B 0 n cN) (hb : BuyS A B 0) : SimD (mset (mset A 3 0 j 0 k) 3 0 j 1 (if k = -1 then 0 else p)) (mset (mset (mset B 11 0 0 0 0) 12 0 0 j k) 13 0 0 j (if k = -1 then 0 else p)) 0 n cN ∧
    BuyS (mset (mset A 3 0 j 0 k) 3 0 j 1 (if k = -1 then 0 else p)) (mset (mset (mset B 11 0 0 0 0) 12 0 0 j k) 13 0 0 j (if k = -1 then 0 else p)) 0 := by
  refine ⟨simD_k h rfl rfl rfl rfl rfl rfl rfl rfl rfl, fun w hw => ?_⟩
  show mset (mset A 3 0 j 0 k) 3 0 j 1 (if k = -1 then 0 else p) 3 0 w 0 = mset (mset B 11 0 0 0 0) 12 0 0 j k 12 0 0 w ∧ mset (mset A 3 0 j 0 k) 3 0 j 1 (if k = -1 then 0 else p) 3 0 w 1 = mset (mset (mset B 11 0 0 0 0) 12 0 0 j k) 13 0 0 j (if k = -1 then 0 else p) 13 0 0 w
  by_cases e : w = j
  · subst e
    exact ⟨(mset_s (by decide)).trans ((if_pos ⟨rfl, rfl, rfl, rfl⟩).trans (if_pos ⟨rfl, rfl, rfl, rfl⟩).symm), (if_pos ⟨rfl, rfl, rfl, rfl⟩).trans (if_pos ⟨rfl, rfl, rfl, rfl⟩).symm⟩
  · obtain ⟨g1, g2⟩ := hb w hw
    refine ⟨(mset_s (by decide)).trans ((if_neg (fun z => e z.2.2.1)).trans (g1.trans ?_)), (if_neg (fun z => e z.2.2.1)).trans ((if_neg (fun z => e z.2.2.1)).trans (g2.trans ?_))⟩
    · exact (if_neg (fun z => e z.2.2.2)).symm
    · exact (if_neg (fun z => e z.2.2.2)).symm
theorem frN_far {g g' j q W : Nat} (hg : g < 3) (hg' : g' < 3) (hj : j < 10 * (g' + 1)) (hq : q + W ≤ 10 * (g + 1)) (hne : ¬ g' = g) : ¬ (frN g + q ≤ frN g' + j ∧ frN g' + j < frN g + q + W) := by
  match g, g', hg, hg' with
  | 0, 0, _, _ => exact absurd rfl hne
  | 0, 1, _, _ => show ¬ (0 + q ≤ 10 + j ∧ 10 + j < 0 + q + W); omega
  | 0, 2, _, _ => show ¬ (0 + q ≤ 30 + j ∧ 30 + j < 0 + q + W); omega
  | 1, 0, _, _ => show ¬ (10 + q ≤ 0 + j ∧ 0 + j < 10 + q + W); omega
  | 1, 1, _, _ => exact absurd rfl hne
  | 1, 2, _, _ => show ¬ (10 + q ≤ 30 + j ∧ 30 + j < 10 + q + W); omega
  | 2, 0, _, _ => show ¬ (30 + q ≤ 0 + j ∧ 0 + j < 30 + q + W); omega
  | 2, 1, _, _ => show ¬ (30 + q ≤ 10 + j ∧ 10 + j < 30 + q + W); omega
  | 2, 2, _, _ => exact absurd rfl hne
theorem lay_in {j q W L : Nat} (hj : j < L) (hL : L ≤ 100) (hq : q + W ≤ L) : (j < L ∧ nI q ≤ nI j ∧ nI j < nI q + nI W) ↔ (q ≤ j ∧ j < q + W) := by
  rw [nI_add]
  constructor
  · rintro ⟨-, a, b⟩
    refine ⟨nI_ged (by omega) (by omega) a, ?_⟩
    rcases Nat.lt_or_ge j (q + W) with z | z
    · exact z
    · exact absurd b (Int32.not_lt.mpr (nI_le z (n31 (by omega))))
  · rintro ⟨a, b⟩
    exact ⟨hj, nI_le a (n31 (by omega)), nI_lt b (n31 (by omega))⟩
theorem sim_pledge {A B : Mem} {n cN i g q W : Nat} {k v : Int32} (h : SimD A B 0 n cN) (hi : i < cN) (h40 : n < 40) (hg : g < 3) (hq : q + W ≤ 10 * (g + 1)) :
    SimD (addM A 0 i n g q k v (nI W)) (mpledM B i n (frN g + q) W k v (nI W)) 0 (n + 1) cN := by
  obtain ⟨h0, h1, h2, h3, h4, h5, hC, hT, hp⟩ := h
  have hl : loanV (A 1 0 i 1) v = loanV (B 8 0 0 i) v := by rw [(hC i hi).2]
  unfold addM mpledM
  rw [hl]
  refine ⟨h0, ?_, h2, h3, if_pos ⟨rfl, rfl, rfl, rfl⟩, if_pos ⟨rfl, rfl, rfl, rfl⟩, fun i' hi' => ⟨?_, ?_⟩, fun t ht => simT_iff.mpr (fun j hj => ?_), fun g' j hg' hj => ?_⟩
  · show A 0 0 0 1 - loanV (B 8 0 0 i) v = B 6 0 0 1 - loanV (B 8 0 0 i) v
    rw [h1]
  · show (if 1 = 1 ∧ 0 = 0 ∧ i' = i ∧ 0 = 0 then A 1 0 i 0 + loanV (B 8 0 0 i) v else A 1 0 i' 0) = (if 7 = 7 ∧ 0 = 0 ∧ 0 = 0 ∧ i' = i then B 7 0 0 i + loanV (B 8 0 0 i) v else B 7 0 0 i')
    by_cases e : i' = i
    · subst e
      rw [if_pos ⟨rfl, rfl, rfl, rfl⟩, if_pos ⟨rfl, rfl, rfl, rfl⟩, (hC i' hi').1]
    · rw [if_neg (fun z => e z.2.2.1), if_neg (fun z => e z.2.2.2)]
      exact (hC i' hi').1
  · show (if 1 = 1 ∧ 0 = 0 ∧ i' = i ∧ 1 = 0 then A 1 0 i 0 + loanV (B 8 0 0 i) v else A 1 0 i' 1) = B 8 0 0 i'
    rw [if_neg (fun z => absurd z.2.2.2 (by decide))]
    exact (hC i' hi').2
  · show mset (mset (mset (mset (mset (mset (mset (mset (mset (mset A 2 0 n 0 (nI i)) 2 0 n 1 k) 2 0 n 2 v) 2 0 n 3 (nI W)) 2 0 n 4 (loanV (B 8 0 0 i) v)) 2 0 n 5 (A 0 0 0 0)) 2 0 n 6 (A 0 0 0 0 + 60)) 2 0 n 7 0) 2 0 n 8 0) 2 0 n 9 0 2 0 t j = mset (mrowM B i n (frN g + q) k v (nI W)) 9 0 0 (11 * n + 7) (nI (frN g + q)) 9 0 0 (11 * t + fw j)
    have hfl := fw_lt j hj
    have hf7 := fw_7 j hj
    rw [show mset (mrowM B i n (frN g + q) k v (nI W)) 9 0 0 (11 * n + 7) (nI (frN g + q)) 9 0 0 (11 * t + fw j) = mrowM B i n (frN g + q) k v (nI W) 9 0 0 (11 * t + fw j) from mset_s (by omega)]
    unfold mrowM
    rw [rset_cell]
    by_cases e : t = n
    · subst e
      rw [cpy_row hfl, ← h0]
      match j, hj with
      | 0, _ => simp [mset, prow, upd, fw]
      | 1, _ => simp [mset, prow, upd, fw]
      | 2, _ => simp [mset, prow, upd, fw]
      | 3, _ => simp [mset, prow, upd, fw]
      | 4, _ => simp [mset, prow, upd, fw]
      | 5, _ => simp [mset, prow, upd, fw]
      | 6, _ => simp [mset, prow, upd, fw]
      | 7, _ => simp [mset, prow, upd, fw]
      | 8, _ => simp [mset, prow, upd, fw]
      | 9, _ => simp [mset, prow, upd, fw]
    · rw [cpy_off (by omega)]
      have hn : ∀ (M : Mem) (c : Nat) (x : Int32), mset M 2 0 n c x 2 0 t j = M 2 0 t j := fun M c x => if_neg (fun z => e z.2.2.1)
      rw [hn, hn, hn, hn, hn, hn, hn, hn, hn, hn]
      exact simT_iff.mp (hT t (by omega)) j hj
  · have hf := frN_s hg
    have hf2 := frN_le hg
    show rset _ 4 0 g (layF (A 4 0 g) (nI n) (nI q) (nI W) (10 * (g + 1))) 4 0 g' j = layN (B 10 0 0) (nI n) (frN g + q) W (frN g' + j)
    by_cases e : g' = g
    · subst e
      rw [rset_cell]
      unfold layF layN
      by_cases c : q ≤ j ∧ j < q + W
      · rw [if_pos ((lay_in hj (by omega) hq).mpr c), if_pos (by omega)]
      · rw [if_neg (fun z => c ((lay_in hj (by omega) hq).mp z)), if_neg (by omega)]
        exact hp g' j hg' hj
    · rw [rset_off _ _ (fun z => e z.2.2)]
      unfold layN
      rw [if_neg (frN_far hg hg' hj hq e)]
      exact hp g' j hg' hj
