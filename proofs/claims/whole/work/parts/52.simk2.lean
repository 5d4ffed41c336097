/-! side by side: refusals of fetch, renew, pledge -/
theorem k_fetch {A B : Mem} {n cN : Nat} {t : Int32} (h : SimD A B 0 n cN) (hI : InvB B 0 n cN) (h40 : n ≤ 40) (h10 : cN ≤ 10) : fetchK A t = mfetchK B t := by
  unfold fetchK mfetchK
  rw [h.2.2.2.2.1, h.2.2.2.2.2.1]
  by_cases a : 0 ≤ t ∧ t ≤ nI n - 1
  · rw [if_pos a, if_pos a]
    obtain ⟨i, hi, rfl⟩ := ix_of a (by omega)
    obtain ⟨c, hc, ho⟩ := hI.1 i hi
    obtain ⟨t0, -, -, -, -, -, -, t7, -, -⟩ := h.2.2.2.2.2.2.2.1 i hi
    rw [nI_clamp (n31 (show i ≤ 1000 by omega)), t0, ho, nI_clamp (n31 (show c ≤ 1000 by omega)), t7, sim_owed h hi, (h.2.2.2.2.2.2.1 c hc).1]
    by_cases b : oc B 0 i 6 = 0
    · by_cases d : owedV B 0 i ≤ B 7 0 0 c
      · rw [if_pos b, if_pos d, if_pos ⟨b, d⟩]
      · rw [if_pos b, if_neg d, if_neg (fun z => d z.2)]
    · rw [if_neg b, if_neg (fun z => b z.1)]
  · rw [if_neg a, if_neg a]
theorem k_renew {A B : Mem} {n cN : Nat} {t : Int32} (h : SimD A B 0 n cN) (hI : InvB B 0 n cN) (hr : ∀ i, i < n → ∃ r, r ≤ 3 ∧ oc B 0 i 9 = nI r) (h40 : n ≤ 40) (h10 : cN ≤ 10) : renewK A t = mrenewK B t := by
  unfold renewK mrenewK
  rw [h.2.2.2.2.1, h.2.2.2.2.2.1]
  by_cases a : 0 ≤ t ∧ t ≤ nI n - 1
  · rw [if_pos a, if_pos a]
    obtain ⟨i, hi, rfl⟩ := ix_of a (by omega)
    obtain ⟨c, hc, ho⟩ := hI.1 i hi
    obtain ⟨r, hr3, hre⟩ := hr i hi
    obtain ⟨t0, -, -, -, t4, t5, -, t7, -, t9⟩ := h.2.2.2.2.2.2.2.1 i hi
    rw [nI_clamp (n31 (show i ≤ 1000 by omega)), t0, ho, nI_clamp (n31 (show c ≤ 1000 by omega)), t7, t9, t4, t5, h.1, (h.2.2.2.2.2.2.1 c hc).1, hre, show (3 : Int32) = nI 3 from rfl]
    have hq := ge_eq hr3 (b := 3) (by decide)
    by_cases b : oc B 0 i 6 = 0
    · by_cases e : ¬ nI 3 ≤ nI r
      · by_cases d : intr (B 6 0 0 0) (oc B 0 i 10) (oc B 0 i 4) ≤ B 7 0 0 c
        · rw [if_pos ⟨b, e⟩, if_pos d, if_pos ⟨b, hq.mp e, d⟩]
        · rw [if_pos ⟨b, e⟩, if_neg d, if_neg (fun z => d z.2.2)]
      · rw [if_neg (fun z => e z.2), if_neg (fun z => e (hq.mpr z.2.1))]
    · rw [if_neg (fun z => b z.1), if_neg (fun z => b z.1)]
  · rw [if_neg a, if_neg a]
theorem k_pledge {A B : Mem} {n cN : Nat} {c k v w : Int32} (h : SimD A B 0 n cN) (hc : B 11 0 0 1 = nI cN) (h40 : n ≤ 40) (h10 : cN ≤ 10) : pledgeK A c k v w = mpledgeK B c k v w := by
  unfold pledgeK mpledgeK
  rw [h.2.2.2.1, hc, h.2.2.2.2.1, h.2.2.2.2.2.1, h.2.1, show (40 : Int32) = nI 40 from rfl]
  by_cases a : 0 ≤ c ∧ c ≤ nI cN - 1
  · rw [if_pos a, if_pos a]
    obtain ⟨i, hi, rfl⟩ := ix_of a (by omega)
    rw [nI_clamp (n31 (show i ≤ 1000 by omega)), (h.2.2.2.2.2.2.1 i hi).2]
    by_cases b : (0 ≤ k ∧ k ≤ 4) ∧ (1 ≤ v ∧ v ≤ 500) ∧ (1 ≤ w ∧ w ≤ 10)
    · rw [if_pos b, if_pos b]
      obtain ⟨W, hW1, hW, rfl⟩ := ix_n (n := 10) b.2.2 rfl (by decide)
      have hq := ge_eq h40 (b := 40) (by decide)
      have hs : spotF A 0 (nI W) 3 0 = -1 ↔ mgapF B 0 (nI W) 3 0 = -1 := by
        rcases sim_spot h hW1 (by omega) 3 0 rfl with ⟨g1, g2⟩ | ⟨g, q, hg, hq, -, g1, g2⟩
        · exact ⟨fun _ => g2, fun _ => g1⟩
        · have hf := frN_s hg
          have hf2 := frN_le hg
          exact ⟨fun z => absurd (g1.symm.trans z) (nI_m1 (by omega)), fun z => absurd (g2.symm.trans z) (nI_m1 (by omega))⟩
      by_cases e : ¬ nI 40 ≤ nI n
      · by_cases d : ¬ B 6 0 0 1 < loanV (B 8 0 0 i) v
        · by_cases f : ¬ spotF A 0 (nI W) 3 0 = -1
          · rw [if_pos e, if_pos d, if_pos f, if_pos ⟨hq.mp e, d, fun z => f (hs.mpr z)⟩]
          · rw [if_pos e, if_pos d, if_neg f, if_neg (fun z => f (fun y => z.2.2 (hs.mp y)))]
        · rw [if_pos e, if_neg d, if_neg (fun z => d z.2.1)]
      · rw [if_neg e, if_neg (fun z => e (hq.mpr z.1))]
    · rw [if_neg b, if_neg b]
  · rw [if_neg a, if_neg a]
