/-! renewing, fetching, pledging -/
theorem renK_0 {M : Mem} {i : Nat} (hi : i ≤ 1000) (h : renewK M (nI i) = 0) : M 2 0 i 7 = 0 ∧ ¬ 3 ≤ M 2 0 i 9 := by
  unfold renewK at h
  rw [nI_clamp (n31 hi)] at h
  by_cases a : 0 ≤ nI i ∧ nI i ≤ M 0 0 0 4 - 1
  · rw [if_pos a] at h
    by_cases b : M 2 0 i 7 = 0 ∧ ¬ 3 ≤ M 2 0 i 9
    · exact b
    · rw [if_neg b] at h
      cases h
  · rw [if_neg a] at h
    cases h
theorem fetK_0 {M : Mem} {i : Nat} (hi : i ≤ 1000) (h : fetchK M (nI i) = 0) : M 2 0 i 7 = 0 := by
  unfold fetchK at h
  rw [nI_clamp (n31 hi)] at h
  by_cases a : 0 ≤ nI i ∧ nI i ≤ M 0 0 0 4 - 1
  · rw [if_pos a] at h
    by_cases b : M 2 0 i 7 = 0
    · exact b
    · rw [if_neg b] at h
      cases h
  · rw [if_neg a] at h
    cases h
theorem pleK_0 {M : Mem} {c k v w : Int32} (h : pledgeK M c k v w = 0) : (0 ≤ k ∧ k ≤ 4) ∧ (1 ≤ v ∧ v ≤ 500) ∧ (1 ≤ w ∧ w ≤ 10) := by
  unfold pledgeK at h
  by_cases a : 0 ≤ c ∧ c ≤ M 0 0 0 3 - 1
  · rw [if_pos a] at h
    by_cases b : (0 ≤ k ∧ k ≤ 4) ∧ (1 ≤ v ∧ v ≤ 500) ∧ (1 ≤ w ∧ w ≤ 10)
    · exact b
    · rw [if_neg b] at h
      cases h
  · rw [if_neg a] at h
    cases h
theorem st_renew {M M1 M2 : Mem} {n cN d c : Nat} {x k9 r : Int32} (hI : Inv2 M M n cN d c)
    (h1 : WPost M (fun r M' => renewK M x = 0 ∧ ∃ i a, i < n ∧ a < cN ∧ x = nI i ∧ M 2 0 i 0 = nI a ∧ r = (intr (M 0 0 0 0) (M 2 0 i 5) (M 2 0 i 4)) ∧ M' = mset (mset (mset (mset (mset (mset M 1 0 a 0 (M 1 0 a 0 - (intr (M 0 0 0 0) (M 2 0 i 5) (M 2 0 i 4)))) 0 0 0 1 (M 0 0 0 1 + (intr (M 0 0 0 0) (M 2 0 i 5) (M 2 0 i 4)))) 0 0 0 2 (M 0 0 0 2 + (intr (M 0 0 0 0) (M 2 0 i 5) (M 2 0 i 4)))) 2 0 i 5 (M 0 0 0 0)) 2 0 i 6 (M 0 0 0 0 + 60)) 2 0 i 9 (M 2 0 i 9 + 1)) (renewK M x) k9 M1)
    (h2 : MPost M1 (fun r M' => ∃ i a, i < n ∧ a < cN ∧ x = nI i ∧ oc M1 0 i 0 = nI a ∧ r = intr (M1 6 0 0 0) (oc M1 0 i 10) (oc M1 0 i 4) ∧ M' = mrenM M1 i a) (mrenewK M1 x) r M2) : Res M2 c k9 r := by
  have hB : EqB M M1 := wp_eqB h1 (fun v Mc hp => by
    obtain ⟨-, i, a, -, -, -, -, -, e⟩ := hp
    rw [e]
    exact ⟨fun k _ _ _ => by rw [mset_k (by omega), mset_k (by omega), mset_k (by omega), mset_k (by omega), mset_k (by omega), mset_k (by omega)], by rw [mset_k (by decide), mset_k (by decide), mset_k (by decide), mset_k (by decide), mset_k (by decide), mset_k (by decide)]⟩)
  have hJ := inv2_k hI (EqA.refl M) hB
  refine st_gen hI h1 h2 (k_renew hJ.1 hJ.2.1 hJ.2.2.2.2.2.2.2.2.1 hJ.2.2.2.2.2.1 hJ.2.2.2.2.2.2.1).symm (by unfold renewK; (repeat' split) <;> decide) (fun v Mc hp => hp.1) (fun v Mc hp he hq => ?_)
  obtain ⟨hK0, i, a, hi, ha, e1, e2, e3, e4⟩ := hp
  obtain ⟨i2, a2, hi2, ha2, f1, f2, f3, f4⟩ := hq
  obtain ⟨hS, ⟨i1, i2', i3, i4, i5, i6⟩, hb, hz, hR, h40, h10, hc, hr, hd, hdc⟩ := hJ
  have g1 : i = i2 := nI_inj (by omega) (by omega) (e1.symm.trans f1)
  subst g1
  have hT := hS.2.2.2.2.2.2.2.1 i hi
  have g2 : a = a2 := nI_inj (by omega) (by omega) (e2.symm.trans (hT.1.trans f2))
  subst g2
  obtain ⟨s1, s2⟩ := sim_renew hS hi ha
  rw [e1] at hK0
  have hk := renK_0 (by omega) hK0
  have eo : ∀ k, ¬ k = 11 → ¬ k = 7 → ¬ k = 6 → ¬ k = 9 → M2 k = M1 k := fun k z1 z2 z3 z4 => by
    rw [f4]
    unfold mrenM payM
    rw [mset_k z4, mset_k z4, mset_k z4, mset_k z3, mset_k z3, mset_k z2, mset_k z1]
  have e9 : ∀ t j, j < 11 → ¬ j = 5 → ¬ j = 9 → ¬ j = 10 → oc M2 0 t j = oc M1 0 t j := fun t j hj z1 z2 z3 => by
    show M2 9 0 0 _ = M1 9 0 0 _
    rw [f4]
    unfold mrenM payM
    rw [mset_s (by omega), mset_s (by omega), mset_s (by omega), mset_k (by decide), mset_k (by decide), mset_k (by decide), mset_k (by decide)]
  have hAM : EqA Mc M2 := fun k hk => by rw [eo k (by omega) (by omega) (by omega) (by omega), he, mset_k (by omega)]
  have e11 : ∀ j, M2 11 0 0 j = mset M1 11 0 0 0 0 11 0 0 j := fun j => by
    rw [f4]
    unfold mrenM payM
    rw [mset_k (by decide), mset_k (by decide), mset_k (by decide), mset_k (by decide), mset_k (by decide), mset_k (by decide)]
  refine ⟨by rw [e11]; exact ms_1, by rw [e3, f3]; exact s1, by rw [eo 21 (by decide) (by decide) (by decide) (by decide), he]; exact ms_1, n, cN, d, inv2_k (A := Mc) (B := M2) ⟨by rw [e4, f4]; exact s2, ⟨fun t ht => by rw [e9 t 0 (by decide) (by decide) (by decide) (by decide)]; exact i1 t ht, fun i hi => by rw [eo 8 (by decide) (by decide) (by decide) (by decide)]; exact i2' i hi, fun t ht => by rw [e9 t 1 (by decide) (by decide) (by decide) (by decide)]; exact i3 t ht, fun t ht => by rw [e9 t 2 (by decide) (by decide) (by decide) (by decide)]; exact i4 t ht, fun t ht hs => by rw [e9 t 6 (by decide) (by decide) (by decide) (by decide)] at hs; rw [e9 t 8 (by decide) (by decide) (by decide) (by decide)]; exact i5 t ht hs, fun t ht => by rw [e9 t 6 (by decide) (by decide) (by decide) (by decide)]; exact i6 t ht⟩, fun w hw => ?_, fun w hw => ?_, ?_, h40, h10, ?_, fun t ht => ?_, ?_, by omega⟩ hAM (EqB.refl _)⟩
  · rw [e4, mset_k (by decide), mset_k (by decide), mset_k (by decide), mset_k (by decide), mset_k (by decide), mset_k (by decide), eo 12 (by decide) (by decide) (by decide) (by decide), eo 13 (by decide) (by decide) (by decide) (by decide)]; exact hb w hw
  · rw [eo 12 (by decide) (by decide) (by decide) (by decide), eo 13 (by decide) (by decide) (by decide) (by decide)]; exact hz w hw
  · exact rw_c hR (fun k _ => by rw [eo 10 (by decide) (by decide) (by decide) (by decide)]) (fun t _ => e9 t 3 (by decide) (by decide) (by decide) (by decide)) (fun t _ => e9 t 7 (by decide) (by decide) (by decide) (by decide))
  · rw [e11, mset_s (by decide)]; exact hc
  · by_cases e : t = i
    · subst e
      obtain ⟨q, hq3, hqe⟩ := hr t ht
      have hq2 : q < 3 := by
        have h5 := hk.2
        rw [hT.2.2.2.2.2.2.2.2.2, hqe, show (3 : Int32) = nI 3 from rfl] at h5
        exact nI_ltd (by omega) (by decide) h5
      refine ⟨q + 1, by omega, ?_⟩
      rw [← nI_1, ← hqe, f4]
      exact ms_1
    · have : oc M2 0 t 9 = oc M1 0 t 9 := by
        show M2 9 0 0 _ = M1 9 0 0 _
        rw [f4]
        unfold mrenM payM
        rw [mset_s (by omega), mset_s (by omega), mset_s (by omega), mset_k (by decide), mset_k (by decide), mset_k (by decide), mset_k (by decide)]
      rw [this]
      exact hr t ht
  · rw [e4, mset_k (by decide), mset_k (by decide), mset_k (by decide), mset_s (by decide), mset_s (by decide), mset_k (by decide)]; exact hd
theorem take_cell {B : Mem} {t k : Nat} (hk : k < 60) : takeM B 0 t 10 0 0 k = if B 10 0 0 k = nI t then -1 else B 10 0 0 k := by
  unfold takeM
  rw [mset_k (by decide), rset_cell]
  unfold clrF
  by_cases c : B 10 0 0 k = nI t
  · rw [if_pos c, if_pos ⟨hk, c⟩]
  · rw [if_neg c, if_neg (fun z => c z.2)]
theorem take_7 (B : Mem) (t : Nat) : oc (takeM B 0 t) 0 t 7 = -1 := ms_1
theorem take_7o {B : Mem} {t t' : Nat} (h : ¬ t' = t) : oc (takeM B 0 t) 0 t' 7 = oc B 0 t' 7 := by
  show mset (rset B 10 0 0 _) 9 0 0 (11 * t + 7) (-1) 9 0 0 (11 * t' + 7) = _
  rw [mset_s (by omega), rset_k (by decide)]
theorem rw_take {B : Mem} {n t : Nat} (hR : RW B n) (hn : n ≤ 40) (ht : t < n) : RW (takeM B 0 t) n := by
  refine ⟨fun k hk => ?_, fun t' ht' => ?_⟩
  · rw [take_cell hk]
    by_cases c : B 10 0 0 k = nI t
    · rw [if_pos c]; exact Or.inl rfl
    · rw [if_neg c]; exact hR.1 k hk
  · by_cases e : t' = t
    · subst e
      refine Or.inl ⟨take_7 B t', fun k hk z => ?_⟩
      rw [take_cell hk] at z
      by_cases c : B 10 0 0 k = nI t'
      · rw [if_pos c] at z; exact nI_m1 (by omega) z.symm
      · rw [if_neg c] at z; exact c z
    · have hc : ∀ k, k < 60 → (takeM B 0 t 10 0 0 k = nI t' ↔ B 10 0 0 k = nI t') := fun k hk => by
        rw [take_cell hk]
        by_cases c : B 10 0 0 k = nI t
        · rw [if_pos c, c]
          exact ⟨fun z => absurd z.symm (nI_m1 (by omega)), fun z => absurd (nI_inj (by omega) (by omega) z).symm e⟩
        · rw [if_neg c]
      rcases hR.2 t' ht' with ⟨b1, b2⟩ | ⟨g, q, W, b1, b2, b3, b4, b5, b6, b7⟩
      · exact Or.inl ⟨(take_7o e).trans b1, fun k hk z => b2 k hk ((hc k hk).mp z)⟩
      · exact Or.inr ⟨g, q, W, b1, b2, b3, b4, (take_7o e).trans b5, (oc_take (by decide) (by decide)).trans b6, fun k hk => (hc k hk).trans (b7 k hk)⟩
theorem st_fetch {M M1 M2 : Mem} {n cN d c : Nat} {x k9 r : Int32} (hI : Inv2 M M n cN d c)
    (h1 : WPost M (fun r M' => fetchK M x = 0 ∧ ∃ i a, i < n ∧ a < cN ∧ x = nI i ∧ M 2 0 i 0 = nI a ∧ r = (debtV M 0 i (M 0 0 0 0)) ∧ M' = mset (clrM (mset (mset (mset (mset M 1 0 a 0 (M 1 0 a 0 - (debtV M 0 i (M 0 0 0 0)))) 0 0 0 1 (M 0 0 0 1 + (debtV M 0 i (M 0 0 0 0)))) 0 0 0 2 (M 0 0 0 2 + (intr (M 0 0 0 0) (M 2 0 i 5) (M 2 0 i 4)))) 2 0 i 7 1) 0 (nI i) 3) 1 0 a 1 (trV (M 1 0 a 1) 1)) (fetchK M x) k9 M1)
    (h2 : MPost M1 (fun r M' => ∃ i a, i < n ∧ a < cN ∧ x = nI i ∧ oc M1 0 i 0 = nI a ∧ r = owedV M1 0 i ∧ M' = mfetM M1 i a) (mfetchK M1 x) r M2) : Res M2 c k9 r := by
  have hB : EqB M M1 := wp_eqB h1 (fun v Mc hp => by
    obtain ⟨-, i, a, -, -, -, -, -, e⟩ := hp
    rw [e]
    exact ⟨fun k _ _ _ => by rw [mset_k (by omega), clrM_k (by omega), mset_k (by omega), mset_k (by omega), mset_k (by omega), mset_k (by omega)], by rw [mset_k (by decide), clrM_k (by decide), mset_k (by decide), mset_k (by decide), mset_k (by decide), mset_k (by decide)]⟩)
  have hJ := inv2_k hI (EqA.refl M) hB
  refine st_gen hI h1 h2 (k_fetch hJ.1 hJ.2.1 hJ.2.2.2.2.2.1 hJ.2.2.2.2.2.2.1).symm (by unfold fetchK; (repeat' split) <;> decide) (fun v Mc hp => hp.1) (fun v Mc hp he hq => ?_)
  obtain ⟨hK0, i, a, hi, ha, e1, e2, e3, e4⟩ := hp
  obtain ⟨i2, a2, hi2, ha2, f1, f2, f3, f4⟩ := hq
  obtain ⟨hS, ⟨i1, i2', i3, i4, i5, i6⟩, hb, hz, hR, h40, h10, hc, hr, hd, hdc⟩ := hJ
  have g1 : i = i2 := nI_inj (by omega) (by omega) (e1.symm.trans f1)
  subst g1
  have hT := hS.2.2.2.2.2.2.2.1 i hi
  have g2 : a = a2 := nI_inj (by omega) (by omega) (e2.symm.trans (hT.1.trans f2))
  subst g2
  rw [e1] at hK0
  have hk := fetK_0 (by omega) hK0
  have hs : oc M1 0 i 6 = 0 := hT.2.2.2.2.2.2.2.1.symm.trans hk
  obtain ⟨s1, s2⟩ := sim_fetch hS hi ha hs (i2' a ha)
  have eo : ∀ k, ¬ k = 11 → ¬ k = 7 → ¬ k = 6 → ¬ k = 9 → ¬ k = 8 → ¬ k = 10 → M2 k = M1 k := fun k z1 z2 z3 z4 z5 z6 => by
    rw [f4]
    unfold mfetM payM
    rw [mset_k z5, takeM_k z4 z6, mset_k z4, mset_k z3, mset_k z3, mset_k z2, mset_k z1]
  have e9 : ∀ t j, j < 11 → ¬ j = 6 → ¬ j = 7 → oc M2 0 t j = oc M1 0 t j := fun t j hj z1 z2 => by
    show M2 9 0 0 _ = M1 9 0 0 _
    rw [f4]
    unfold mfetM payM
    rw [mset_k (by decide)]
    refine (oc_take hj z2).trans ?_
    show mset _ 9 0 0 (11 * i + 6) 1 9 0 0 (11 * t + j) = _
    rw [mset_s (by omega), mset_k (by decide), mset_k (by decide), mset_k (by decide), mset_k (by decide)]
  have e6 : ∀ t, oc M2 0 t 6 = if t = i then 1 else oc M1 0 t 6 := fun t => by
    show M2 9 0 0 _ = _
    rw [f4]
    unfold mfetM payM
    rw [mset_k (by decide)]
    refine (oc_take (by decide) (by decide)).trans ?_
    by_cases e : t = i
    · rw [if_pos e, e]
      exact ms_1
    · rw [if_neg e]
      show mset _ 9 0 0 (11 * i + 6) 1 9 0 0 (11 * t + 6) = _
      rw [mset_s (by omega), mset_k (by decide), mset_k (by decide), mset_k (by decide), mset_k (by decide)]
  have e8 : ∀ j, M2 8 0 0 j = if j = a then mn 10 (M1 8 0 0 a + 1) else M1 8 0 0 j := fun j => by
    rw [f4]
    unfold mfetM payM
    by_cases e : j = a
    · rw [if_pos e, e]
      exact ms_1
    · rw [if_neg e, mset_s e, takeM_k (by decide) (by decide), mset_k (by decide), mset_k (by decide), mset_k (by decide), mset_k (by decide), mset_k (by decide)]
  have hAM : EqA Mc M2 := fun k hk => by rw [eo k (by omega) (by omega) (by omega) (by omega) (by omega) (by omega), he, mset_k (by omega)]
  have e11 : ∀ j, M2 11 0 0 j = mset M1 11 0 0 0 0 11 0 0 j := fun j => by
    rw [f4]
    unfold mfetM payM
    rw [mset_k (by decide), takeM_k (by decide) (by decide), mset_k (by decide), mset_k (by decide), mset_k (by decide), mset_k (by decide)]
  refine ⟨by rw [e11]; exact ms_1, by rw [e3, f3]; exact s1, by rw [eo 21 (by decide) (by decide) (by decide) (by decide) (by decide) (by decide), he]; exact ms_1, n, cN, d, inv2_k (A := Mc) (B := M2) ⟨by rw [e4, f4]; exact s2, ⟨fun t ht => by rw [e9 t 0 (by decide) (by decide) (by decide)]; exact i1 t ht, fun j hj => ?_, fun t ht => by rw [e9 t 1 (by decide) (by decide) (by decide)]; exact i3 t ht, fun t ht => by rw [e9 t 2 (by decide) (by decide) (by decide)]; exact i4 t ht, fun t ht hs => ?_, fun t ht => ?_⟩, fun w hw => ?_, fun w hw => ?_, ?_, h40, h10, ?_, fun t ht => by rw [e9 t 9 (by decide) (by decide) (by decide)]; exact hr t ht, ?_, by omega⟩ hAM (EqB.refl _)⟩
  · rw [e8]
    by_cases e : j = a
    · rw [if_pos e]
      obtain ⟨q, hq, hqe⟩ := i2' a ha
      obtain ⟨p, hp1, hp2⟩ := (tr_rng q hq).2
      exact ⟨p, hp1, by rw [hqe, ← tr_up q hq]; exact hp2⟩
    · rw [if_neg e]
      exact i2' j hj
  · rw [e6] at hs
    rw [e9 t 8 (by decide) (by decide) (by decide)]
    by_cases e : t = i
    · rw [if_pos e] at hs
      exact absurd hs (by decide)
    · rw [if_neg e] at hs
      exact i5 t ht hs
  · rw [e6]
    by_cases e : t = i
    · rw [if_pos e]; exact Or.inr (Or.inl rfl)
    · rw [if_neg e]; exact i6 t ht
  · rw [e4, mset_k (by decide), clrM_k (by decide), mset_k (by decide), mset_k (by decide), mset_k (by decide), mset_k (by decide), eo 12 (by decide) (by decide) (by decide) (by decide) (by decide) (by decide), eo 13 (by decide) (by decide) (by decide) (by decide) (by decide) (by decide)]; exact hb w hw
  · rw [eo 12 (by decide) (by decide) (by decide) (by decide) (by decide) (by decide), eo 13 (by decide) (by decide) (by decide) (by decide) (by decide) (by decide)]; exact hz w hw
  · have hR1 : RW (mset (payM M1 a (owedV M1 0 i) (owedV M1 0 i - oc M1 0 i 4)) 9 0 0 (11 * i + 6) 1) n := rw_c hR (fun k _ => by
      unfold payM
      rw [mset_k (by decide), mset_k (by decide), mset_k (by decide), mset_k (by decide), mset_k (by decide)]) (fun t _ => by
      show mset _ 9 0 0 (11 * i + 6) 1 9 0 0 (11 * t + 3) = _
      unfold payM
      rw [mset_s (by omega), mset_k (by decide), mset_k (by decide), mset_k (by decide), mset_k (by decide)]) (fun t _ => by
      show mset _ 9 0 0 (11 * i + 6) 1 9 0 0 (11 * t + 7) = _
      unfold payM
      rw [mset_s (by omega), mset_k (by decide), mset_k (by decide), mset_k (by decide), mset_k (by decide)])
    have hR2 := rw_take hR1 h40 hi
    rw [f4]
    exact rw_c hR2 (fun k _ => by unfold mfetM; rw [mset_k (by decide)]) (fun t _ => by show mfetM M1 i a 9 0 0 _ = _; unfold mfetM; rw [mset_k (by decide)]) (fun t _ => by show mfetM M1 i a 9 0 0 _ = _; unfold mfetM; rw [mset_k (by decide)])
  · rw [e11, mset_s (by decide)]; exact hc
  · rw [e4, mset_k (by decide), clrM_k (by decide), mset_k (by decide), mset_s (by decide), mset_s (by decide), mset_k (by decide)]; exact hd
