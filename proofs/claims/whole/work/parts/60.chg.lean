/-! calls that change something -/
theorem ms_1 {M : Mem} {k s i j : Nat} {x : Int32} : mset M k s i j x k s i j = x := if_pos ⟨rfl, rfl, rfl, rfl⟩
theorem st_come {M M1 M2 : Mem} {n cN d c : Nat} {x k9 r : Int32} (hI : Inv2 M M n cN d c)
    (h1 : WPost M (fun r M' => comeK M x = 0 ∧ cN < 10 ∧ r = nI cN ∧ M' = mset (mset (mset M 1 0 cN 0 x) 1 0 cN 1 5) 0 0 0 3 (nI (cN + 1))) (comeK M x) k9 M1)
    (h2 : MPost M1 (fun r M' => cN < 10 ∧ r = nI cN ∧ M' = mset (mset (mset (mset M1 11 0 0 0 0) 7 0 0 cN x) 8 0 0 cN 5) 11 0 0 1 (nI (cN + 1))) (mcomeK M1 x) r M2) : Res M2 c k9 r := by
  have hB : EqB M M1 := wp_eqB h1 (fun v Mc hp => by
    obtain ⟨-, -, -, e⟩ := hp
    rw [e]
    exact ⟨fun k _ _ _ => by rw [mset_k (by omega), mset_k (by omega), mset_k (by omega)], by rw [mset_k (by decide), mset_k (by decide), mset_k (by decide)]⟩)
  have hJ := inv2_k hI (EqA.refl M) hB
  refine st_gen hI h1 h2 (k_come hJ.1 hJ.2.2.2.2.2.2.2.1 hJ.2.2.2.2.2.2.1).symm (by unfold comeK; (repeat' split) <;> decide) (fun v Mc hp => hp.1) (fun v Mc hp he hq => ?_)
  obtain ⟨-, h10, e3, e4⟩ := hp
  obtain ⟨-, f3, f4⟩ := hq
  obtain ⟨hS, ⟨i1, i2, i3, i4, i5, i6⟩, hb, hz, hR, h40, -, hc, hr, hd, hdc⟩ := hJ
  have k9' : ∀ j, M2 9 0 0 j = M1 9 0 0 j := fun j => by rw [f4, mset_k (by decide), mset_k (by decide), mset_k (by decide), mset_k (by decide)]
  have e9 : ∀ t w, oc M2 0 t w = oc M1 0 t w := fun t w => k9' _
  have e8 : ∀ i, M2 8 0 0 i = if i = cN then 5 else M1 8 0 0 i := fun i => by
    rw [f4, mset_k (by decide)]
    by_cases e : i = cN
    · rw [if_pos e, e]; exact ms_1
    · rw [if_neg e, mset_s e, mset_k (by decide), mset_k (by decide)]
  have eo : ∀ k, ¬ k = 11 → ¬ k = 7 → ¬ k = 8 → M2 k = M1 k := fun k a b e => by rw [f4, mset_k a, mset_k e, mset_k b, mset_k a]
  have hAM : EqA Mc M2 := fun k hk => by rw [eo k (by omega) (by omega) (by omega), he, mset_k (by omega)]
  refine ⟨by rw [f4]; exact (mset_s (by decide)).trans ((by rw [mset_k (by decide), mset_k (by decide)]; exact ms_1)), e3.trans f3.symm, by rw [eo 21 (by decide) (by decide) (by decide), he]; exact ms_1, n, cN + 1, d, inv2_k (A := Mc) (B := M2) ⟨?_, ⟨fun t ht => ?_, fun i hi => ?_, fun t ht => by rw [e9]; exact i3 t ht, fun t ht => by rw [e9]; exact i4 t ht, fun t ht hs => by rw [e9] at hs ⊢; exact i5 t ht hs, fun t ht => by rw [e9]; exact i6 t ht⟩, fun w hw => ?_, fun w hw => ?_, ?_, h40, h10, ?_, fun i hi => by rw [e9]; exact hr i hi, ?_, by omega⟩ hAM (EqB.refl _)⟩
  · rw [e4, f4]; exact sim_come hS
  · rw [e9]; obtain ⟨i, a, b⟩ := i1 t ht; exact ⟨i, by omega, b⟩
  · rw [e8]
    by_cases e : i = cN
    · rw [if_pos e]; exact ⟨5, by decide, rfl⟩
    · rw [if_neg e]; exact i2 i (by omega)
  · rw [e4, mset_k (by decide), mset_k (by decide), mset_k (by decide), eo 12 (by decide) (by decide) (by decide), eo 13 (by decide) (by decide) (by decide)]; exact hb w hw
  · rw [eo 12 (by decide) (by decide) (by decide), eo 13 (by decide) (by decide) (by decide)]; exact hz w hw
  · exact rw_c hR (fun k _ => by rw [eo 10 (by decide) (by decide) (by decide)]) (fun t _ => e9 t 3) (fun t _ => e9 t 7)
  · rw [f4]; exact ms_1
  · rw [e4, mset_s (by decide), mset_k (by decide), mset_k (by decide)]; exact hd
theorem st_earn {M M1 M2 : Mem} {n cN d c : Nat} {q x k9 r : Int32} (hI : Inv2 M M n cN d c)
    (h1 : WPost M (fun r M' => earnK M q x = 0 ∧ ∃ i, i < cN ∧ q = nI i ∧ r = M 1 0 i 0 + x ∧ M' = mset M 1 0 i 0 (M 1 0 i 0 + x)) (earnK M q x) k9 M1)
    (h2 : MPost M1 (fun r M' => ∃ i, i < cN ∧ q = nI i ∧ r = M1 7 0 0 i + x ∧ M' = mset (mset M1 11 0 0 0 0) 7 0 0 i (M1 7 0 0 i + x)) (mearnK M1 q x) r M2) : Res M2 c k9 r := by
  have hB : EqB M M1 := wp_eqB h1 (fun v Mc hp => by
    obtain ⟨-, i, -, -, -, e⟩ := hp
    rw [e]
    exact ⟨fun k _ _ _ => by rw [mset_k (by omega)], by rw [mset_k (by decide)]⟩)
  have hJ := inv2_k hI (EqA.refl M) hB
  refine st_gen hI h1 h2 (k_earn hJ.1 hJ.2.2.2.2.2.2.2.1).symm (by unfold earnK; (repeat' split) <;> decide) (fun v Mc hp => hp.1) (fun v Mc hp he hq => ?_)
  obtain ⟨-, i, hi, e1, e3, e4⟩ := hp
  obtain ⟨j, hj, f1, f3, f4⟩ := hq
  obtain ⟨hS, ⟨i1, i2, i3, i4, i5, i6⟩, hb, hz, hR, h40, h10, hc, hr, hd, hdc⟩ := hJ
  have g1 : i = j := nI_inj (by omega) (by omega) (e1.symm.trans f1)
  subst g1
  obtain ⟨s1, s2⟩ := sim_earn (x := x) hS hi
  have eo : ∀ k, ¬ k = 11 → ¬ k = 7 → M2 k = M1 k := fun k a b => by rw [f4, mset_k b, mset_k a]
  have e9 : ∀ t w, oc M2 0 t w = oc M1 0 t w := fun t w => by show M2 9 0 0 _ = M1 9 0 0 _; rw [eo 9 (by decide) (by decide)]
  have hAM : EqA Mc M2 := fun k hk => by rw [eo k (by omega) (by omega), he, mset_k (by omega)]
  refine ⟨by rw [f4, mset_k (by decide)]; exact ms_1, by rw [e3, f3]; exact s1, by rw [eo 21 (by decide) (by decide), he]; exact ms_1, n, cN, d, inv2_k (A := Mc) (B := M2) ⟨by rw [e4, f4]; exact s2, ⟨fun t ht => by rw [e9]; exact i1 t ht, fun i hi => by rw [eo 8 (by decide) (by decide)]; exact i2 i hi, fun t ht => by rw [e9]; exact i3 t ht, fun t ht => by rw [e9]; exact i4 t ht, fun t ht hs => by rw [e9] at hs ⊢; exact i5 t ht hs, fun t ht => by rw [e9]; exact i6 t ht⟩, fun w hw => ?_, fun w hw => ?_, ?_, h40, h10, ?_, fun i hi => by rw [e9]; exact hr i hi, ?_, by omega⟩ hAM (EqB.refl _)⟩
  · rw [e4, mset_k (by decide), eo 12 (by decide) (by decide), eo 13 (by decide) (by decide)]; exact hb w hw
  · rw [eo 12 (by decide) (by decide), eo 13 (by decide) (by decide)]; exact hz w hw
  · exact rw_c hR (fun k _ => by rw [eo 10 (by decide) (by decide)]) (fun t _ => e9 t 3) (fun t _ => e9 t 7)
  · rw [f4, mset_k (by decide), mset_s (by decide)]; exact hc
  · rw [e4, mset_k (by decide)]; exact hd
theorem st_setBuyer {M M1 M2 : Mem} {n cN d c : Nat} {q k p k9 r : Int32} (hI : Inv2 M M n cN d c)
    (h1 : WPost M (fun r M' => setBuyerK q k p = 0 ∧ ∃ j, j < 7 ∧ q = nI j ∧ r = M 3 0 j 0 ∧ M' = mset (mset M 3 0 j 0 k) 3 0 j 1 (if k = -1 then 0 else p)) (setBuyerK q k p) k9 M1)
    (h2 : MPost M1 (fun r M' => ∃ j, j < 7 ∧ q = nI j ∧ r = M1 12 0 0 j ∧ M' = mset (mset (mset M1 11 0 0 0 0) 12 0 0 j k) 13 0 0 j (if k = -1 then 0 else p)) (msetBuyerK q k p) r M2) : Res M2 c k9 r := by
  have hB : EqB M M1 := wp_eqB h1 (fun v Mc hp => by
    obtain ⟨-, i, -, -, -, e⟩ := hp
    rw [e]
    exact ⟨fun k _ _ _ => by rw [mset_k (by omega), mset_k (by omega)], by rw [mset_k (by decide), mset_k (by decide)]⟩)
  have hJ := inv2_k hI (EqA.refl M) hB
  refine st_gen hI h1 h2 (k_setBuyer q k p).symm (by unfold setBuyerK; (repeat' split) <;> decide) (fun v Mc hp => hp.1) (fun v Mc hp he hq => ?_)
  obtain ⟨-, i, hi, e1, e3, e4⟩ := hp
  obtain ⟨j, hj, f1, f3, f4⟩ := hq
  obtain ⟨hS, ⟨i1, i2, i3, i4, i5, i6⟩, hb, hz, hR, h40, h10, hc, hr, hd, hdc⟩ := hJ
  have g1 : i = j := nI_inj (by omega) (by omega) (e1.symm.trans f1)
  subst g1
  obtain ⟨s1, s2⟩ := sim_buyer (j := i) (k := k) (p := p) hS hb
  have eo : ∀ k, ¬ k = 11 → ¬ k = 12 → ¬ k = 13 → M2 k = M1 k := fun k a b e => by rw [f4, mset_k e, mset_k b, mset_k a]
  have e9 : ∀ t w, oc M2 0 t w = oc M1 0 t w := fun t w => by show M2 9 0 0 _ = M1 9 0 0 _; rw [eo 9 (by decide) (by decide) (by decide)]
  have hAM : EqA Mc M2 := fun k hk => by rw [eo k (by omega) (by omega) (by omega), he, mset_k (by omega)]
  refine ⟨by rw [f4, mset_k (by decide), mset_k (by decide)]; exact ms_1, by rw [e3, f3]; exact (hb i hi).1, by rw [eo 21 (by decide) (by decide) (by decide), he]; exact ms_1, n, cN, d, inv2_k (A := Mc) (B := M2) ⟨by rw [e4, f4]; exact s1, ⟨fun t ht => by rw [e9]; exact i1 t ht, fun i hi => by rw [eo 8 (by decide) (by decide) (by decide)]; exact i2 i hi, fun t ht => by rw [e9]; exact i3 t ht, fun t ht => by rw [e9]; exact i4 t ht, fun t ht hs => by rw [e9] at hs ⊢; exact i5 t ht hs, fun t ht => by rw [e9]; exact i6 t ht⟩, by rw [e4, f4]; exact s2, fun w hw => ?_, ?_, h40, h10, ?_, fun i hi => by rw [e9]; exact hr i hi, ?_, by omega⟩ hAM (EqB.refl _)⟩
  · rw [f4, show mset (mset (mset M1 11 0 0 0 0) 12 0 0 i k) 13 0 0 i (if k = -1 then 0 else p) 12 = mset (mset M1 11 0 0 0 0) 12 0 0 i k 12 from mset_k (by decide)]
    by_cases e : w = i
    · subst e
      intro z
      have z2 : k = -1 := ms_1.symm.trans z
      exact ms_1.trans (if_pos z2)
    · rw [mset_s e, mset_k (by decide), mset_s e, mset_k (by decide), mset_k (by decide)]
      exact hz w hw
  · exact rw_c hR (fun k _ => by rw [eo 10 (by decide) (by decide) (by decide)]) (fun t _ => e9 t 3) (fun t _ => e9 t 7)
  · rw [f4, mset_k (by decide), mset_k (by decide), mset_s (by decide)]; exact hc
  · rw [e4, mset_k (by decide), mset_k (by decide)]; exact hd
