/-! pledging -/
theorem rw_new {B B' : Mem} {n g q W : Nat} (hR : RW B n) (hn : n < 40) (hg : g < 3) (hW : 1 ≤ W) (hW2 : W ≤ 10) (hq : q + W ≤ 10 * (g + 1)) (hfree : ∀ j, j < W → B 10 0 0 (frN g + q + j) = -1)
    (hc : ∀ k, k < 60 → B' 10 0 0 k = if frN g + q ≤ k ∧ k < frN g + q + W then nI n else B 10 0 0 k) (h3 : ∀ t, t < n → oc B' 0 t 3 = oc B 0 t 3) (h7 : ∀ t, t < n → oc B' 0 t 7 = oc B 0 t 7) (n3 : oc B' 0 n 3 = nI W) (n7 : oc B' 0 n 7 = nI (frN g + q)) : RW B' (n + 1) := by
  have hno : ∀ k, k < 60 → ¬ B 10 0 0 k = nI n := fun k hk z => by
    rcases hR.1 k hk with e | ⟨t, ht, e⟩
    · exact nI_m1 (by omega) (z.symm.trans e)
    · have := nI_inj (by omega) (by omega) (z.symm.trans e)
      omega
  have hat : LieAt B' n g q W := ⟨hg, hW, hW2, hq, n7, n3, fun k hk => by
    rw [hc k hk]
    by_cases c : frN g + q ≤ k ∧ k < frN g + q + W
    · rw [if_pos c]
      exact ⟨fun _ => c, fun _ => rfl⟩
    · rw [if_neg c]
      exact ⟨fun z => absurd z (hno k hk), fun z => absurd z c⟩⟩
  refine ⟨fun k hk => ?_, fun t ht => ?_⟩
  · rw [hc k hk]
    by_cases c : frN g + q ≤ k ∧ k < frN g + q + W
    · rw [if_pos c]
      exact Or.inr ⟨n, Nat.lt_succ_self n, rfl⟩
    · rw [if_neg c]
      rcases hR.1 k hk with e | ⟨t, ht, e⟩
      · exact Or.inl e
      · exact Or.inr ⟨t, by omega, e⟩
  · by_cases e : t = n
    · rw [e]
      exact Or.inr ⟨g, q, W, hat⟩
    · have htn : t < n := by omega
      have hcc : ∀ k, k < 60 → (B' 10 0 0 k = nI t ↔ B 10 0 0 k = nI t) := fun k hk => by
        rw [hc k hk]
        by_cases c : frN g + q ≤ k ∧ k < frN g + q + W
        · rw [if_pos c]
          refine ⟨fun z => absurd (nI_inj (by omega) (by omega) z).symm e, fun z => ?_⟩
          have h5 := hfree (k - (frN g + q)) (by omega)
          rw [show frN g + q + (k - (frN g + q)) = k by omega] at h5
          exact absurd (z.symm.trans h5) (nI_m1 (by omega))
        · rw [if_neg c]
      rcases hR.2 t htn with ⟨b1, b2⟩ | ⟨g', q', W', b1, b2, b3, b4, b5, b6, b7⟩
      · exact Or.inl ⟨(h7 t htn).trans b1, fun k hk z => b2 k hk ((hcc k hk).mp z)⟩
      · exact Or.inr ⟨g', q', W', b1, b2, b3, b4, (h7 t htn).trans b5, (h3 t htn).trans b6, fun k hk => (hcc k hk).trans (b7 k hk)⟩
theorem i_rng {v m : Int32} {N : Nat} (h : 1 ≤ v ∧ v ≤ m) (hm : nI N = m) (hN : N ≤ 1000) : ∃ q, 1 ≤ q ∧ q ≤ N ∧ v = nI q := ix_n h hm hN
theorem st_pledge {M M1 M2 : Mem} {n cN d c : Nat} {x k v w k9 r : Int32} (hI : Inv2 M M n cN d c)
    (h1 : WPost M (fun r M' => pledgeK M x k v w = 0 ∧ ∃ i W h q, i < cN ∧ 1 ≤ W ∧ W ≤ 10 ∧ h < 3 ∧ q + W ≤ 10 * (h + 1) ∧ n < 40 ∧ x = nI i ∧ w = nI W ∧ spotF M 0 w 3 0 = nI (100 * h + q) ∧ r = nI n ∧ M' = addM M 0 i n h q k v w) (pledgeK M x k v w) k9 M1)
    (h2 : MPost M1 (fun r M' => ∃ i W q, i < cN ∧ 1 ≤ W ∧ W ≤ 10 ∧ q + W ≤ 60 ∧ n < 40 ∧ x = nI i ∧ w = nI W ∧ mgapF M1 0 (nI W) 3 0 = nI q ∧ r = nI n ∧ M' = mpledM M1 i n q W k v w) (mpledgeK M1 x k v w) r M2) : Res M2 c k9 r := by
  have hB : EqB M M1 := wp_eqB h1 (fun v' Mc hp => by
    obtain ⟨-, i, W, h, q, -, -, -, -, -, -, -, -, -, -, e⟩ := hp
    rw [e]
    unfold addM
    exact ⟨fun k _ _ _ => by rw [mset_k (by omega), mset_k (by omega), mset_k (by omega), rset_k (by omega), mset_k (by omega), mset_k (by omega), mset_k (by omega), mset_k (by omega), mset_k (by omega), mset_k (by omega), mset_k (by omega), mset_k (by omega), mset_k (by omega), mset_k (by omega)],
      by rw [mset_k (by decide), mset_k (by decide), mset_k (by decide), rset_k (by decide), mset_k (by decide), mset_k (by decide), mset_k (by decide), mset_k (by decide), mset_k (by decide), mset_k (by decide), mset_k (by decide), mset_k (by decide), mset_k (by decide), mset_k (by decide)]⟩)
  have hJ := inv2_k hI (EqA.refl M) hB
  refine st_gen hI h1 h2 (k_pledge hJ.1 hJ.2.2.2.2.2.2.2.1 hJ.2.2.2.2.2.1 hJ.2.2.2.2.2.2.1).symm (by unfold pledgeK; (repeat' split) <;> decide) (fun v' Mc hp => hp.1) (fun v' Mc hp he hq => ?_)
  obtain ⟨hK0, i, W, h, q, hi, hW1, hW2, hh, hqW, hn4, e1, e2, e3, e5, e4⟩ := hp
  obtain ⟨i2, W2, q2, hi2, -, -, hq2, -, f1, f2, f3, f5, f4⟩ := hq
  obtain ⟨hS, ⟨i1, i2', i3, i4, i5, i6⟩, hb, hz, hR, h40, h10, hc, hr, hd, hdc⟩ := hJ
  have g1 : i = i2 := nI_inj (by omega) (by omega) (e1.symm.trans f1)
  subst g1
  have g2 : W = W2 := by
    have hle : W2 ≤ 60 := by omega
    exact nI_inj (by omega) (by omega) (e2.symm.trans f2)
  subst g2
  have hPK := pleK_0 hK0
  obtain ⟨⟨kp1, kp2⟩, hv, -⟩ := hPK
  have hspot : q2 = frN h + q ∧ ∀ j, j < W → M1 10 0 0 (frN h + q + j) = -1 := by
    have hf := frN_s hh
    have hf2 := frN_le hh
    rcases sim_spot hS hW1 (by omega) 3 0 rfl with ⟨g1, -⟩ | ⟨g, q', hg, hq', hfr, g1, g3⟩
    · rw [e2] at e3
      exact absurd (e3.symm.trans g1) (nI_m1 (by omega))
    · have hfg := frN_s hg
      have hfg2 := frN_le hg
      rw [e2] at e3
      have z1 : 100 * h + q = 100 * g + q' := nI_inj (by omega) (by omega) (e3.symm.trans g1)
      have z2 : h = g := by omega
      subst z2
      have z3 : q = q' := by omega
      subst z3
      refine ⟨nI_inj (by omega) (by omega) (f3.symm.trans g3), fun j hj => ?_⟩
      rw [Nat.add_assoc, ← hS.2.2.2.2.2.2.2.2 h (q + j) hh (by omega)]
      exact hfr j hj
  obtain ⟨rfl, hfree⟩ := hspot
  have s2 := sim_pledge (g := h) (q := q) (W := W) (k := k) (v := v) hS hi hn4 hh hqW
  rw [← e2] at s2
  have hf := frN_s hh
  have hf2 := frN_le hh
  have eo : ∀ k', ¬ k' = 11 → ¬ k' = 7 → ¬ k' = 6 → ¬ k' = 9 → ¬ k' = 10 → M2 k' = M1 k' := fun k' z1 z2 z3 z4 z6 => by
    rw [f4]
    unfold mpledM mlayM mrowM
    rw [mset_k z3, mset_k z2, mset_k z3, rset_k z6, mset_k z4, rset_k z4, mset_k z1]
  have e9 : ∀ j, M2 9 0 0 j = mset (mrowM M1 i n (frN h + q) k v w) 9 0 0 (11 * n + 7) (nI (frN h + q)) 9 0 0 j := fun j => by
    rw [f4]
    unfold mpledM mlayM
    rw [mset_k (by decide), mset_k (by decide), mset_k (by decide), rset_k (by decide)]
  have e9o : ∀ t j, j < 11 → ¬ t = n → oc M2 0 t j = oc M1 0 t j := fun t j hj ht => by
    show M2 9 0 0 (11 * t + j) = _
    rw [e9, mset_s (by omega)]
    unfold mrowM
    rw [rset_cell, cpy_off (by omega)]
  have e9n : ∀ j, j < 11 → ¬ j = 7 → oc M2 0 n j = prow i k v w (loanV (M1 8 0 0 i) v) (M1 6 0 0 0) (frN h + q) j := fun j hj h7 => by
    show M2 9 0 0 (11 * n + j) = _
    rw [e9, mset_s (by omega)]
    unfold mrowM
    rw [rset_cell, cpy_row hj]
  have e10 : ∀ j, j < 60 → M2 10 0 0 j = if frN h + q ≤ j ∧ j < frN h + q + W then nI n else M1 10 0 0 j := fun j hj => by
    rw [f4]
    unfold mpledM mlayM
    rw [mset_k (by decide), mset_k (by decide), mset_k (by decide), rset_cell]
    unfold layN mrowM
    rw [rset_k (by decide), mset_k (by decide)]
  have hAM : EqA Mc M2 := fun k' hk => by rw [eo k' (by omega) (by omega) (by omega) (by omega) (by omega), he, mset_k (by omega)]
  have e11 : ∀ j, M2 11 0 0 j = mset M1 11 0 0 0 0 11 0 0 j := fun j => by
    rw [f4]
    unfold mpledM mlayM mrowM
    rw [mset_k (by decide), mset_k (by decide), mset_k (by decide), rset_k (by decide), mset_k (by decide), rset_k (by decide)]
  refine ⟨by rw [e11]; exact ms_1, by rw [e5, f5], by rw [eo 21 (by decide) (by decide) (by decide) (by decide) (by decide), he]; exact ms_1, n + 1, cN, d, inv2_k (A := Mc) (B := M2) ⟨by rw [e4, f4]; exact s2, ⟨fun t ht => ?_, fun j hj => by rw [eo 8 (by decide) (by decide) (by decide) (by decide) (by decide)]; exact i2' j hj, fun t ht => ?_, fun t ht => ?_, fun t ht hs => ?_, fun t ht => ?_⟩, fun w' hw => ?_, fun w' hw => ?_, ?_, by omega, h10, ?_, fun t ht => ?_, ?_, by omega⟩ hAM (EqB.refl _)⟩
  · by_cases e : t = n
    · rw [e, e9n 0 (by decide) (by decide)]
      exact ⟨i, hi, rfl⟩
    · rw [e9o t 0 (by decide) e]
      exact i1 t (by omega)
  · by_cases e : t = n
    · rw [e, e9n 1 (by decide) (by decide)]
      intro z
      have z2 : k = -1 := z
      rw [z2] at kp1
      exact absurd kp1 (by decide)
    · rw [e9o t 1 (by decide) e]
      exact i3 t (by omega)
  · by_cases e : t = n
    · rw [e, e9n 2 (by decide) (by decide)]
      exact i_rng hv (N := 500) rfl (by decide)
    · rw [e9o t 2 (by decide) e]
      exact i4 t (by omega)
  · by_cases e : t = n
    · rw [e, e9n 6 (by decide) (by decide)] at hs
      exact absurd (show (0 : Int32) = 2 from hs) (by decide)
    · rw [e9o t 6 (by decide) e] at hs
      rw [e9o t 8 (by decide) e]
      exact i5 t (by omega) hs
  · by_cases e : t = n
    · rw [e, e9n 6 (by decide) (by decide)]
      exact Or.inl rfl
    · rw [e9o t 6 (by decide) e]
      exact i6 t (by omega)
  · have e3c : ∀ a b, Mc 3 0 a b = M 3 0 a b := fun a b => by
      rw [e4]
      unfold addM
      rw [mset_k (by decide), mset_k (by decide), mset_k (by decide), rset_k (by decide), mset_k (by decide), mset_k (by decide), mset_k (by decide), mset_k (by decide), mset_k (by decide), mset_k (by decide), mset_k (by decide), mset_k (by decide), mset_k (by decide), mset_k (by decide)]
    rw [e3c, e3c, eo 12 (by decide) (by decide) (by decide) (by decide) (by decide), eo 13 (by decide) (by decide) (by decide) (by decide) (by decide)]; exact hb w' hw
  · rw [eo 12 (by decide) (by decide) (by decide) (by decide) (by decide), eo 13 (by decide) (by decide) (by decide) (by decide) (by decide)]; exact hz w' hw
  · exact rw_new hR hn4 hh hW1 hW2 hqW hfree e10 (fun t ht => e9o t 3 (by decide) (by omega)) (fun t ht => e9o t 7 (by decide) (by omega)) (by rw [e9n 3 (by decide) (by decide)]; exact e2) (by
      show M2 9 0 0 (11 * n + 7) = _
      rw [e9]
      exact ms_1)
  · rw [e11, mset_s (by decide)]; exact hc
  · by_cases e : t = n
    · rw [e, e9n 9 (by decide) (by decide)]
      exact ⟨0, by decide, rfl⟩
    · rw [e9o t 9 (by decide) e]
      exact hr t (by omega)
  · rw [e4]
    unfold addM
    rw [mset_s (by decide), mset_k (by decide), mset_s (by decide), rset_k (by decide), mset_k (by decide), mset_k (by decide), mset_k (by decide), mset_k (by decide), mset_k (by decide), mset_k (by decide), mset_k (by decide), mset_k (by decide), mset_k (by decide), mset_k (by decide)]
    exact hd
