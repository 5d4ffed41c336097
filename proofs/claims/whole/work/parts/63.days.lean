/-! days, foreseeing, tidying -/
theorem rw_day {B : Mem} {n : Nat} (hR : RW B n) (hn : n ≤ 40) : RW (mdayR B 0 n).2 n := by
  have h1 : RW (magN B 0 n) n := rw_c hR (fun k _ => by rw [magN_k (by decide) (by decide)]) (fun t _ => magN_f (by decide) (by decide) (by decide) n) (fun t _ => magN_f (by decide) (by decide) (by decide) n)
  have h2 : ∀ w, RW (mbuyR (magN B 0 n) 0 n w).2 n := fun w => by
    unfold mbuyR
    split
    · exact h1
    · split
      · exact h1
      · rename_i q hq
        have hqn : q < n := by
          rcases mdear_rng hq with e | ⟨-, e⟩
          · cases e
          · omega
        show RW (mbuyM (magN B 0 n) 0 q) n
        unfold mbuyM
        refine rw_take (rw_c h1 (fun k _ => by rw [mset_k (by decide), mset_k (by decide)]) (fun t _ => ?_) (fun t _ => ?_)) hn hqn
        · show mset _ 9 0 0 (11 * q + 6) 3 9 0 0 (11 * t + 3) = _
          rw [mset_s (by omega), mset_k (by decide)]
        · show mset _ 9 0 0 (11 * q + 6) 3 9 0 0 (11 * t + 7) = _
          rw [mset_s (by omega), mset_k (by decide)]
  unfold mdayR
  dsimp only
  exact rw_c (h2 _) (fun k _ => by rw [mset_k (by decide)]) (fun t _ => by show mset _ 6 0 0 0 _ 9 0 0 _ = _; rw [mset_k (by decide)]) (fun t _ => by show mset _ 6 0 0 0 _ 9 0 0 _ = _; rw [mset_k (by decide)])
theorem rw_go {B : Mem} {n : Nat} (hR : RW B n) (hn : n ≤ 40) : ∀ D, RW (mgoN B 0 n D).2 n
  | 0 => hR
  | D + 1 => rw_day (rw_go hR hn D) hn
theorem st_pass {M M1 M2 : Mem} {n cN d c : Nat} {x k9 r : Int32} (hI : Inv2 M M n cN d c)
    (h1 : WPost M (fun r M' => passK x = 0 ∧ ∃ D, 1 ≤ D ∧ D ≤ 200 ∧ x = nI D ∧ r = (goN M 0 n D).1 ∧ M' = (goN M 0 n D).2) (passK x) k9 M1)
    (h2 : MPost M1 (fun r M' => ∃ D, 1 ≤ D ∧ D ≤ 200 ∧ x = nI D ∧ r = (mgoN (mset M1 11 0 0 0 0) 0 n D).1 ∧ M' = (mgoN (mset M1 11 0 0 0 0) 0 n D).2) (mpassK x) r M2) : Res M2 c k9 r := by
  have hB : EqB M M1 := wp_eqB h1 (fun v' Mc hp => by
    obtain ⟨-, D, -, -, -, -, e⟩ := hp
    rw [e]
    exact ⟨fun k _ _ _ => by rw [goN_k (by omega) (by omega) (by omega) (by omega)], by rw [goN_k (by decide) (by decide) (by decide) (by decide)]⟩)
  have hJ := inv2_k hI (EqA.refl M) (hB.tr (eqB_11 M1 0))
  refine st_gen hI h1 h2 (k_pass x).symm (by unfold passK; split <;> decide) (fun v' Mc hp => hp.1) (fun v' Mc hp he hq => ?_)
  obtain ⟨-, D, hD1, hD2, e1, e3, e4⟩ := hp
  obtain ⟨D2, -, hD3, f1, f3, f4⟩ := hq
  have g1 : D = D2 := nI_inj (by omega) (by omega) (e1.symm.trans f1)
  subst g1
  obtain ⟨hS, hV, hb, hz, hR, h40, h10, hc, hr, hd, hdc⟩ := hJ
  obtain ⟨s1, s2, s3, s4⟩ := sim_goN hS hV hb h10 h40 D
  have eo : ∀ k, ¬ k = 6 → ¬ k = 8 → ¬ k = 9 → ¬ k = 10 → M2 k = mset M1 11 0 0 0 0 k := fun k z1 z2 z3 z4 => by rw [f4, mgoN_k z1 z2 z3 z4]
  have hAM : EqA Mc M2 := fun k' hk => by rw [eo k' (by omega) (by omega) (by omega) (by omega), mset_k (by omega), he, mset_k (by omega)]
  refine ⟨by rw [eo 11 (by decide) (by decide) (by decide) (by decide)]; exact ms_1, by rw [e3, f3]; exact s1, by rw [eo 21 (by decide) (by decide) (by decide) (by decide), mset_k (by decide), he]; exact ms_1, n, cN, d + D, inv2_k (A := Mc) (B := M2) ⟨by rw [e4, f4]; exact s2, by rw [f4]; exact s3, by rw [e4, f4]; exact s4, fun w hw => ?_, ?_, h40, h10, ?_, fun t ht => ?_, ?_, by omega⟩ hAM (EqB.refl _)⟩
  · rw [eo 12 (by decide) (by decide) (by decide) (by decide), eo 13 (by decide) (by decide) (by decide) (by decide)]; exact hz w hw
  · rw [f4]; exact rw_go hR h40 D
  · rw [eo 11 (by decide) (by decide) (by decide) (by decide)]; exact hc
  · rw [f4, mgoN_f (by decide) (by decide) (by decide) (by decide)]; exact hr t ht
  · rw [e4]; exact goN_d hd D
/-! the other shop is left alone -/
theorem shM_o {M : Mem} {s n k' s' : Nat} {f : Nat → (Nat → Int32) → Nat → Int32} (h : ¬ s' = s) : shM M s n f k' s' = M k' s' := by
  funext i
  exact if_neg (fun z => h z.2.1)
theorem rset_sh {M : Mem} {k s i k' s' : Nat} {f : Nat → Int32} (h : ¬ s' = s) : rset M k s i f k' s' = M k' s' := by
  funext i'
  exact if_neg (fun z => h z.2.1)
theorem cpK_sh {M : Mem} {k s s2 n w k' s' : Nat} (h : ¬ s' = s) : cpK M k s s2 n w k' s' = M k' s' := by
  funext i j
  exact if_neg (fun z => h z.2.1)
theorem buyK_sh {M : Mem} {s s2 n k' s' : Nat} (h : ¬ s' = s) : buyK M s s2 n k' s' = M k' s' := by
  funext i j
  exact if_neg (fun z => h z.2.1)
theorem ageN_o {M : Mem} {s s' k : Nat} (h : ¬ s' = s) : ∀ t, ageN M s t k s' = M k s'
  | 0 => rfl
  | t + 1 => by
    rw [← ageN_o (M := M) (k := k) h t]
    show ageStep (ageN M s t) s t k s' = _
    unfold ageStep
    split
    · exact mset_sh h
    · split
      · rw [mset_sh h, mset_sh h, mset_sh h]
      · rfl
theorem sell_o {M : Mem} {s s' n w k : Nat} (h : ¬ s' = s) : (sellR M s n w).2 k s' = M k s' := by
  unfold sellR
  split
  · rfl
  · show clrM _ s _ 3 k s' = _
    unfold clrM
    rw [shM_o h, mset_sh h, mset_sh h]
theorem goN_o {M : Mem} {s s' n k : Nat} (h : ¬ s' = s) : ∀ D, (goN M s n D).2 k s' = M k s'
  | 0 => rfl
  | D + 1 => by
    rw [← goN_o (M := M) (n := n) (k := k) h D]
    show (dayR (goN M s n D).2 s n).2 k s' = _
    unfold dayR
    dsimp only
    rw [mset_sh h, sell_o h, ageN_o h]
theorem magN_o {M : Mem} {s s' k : Nat} (h : ¬ s' = s) : ∀ t, magN M s t k s' = M k s'
  | 0 => rfl
  | t + 1 => by
    rw [← magN_o (M := M) (k := k) h t]
    show magS (magN M s t) s t k s' = _
    unfold magS
    split
    · exact mset_sh h
    · split
      · rw [mset_sh h, mset_sh h, mset_sh h]
      · rfl
theorem mbuy_o {M : Mem} {s s' n w k : Nat} (h : ¬ s' = s) : (mbuyR M s n w).2 k s' = M k s' := by
  unfold mbuyR
  split
  · rfl
  · split
    · rfl
    · rename_i q _
      show mbuyM M s q k s' = _
      unfold mbuyM takeM
      rw [mset_sh h, rset_sh h, mset_sh h, mset_sh h]
theorem mgoN_o {M : Mem} {s s' n k : Nat} (h : ¬ s' = s) : ∀ D, (mgoN M s n D).2 k s' = M k s'
  | 0 => rfl
  | D + 1 => by
    rw [← mgoN_o (M := M) (n := n) (k := k) h D]
    show (mdayR (mgoN M s n D).2 s n).2 k s' = _
    unfold mdayR
    dsimp only
    rw [mset_sh h, mbuy_o h, magN_o h]
theorem shopC_sh0 {M : Mem} {cN n k : Nat} : shopC M 1 0 cN n k 0 = M k 0 := by
  unfold shopC cpyM scaK
  rw [shM_o (by decide), buyK_sh (by decide), cpK_sh (by decide), cpK_sh (by decide), cpK_sh (by decide)]
theorem becM_sh0 {M : Mem} {k : Nat} : becM M 1 0 k 0 = M k 0 := by
  unfold becM
  rw [rset_sh (by decide), rset_sh (by decide), rset_sh (by decide), rset_sh (by decide), cpK_sh (by decide)]
theorem shopC_hi {M : Mem} {cN n k : Nat} (h : 5 ≤ k) : shopC M 1 0 cN n k = M k := by
  unfold shopC cpyM scaK
  rw [shM_k (by omega), buyK_k _ (by omega), cpK_k _ (by omega), cpK_k _ (by omega), cpK_k _ (by omega)]
theorem becM_lo {M : Mem} {k : Nat} (h : k < 6 ∨ 10 < k) : becM M 1 0 k = M k := by
  unfold becM
  rw [rset_k (by omega), rset_k (by omega), rset_k (by omega), rset_k (by omega), cpK_k _ (by omega)]
theorem st_fore {M M1 M2 : Mem} {n cN d c v : Nat} {x w k9 r : Int32} (hI : Inv2 M M n cN d c)
    (h1 : WPost M (fun r M' => foreseeK x w = 0 ∧ ∃ D, 1 ≤ D ∧ D ≤ 200 ∧ x = nI D ∧ r = foreV (shopC M 1 0 cN n) n D v ∧ M' = (goN (shopC M 1 0 cN n) 1 n D).2) (foreseeK x w) k9 M1)
    (h2 : MPost M1 (fun r M' => ∃ D, 1 ≤ D ∧ D ≤ 200 ∧ x = nI D ∧ r = mforeV (becM (mset M1 11 0 0 0 0) 1 0) n D v ∧ M' = (mgoN (becM (mset M1 11 0 0 0 0) 1 0) 1 n D).2) (mforeseeK x w) r M2) : Res M2 c k9 r := by
  have hBc : ∀ v' Mc, (foreseeK x w = 0 ∧ ∃ D, 1 ≤ D ∧ D ≤ 200 ∧ x = nI D ∧ v' = foreV (shopC M 1 0 cN n) n D v ∧ Mc = (goN (shopC M 1 0 cN n) 1 n D).2) → EqB M Mc := fun v' Mc hp => by
    obtain ⟨-, D, -, -, -, -, e⟩ := hp
    rw [e]
    exact ⟨fun k _ _ _ => by rw [goN_o (by decide), shopC_sh0], by rw [goN_o (by decide), shopC_sh0]⟩
  have hB : EqB M M1 := wp_eqB h1 hBc
  have hJ := inv2_k hI (EqA.refl M) (hB.tr (eqB_11 M1 0))
  refine st_gen hI h1 h2 (k_fore x w).symm (by unfold foreseeK; (repeat' split) <;> decide) (fun v' Mc hp => hp.1) (fun v' Mc hp he hq => ?_)
  have hBc2 := hBc v' Mc hp
  obtain ⟨-, D, hD1, hD2, e1, e3, e4⟩ := hp
  obtain ⟨D2, -, hD3, f1, f3, f4⟩ := hq
  have g1 : D = D2 := nI_inj (by omega) (by omega) (e1.symm.trans f1)
  subst g1
  obtain ⟨hS, hV, hb, hz, hR, h40, h10, hc, hr, hd, hdc⟩ := id hJ
  have eo : ∀ k, M2 k 0 = mset M1 11 0 0 0 0 k 0 := fun k => by rw [f4, mgoN_o (by decide), becM_sh0]
  have hA : EqA M Mc := fun k hk => by rw [e4, goN_o (by decide), shopC_sh0]
  have hAM : EqA M M2 := fun k hk => by rw [eo k, mset_k (by omega), he, mset_k (by omega)]; exact hA k hk
  have hBM : EqB (mset M1 11 0 0 0 0) M2 := ⟨fun k _ _ _ => eo k, by rw [eo 11]⟩
  refine ⟨by rw [eo 11]; exact ms_1, by rw [e3, f3]; exact sim_fore hS hV hb hz h10 h40 v, by rw [eo 21, mset_k (by decide), he]; exact ms_1, n, cN, d, (inv2_k hJ hAM hBM).up⟩
theorem st_forex {M M1 M2 : Mem} {n cN d c : Nat} {x w k9 r : Int32} (hI : Inv2 M M n cN d c)
    (h1 : WPost M (fun r M' => False) (foreseeK x w) k9 M1) (h2 : MPost M1 (fun r M' => False) (mforeseeK x w) r M2) : Res M2 c k9 r :=
  st_gen hI h1 h2 (k_fore x w).symm (by unfold foreseeK; (repeat' split) <;> decide) (fun v' Mc hp => hp.elim) (fun v' Mc hp he hq => hp.elim)
theorem st_tidy {M : Mem} {n cN d c : Nat} (hI : Inv2 M M n cN d c) : TidA 3 0 0 (mset (pushM M 0 3) 11 0 0 0 0) (fun r M' => r = fsum 3 (fun i => (pushS M 0 i).1) ∧ ∃ n cN d, Inv2 M' M' n cN d (c + 1)) := by
  have hB : EqB M (mset (pushM M 0 3) 11 0 0 0 0) := ⟨fun k _ _ h => by
    rw [mset_k h]
    unfold pushM
    rw [shM_k (by omega)], by
    rw [mset_s (by decide)]
    unfold pushM
    rw [shM_k (by decide)]⟩
  have hJ := inv2_k hI (EqA.refl M) hB
  obtain ⟨hS, ⟨i1, i2, i3, i4, i5, i6⟩, hb, hz, hR, h40, h10, hc, hr, hd, hdc⟩ := hJ
  refine sim_tidy hS h40 hR _ (fun B' q1 q2 q3 => ⟨rfl, n, cN, d, inv2_k (A := pushM M 0 3) (B := B') ⟨q3, ⟨fun t ht => by rw [q2.2 t 0 (by decide) (by decide)]; exact i1 t ht, fun i hi => by rw [q2.1 8 (by decide) (by decide)]; exact i2 i hi, fun t ht => by rw [q2.2 t 1 (by decide) (by decide)]; exact i3 t ht, fun t ht => by rw [q2.2 t 2 (by decide) (by decide)]; exact i4 t ht, fun t ht hs => by rw [q2.2 t 6 (by decide) (by decide)] at hs; rw [q2.2 t 8 (by decide) (by decide)]; exact i5 t ht hs, fun t ht => by rw [q2.2 t 6 (by decide) (by decide)]; exact i6 t ht⟩, fun w hw => ?_, fun w hw => ?_, q1, h40, h10, ?_, fun t ht => by rw [q2.2 t 9 (by decide) (by decide)]; exact hr t ht, ?_, by omega⟩ (fun k hk => by rw [q2.1 k (by omega) (by omega), mset_k (by omega)]) (EqB.refl _)⟩)
  · rw [q2.1 12 (by decide) (by decide), q2.1 13 (by decide) (by decide)]
    exact hb w hw
  · rw [q2.1 12 (by decide) (by decide), q2.1 13 (by decide) (by decide)]
    exact hz w hw
  · rw [q2.1 11 (by decide) (by decide)]
    exact hc
  · exact hd
theorem st_fetched {M : Mem} {n cN d c : Nat} (hI : Inv2 M M n cN d c) : fetV M 0 n = mfetV M n ∧ ∃ n cN d, Inv2 (mset M 11 0 0 0 0) (mset M 11 0 0 0 0) n cN d (c + 1) :=
  ⟨sim_fet hI.1 hI.2.1, n, cN, d, (inv2_k hI (eqA_11 _ _) (eqB_11 _ _)).up⟩
theorem st_digest {M : Mem} {n cN d c : Nat} (hI : Inv2 M M n cN d c) : dgA M n cN = mdgA (mset M 11 0 0 0 0) n cN ∧ ∃ n cN d, Inv2 (mset M 11 0 0 0 0) (mset M 11 0 0 0 0) n cN d (c + 1) := by
  have hJ := inv2_k hI (EqA.refl M) (eqB_11 M 0)
  exact ⟨sim_dg hJ.1 hJ.2.2.2.2.2.2.2.1 hJ.2.2.1 (fun t ht => lie_of hJ.1 (hJ.2.2.2.2.1.2 t ht)), n, cN, d, (inv2_k hI (eqA_11 _ _) (eqB_11 _ _)).up⟩
