/-! calls that only tell -/
theorem st_tell2 {M Mc M1 M2 : Mem} {n cN d c : Nat} {v : Int32} (hI : Inv2 M M n cN d c) (hA : EqA M Mc) (hB : EqB M Mc) (hM1 : M1 = mset Mc 21 0 0 0 v) (hM2 : M2 = mset M1 11 0 0 0 0) : M2 11 0 0 0 = 0 ∧ M2 21 0 0 0 = v ∧ ∃ n' cN' d', Inv2 M2 M2 n' cN' d' (c + 1) :=
  st_tell (inv2_k hI hA hB) hM1 hM2
theorem tell_t {M1 : Mem} : EqB M1 (mset M1 11 0 0 0 0) := eqB_11 _ _
theorem st_customer {M M1 M2 : Mem} {n cN d c : Nat} {x w k9 r : Int32} (hI : Inv2 M M n cN d c)
    (h1 : WPost M (fun r M' => customerK M x w = 0 ∧ ∃ i j, i < cN ∧ j < 5 ∧ x = nI i ∧ w = nI j ∧ r = custV M 0 n i j ∧ M' = M) (customerK M x w) k9 M1)
    (h2 : MPost M1 (fun r M' => ∃ i j, i < cN ∧ j < 5 ∧ x = nI i ∧ w = nI j ∧ r = mcustV M1 n i j ∧ M' = mset M1 11 0 0 0 0) (mcustomerK M1 x w) r M2) : Res M2 c k9 r := by
  have hB : EqB M M1 := wp_eqB h1 (fun v Mc hp => by obtain ⟨-, i, j, -, -, -, -, -, e⟩ := hp; rw [e]; exact EqB.refl _)
  have hJ := inv2_k hI (EqA.refl M) hB
  refine st_gen hI h1 h2 (k_customer hJ.1 hJ.2.2.2.2.2.2.2.1).symm (by unfold customerK; split <;> decide) (fun v Mc hp => hp.1) (fun v Mc hp he hq => ?_)
  obtain ⟨-, i, j, hi, hj, e1, e2, e3, e4⟩ := hp
  obtain ⟨i2, j2, hi2, hj2, f1, f2, f3, f4⟩ := hq
  have h10 := hI.2.2.2.2.2.2.1
  have g1 : i = i2 := nI_inj (by omega) (by omega) (e1.symm.trans f1)
  have g2 : j = j2 := nI_inj (by omega) (by omega) (e2.symm.trans f2)
  subst g1
  subst g2
  obtain ⟨z1, z2, z3⟩ := st_tell hI (by rw [he, e4]) f4
  exact ⟨z1, by rw [e3, f3]; exact sim_cust hJ.1 hi j, z2, z3⟩
theorem st_ticket {M M1 M2 : Mem} {n cN d c : Nat} {x w k9 r : Int32} (hI : Inv2 M M n cN d c)
    (h1 : WPost M (fun r M' => ticketK M x w = 0 ∧ ∃ i j, i < n ∧ j < 11 ∧ x = nI i ∧ w = nI j ∧ r = tickV M 0 i j ∧ M' = M) (ticketK M x w) k9 M1)
    (h2 : MPost M1 (fun r M' => ∃ i j, i < n ∧ j < 11 ∧ x = nI i ∧ w = nI j ∧ r = mtickV M1 i j ∧ M' = mset M1 11 0 0 0 0) (mticketK M1 x w) r M2) : Res M2 c k9 r := by
  have hB : EqB M M1 := wp_eqB h1 (fun v Mc hp => by obtain ⟨-, i, j, -, -, -, -, -, e⟩ := hp; rw [e]; exact EqB.refl _)
  have hJ := inv2_k hI (EqA.refl M) hB
  refine st_gen hI h1 h2 (k_ticket hJ.1).symm (by unfold ticketK; split <;> decide) (fun v Mc hp => hp.1) (fun v Mc hp he hq => ?_)
  obtain ⟨-, i, j, hi, hj, e1, e2, e3, e4⟩ := hp
  obtain ⟨i2, j2, hi2, hj2, f1, f2, f3, f4⟩ := hq
  have h40 := hI.2.2.2.2.2.1
  have g1 : i = i2 := nI_inj (by omega) (by omega) (e1.symm.trans f1)
  have g2 : j = j2 := nI_inj (by omega) (by omega) (e2.symm.trans f2)
  subst g1
  subst g2
  obtain ⟨z1, z2, z3⟩ := st_tell hI (by rw [he, e4]) f4
  exact ⟨z1, by rw [e3, f3]; exact sim_tick hJ.1 hi (lie_of hJ.1 (hJ.2.2.2.2.1.2 i hi)) j hj, z2, z3⟩
theorem st_owes {M M1 M2 : Mem} {n cN d c : Nat} {x k9 r : Int32} (hI : Inv2 M M n cN d c)
    (h1 : WPost M (fun r M' => owesK M x = 0 ∧ ∃ i, i < n ∧ x = nI i ∧ r = debtV M 0 i (M 0 0 0 0) ∧ M' = M) (owesK M x) k9 M1)
    (h2 : MPost M1 (fun r M' => ∃ i, i < n ∧ x = nI i ∧ r = owedV M1 0 i ∧ M' = mset M1 11 0 0 0 0) (mowesK M1 x) r M2) : Res M2 c k9 r := by
  have hB : EqB M M1 := wp_eqB h1 (fun v Mc hp => by obtain ⟨-, i, -, -, -, e⟩ := hp; rw [e]; exact EqB.refl _)
  have hJ := inv2_k hI (EqA.refl M) hB
  refine st_gen hI h1 h2 (k_owes hJ.1).symm (by unfold owesK; split <;> decide) (fun v Mc hp => hp.1) (fun v Mc hp he hq => ?_)
  obtain ⟨-, i, hi, e1, e3, e4⟩ := hp
  obtain ⟨i2, hi2, f1, f3, f4⟩ := hq
  have h40 := hI.2.2.2.2.2.1
  have g1 : i = i2 := nI_inj (by omega) (by omega) (e1.symm.trans f1)
  subst g1
  obtain ⟨z1, z2, z3⟩ := st_tell hI (by rw [he, e4]) f4
  exact ⟨z1, by rw [e3, f3]; exact sim_owed hJ.1 hi, z2, z3⟩
theorem st_room {M M1 M2 : Mem} {n cN d c : Nat} {w k9 r : Int32} (hI : Inv2 M M n cN d c)
    (h1 : WPost M (fun r M' => roomK w = 0 ∧ r = spotF M 0 w 3 0 ∧ M' = M) (roomK w) k9 M1)
    (h2 : MPost M1 (fun r M' => ∃ W, 1 ≤ W ∧ W ≤ 10 ∧ w = nI W ∧ r = mroomV M1 W ∧ M' = mset M1 11 0 0 0 0) (mroomK w) r M2) : Res M2 c k9 r := by
  have hB : EqB M M1 := wp_eqB h1 (fun v Mc hp => by obtain ⟨-, -, e⟩ := hp; rw [e]; exact EqB.refl _)
  have hJ := inv2_k hI (EqA.refl M) hB
  refine st_gen hI h1 h2 (k_room w).symm (by unfold roomK; split <;> decide) (fun v Mc hp => hp.1) (fun v Mc hp he hq => ?_)
  obtain ⟨-, e3, e4⟩ := hp
  obtain ⟨W, W1, W2, f1, f3, f4⟩ := hq
  obtain ⟨z1, z2, z3⟩ := st_tell hI (by rw [he, e4]) f4
  exact ⟨z1, by rw [e3, f3, f1]; exact sim_room hJ.1 W1 (by omega), z2, z3⟩
theorem st_count {M M1 M2 : Mem} {n cN d c : Nat} {w k9 r : Int32} (hI : Inv2 M M n cN d c)
    (h1 : WPost M (fun r M' => countK w = 0 ∧ ∃ j, j < 11 ∧ w = nI j ∧ r = cntV M 0 n j ∧ M' = M) (countK w) k9 M1)
    (h2 : MPost M1 (fun r M' => ∃ j, j < 11 ∧ w = nI j ∧ r = mcntV M1 n j ∧ M' = mset M1 11 0 0 0 0) (mcountK w) r M2) : Res M2 c k9 r := by
  have hB : EqB M M1 := wp_eqB h1 (fun v Mc hp => by obtain ⟨-, j, -, -, -, e⟩ := hp; rw [e]; exact EqB.refl _)
  have hJ := inv2_k hI (EqA.refl M) hB
  refine st_gen hI h1 h2 (k_count w).symm (by unfold countK; split <;> decide) (fun v Mc hp => hp.1) (fun v Mc hp he hq => ?_)
  obtain ⟨-, j, hj, e2, e3, e4⟩ := hp
  obtain ⟨j2, hj2, f2, f3, f4⟩ := hq
  have g2 : j = j2 := nI_inj (by omega) (by omega) (e2.symm.trans f2)
  subst g2
  obtain ⟨z1, z2, z3⟩ := st_tell hI (by rw [he, e4]) f4
  exact ⟨z1, by rw [e3, f3]; exact sim_cnt hJ.1 hJ.2.2.2.2.2.2.2.1 j, z2, z3⟩
theorem st_best {M M1 M2 : Mem} {n cN d c : Nat} {x k9 r : Int32} (hI : Inv2 M M n cN d c)
    (h1 : WPost M (fun r M' => bestK M x = 0 ∧ ∃ i, i < cN ∧ x = nI i ∧ r = bestF M 0 i (M 0 0 0 0) n 0 (-1) 0 ∧ M' = M) (bestK M x) k9 M1)
    (h2 : MPost M1 (fun r M' => ∃ i, i < cN ∧ x = nI i ∧ r = mbestF M1 i n 0 (-1) 0 ∧ M' = mset M1 11 0 0 0 0) (mbestK M1 x) r M2) : Res M2 c k9 r := by
  have hB : EqB M M1 := wp_eqB h1 (fun v Mc hp => by obtain ⟨-, i, -, -, -, e⟩ := hp; rw [e]; exact EqB.refl _)
  have hJ := inv2_k hI (EqA.refl M) hB
  refine st_gen hI h1 h2 (k_best hJ.1 hJ.2.2.2.2.2.2.2.1).symm (by unfold bestK; split <;> decide) (fun v Mc hp => hp.1) (fun v Mc hp he hq => ?_)
  obtain ⟨-, i, hi, e1, e3, e4⟩ := hp
  obtain ⟨i2, hi2, f1, f3, f4⟩ := hq
  have h10 := hI.2.2.2.2.2.2.1
  have g1 : i = i2 := nI_inj (by omega) (by omega) (e1.symm.trans f1)
  subst g1
  obtain ⟨z1, z2, z3⟩ := st_tell hI (by rw [he, e4]) f4
  exact ⟨z1, by rw [e3, f3]; exact sim_best hJ.1 hi n 0 (-1) 0 (by omega), z2, z3⟩
theorem eqA_5 (M : Mem) (f : Nat → Int32) : EqA M (rset M 5 0 0 f) := fun k hk => by rw [rset_k (by omega)]
theorem eqB_5 (M : Mem) (f : Nat → Int32) : EqB M (rset M 5 0 0 f) := ⟨fun k h1 h2 _ => by rw [rset_k (by omega)], by rw [rset_k (by decide)]⟩
theorem st_raise {M M1 M2 : Mem} {n cN d c : Nat} {x k9 r : Int32} (hI : Inv2 M M n cN d c)
    (h1 : WPost M (fun r M' => raiseK x = 0 ∧ r = raiF (srtF (putP (fun t => decide (M 2 0 t 7 = 2)) (fun t => M 2 0 t 8) (M 5 0 0) n).2 ((putP (fun t => decide (M 2 0 t 7 = 2)) (fun t => M 2 0 t 8) (M 5 0 0) n).1 - 1)) x (putP (fun t => decide (M 2 0 t 7 = 2)) (fun t => M 2 0 t 8) (M 5 0 0) n).1 (putP (fun t => decide (M 2 0 t 7 = 2)) (fun t => M 2 0 t 8) (M 5 0 0) n).1 0 ∧ M' = rset M 5 0 0 (srtF (putP (fun t => decide (M 2 0 t 7 = 2)) (fun t => M 2 0 t 8) (M 5 0 0) n).2 ((putP (fun t => decide (M 2 0 t 7 = 2)) (fun t => M 2 0 t 8) (M 5 0 0) n).1 - 1))) (raiseK x) k9 M1)
    (h2 : MPost M1 (fun r M' => r = mraiV M1 n x ∧ M' = mset M1 11 0 0 0 0) (mraiseK x) r M2) : Res M2 c k9 r := by
  have hB : EqB M M1 := wp_eqB h1 (fun v Mc hp => by obtain ⟨-, -, e⟩ := hp; rw [e]; exact eqB_5 _ _)
  have hJ := inv2_k hI (EqA.refl M) hB
  refine st_gen hI h1 h2 (k_raise x).symm (by unfold raiseK; split <;> decide) (fun v Mc hp => hp.1) (fun v Mc hp he hq => ?_)
  obtain ⟨-, e3, e4⟩ := hp
  obtain ⟨f3, f4⟩ := hq
  obtain ⟨z1, z2, z3⟩ := st_tell2 hI (by rw [e4]; exact eqA_5 _ _) (by rw [e4]; exact eqB_5 _ _) he f4
  exact ⟨z1, by rw [e3, f3]; exact sim_raise hJ.1 hJ.2.1, z2, z3⟩
theorem st_most {M M1 M2 : Mem} {n cN d c : Nat} {x k9 r : Int32} (hI : Inv2 M M n cN d c)
    (h1 : WPost M (fun r M' => mostK M x = 0 ∧ ∃ i, i < cN ∧ x = nI i ∧ r = mosF (srtF (putP (fun t => decide (M 2 0 t 7 = 0 ∧ M 2 0 t 0 = nI i)) (fun t => debtV M 0 t (M 0 0 0 0)) (M 5 0 0) n).2 ((putP (fun t => decide (M 2 0 t 7 = 0 ∧ M 2 0 t 0 = nI i)) (fun t => debtV M 0 t (M 0 0 0 0)) (M 5 0 0) n).1 - 1)) (putP (fun t => decide (M 2 0 t 7 = 0 ∧ M 2 0 t 0 = nI i)) (fun t => debtV M 0 t (M 0 0 0 0)) (M 5 0 0) n).1 0 (M 1 0 i 0) ∧ M' = rset M 5 0 0 (srtF (putP (fun t => decide (M 2 0 t 7 = 0 ∧ M 2 0 t 0 = nI i)) (fun t => debtV M 0 t (M 0 0 0 0)) (M 5 0 0) n).2 ((putP (fun t => decide (M 2 0 t 7 = 0 ∧ M 2 0 t 0 = nI i)) (fun t => debtV M 0 t (M 0 0 0 0)) (M 5 0 0) n).1 - 1))) (mostK M x) k9 M1)
    (h2 : MPost M1 (fun r M' => ∃ i, i < cN ∧ x = nI i ∧ r = mmosF M1 i n (n + 1) 0 (M1 7 0 0 i) 0 ∧ M' = mset M1 11 0 0 0 0) (mmostK M1 x) r M2) : Res M2 c k9 r := by
  have hB : EqB M M1 := wp_eqB h1 (fun v Mc hp => by obtain ⟨-, i, -, -, -, e⟩ := hp; rw [e]; exact eqB_5 _ _)
  have hJ := inv2_k hI (EqA.refl M) hB
  refine st_gen hI h1 h2 (k_most hJ.1 hJ.2.2.2.2.2.2.2.1).symm (by unfold mostK; split <;> decide) (fun v Mc hp => hp.1) (fun v Mc hp he hq => ?_)
  obtain ⟨-, i, hi, e1, e3, e4⟩ := hp
  obtain ⟨i2, hi2, f1, f3, f4⟩ := hq
  have h10 := hI.2.2.2.2.2.2.1
  have g1 : i = i2 := nI_inj (by omega) (by omega) (e1.symm.trans f1)
  subst g1
  obtain ⟨z1, z2, z3⟩ := st_tell2 hI (by rw [e4]; exact eqA_5 _ _) (by rw [e4]; exact eqB_5 _ _) he f4
  exact ⟨z1, by rw [e3, f3]; exact sim_most hJ.1 hi, z2, z3⟩
/-! a place -/
theorem fr_d : ∀ i, i < 3 → fromV (i + 1) - fromV i = nI (10 * (i + 1)) := fun i hi => match i, hi with
  | 0, _ => rfl
  | 1, _ => rfl
  | 2, _ => rfl
theorem at_k (sh pl : Int32) : matK sh pl = 0 ↔ plcP sh pl := by
  unfold matK
  constructor
  · intro h
    by_cases e : (0 ≤ sh ∧ sh ≤ 2) ∧ (0 ≤ pl ∧ pl ≤ fromV (sh.toNatClampNeg + 1) - fromV sh.toNatClampNeg - 1)
    · obtain ⟨i, hi, rfl⟩ := ix_c (n := 3) e.1 (by decide) (by decide)
      have e2 := e.2
      rw [nI_clamp (n31 (by omega)), fr_d i hi] at e2
      obtain ⟨p, hp, rfl⟩ := ix_of e2 (by omega)
      exact ⟨i, p, hi, hp, rfl, rfl⟩
    · rw [if_neg e] at h
      exact absurd h (by decide)
  · rintro ⟨i, p, hi, hp, rfl, rfl⟩
    refine if_pos ⟨⟨nI_pos' (n31 (by omega)), nI_le (b := 2) (by omega) (by decide)⟩, ?_⟩
    rw [nI_clamp (n31 (by omega)), fr_d i hi]
    exact in_of_ix rfl hp (by omega)
theorem st_at {M M1 M2 : Mem} {n cN d c : Nat} {sh pl k9 r : Int32} (hI : Inv2 M M n cN d c)
    (h1 : (k9 = 0 ∧ ∃ v9 M', (∃ i p : Nat, i < 3 ∧ p < 10 * (i + 1) ∧ sh = nI i ∧ pl = nI p ∧ v9 = M 4 0 i p ∧ M' = M) ∧ M1 = mset M' 21 0 0 0 v9) ∨ (M1 = M ∧ ¬ plcP sh pl ∧ k9 = 1))
    (h2 : MPost M1 (fun r M' => ∃ i p, i < 3 ∧ p < 10 * (i + 1) ∧ sh = nI i ∧ pl = nI p ∧ r = M1 10 0 0 (frN i + p) ∧ M' = mset M1 11 0 0 0 0) (matK sh pl) r M2) : Res M2 c k9 r := by
  have h1b : WPost M (fun v9 M' => ∃ i p : Nat, i < 3 ∧ p < 10 * (i + 1) ∧ sh = nI i ∧ pl = nI p ∧ v9 = M 4 0 i p ∧ M' = M) (matK sh pl) k9 M1 := by
    rcases h1 with h | ⟨a, b, e⟩
    · exact Or.inl h
    · have e2 : matK sh pl = 1 := by
        unfold matK
        split
        · rename_i z
          exact absurd ((at_k sh pl).mp (if_pos z)) b
        · rfl
      exact Or.inr ⟨a, fun z => b ((at_k sh pl).mp z), by rw [e, e2]; rfl⟩
  have hB : EqB M M1 := wp_eqB h1b (fun v Mc hp => by obtain ⟨i, p, -, -, -, -, -, e⟩ := hp; rw [e]; exact EqB.refl _)
  have hJ := inv2_k hI (EqA.refl M) hB
  refine st_gen hI h1b h2 rfl (by unfold matK; split <;> decide) (fun v Mc hp => (at_k sh pl).mpr (by obtain ⟨i, p, a1, a2, a3, a4, -, -⟩ := hp; exact ⟨i, p, a1, a2, a3, a4⟩)) (fun v Mc hp he hq => ?_)
  obtain ⟨i, p, hi, hp, e1, e2, e3, e4⟩ := hp
  obtain ⟨i2, p2, hi2, hp2, f1, f2, f3, f4⟩ := hq
  have g1 : i = i2 := nI_inj (by omega) (by omega) (e1.symm.trans f1)
  subst g1
  have g2 : p = p2 := nI_inj (by omega) (by omega) (e2.symm.trans f2)
  subst g2
  obtain ⟨z1, z2, z3⟩ := st_tell hI (by rw [he, e4]) f4
  exact ⟨z1, by rw [e3, f3]; exact hJ.1.2.2.2.2.2.2.2.2 i p hi hp, z2, z3⟩
