/-! behind a call of the class the reference's part stands; what holds at the start -/
theorem eb_customer {M M1 : Mem} {n cN : Nat} {x w k9 : Int32}
    (h1 : WPost M (fun r M' => customerK M x w = 0 ∧ ∃ i j, i < cN ∧ j < 5 ∧ x = nI i ∧ w = nI j ∧ r = custV M 0 n i j ∧ M' = M) (customerK M x w) k9 M1) : EqB M M1 := by
  have hB : EqB M M1 := wp_eqB h1 (fun v Mc hp => by obtain ⟨-, i, j, -, -, -, -, -, e⟩ := hp; rw [e]; exact EqB.refl _)
  exact hB
theorem eb_ticket {M M1 : Mem} {n cN : Nat} {x w k9 : Int32}
    (h1 : WPost M (fun r M' => ticketK M x w = 0 ∧ ∃ i j, i < n ∧ j < 11 ∧ x = nI i ∧ w = nI j ∧ r = tickV M 0 i j ∧ M' = M) (ticketK M x w) k9 M1) : EqB M M1 := by
  have hB : EqB M M1 := wp_eqB h1 (fun v Mc hp => by obtain ⟨-, i, j, -, -, -, -, -, e⟩ := hp; rw [e]; exact EqB.refl _)
  exact hB
theorem eb_owes {M M1 : Mem} {n cN : Nat} {x k9 : Int32}
    (h1 : WPost M (fun r M' => owesK M x = 0 ∧ ∃ i, i < n ∧ x = nI i ∧ r = debtV M 0 i (M 0 0 0 0) ∧ M' = M) (owesK M x) k9 M1) : EqB M M1 := by
  have hB : EqB M M1 := wp_eqB h1 (fun v Mc hp => by obtain ⟨-, i, -, -, -, e⟩ := hp; rw [e]; exact EqB.refl _)
  exact hB
theorem eb_room {M M1 : Mem} {n cN : Nat} {w k9 : Int32}
    (h1 : WPost M (fun r M' => roomK w = 0 ∧ r = spotF M 0 w 3 0 ∧ M' = M) (roomK w) k9 M1) : EqB M M1 := by
  have hB : EqB M M1 := wp_eqB h1 (fun v Mc hp => by obtain ⟨-, -, e⟩ := hp; rw [e]; exact EqB.refl _)
  exact hB
theorem eb_count {M M1 : Mem} {n cN : Nat} {w k9 : Int32}
    (h1 : WPost M (fun r M' => countK w = 0 ∧ ∃ j, j < 11 ∧ w = nI j ∧ r = cntV M 0 n j ∧ M' = M) (countK w) k9 M1) : EqB M M1 := by
  have hB : EqB M M1 := wp_eqB h1 (fun v Mc hp => by obtain ⟨-, j, -, -, -, e⟩ := hp; rw [e]; exact EqB.refl _)
  exact hB
theorem eb_best {M M1 : Mem} {n cN : Nat} {x k9 : Int32}
    (h1 : WPost M (fun r M' => bestK M x = 0 ∧ ∃ i, i < cN ∧ x = nI i ∧ r = bestF M 0 i (M 0 0 0 0) n 0 (-1) 0 ∧ M' = M) (bestK M x) k9 M1) : EqB M M1 := by
  have hB : EqB M M1 := wp_eqB h1 (fun v Mc hp => by obtain ⟨-, i, -, -, -, e⟩ := hp; rw [e]; exact EqB.refl _)
  exact hB
theorem eb_raise {M M1 : Mem} {n cN : Nat} {x k9 : Int32}
    (h1 : WPost M (fun r M' => raiseK x = 0 ∧ r = raiF (srtF (putP (fun t => decide (M 2 0 t 7 = 2)) (fun t => M 2 0 t 8) (M 5 0 0) n).2 ((putP (fun t => decide (M 2 0 t 7 = 2)) (fun t => M 2 0 t 8) (M 5 0 0) n).1 - 1)) x (putP (fun t => decide (M 2 0 t 7 = 2)) (fun t => M 2 0 t 8) (M 5 0 0) n).1 (putP (fun t => decide (M 2 0 t 7 = 2)) (fun t => M 2 0 t 8) (M 5 0 0) n).1 0 ∧ M' = rset M 5 0 0 (srtF (putP (fun t => decide (M 2 0 t 7 = 2)) (fun t => M 2 0 t 8) (M 5 0 0) n).2 ((putP (fun t => decide (M 2 0 t 7 = 2)) (fun t => M 2 0 t 8) (M 5 0 0) n).1 - 1))) (raiseK x) k9 M1) : EqB M M1 := by
  have hB : EqB M M1 := wp_eqB h1 (fun v Mc hp => by obtain ⟨-, -, e⟩ := hp; rw [e]; exact eqB_5 _ _)
  exact hB
theorem eb_most {M M1 : Mem} {n cN : Nat} {x k9 : Int32}
    (h1 : WPost M (fun r M' => mostK M x = 0 ∧ ∃ i, i < cN ∧ x = nI i ∧ r = mosF (srtF (putP (fun t => decide (M 2 0 t 7 = 0 ∧ M 2 0 t 0 = nI i)) (fun t => debtV M 0 t (M 0 0 0 0)) (M 5 0 0) n).2 ((putP (fun t => decide (M 2 0 t 7 = 0 ∧ M 2 0 t 0 = nI i)) (fun t => debtV M 0 t (M 0 0 0 0)) (M 5 0 0) n).1 - 1)) (putP (fun t => decide (M 2 0 t 7 = 0 ∧ M 2 0 t 0 = nI i)) (fun t => debtV M 0 t (M 0 0 0 0)) (M 5 0 0) n).1 0 (M 1 0 i 0) ∧ M' = rset M 5 0 0 (srtF (putP (fun t => decide (M 2 0 t 7 = 0 ∧ M 2 0 t 0 = nI i)) (fun t => debtV M 0 t (M 0 0 0 0)) (M 5 0 0) n).2 ((putP (fun t => decide (M 2 0 t 7 = 0 ∧ M 2 0 t 0 = nI i)) (fun t => debtV M 0 t (M 0 0 0 0)) (M 5 0 0) n).1 - 1))) (mostK M x) k9 M1) : EqB M M1 := by
  have hB : EqB M M1 := wp_eqB h1 (fun v Mc hp => by obtain ⟨-, i, -, -, -, e⟩ := hp; rw [e]; exact eqB_5 _ _)
  exact hB
theorem eb_at {M M1 : Mem} {n cN : Nat} {sh pl k9 : Int32}
    (h1 : (k9 = 0 ∧ ∃ v9 M', (∃ i p : Nat, i < 3 ∧ p < 10 * (i + 1) ∧ sh = nI i ∧ pl = nI p ∧ v9 = M 4 0 i p ∧ M' = M) ∧ M1 = mset M' 21 0 0 0 v9) ∨ (M1 = M ∧ ¬ plcP sh pl ∧ k9 = 1)) : EqB M M1 := by
  have h1b : WPost M (fun v9 M' => ∃ i p : Nat, i < 3 ∧ p < 10 * (i + 1) ∧ sh = nI i ∧ pl = nI p ∧ v9 = M 4 0 i p ∧ M' = M) (matK sh pl) k9 M1 := by
    rcases h1 with h | ⟨a, b, e⟩
    · exact Or.inl h
    · have e2 : matK sh pl = 1 := by
        unfold matK
        split
        · rename_i z
          exact absurd ((at_k sh pl).mp (if_pos z)) b
        · rfl
      exact Or.inr ⟨a, fun z => b ((at_k sh pl).mp z), by rw [e, e2]; rfl⟩
  have hB : EqB M M1 := wp_eqB h1b (fun v Mc hp => by obtain ⟨i, p, -, -, -, -, -, e⟩ := hp; rw [e]; exact EqB.refl _)
  exact hB
theorem eb_come {M M1 : Mem} {n cN : Nat} {x k9 : Int32}
    (h1 : WPost M (fun r M' => comeK M x = 0 ∧ cN < 10 ∧ r = nI cN ∧ M' = mset (mset (mset M 1 0 cN 0 x) 1 0 cN 1 5) 0 0 0 3 (nI (cN + 1))) (comeK M x) k9 M1) : EqB M M1 := by
  have hB : EqB M M1 := wp_eqB h1 (fun v Mc hp => by
    obtain ⟨-, -, -, e⟩ := hp
    rw [e]
    exact ⟨fun k _ _ _ => by rw [mset_k (by omega), mset_k (by omega), mset_k (by omega)], by rw [mset_k (by decide), mset_k (by decide), mset_k (by decide)]⟩)
  exact hB
theorem eb_earn {M M1 : Mem} {n cN : Nat} {q x k9 : Int32}
    (h1 : WPost M (fun r M' => earnK M q x = 0 ∧ ∃ i, i < cN ∧ q = nI i ∧ r = M 1 0 i 0 + x ∧ M' = mset M 1 0 i 0 (M 1 0 i 0 + x)) (earnK M q x) k9 M1) : EqB M M1 := by
  have hB : EqB M M1 := wp_eqB h1 (fun v Mc hp => by
    obtain ⟨-, i, -, -, -, e⟩ := hp
    rw [e]
    exact ⟨fun k _ _ _ => by rw [mset_k (by omega)], by rw [mset_k (by decide)]⟩)
  exact hB
theorem eb_setBuyer {M M1 : Mem} {n cN : Nat} {q k p k9 : Int32}
    (h1 : WPost M (fun r M' => setBuyerK q k p = 0 ∧ ∃ j, j < 7 ∧ q = nI j ∧ r = M 3 0 j 0 ∧ M' = mset (mset M 3 0 j 0 k) 3 0 j 1 (if k = -1 then 0 else p)) (setBuyerK q k p) k9 M1) : EqB M M1 := by
  have hB : EqB M M1 := wp_eqB h1 (fun v Mc hp => by
    obtain ⟨-, i, -, -, -, e⟩ := hp
    rw [e]
    exact ⟨fun k _ _ _ => by rw [mset_k (by omega), mset_k (by omega)], by rw [mset_k (by decide), mset_k (by decide)]⟩)
  exact hB
theorem eb_renew {M M1 : Mem} {n cN : Nat} {x k9 : Int32}
    (h1 : WPost M (fun r M' => renewK M x = 0 ∧ ∃ i a, i < n ∧ a < cN ∧ x = nI i ∧ M 2 0 i 0 = nI a ∧ r = (intr (M 0 0 0 0) (M 2 0 i 5) (M 2 0 i 4)) ∧ M' = mset (mset (mset (mset (mset (mset M 1 0 a 0 (M 1 0 a 0 - (intr (M 0 0 0 0) (M 2 0 i 5) (M 2 0 i 4)))) 0 0 0 1 (M 0 0 0 1 + (intr (M 0 0 0 0) (M 2 0 i 5) (M 2 0 i 4)))) 0 0 0 2 (M 0 0 0 2 + (intr (M 0 0 0 0) (M 2 0 i 5) (M 2 0 i 4)))) 2 0 i 5 (M 0 0 0 0)) 2 0 i 6 (M 0 0 0 0 + 60)) 2 0 i 9 (M 2 0 i 9 + 1)) (renewK M x) k9 M1) : EqB M M1 := by
  have hB : EqB M M1 := wp_eqB h1 (fun v Mc hp => by
    obtain ⟨-, i, a, -, -, -, -, -, e⟩ := hp
    rw [e]
    exact ⟨fun k _ _ _ => by rw [mset_k (by omega), mset_k (by omega), mset_k (by omega), mset_k (by omega), mset_k (by omega), mset_k (by omega)], by rw [mset_k (by decide), mset_k (by decide), mset_k (by decide), mset_k (by decide), mset_k (by decide), mset_k (by decide)]⟩)
  exact hB
theorem eb_fetch {M M1 : Mem} {n cN : Nat} {x k9 : Int32}
    (h1 : WPost M (fun r M' => fetchK M x = 0 ∧ ∃ i a, i < n ∧ a < cN ∧ x = nI i ∧ M 2 0 i 0 = nI a ∧ r = (debtV M 0 i (M 0 0 0 0)) ∧ M' = mset (clrM (mset (mset (mset (mset M 1 0 a 0 (M 1 0 a 0 - (debtV M 0 i (M 0 0 0 0)))) 0 0 0 1 (M 0 0 0 1 + (debtV M 0 i (M 0 0 0 0)))) 0 0 0 2 (M 0 0 0 2 + (intr (M 0 0 0 0) (M 2 0 i 5) (M 2 0 i 4)))) 2 0 i 7 1) 0 (nI i) 3) 1 0 a 1 (trV (M 1 0 a 1) 1)) (fetchK M x) k9 M1) : EqB M M1 := by
  have hB : EqB M M1 := wp_eqB h1 (fun v Mc hp => by
    obtain ⟨-, i, a, -, -, -, -, -, e⟩ := hp
    rw [e]
    exact ⟨fun k _ _ _ => by rw [mset_k (by omega), clrM_k (by omega), mset_k (by omega), mset_k (by omega), mset_k (by omega), mset_k (by omega)], by rw [mset_k (by decide), clrM_k (by decide), mset_k (by decide), mset_k (by decide), mset_k (by decide), mset_k (by decide)]⟩)
  exact hB
theorem eb_pledge {M M1 : Mem} {n cN : Nat} {x k v w k9 : Int32}
    (h1 : WPost M (fun r M' => pledgeK M x k v w = 0 ∧ ∃ i W h q, i < cN ∧ 1 ≤ W ∧ W ≤ 10 ∧ h < 3 ∧ q + W ≤ 10 * (h + 1) ∧ n < 40 ∧ x = nI i ∧ w = nI W ∧ spotF M 0 w 3 0 = nI (100 * h + q) ∧ r = nI n ∧ M' = addM M 0 i n h q k v w) (pledgeK M x k v w) k9 M1) : EqB M M1 := by
  have hB : EqB M M1 := wp_eqB h1 (fun v' Mc hp => by
    obtain ⟨-, i, W, h, q, -, -, -, -, -, -, -, -, -, -, e⟩ := hp
    rw [e]
    unfold addM
    exact ⟨fun k _ _ _ => by rw [mset_k (by omega), mset_k (by omega), mset_k (by omega), rset_k (by omega), mset_k (by omega), mset_k (by omega), mset_k (by omega), mset_k (by omega), mset_k (by omega), mset_k (by omega), mset_k (by omega), mset_k (by omega), mset_k (by omega), mset_k (by omega)],
      by rw [mset_k (by decide), mset_k (by decide), mset_k (by decide), rset_k (by decide), mset_k (by decide), mset_k (by decide), mset_k (by decide), mset_k (by decide), mset_k (by decide), mset_k (by decide), mset_k (by decide), mset_k (by decide), mset_k (by decide), mset_k (by decide)]⟩)
  exact hB
theorem eb_pass {M M1 : Mem} {n cN : Nat} {x k9 : Int32}
    (h1 : WPost M (fun r M' => passK x = 0 ∧ ∃ D, 1 ≤ D ∧ D ≤ 200 ∧ x = nI D ∧ r = (goN M 0 n D).1 ∧ M' = (goN M 0 n D).2) (passK x) k9 M1) : EqB M M1 := by
  have hB : EqB M M1 := wp_eqB h1 (fun v' Mc hp => by
    obtain ⟨-, D, -, -, -, -, e⟩ := hp
    rw [e]
    exact ⟨fun k _ _ _ => by rw [goN_k (by omega) (by omega) (by omega) (by omega)], by rw [goN_k (by decide) (by decide) (by decide) (by decide)]⟩)
  exact hB
theorem eb_fore {M M1 : Mem} {n cN v : Nat} {x w k9 : Int32}
    (h1 : WPost M (fun r M' => foreseeK x w = 0 ∧ ∃ D, 1 ≤ D ∧ D ≤ 200 ∧ x = nI D ∧ r = foreV (shopC M 1 0 cN n) n D v ∧ M' = (goN (shopC M 1 0 cN n) 1 n D).2) (foreseeK x w) k9 M1) : EqB M M1 := by
  have hBc : ∀ v' Mc, (foreseeK x w = 0 ∧ ∃ D, 1 ≤ D ∧ D ≤ 200 ∧ x = nI D ∧ v' = foreV (shopC M 1 0 cN n) n D v ∧ Mc = (goN (shopC M 1 0 cN n) 1 n D).2) → EqB M Mc := fun v' Mc hp => by
    obtain ⟨-, D, -, -, -, -, e⟩ := hp
    rw [e]
    exact ⟨fun k _ _ _ => by rw [goN_o (by decide), shopC_sh0], by rw [goN_o (by decide), shopC_sh0]⟩
  have hB : EqB M M1 := wp_eqB h1 hBc
  exact hB
theorem eb_forex {M M1 : Mem} {x w k9 : Int32} (h1 : WPost M (fun r M' => False) (foreseeK x w) k9 M1) : EqB M M1 := wp_eqB h1 (fun v Mc hp => hp.elim)
theorem inv_0 : Inv2 M0 M0 0 0 0 0 :=
  ⟨⟨rfl, rfl, rfl, rfl, rfl, rfl, fun i hi => absurd hi (Nat.not_lt_zero i), fun t ht => absurd ht (Nat.not_lt_zero t), fun h j _ _ => rfl⟩,
    ⟨fun t ht => absurd ht (Nat.not_lt_zero t), fun i hi => absurd hi (Nat.not_lt_zero i), fun t ht => absurd ht (Nat.not_lt_zero t), fun t ht => absurd ht (Nat.not_lt_zero t), fun t ht => absurd ht (Nat.not_lt_zero t), fun t ht => absurd ht (Nat.not_lt_zero t)⟩,
    fun w _ => ⟨rfl, rfl⟩, fun w _ _ => rfl, ⟨fun k _ => Or.inl rfl, fun t ht => absurd ht (Nat.not_lt_zero t)⟩, by decide, by decide, rfl, fun i hi => absurd hi (Nat.not_lt_zero i), rfl, by decide⟩
