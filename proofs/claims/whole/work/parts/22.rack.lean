set_option maxRecDepth 100000 in
set_option maxHeartbeats 4000000 in
theorem m_X2_spotFor (M : Mem) (s : Nat) (w : Int32) (hs : s < 2) : CI yX2_spotFor cX2_spotFor 4 (some .int) 1 0 0 (fun G => [.ref (ad G 15 s 0), .int w]) M (fun r M' => r = spotF M s w 3 0 ∧ M' = M) := by
  refine CI.mk (own := RX2) (by decide +kernel) rfl (fun _ => rfl) (fun _ => Nat.le_of_ble_eq_true rfl) (lv0 := fun G => [some (.ref (ad G 15 s 0)), some (.int w), none, none]) (fun _ => rfl) (fun X G E => ?_)
  have L : ∀ (k : Nat) (i : Nat) (v3 : Option Value), i + k = 3 → spotF M s w 3 0 = spotF M s w k i → Z X G (0, 0) (QI X G (fun r M' => r = spotF M s w 3 0 ∧ M' = M) 0 0) 2 [some (.ref (ad G 15 s 0)), some (.int w), some (.int (nI i)), v3] [] (M) 0 0 := by
    intro k
    induction k with
    | zero =>
      intro i v3 hi hE
      refine z_iload_2 (pc := 2) E dX2_spotFor_2 ?_
      refine z_aload_0 (pc := 3) E dX2_spotFor_3 ?_
      refine z_get (pc := 4) E dX2_spotFor_4 fiX2_14 (ok15 (by omega)) rfl rfl ?_
      refine z_alen (t0 := 3) (pc := 7) E dX2_spotFor_7 (ok20 (by omega)) rfl rfl rfl ?_
      refine z_icmp_ge (pc := 8) (tgt := 40) E dX2_spotFor_8 (by decide) (fun h8 => ?_) (fun h8 => absurd h8 (fun z => z (ct_ge rfl (by omega) (by omega))))
      refine z_iconst (v := -1) (pc := 40) E dX2_spotFor_40 (by decide) ?_
      exact z_iret (pc := 41) E dX2_spotFor_41 ⟨by rw [hE]; rfl, rfl⟩
    | succ k ih =>
      intro i v3 hi hE
      refine z_iload_2 (pc := 2) E dX2_spotFor_2 ?_
      refine z_aload_0 (pc := 3) E dX2_spotFor_3 ?_
      refine z_get (pc := 4) E dX2_spotFor_4 fiX2_14 (ok15 (by omega)) rfl rfl ?_
      refine z_alen (t0 := 3) (pc := 7) E dX2_spotFor_7 (ok20 (by omega)) rfl rfl rfl ?_
      refine z_icmp_ge (pc := 8) (tgt := 40) E dX2_spotFor_8 (by decide) (fun h8 => absurd h8 (ct_lt rfl (by omega) (by omega))) (fun h8 => ?_)
      refine z_aload_0 (pc := 11) E dX2_spotFor_11 ?_
      refine z_get (pc := 12) E dX2_spotFor_12 fiX2_14 (ok15 (by omega)) rfl rfl ?_
      refine z_iload_2 (pc := 15) E dX2_spotFor_15 ?_
      refine z_aald (t0 := 3) (pc := 16) E dX2_spotFor_16 (ok20 (by omega)) rfl rfl rfl (by omega) (by omega) rfl ?_
      refine z_iload_1 (pc := 17) E dX2_spotFor_17 ?_
      refine z_ivp (pc := 18) E (m_X3_gapFor _ _ _ _ hs (by omega)) rfl rfl kX3_gapFor mlX2_28 dX2_spotFor_18 (ok16 (by omega) (by omega)) rfl rfl rfl (Nat.le_of_ble_eq_true rfl) rfl (by decide) (by decide) ⟨by omega, by omega⟩ ?_
      refine z_istore_3 (pc := 21) E dX2_spotFor_21 rfl ?_
      refine z_iload_3 (pc := 22) E dX2_spotFor_22 ?_
      refine z_iconst (v := -1) (pc := 23) E dX2_spotFor_23 (by decide) ?_
      refine z_icmp_eq (pc := 24) (tgt := 34) E dX2_spotFor_24 (by decide) (fun h24 => ?_) (fun h24 => ?_)
      · refine z_iinc_2 (pc := 34) E dX2_spotFor_34 (nI_1 i) rfl ?_
        refine z_goto (pc := 37) (tgt := 2) E dX2_spotFor_37 (by decide) ?_
        exact ih (i + 1) _ (by omega) (by rw [hE]; exact if_pos h24)
      · refine z_bipush (v := 100) (pc := 27) E dX2_spotFor_27 (by decide) ?_
        refine z_iload_2 (pc := 29) E dX2_spotFor_29 ?_
        refine z_imul (pc := 30) E dX2_spotFor_30 ?_
        refine z_iload_3 (pc := 31) E dX2_spotFor_31 ?_
        refine z_iadd (pc := 32) E dX2_spotFor_32 ?_
        exact z_iret (pc := 33) E dX2_spotFor_33 ⟨by rw [hE]; exact (if_neg h24).symm, rfl⟩
  refine z_iconst (v := 0) (pc := 0) E dX2_spotFor_0 (by decide) ?_
  refine z_istore_2 (pc := 1) E dX2_spotFor_1 rfl ?_
  exact L 3 0 _ (by omega) rfl

set_option maxRecDepth 100000 in
set_option maxHeartbeats 4000000 in
theorem m_X2_shelfOf (M : Mem) (s : Nat) (t : Int32) (hs : s < 2) : CI yX2_shelfOf cX2_shelfOf 3 (some .int) 1 0 0 (fun G => [.ref (ad G 15 s 0), .int t]) M (fun r M' => r = shelfF M s t 3 0 ∧ M' = M) := by
  refine CI.mk (own := RX2) (by decide +kernel) rfl (fun _ => rfl) (fun _ => Nat.le_of_ble_eq_true rfl) (lv0 := fun G => [some (.ref (ad G 15 s 0)), some (.int t), none]) (fun _ => rfl) (fun X G E => ?_)
  have L : ∀ (k : Nat) (i : Nat), i + k = 3 → shelfF M s t 3 0 = shelfF M s t k i → Z X G (0, 0) (QI X G (fun r M' => r = shelfF M s t 3 0 ∧ M' = M) 0 0) 2 [some (.ref (ad G 15 s 0)), some (.int t), some (.int (nI i))] [] (M) 0 0 := by
    intro k
    induction k with
    | zero =>
      intro i hi hE
      refine z_iload_2 (pc := 2) E dX2_shelfOf_2 ?_
      refine z_aload_0 (pc := 3) E dX2_shelfOf_3 ?_
      refine z_get (pc := 4) E dX2_shelfOf_4 fiX2_14 (ok15 (by omega)) rfl rfl ?_
      refine z_alen (t0 := 3) (pc := 7) E dX2_shelfOf_7 (ok20 (by omega)) rfl rfl rfl ?_
      refine z_icmp_ge (pc := 8) (tgt := 33) E dX2_shelfOf_8 (by decide) (fun h8 => ?_) (fun h8 => absurd h8 (fun z => z (ct_ge rfl (by omega) (by omega))))
      refine z_iconst (v := -1) (pc := 33) E dX2_shelfOf_33 (by decide) ?_
      exact z_iret (pc := 34) E dX2_shelfOf_34 ⟨by rw [hE]; rfl, rfl⟩
    | succ k ih =>
      intro i hi hE
      refine z_iload_2 (pc := 2) E dX2_shelfOf_2 ?_
      refine z_aload_0 (pc := 3) E dX2_shelfOf_3 ?_
      refine z_get (pc := 4) E dX2_shelfOf_4 fiX2_14 (ok15 (by omega)) rfl rfl ?_
      refine z_alen (t0 := 3) (pc := 7) E dX2_shelfOf_7 (ok20 (by omega)) rfl rfl rfl ?_
      refine z_icmp_ge (pc := 8) (tgt := 33) E dX2_shelfOf_8 (by decide) (fun h8 => absurd h8 (ct_lt rfl (by omega) (by omega))) (fun h8 => ?_)
      refine z_aload_0 (pc := 11) E dX2_shelfOf_11 ?_
      refine z_get (pc := 12) E dX2_shelfOf_12 fiX2_14 (ok15 (by omega)) rfl rfl ?_
      refine z_iload_2 (pc := 15) E dX2_shelfOf_15 ?_
      refine z_aald (t0 := 3) (pc := 16) E dX2_shelfOf_16 (ok20 (by omega)) rfl rfl rfl (by omega) (by omega) rfl ?_
      refine z_iload_1 (pc := 17) E dX2_shelfOf_17 ?_
      refine z_ivp (pc := 18) E (m_X3_leftmostOf _ _ _ _ hs (by omega)) rfl rfl kX3_leftmostOf mlX2_46 dX2_shelfOf_18 (ok16 (by omega) (by omega)) rfl rfl rfl (Nat.le_of_ble_eq_true rfl) rfl (by decide) (by decide) ⟨by omega, by omega⟩ ?_
      refine z_iconst (v := -1) (pc := 21) E dX2_shelfOf_21 (by decide) ?_
      refine z_icmp_eq (pc := 22) (tgt := 27) E dX2_shelfOf_22 (by decide) (fun h22 => ?_) (fun h22 => ?_)
      · refine z_iinc_2 (pc := 27) E dX2_shelfOf_27 (nI_1 i) rfl ?_
        refine z_goto (pc := 30) (tgt := 2) E dX2_shelfOf_30 (by decide) ?_
        exact ih (i + 1) (by omega) (by rw [hE]; exact if_pos h22)
      · refine z_iload_2 (pc := 25) E dX2_shelfOf_25 ?_
        exact z_iret (pc := 26) E dX2_shelfOf_26 ⟨by rw [hE]; exact (if_neg h22).symm, rfl⟩
  refine z_iconst (v := 0) (pc := 0) E dX2_shelfOf_0 (by decide) ?_
  refine z_istore_2 (pc := 1) E dX2_shelfOf_1 rfl ?_
  exact L 3 0 (by omega) rfl

set_option maxRecDepth 100000 in
set_option maxHeartbeats 4000000 in
theorem m_X2_leftmostOf (M : Mem) (s : Nat) (t : Int32) (hs : s < 2) : CI yX2_leftmostOf cX2_leftmostOf 4 (some .int) 1 0 0 (fun G => [.ref (ad G 15 s 0), .int t]) M (fun r M' => r = leftR M s t 3 0 ∧ M' = M) := by
  refine CI.mk (own := RX2) (by decide +kernel) rfl (fun _ => rfl) (fun _ => Nat.le_of_ble_eq_true rfl) (lv0 := fun G => [some (.ref (ad G 15 s 0)), some (.int t), none, none]) (fun _ => rfl) (fun X G E => ?_)
  have L : ∀ (k : Nat) (i : Nat) (v3 : Option Value), i + k = 3 → leftR M s t 3 0 = leftR M s t k i → Z X G (0, 0) (QI X G (fun r M' => r = leftR M s t 3 0 ∧ M' = M) 0 0) 2 [some (.ref (ad G 15 s 0)), some (.int t), some (.int (nI i)), v3] [] (M) 0 0 := by
    intro k
    induction k with
    | zero =>
      intro i v3 hi hE
      refine z_iload_2 (pc := 2) E dX2_leftmostOf_2 ?_
      refine z_aload_0 (pc := 3) E dX2_leftmostOf_3 ?_
      refine z_get (pc := 4) E dX2_leftmostOf_4 fiX2_14 (ok15 (by omega)) rfl rfl ?_
      refine z_alen (t0 := 3) (pc := 7) E dX2_leftmostOf_7 (ok20 (by omega)) rfl rfl rfl ?_
      refine z_icmp_ge (pc := 8) (tgt := 35) E dX2_leftmostOf_8 (by decide) (fun h8 => ?_) (fun h8 => absurd h8 (fun z => z (ct_ge rfl (by omega) (by omega))))
      refine z_iconst (v := -1) (pc := 35) E dX2_leftmostOf_35 (by decide) ?_
      exact z_iret (pc := 36) E dX2_leftmostOf_36 ⟨by rw [hE]; rfl, rfl⟩
    | succ k ih =>
      intro i v3 hi hE
      refine z_iload_2 (pc := 2) E dX2_leftmostOf_2 ?_
      refine z_aload_0 (pc := 3) E dX2_leftmostOf_3 ?_
      refine z_get (pc := 4) E dX2_leftmostOf_4 fiX2_14 (ok15 (by omega)) rfl rfl ?_
      refine z_alen (t0 := 3) (pc := 7) E dX2_leftmostOf_7 (ok20 (by omega)) rfl rfl rfl ?_
      refine z_icmp_ge (pc := 8) (tgt := 35) E dX2_leftmostOf_8 (by decide) (fun h8 => absurd h8 (ct_lt rfl (by omega) (by omega))) (fun h8 => ?_)
      refine z_aload_0 (pc := 11) E dX2_leftmostOf_11 ?_
      refine z_get (pc := 12) E dX2_leftmostOf_12 fiX2_14 (ok15 (by omega)) rfl rfl ?_
      refine z_iload_2 (pc := 15) E dX2_leftmostOf_15 ?_
      refine z_aald (t0 := 3) (pc := 16) E dX2_leftmostOf_16 (ok20 (by omega)) rfl rfl rfl (by omega) (by omega) rfl ?_
      refine z_iload_1 (pc := 17) E dX2_leftmostOf_17 ?_
      refine z_ivp (pc := 18) E (m_X3_leftmostOf _ _ _ _ hs (by omega)) rfl rfl kX3_leftmostOf mlX2_46 dX2_leftmostOf_18 (ok16 (by omega) (by omega)) rfl rfl rfl (Nat.le_of_ble_eq_true rfl) rfl (by decide) (by decide) ⟨by omega, by omega⟩ ?_
      refine z_istore_3 (pc := 21) E dX2_leftmostOf_21 rfl ?_
      refine z_iload_3 (pc := 22) E dX2_leftmostOf_22 ?_
      refine z_iconst (v := -1) (pc := 23) E dX2_leftmostOf_23 (by decide) ?_
      refine z_icmp_eq (pc := 24) (tgt := 29) E dX2_leftmostOf_24 (by decide) (fun h24 => ?_) (fun h24 => ?_)
      · refine z_iinc_2 (pc := 29) E dX2_leftmostOf_29 (nI_1 i) rfl ?_
        refine z_goto (pc := 32) (tgt := 2) E dX2_leftmostOf_32 (by decide) ?_
        exact ih (i + 1) _ (by omega) (by rw [hE]; exact if_pos h24)
      · refine z_iload_3 (pc := 27) E dX2_leftmostOf_27 ?_
        exact z_iret (pc := 28) E dX2_leftmostOf_28 ⟨by rw [hE]; exact (if_neg h24).symm, rfl⟩
  refine z_iconst (v := 0) (pc := 0) E dX2_leftmostOf_0 (by decide) ?_
  refine z_istore_2 (pc := 1) E dX2_leftmostOf_1 rfl ?_
  exact L 3 0 _ (by omega) rfl

set_option maxRecDepth 100000 in
set_option maxHeartbeats 4000000 in
theorem m_X2_taken (M : Mem) (s : Nat) (hs : s < 2) : CI yX2_taken cX2_taken 3 (some .int) 1 0 0 (fun G => [.ref (ad G 15 s 0)]) M (fun r M' => r = fsum 3 (takenS M s) ∧ M' = M) := by
  refine CI.mk (own := RX2) (by decide +kernel) rfl (fun _ => rfl) (fun _ => Nat.le_of_ble_eq_true rfl) (lv0 := fun G => [some (.ref (ad G 15 s 0)), none, none]) (fun _ => rfl) (fun X G E => ?_)
  have L : ∀ (k : Nat) (i : Nat), i + k = 3 → Z X G (0, 0) (QI X G (fun r M' => r = fsum 3 (takenS M s) ∧ M' = M) 0 0) 4 [some (.ref (ad G 15 s 0)), some (.int (fsum i (takenS M s))), some (.int (nI i))] [] (M) 0 0 := by
    intro k
    induction k with
    | zero =>
      intro i hi
      obtain rfl : i = 3 := by omega
      refine z_iload_2 (pc := 4) E dX2_taken_4 ?_
      refine z_aload_0 (pc := 5) E dX2_taken_5 ?_
      refine z_get (pc := 6) E dX2_taken_6 fiX2_14 (ok15 (by omega)) rfl rfl ?_
      refine z_alen (t0 := 3) (pc := 9) E dX2_taken_9 (ok20 (by omega)) rfl rfl rfl ?_
      refine z_icmp_ge (pc := 10) (tgt := 31) E dX2_taken_10 (by decide) (fun h10 => ?_) (fun h10 => absurd h10 (fun z => z (ct_ge rfl (by omega) (by omega))))
      refine z_iload_1 (pc := 31) E dX2_taken_31 ?_
      exact z_iret (pc := 32) E dX2_taken_32 ⟨rfl, rfl⟩
    | succ k ih =>
      intro i hi
      refine z_iload_2 (pc := 4) E dX2_taken_4 ?_
      refine z_aload_0 (pc := 5) E dX2_taken_5 ?_
      refine z_get (pc := 6) E dX2_taken_6 fiX2_14 (ok15 (by omega)) rfl rfl ?_
      refine z_alen (t0 := 3) (pc := 9) E dX2_taken_9 (ok20 (by omega)) rfl rfl rfl ?_
      refine z_icmp_ge (pc := 10) (tgt := 31) E dX2_taken_10 (by decide) (fun h10 => absurd h10 (ct_lt rfl (by omega) (by omega))) (fun h10 => ?_)
      refine z_iload_1 (pc := 13) E dX2_taken_13 ?_
      refine z_aload_0 (pc := 14) E dX2_taken_14 ?_
      refine z_get (pc := 15) E dX2_taken_15 fiX2_14 (ok15 (by omega)) rfl rfl ?_
      refine z_iload_2 (pc := 18) E dX2_taken_18 ?_
      refine z_aald (t0 := 3) (pc := 19) E dX2_taken_19 (ok20 (by omega)) rfl rfl rfl (by omega) (by omega) rfl ?_
      refine z_ivp (pc := 20) E (m_X3_taken _ _ _ hs (by omega)) rfl rfl kX3_taken mlX2_49 dX2_taken_20 (ok16 (by omega) (by omega)) rfl rfl rfl (Nat.le_of_ble_eq_true rfl) rfl (by decide) (by decide) ⟨by omega, by omega⟩ ?_
      refine z_iadd (pc := 23) E dX2_taken_23 ?_
      refine z_istore_1 (pc := 24) E dX2_taken_24 rfl ?_
      refine z_iinc_2 (pc := 25) E dX2_taken_25 (nI_1 i) rfl ?_
      refine z_goto (pc := 28) (tgt := 4) E dX2_taken_28 (by decide) ?_
      exact ih (i + 1) (by omega)
  refine z_iconst (v := 0) (pc := 0) E dX2_taken_0 (by decide) ?_
  refine z_istore_1 (pc := 1) E dX2_taken_1 rfl ?_
  refine z_iconst (v := 0) (pc := 2) E dX2_taken_2 (by decide) ?_
  refine z_istore_2 (pc := 3) E dX2_taken_3 rfl ?_
  exact L 3 0 (by omega)

set_option maxRecDepth 100000 in
set_option maxHeartbeats 4000000 in
theorem m_X2_clear (M : Mem) (s : Nat) (t : Int32) (hs : s < 2) : CV yX2_clear cX2_clear 3 none 1 0 0 (fun G => [.ref (ad G 15 s 0), .int t]) M (fun M' => M' = clrM M s t 3) := by
  refine CV.mk (own := RX2) (by decide +kernel) rfl (fun _ => rfl) (fun _ => Nat.le_of_ble_eq_true rfl) (lv0 := fun G => [some (.ref (ad G 15 s 0)), some (.int t), none]) (fun _ => rfl) (fun X G E => ?_)
  have L : ∀ (k : Nat) (i : Nat), i + k = 3 → Z X G (0, 0) (QV X G (fun M' => M' = clrM M s t 3) 0 0) 2 [some (.ref (ad G 15 s 0)), some (.int t), some (.int (nI i))] [] (clrM M s t i) 0 0 := by
    intro k
    induction k with
    | zero =>
      intro i hi
      obtain rfl : i = 3 := by omega
      refine z_iload_2 (pc := 2) E dX2_clear_2 ?_
      refine z_aload_0 (pc := 3) E dX2_clear_3 ?_
      refine z_get (pc := 4) E dX2_clear_4 fiX2_14 (ok15 (by omega)) rfl rfl ?_
      refine z_alen (t0 := 3) (pc := 7) E dX2_clear_7 (ok20 (by omega)) rfl rfl rfl ?_
      refine z_icmp_ge (pc := 8) (tgt := 27) E dX2_clear_8 (by decide) (fun h8 => ?_) (fun h8 => absurd h8 (fun z => z (ct_ge rfl (by omega) (by omega))))
      exact z_vret (pc := 27) E dX2_clear_27 rfl
    | succ k ih =>
      intro i hi
      refine z_iload_2 (pc := 2) E dX2_clear_2 ?_
      refine z_aload_0 (pc := 3) E dX2_clear_3 ?_
      refine z_get (pc := 4) E dX2_clear_4 fiX2_14 (ok15 (by omega)) rfl rfl ?_
      refine z_alen (t0 := 3) (pc := 7) E dX2_clear_7 (ok20 (by omega)) rfl rfl rfl ?_
      refine z_icmp_ge (pc := 8) (tgt := 27) E dX2_clear_8 (by decide) (fun h8 => absurd h8 (ct_lt rfl (by omega) (by omega))) (fun h8 => ?_)
      refine z_aload_0 (pc := 11) E dX2_clear_11 ?_
      refine z_get (pc := 12) E dX2_clear_12 fiX2_14 (ok15 (by omega)) rfl rfl ?_
      refine z_iload_2 (pc := 15) E dX2_clear_15 ?_
      refine z_aald (t0 := 3) (pc := 16) E dX2_clear_16 (ok20 (by omega)) rfl rfl rfl (by omega) (by omega) rfl ?_
      refine z_iload_1 (pc := 17) E dX2_clear_17 ?_
      refine z_vvf (pc := 18) E (m_X3_clear _ _ _ _ hs (by omega)) rfl rfl kX3_clear mlX2_43 dX2_clear_18 (ok16 (by omega) (by omega)) rfl rfl rfl (Nat.le_of_ble_eq_true rfl) rfl (by decide) (by decide) ⟨by omega, by omega⟩ ?_
      refine z_iinc_2 (pc := 21) E dX2_clear_21 (nI_1 i) rfl ?_
      refine z_goto (pc := 24) (tgt := 2) E dX2_clear_24 (by decide) ?_
      exact z_mem (by rw [show clrM M s t i 4 s i = M 4 s i from shM_n _ _ _ _]; exact shM_s _ _ _ _) (ih (i + 1) (by omega))
  refine z_iconst (v := 0) (pc := 0) E dX2_clear_0 (by decide) ?_
  refine z_istore_2 (pc := 1) E dX2_clear_1 rfl ?_
  exact z_mem (shM_0 _ _ _) (L 3 0 (by omega))

set_option maxRecDepth 100000 in
set_option maxHeartbeats 4000000 in
theorem m_X2_copyFrom (M : Mem) (s : Nat) (s2 : Nat) (hs : s < 2) (hs2 : s2 < 2) (hne : ¬ s2 = s) : CV yX2_copyFrom cX2_copyFrom 3 none 1 0 0 (fun G => [.ref (ad G 15 s 0), .ref (ad G 15 s2 0)]) M (fun M' => M' = cpyM M s s2 3) := by
  refine CV.mk (own := RX2) (by decide +kernel) rfl (fun _ => rfl) (fun _ => Nat.le_of_ble_eq_true rfl) (lv0 := fun G => [some (.ref (ad G 15 s 0)), some (.ref (ad G 15 s2 0)), none]) (fun _ => rfl) (fun X G E => ?_)
  have L : ∀ (k : Nat) (i : Nat), i + k = 3 → Z X G (0, 0) (QV X G (fun M' => M' = cpyM M s s2 3) 0 0) 2 [some (.ref (ad G 15 s 0)), some (.ref (ad G 15 s2 0)), some (.int (nI i))] [] (cpyM M s s2 i) 0 0 := by
    intro k
    induction k with
    | zero =>
      intro i hi
      obtain rfl : i = 3 := by omega
      refine z_iload_2 (pc := 2) E dX2_copyFrom_2 ?_
      refine z_aload_0 (pc := 3) E dX2_copyFrom_3 ?_
      refine z_get (pc := 4) E dX2_copyFrom_4 fiX2_14 (ok15 (by omega)) rfl rfl ?_
      refine z_alen (t0 := 3) (pc := 7) E dX2_copyFrom_7 (ok20 (by omega)) rfl rfl rfl ?_
      refine z_icmp_ge (pc := 8) (tgt := 32) E dX2_copyFrom_8 (by decide) (fun h8 => ?_) (fun h8 => absurd h8 (fun z => z (ct_ge rfl (by omega) (by omega))))
      exact z_vret (pc := 32) E dX2_copyFrom_32 rfl
    | succ k ih =>
      intro i hi
      refine z_iload_2 (pc := 2) E dX2_copyFrom_2 ?_
      refine z_aload_0 (pc := 3) E dX2_copyFrom_3 ?_
      refine z_get (pc := 4) E dX2_copyFrom_4 fiX2_14 (ok15 (by omega)) rfl rfl ?_
      refine z_alen (t0 := 3) (pc := 7) E dX2_copyFrom_7 (ok20 (by omega)) rfl rfl rfl ?_
      refine z_icmp_ge (pc := 8) (tgt := 32) E dX2_copyFrom_8 (by decide) (fun h8 => absurd h8 (ct_lt rfl (by omega) (by omega))) (fun h8 => ?_)
      refine z_aload_0 (pc := 11) E dX2_copyFrom_11 ?_
      refine z_get (pc := 12) E dX2_copyFrom_12 fiX2_14 (ok15 (by omega)) rfl rfl ?_
      refine z_iload_2 (pc := 15) E dX2_copyFrom_15 ?_
      refine z_aald (t0 := 3) (pc := 16) E dX2_copyFrom_16 (ok20 (by omega)) rfl rfl rfl (by omega) (by omega) rfl ?_
      refine z_aload_1 (pc := 17) E dX2_copyFrom_17 ?_
      refine z_get (pc := 18) E dX2_copyFrom_18 fiX2_14 (ok15 (by omega)) rfl rfl ?_
      refine z_iload_2 (pc := 21) E dX2_copyFrom_21 ?_
      refine z_aald (t0 := 3) (pc := 22) E dX2_copyFrom_22 (ok20 (by omega)) rfl rfl rfl (by omega) (by omega) rfl ?_
      refine z_vvf (pc := 23) E (m_X3_copyFrom _ _ _ _ hs (by omega) hs2 hne) rfl rfl kX3_copyFrom mlX2_56 dX2_copyFrom_23 (ok16 (by omega) (by omega)) rfl rfl rfl (Nat.le_of_ble_eq_true rfl) rfl (by decide) (by decide) ⟨by omega, by omega⟩ ?_
      refine z_iinc_2 (pc := 26) E dX2_copyFrom_26 (nI_1 i) rfl ?_
      refine z_goto (pc := 29) (tgt := 2) E dX2_copyFrom_29 (by decide) ?_
      exact z_mem (by rw [show cpyM M s s2 i 4 s i = M 4 s i from shM_n _ _ _ _, show cpyM M s s2 i 4 s2 i = M 4 s2 i from shM_off _ _ (fun z => hne z.2)]; exact shM_s _ _ _ _) (ih (i + 1) (by omega))
  refine z_iconst (v := 0) (pc := 0) E dX2_copyFrom_0 (by decide) ?_
  refine z_istore_2 (pc := 1) E dX2_copyFrom_1 rfl ?_
  exact z_mem (shM_0 _ _ _) (L 3 0 (by omega))

set_option maxRecDepth 100000 in
set_option maxHeartbeats 4000000 in
theorem m_X2_pushLeft (M : Mem) (s : Nat) (hs : s < 2) : CI yX2_pushLeft cX2_pushLeft 3 (some .int) 1 0 0 (fun G => [.ref (ad G 15 s 0)]) M (fun r M' => r = fsum 3 (fun i => (pushS M s i).1) ∧ M' = pushM M s 3) := by
  refine CI.mk (own := RX2) (by decide +kernel) rfl (fun _ => rfl) (fun _ => Nat.le_of_ble_eq_true rfl) (lv0 := fun G => [some (.ref (ad G 15 s 0)), none, none]) (fun _ => rfl) (fun X G E => ?_)
  have L : ∀ (k : Nat) (i : Nat), i + k = 3 → Z X G (0, 0) (QI X G (fun r M' => r = fsum 3 (fun i => (pushS M s i).1) ∧ M' = pushM M s 3) 0 0) 4 [some (.ref (ad G 15 s 0)), some (.int (fsum i (fun i => (pushS M s i).1))), some (.int (nI i))] [] (pushM M s i) 0 0 := by
    intro k
    induction k with
    | zero =>
      intro i hi
      obtain rfl : i = 3 := by omega
      refine z_iload_2 (pc := 4) E dX2_pushLeft_4 ?_
      refine z_aload_0 (pc := 5) E dX2_pushLeft_5 ?_
      refine z_get (pc := 6) E dX2_pushLeft_6 fiX2_14 (ok15 (by omega)) rfl rfl ?_
      refine z_alen (t0 := 3) (pc := 9) E dX2_pushLeft_9 (ok20 (by omega)) rfl rfl rfl ?_
      refine z_icmp_ge (pc := 10) (tgt := 31) E dX2_pushLeft_10 (by decide) (fun h10 => ?_) (fun h10 => absurd h10 (fun z => z (ct_ge rfl (by omega) (by omega))))
      refine z_iload_1 (pc := 31) E dX2_pushLeft_31 ?_
      exact z_iret (pc := 32) E dX2_pushLeft_32 ⟨rfl, rfl⟩
    | succ k ih =>
      intro i hi
      refine z_iload_2 (pc := 4) E dX2_pushLeft_4 ?_
      refine z_aload_0 (pc := 5) E dX2_pushLeft_5 ?_
      refine z_get (pc := 6) E dX2_pushLeft_6 fiX2_14 (ok15 (by omega)) rfl rfl ?_
      refine z_alen (t0 := 3) (pc := 9) E dX2_pushLeft_9 (ok20 (by omega)) rfl rfl rfl ?_
      refine z_icmp_ge (pc := 10) (tgt := 31) E dX2_pushLeft_10 (by decide) (fun h10 => absurd h10 (ct_lt rfl (by omega) (by omega))) (fun h10 => ?_)
      refine z_iload_1 (pc := 13) E dX2_pushLeft_13 ?_
      refine z_aload_0 (pc := 14) E dX2_pushLeft_14 ?_
      refine z_get (pc := 15) E dX2_pushLeft_15 fiX2_14 (ok15 (by omega)) rfl rfl ?_
      refine z_iload_2 (pc := 18) E dX2_pushLeft_18 ?_
      refine z_aald (t0 := 3) (pc := 19) E dX2_pushLeft_19 (ok20 (by omega)) rfl rfl rfl (by omega) (by omega) rfl ?_
      refine z_ivf (pc := 20) E (m_X3_pushLeft _ _ _ hs (by omega)) rfl rfl kX3_pushLeft mlX2_53 dX2_pushLeft_20 (ok16 (by omega) (by omega)) rfl rfl rfl (Nat.le_of_ble_eq_true rfl) rfl (by decide) (by decide) ⟨by omega, by omega⟩ ?_
      rw [show pushM M s i 4 s i = M 4 s i from shM_n _ _ _ _]
      refine z_iadd (pc := 23) E dX2_pushLeft_23 ?_
      refine z_istore_1 (pc := 24) E dX2_pushLeft_24 rfl ?_
      refine z_iinc_2 (pc := 25) E dX2_pushLeft_25 (nI_1 i) rfl ?_
      refine z_goto (pc := 28) (tgt := 4) E dX2_pushLeft_28 (by decide) ?_
      exact z_mem (shM_s _ _ _ _) (ih (i + 1) (by omega))
  refine z_iconst (v := 0) (pc := 0) E dX2_pushLeft_0 (by decide) ?_
  refine z_istore_1 (pc := 1) E dX2_pushLeft_1 rfl ?_
  refine z_iconst (v := 0) (pc := 2) E dX2_pushLeft_2 (by decide) ?_
  refine z_istore_2 (pc := 3) E dX2_pushLeft_3 rfl ?_
  exact z_mem (shM_0 _ _ _) (L 3 0 (by omega))

set_option maxRecDepth 100000 in
set_option maxHeartbeats 4000000 in
theorem m_X2_hasPlace (M : Mem) (s : Nat) (sh pl : Int32) (hs : s < 2) : CI yX2_hasPlace cX2_hasPlace 3 (some .boolean) 1 0 0 (fun G => [.ref (ad G 15 s 0), .int sh, .int pl]) M (fun r M' => M' = M ∧ ((r = 1 ∧ plcP sh pl) ∨ (r = 0 ∧ ¬ plcP sh pl))) := by
  refine CI.mk (own := RX2) (by decide +kernel) rfl (fun _ => rfl) (fun _ => Nat.le_of_ble_eq_true rfl) (lv0 := fun G => [some (.ref (ad G 15 s 0)), some (.int sh), some (.int pl)]) (fun _ => rfl) (fun X G E => ?_)
  refine z_iload_1 (pc := 0) E dX2_hasPlace_0 ?_
  refine z_iconst (v := 0) (pc := 1) E dX2_hasPlace_1 (by decide) ?_
  refine z_aload_0 (pc := 2) E dX2_hasPlace_2 ?_
  refine z_get (pc := 3) E dX2_hasPlace_3 fiX2_14 (ok15 (by omega)) rfl rfl ?_
  refine z_alen (t0 := 3) (pc := 6) E dX2_hasPlace_6 (ok20 (by omega)) rfl rfl rfl ?_
  refine z_iconst (v := 1) (pc := 7) E dX2_hasPlace_7 (by decide) ?_
  refine z_isub (pc := 8) E dX2_hasPlace_8 ?_
  refine z_isNp (pc := 9) E (m_X6_isWithin _ _ _ _) rfl rfl kX6_isWithin (by decide +kernel : ((RX2 : String), 20, yX6_isWithin, (RX6 : String)) ∈ NWm) dX2_hasPlace_9 rfl (Nat.le_of_ble_eq_true rfl) rfl (by decide) (by decide) ⟨by omega, by omega⟩ ?_
  refine z_if_eq (pc := 12) (tgt := 39) E dX2_hasPlace_12 (by decide) (fun h12 => ?_) (fun h12 => ?_)
  · refine z_iconst (v := 0) (pc := 39) E dX2_hasPlace_39 (by decide) ?_
    exact z_zret (pc := 40) E dX2_hasPlace_40 (by first | exact Or.inl rfl | exact Or.inr rfl | exact b2_01 _) ⟨rfl, by first | exact Or.inl ⟨rfl, i, q, hi, hq, rfl, rfl⟩ | exact Or.inr ⟨rfl, fun ⟨i2, q2, a1, a2, a3, a4⟩ => b2_e0 h32 (in_of_ix (n := 10 * (i + 1)) a4 (by have := nI_inj (by omega) (by omega) a3; omega) (by omega))⟩ | exact Or.inr ⟨rfl, fun ⟨i2, q2, a1, a2, a3, a4⟩ => b2_e0 h12 (in_of_ix (n := 3) a3 a1 (by omega))⟩⟩
  · obtain ⟨i, hi, rfl⟩ := ix_of (n := 3) (b2_n0 h12) (by omega)
    refine z_iload_2 (pc := 15) E dX2_hasPlace_15 ?_
    refine z_iconst (v := 0) (pc := 16) E dX2_hasPlace_16 (by decide) ?_
    refine z_aload_0 (pc := 17) E dX2_hasPlace_17 ?_
    refine z_get (pc := 18) E dX2_hasPlace_18 fiX2_14 (ok15 (by omega)) rfl rfl ?_
    refine z_iload_1 (pc := 21) E dX2_hasPlace_21 ?_
    refine z_aald (t0 := 3) (pc := 22) E dX2_hasPlace_22 (ok20 (by omega)) rfl rfl rfl (by omega) (by omega) rfl ?_
    refine z_get (pc := 23) E dX2_hasPlace_23 fiX2_24 (ok16 (by omega) (by omega)) rfl rfl ?_
    refine z_alen (t0 := 0) (pc := 26) E dX2_hasPlace_26 (ok4 (by omega) (by omega)) rfl rfl rfl ?_
    refine z_iconst (v := 1) (pc := 27) E dX2_hasPlace_27 (by decide) ?_
    refine z_isub (pc := 28) E dX2_hasPlace_28 ?_
    refine z_isNp (pc := 29) E (m_X6_isWithin _ _ _ _) rfl rfl kX6_isWithin (by decide +kernel : ((RX2 : String), 20, yX6_isWithin, (RX6 : String)) ∈ NWm) dX2_hasPlace_29 rfl (Nat.le_of_ble_eq_true rfl) rfl (by decide) (by decide) ⟨by omega, by omega⟩ ?_
    refine z_if_eq (pc := 32) (tgt := 39) E dX2_hasPlace_32 (by decide) (fun h32 => ?_) (fun h32 => ?_)
    · refine z_iconst (v := 0) (pc := 39) E dX2_hasPlace_39 (by decide) ?_
      exact z_zret (pc := 40) E dX2_hasPlace_40 (by first | exact Or.inl rfl | exact Or.inr rfl | exact b2_01 _) ⟨rfl, by first | exact Or.inl ⟨rfl, i, q, hi, hq, rfl, rfl⟩ | exact Or.inr ⟨rfl, fun ⟨i2, q2, a1, a2, a3, a4⟩ => b2_e0 h32 (in_of_ix (n := 10 * (i + 1)) a4 (by have := nI_inj (by omega) (by omega) a3; omega) (by omega))⟩ | exact Or.inr ⟨rfl, fun ⟨i2, q2, a1, a2, a3, a4⟩ => b2_e0 h12 (in_of_ix (n := 3) a3 a1 (by omega))⟩⟩
    · obtain ⟨q, hq, rfl⟩ := ix_of (n := 10 * (i + 1)) (b2_n0 h32) (by omega)
      refine z_iconst (v := 1) (pc := 35) E dX2_hasPlace_35 (by decide) ?_
      refine z_goto (pc := 36) (tgt := 40) E dX2_hasPlace_36 (by decide) ?_
      exact z_zret (pc := 40) E dX2_hasPlace_40 (by first | exact Or.inl rfl | exact Or.inr rfl | exact b2_01 _) ⟨rfl, by first | exact Or.inl ⟨rfl, i, q, hi, hq, rfl, rfl⟩ | exact Or.inr ⟨rfl, fun ⟨i2, q2, a1, a2, a3, a4⟩ => b2_e0 h32 (in_of_ix (n := 10 * (i + 1)) a4 (by have := nI_inj (by omega) (by omega) a3; omega) (by omega))⟩ | exact Or.inr ⟨rfl, fun ⟨i2, q2, a1, a2, a3, a4⟩ => b2_e0 h12 (in_of_ix (n := 3) a3 a1 (by omega))⟩⟩

set_option maxRecDepth 100000 in
set_option maxHeartbeats 4000000 in
theorem m_X2_lay (M : Mem) (s : Nat) (i q : Nat) (t w : Int32) (hs : s < 2) (hi : i < 3) (hq : q < 10 * (i + 1)) (hsp : spotF M s w 3 0 = nI (100 * i + q)) : CV yX2_lay cX2_lay 6 none 2 0 0 (fun G => [.ref (ad G 15 s 0), .int t, .int w]) M (fun M' => M' = rset M 4 s i (layF (M 4 s i) t (nI q) w (10 * (i + 1)))) := by
  refine CV.mk (own := RX2) (by decide +kernel) rfl (fun _ => rfl) (fun _ => Nat.le_of_ble_eq_true rfl) (lv0 := fun G => [some (.ref (ad G 15 s 0)), some (.int t), some (.int w), none, none, none]) (fun _ => rfl) (fun X G E => ?_)
  refine z_aload_0 (pc := 0) E dX2_lay_0 ?_
  refine z_iload_2 (pc := 1) E dX2_lay_1 ?_
  refine z_ivp (pc := 2) E (m_X2_spotFor _ _ _ hs) rfl rfl kX2_spotFor mlX2_32 dX2_lay_2 (ok15 (by omega)) rfl rfl rfl (Nat.le_of_ble_eq_true rfl) rfl (by decide) (by decide) ⟨by omega, by omega⟩ ?_
  rw [hsp]
  refine z_istore_3 (pc := 5) E dX2_lay_5 rfl ?_
  refine z_iload_3 (pc := 6) E dX2_lay_6 ?_
  refine z_bipush (v := 100) (pc := 7) E dX2_lay_7 (by decide) ?_
  refine z_idiv (pc := 9) E dX2_lay_9 (by decide) ?_
  refine z_top (y := nI i) (by rw [show (100 : Int32) = nI 100 from rfl, pk_div (n31 (by omega)) (by decide) (by decide)]; congr 1; omega) ?_
  refine z_istore_4 (pc := 10) E dX2_lay_10 rfl ?_
  refine z_iload_3 (pc := 12) E dX2_lay_12 ?_
  refine z_bipush (v := 100) (pc := 13) E dX2_lay_13 (by decide) ?_
  refine z_irem (pc := 15) E dX2_lay_15 (by decide) ?_
  refine z_top (y := nI q) (by rw [show (100 : Int32) = nI 100 from rfl, pk_rem (n31 (by omega)) (by decide) (by decide)]; congr 1; omega) ?_
  refine z_istore_5 (pc := 16) E dX2_lay_16 rfl ?_
  refine z_aload_0 (pc := 18) E dX2_lay_18 ?_
  refine z_iload_4 (pc := 19) E dX2_lay_19 ?_
  refine z_iload_5 (pc := 21) E dX2_lay_21 ?_
  refine z_iv (pc := 23) E (m_X2_hasPlace _ _ _ _ hs) rfl rfl kX2_hasPlace mlX2_35 dX2_lay_23 (ok15 (by omega)) rfl rfl rfl (Nat.le_of_ble_eq_true rfl) rfl (by decide) (by decide) ⟨by omega, by omega⟩ (fun _ _ _ => Or.inl rfl) (fun r23 M23 hM23 => ?_)
  obtain ⟨rfl, hM23⟩ := hM23
  obtain ⟨rfl, -⟩ : r23 = 1 ∧ plcP (nI i) (nI q) := hM23.resolve_right (fun z => z.2 ⟨i, q, hi, hq, rfl, rfl⟩)
  refine z_if_eq (pc := 26) (tgt := 43) E dX2_lay_26 (by decide) (fun h26 => absurd h26 (by decide)) (fun h26 => ?_)
  refine z_aload_0 (pc := 29) E dX2_lay_29 ?_
  refine z_get (pc := 30) E dX2_lay_30 fiX2_14 (ok15 (by omega)) rfl rfl ?_
  refine z_iload_4 (pc := 33) E dX2_lay_33 ?_
  refine z_aald (t0 := 3) (pc := 35) E dX2_lay_35 (ok20 (by omega)) rfl rfl rfl (by omega) (by omega) rfl ?_
  refine z_iload_1 (pc := 36) E dX2_lay_36 ?_
  refine z_iload_5 (pc := 37) E dX2_lay_37 ?_
  refine z_iload_2 (pc := 39) E dX2_lay_39 ?_
  refine z_vvf (pc := 40) E (m_X3_lay _ _ _ _ _ _ hs hi) rfl rfl kX3_lay mlX2_39 dX2_lay_40 (ok16 (by omega) (by omega)) rfl rfl rfl (Nat.le_of_ble_eq_true rfl) rfl (by decide) (by decide) ⟨by omega, by omega⟩ ?_
  exact z_vret (pc := 43) E dX2_lay_43 rfl

