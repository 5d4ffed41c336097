set_option maxRecDepth 100000 in
set_option maxHeartbeats 4000000 in
theorem m_X3_gapFor (M : Mem) (s i : Nat) (w : Int32) (hs : s < 2) (hi : i < 3) : CI yX3_gapFor cX3_gapFor 4 (some .int) 0 0 0 (fun G => [.ref (ad G 16 s i), .int w]) M (fun r M' => r = gapB (M 4 s i) w 0 (10 * (i + 1)) 0 0 ∧ M' = M) := by
  refine CI.mk (own := RX3) (by decide +kernel) rfl (fun _ => rfl) (fun _ => Nat.le_of_ble_eq_true rfl) (lv0 := fun G => [some (.ref (ad G 16 s i)), some (.int w), none, none]) (fun _ => rfl) (fun X G E => ?_)
  have L : ∀ (k : Nat) (j : Nat) (f : Int32), j + k = 10 * (i + 1) → gapB (M 4 s i) w 0 (10 * (i + 1)) 0 0 = gapB (M 4 s i) w 0 k j f → Z X G (0, 0) (QI X G (fun r M' => r = gapB (M 4 s i) w 0 (10 * (i + 1)) 0 0 ∧ M' = M) 0 0) 4 [some (.ref (ad G 16 s i)), some (.int w), some (.int f), some (.int (nI j))] [] (M) 0 0 := by
    intro k
    induction k with
    | zero =>
      intro j f hj hE
      refine z_iload_3 (pc := 4) E dX3_gapFor_4 ?_
      refine z_aload_0 (pc := 5) E dX3_gapFor_5 ?_
      refine z_get (pc := 6) E dX3_gapFor_6 fiX3_9 (ok16 (by omega) (by omega)) rfl rfl ?_
      refine z_alen (t0 := 0) (pc := 9) E dX3_gapFor_9 (ok4 (by omega) (by omega)) rfl rfl rfl ?_
      refine z_icmp_ge (pc := 10) (tgt := 48) E dX3_gapFor_10 (by decide) (fun h10 => ?_) (fun h10 => absurd h10 (fun z => z (ct_ge rfl (by omega) (by omega))))
      refine z_iconst (v := -1) (pc := 48) E dX3_gapFor_48 (by decide) ?_
      exact z_iret (pc := 49) E dX3_gapFor_49 ⟨by rw [hE]; rfl, rfl⟩
    | succ k ih =>
      intro j f hj hE
      refine z_iload_3 (pc := 4) E dX3_gapFor_4 ?_
      refine z_aload_0 (pc := 5) E dX3_gapFor_5 ?_
      refine z_get (pc := 6) E dX3_gapFor_6 fiX3_9 (ok16 (by omega) (by omega)) rfl rfl ?_
      refine z_alen (t0 := 0) (pc := 9) E dX3_gapFor_9 (ok4 (by omega) (by omega)) rfl rfl rfl ?_
      refine z_icmp_ge (pc := 10) (tgt := 48) E dX3_gapFor_10 (by decide) (fun h10 => absurd h10 (ct_lt rfl (by omega) (by omega))) (fun h10 => ?_)
      refine z_aload_0 (pc := 13) E dX3_gapFor_13 ?_
      refine z_get (pc := 14) E dX3_gapFor_14 fiX3_9 (ok16 (by omega) (by omega)) rfl rfl ?_
      refine z_iload_3 (pc := 17) E dX3_gapFor_17 ?_
      refine z_iald (pc := 18) E dX3_gapFor_18 (ok4 (by omega) (by omega)) rfl rfl (by omega) (by omega) ?_
      refine z_iconst (v := -1) (pc := 19) E dX3_gapFor_19 (by decide) ?_
      refine z_icmp_ne (pc := 20) (tgt := 29) E dX3_gapFor_20 (by decide) (fun h20 => ?_) (fun h20 => ?_)
      · refine z_iconst (v := 0) (pc := 29) E dX3_gapFor_29 (by decide) ?_
        refine z_istore_2 (pc := 30) E dX3_gapFor_30 rfl ?_
        refine z_iload_2 (pc := 31) E dX3_gapFor_31 ?_
        refine z_iload_1 (pc := 32) E dX3_gapFor_32 ?_
        refine z_icmp_ne (pc := 33) (tgt := 42) E dX3_gapFor_33 (by decide) (fun h33 => ?_) (fun h33 => ?_)
        · refine z_iinc_3 (pc := 42) E dX3_gapFor_42 (nI_1 j) rfl ?_
          refine z_goto (pc := 45) (tgt := 4) E dX3_gapFor_45 (by decide) ?_
          exact ih (j + 1) _ (by omega) (by rw [hE]; simp [gapB, h20, h33])
        · refine z_iload_3 (pc := 36) E dX3_gapFor_36 ?_
          refine z_iload_1 (pc := 37) E dX3_gapFor_37 ?_
          refine z_isub (pc := 38) E dX3_gapFor_38 ?_
          refine z_iconst (v := 1) (pc := 39) E dX3_gapFor_39 (by decide) ?_
          refine z_iadd (pc := 40) E dX3_gapFor_40 ?_
          exact z_iret (pc := 41) E dX3_gapFor_41 ⟨by rw [hE]; simp [gapB, h20, h33], rfl⟩
      · refine z_iload_2 (pc := 23) E dX3_gapFor_23 ?_
        refine z_iconst (v := 1) (pc := 24) E dX3_gapFor_24 (by decide) ?_
        refine z_iadd (pc := 25) E dX3_gapFor_25 ?_
        refine z_goto (pc := 26) (tgt := 30) E dX3_gapFor_26 (by decide) ?_
        refine z_istore_2 (pc := 30) E dX3_gapFor_30 rfl ?_
        refine z_iload_2 (pc := 31) E dX3_gapFor_31 ?_
        refine z_iload_1 (pc := 32) E dX3_gapFor_32 ?_
        refine z_icmp_ne (pc := 33) (tgt := 42) E dX3_gapFor_33 (by decide) (fun h33 => ?_) (fun h33 => ?_)
        · refine z_iinc_3 (pc := 42) E dX3_gapFor_42 (nI_1 j) rfl ?_
          refine z_goto (pc := 45) (tgt := 4) E dX3_gapFor_45 (by decide) ?_
          exact ih (j + 1) _ (by omega) (by rw [hE]; simp [gapB, h20, h33])
        · refine z_iload_3 (pc := 36) E dX3_gapFor_36 ?_
          refine z_iload_1 (pc := 37) E dX3_gapFor_37 ?_
          refine z_isub (pc := 38) E dX3_gapFor_38 ?_
          refine z_iconst (v := 1) (pc := 39) E dX3_gapFor_39 (by decide) ?_
          refine z_iadd (pc := 40) E dX3_gapFor_40 ?_
          exact z_iret (pc := 41) E dX3_gapFor_41 ⟨by rw [hE]; simp [gapB, h20, h33], rfl⟩
  refine z_iconst (v := 0) (pc := 0) E dX3_gapFor_0 (by decide) ?_
  refine z_istore_2 (pc := 1) E dX3_gapFor_1 rfl ?_
  refine z_iconst (v := 0) (pc := 2) E dX3_gapFor_2 (by decide) ?_
  refine z_istore_3 (pc := 3) E dX3_gapFor_3 rfl ?_
  exact L (10 * (i + 1)) 0 0 (by omega) rfl

set_option maxRecDepth 100000 in
set_option maxHeartbeats 4000000 in
theorem m_X3_leftmostOf (M : Mem) (s i : Nat) (t : Int32) (hs : s < 2) (hi : i < 3) : CI yX3_leftmostOf cX3_leftmostOf 3 (some .int) 0 0 0 (fun G => [.ref (ad G 16 s i), .int t]) M (fun r M' => r = leftF (M 4 s i) t (10 * (i + 1)) 0 ∧ M' = M) := by
  refine CI.mk (own := RX3) (by decide +kernel) rfl (fun _ => rfl) (fun _ => Nat.le_of_ble_eq_true rfl) (lv0 := fun G => [some (.ref (ad G 16 s i)), some (.int t), none]) (fun _ => rfl) (fun X G E => ?_)
  have L : ∀ (k : Nat) (j : Nat), j + k = 10 * (i + 1) → leftF (M 4 s i) t (10 * (i + 1)) 0 = leftF (M 4 s i) t k j → Z X G (0, 0) (QI X G (fun r M' => r = leftF (M 4 s i) t (10 * (i + 1)) 0 ∧ M' = M) 0 0) 2 [some (.ref (ad G 16 s i)), some (.int t), some (.int (nI j))] [] (M) 0 0 := by
    intro k
    induction k with
    | zero =>
      intro j hj hE
      refine z_iload_2 (pc := 2) E dX3_leftmostOf_2 ?_
      refine z_aload_0 (pc := 3) E dX3_leftmostOf_3 ?_
      refine z_get (pc := 4) E dX3_leftmostOf_4 fiX3_9 (ok16 (by omega) (by omega)) rfl rfl ?_
      refine z_alen (t0 := 0) (pc := 7) E dX3_leftmostOf_7 (ok4 (by omega) (by omega)) rfl rfl rfl ?_
      refine z_icmp_ge (pc := 8) (tgt := 29) E dX3_leftmostOf_8 (by decide) (fun h8 => ?_) (fun h8 => absurd h8 (fun z => z (ct_ge rfl (by omega) (by omega))))
      refine z_iconst (v := -1) (pc := 29) E dX3_leftmostOf_29 (by decide) ?_
      exact z_iret (pc := 30) E dX3_leftmostOf_30 ⟨by rw [hE]; rfl, rfl⟩
    | succ k ih =>
      intro j hj hE
      refine z_iload_2 (pc := 2) E dX3_leftmostOf_2 ?_
      refine z_aload_0 (pc := 3) E dX3_leftmostOf_3 ?_
      refine z_get (pc := 4) E dX3_leftmostOf_4 fiX3_9 (ok16 (by omega) (by omega)) rfl rfl ?_
      refine z_alen (t0 := 0) (pc := 7) E dX3_leftmostOf_7 (ok4 (by omega) (by omega)) rfl rfl rfl ?_
      refine z_icmp_ge (pc := 8) (tgt := 29) E dX3_leftmostOf_8 (by decide) (fun h8 => absurd h8 (ct_lt rfl (by omega) (by omega))) (fun h8 => ?_)
      refine z_aload_0 (pc := 11) E dX3_leftmostOf_11 ?_
      refine z_get (pc := 12) E dX3_leftmostOf_12 fiX3_9 (ok16 (by omega) (by omega)) rfl rfl ?_
      refine z_iload_2 (pc := 15) E dX3_leftmostOf_15 ?_
      refine z_iald (pc := 16) E dX3_leftmostOf_16 (ok4 (by omega) (by omega)) rfl rfl (by omega) (by omega) ?_
      refine z_iload_1 (pc := 17) E dX3_leftmostOf_17 ?_
      refine z_icmp_ne (pc := 18) (tgt := 23) E dX3_leftmostOf_18 (by decide) (fun h18 => ?_) (fun h18 => ?_)
      · refine z_iinc_2 (pc := 23) E dX3_leftmostOf_23 (nI_1 j) rfl ?_
        refine z_goto (pc := 26) (tgt := 2) E dX3_leftmostOf_26 (by decide) ?_
        exact ih (j + 1) (by omega) (by rw [hE]; simp [leftF, h18])
      · refine z_iload_2 (pc := 21) E dX3_leftmostOf_21 ?_
        exact z_iret (pc := 22) E dX3_leftmostOf_22 ⟨by rw [hE]; simp [leftF, h18], rfl⟩
  refine z_iconst (v := 0) (pc := 0) E dX3_leftmostOf_0 (by decide) ?_
  refine z_istore_2 (pc := 1) E dX3_leftmostOf_1 rfl ?_
  exact L (10 * (i + 1)) 0 (by omega) rfl

set_option maxRecDepth 100000 in
set_option maxHeartbeats 4000000 in
theorem m_X3_taken (M : Mem) (s i : Nat) (hs : s < 2) (hi : i < 3) : CI yX3_taken cX3_taken 3 (some .int) 0 0 0 (fun G => [.ref (ad G 16 s i)]) M (fun r M' => r = fsum (10 * (i + 1)) (fun j => b2 (¬ M 4 s i j = -1)) ∧ M' = M) := by
  refine CI.mk (own := RX3) (by decide +kernel) rfl (fun _ => rfl) (fun _ => Nat.le_of_ble_eq_true rfl) (lv0 := fun G => [some (.ref (ad G 16 s i)), none, none]) (fun _ => rfl) (fun X G E => ?_)
  have L : ∀ (k : Nat) (j : Nat), j + k = 10 * (i + 1) → Z X G (0, 0) (QI X G (fun r M' => r = fsum (10 * (i + 1)) (fun j => b2 (¬ M 4 s i j = -1)) ∧ M' = M) 0 0) 4 [some (.ref (ad G 16 s i)), some (.int (fsum j (fun j => b2 (¬ M 4 s i j = -1)))), some (.int (nI j))] [] (M) 0 0 := by
    intro k
    induction k with
    | zero =>
      intro j hj
      obtain rfl : j = 10 * (i + 1) := by omega
      refine z_iload_2 (pc := 4) E dX3_taken_4 ?_
      refine z_aload_0 (pc := 5) E dX3_taken_5 ?_
      refine z_get (pc := 6) E dX3_taken_6 fiX3_9 (ok16 (by omega) (by omega)) rfl rfl ?_
      refine z_alen (t0 := 0) (pc := 9) E dX3_taken_9 (ok4 (by omega) (by omega)) rfl rfl rfl ?_
      refine z_icmp_ge (pc := 10) (tgt := 32) E dX3_taken_10 (by decide) (fun h10 => ?_) (fun h10 => absurd h10 (fun z => z (ct_ge rfl (by omega) (by omega))))
      refine z_iload_1 (pc := 32) E dX3_taken_32 ?_
      exact z_iret (pc := 33) E dX3_taken_33 ⟨rfl, rfl⟩
    | succ k ih =>
      intro j hj
      refine z_iload_2 (pc := 4) E dX3_taken_4 ?_
      refine z_aload_0 (pc := 5) E dX3_taken_5 ?_
      refine z_get (pc := 6) E dX3_taken_6 fiX3_9 (ok16 (by omega) (by omega)) rfl rfl ?_
      refine z_alen (t0 := 0) (pc := 9) E dX3_taken_9 (ok4 (by omega) (by omega)) rfl rfl rfl ?_
      refine z_icmp_ge (pc := 10) (tgt := 32) E dX3_taken_10 (by decide) (fun h10 => absurd h10 (ct_lt rfl (by omega) (by omega))) (fun h10 => ?_)
      refine z_aload_0 (pc := 13) E dX3_taken_13 ?_
      refine z_get (pc := 14) E dX3_taken_14 fiX3_9 (ok16 (by omega) (by omega)) rfl rfl ?_
      refine z_iload_2 (pc := 17) E dX3_taken_17 ?_
      refine z_iald (pc := 18) E dX3_taken_18 (ok4 (by omega) (by omega)) rfl rfl (by omega) (by omega) ?_
      refine z_iconst (v := -1) (pc := 19) E dX3_taken_19 (by decide) ?_
      refine z_icmp_eq (pc := 20) (tgt := 26) E dX3_taken_20 (by decide) (fun h20 => ?_) (fun h20 => ?_)
      · refine z_iinc_2 (pc := 26) E dX3_taken_26 (nI_1 j) rfl ?_
        refine z_goto (pc := 29) (tgt := 4) E dX3_taken_29 (by decide) ?_
        first | exact ih (j + 1) (by omega) | exact (show fsum (j + 1) (fun j => b2 (¬ M 4 s i j = -1)) = fsum j (fun j => b2 (¬ M 4 s i j = -1)) from by show fsum j (fun j => b2 (¬ M 4 s i j = -1)) + b2 _ = _; rw [b2_f (fun z => z h20)]; exact Int32.add_zero _) ▸ ih (j + 1) (by omega)
      · refine z_iinc_1 (pc := 23) E dX3_taken_23 (show fsum j (fun j => b2 (¬ M 4 s i j = -1)) + Int32.ofInt 1 = fsum (j + 1) (fun j => b2 (¬ M 4 s i j = -1)) from by show _ = fsum j (fun j => b2 (¬ M 4 s i j = -1)) + b2 _; rw [b2_t h20]; rfl) rfl ?_
        refine z_iinc_2 (pc := 26) E dX3_taken_26 (nI_1 j) rfl ?_
        refine z_goto (pc := 29) (tgt := 4) E dX3_taken_29 (by decide) ?_
        first | exact ih (j + 1) (by omega) | exact (show fsum (j + 1) (fun j => b2 (¬ M 4 s i j = -1)) = fsum j (fun j => b2 (¬ M 4 s i j = -1)) from by show fsum j (fun j => b2 (¬ M 4 s i j = -1)) + b2 _ = _; rw [b2_f (fun z => z h20)]; exact Int32.add_zero _) ▸ ih (j + 1) (by omega)
  refine z_iconst (v := 0) (pc := 0) E dX3_taken_0 (by decide) ?_
  refine z_istore_1 (pc := 1) E dX3_taken_1 rfl ?_
  refine z_iconst (v := 0) (pc := 2) E dX3_taken_2 (by decide) ?_
  refine z_istore_2 (pc := 3) E dX3_taken_3 rfl ?_
  exact L (10 * (i + 1)) 0 (by omega)

set_option maxRecDepth 100000 in
set_option maxHeartbeats 4000000 in
theorem m_X3_clear (M : Mem) (s i : Nat) (t : Int32) (hs : s < 2) (hi : i < 3) : CV yX3_clear cX3_clear 3 none 0 0 0 (fun G => [.ref (ad G 16 s i), .int t]) M (fun M' => M' = rset M 4 s i (clrF (M 4 s i) t (10 * (i + 1)))) := by
  refine CV.mk (own := RX3) (by decide +kernel) rfl (fun _ => rfl) (fun _ => Nat.le_of_ble_eq_true rfl) (lv0 := fun G => [some (.ref (ad G 16 s i)), some (.int t), none]) (fun _ => rfl) (fun X G E => ?_)
  have L : ∀ (k : Nat) (j : Nat), j + k = 10 * (i + 1) → Z X G (0, 0) (QV X G (fun M' => M' = rset M 4 s i (clrF (M 4 s i) t (10 * (i + 1)))) 0 0) 2 [some (.ref (ad G 16 s i)), some (.int t), some (.int (nI j))] [] (rset M 4 s i (clrF (M 4 s i) t j)) 0 0 := by
    intro k
    induction k with
    | zero =>
      intro j hj
      obtain rfl : j = 10 * (i + 1) := by omega
      refine z_iload_2 (pc := 2) E dX3_clear_2 ?_
      refine z_aload_0 (pc := 3) E dX3_clear_3 ?_
      refine z_get (pc := 4) E dX3_clear_4 fiX3_9 (ok16 (by omega) (by omega)) rfl rfl ?_
      refine z_alen (t0 := 0) (pc := 7) E dX3_clear_7 (ok4 (by omega) (by omega)) rfl rfl rfl ?_
      refine z_icmp_ge (pc := 8) (tgt := 34) E dX3_clear_8 (by decide) (fun h8 => ?_) (fun h8 => absurd h8 (fun z => z (ct_ge rfl (by omega) (by omega))))
      exact z_vret (pc := 34) E dX3_clear_34 rfl
    | succ k ih =>
      intro j hj
      refine z_iload_2 (pc := 2) E dX3_clear_2 ?_
      refine z_aload_0 (pc := 3) E dX3_clear_3 ?_
      refine z_get (pc := 4) E dX3_clear_4 fiX3_9 (ok16 (by omega) (by omega)) rfl rfl ?_
      refine z_alen (t0 := 0) (pc := 7) E dX3_clear_7 (ok4 (by omega) (by omega)) rfl rfl rfl ?_
      refine z_icmp_ge (pc := 8) (tgt := 34) E dX3_clear_8 (by decide) (fun h8 => absurd h8 (ct_lt rfl (by omega) (by omega))) (fun h8 => ?_)
      refine z_aload_0 (pc := 11) E dX3_clear_11 ?_
      refine z_get (pc := 12) E dX3_clear_12 fiX3_9 (ok16 (by omega) (by omega)) rfl rfl ?_
      refine z_iload_2 (pc := 15) E dX3_clear_15 ?_
      refine z_iald (pc := 16) E dX3_clear_16 (ok4 (by omega) (by omega)) rfl rfl (by omega) (by omega) ?_
      rw [rset_cell, clr_j]
      refine z_iload_1 (pc := 17) E dX3_clear_17 ?_
      refine z_icmp_ne (pc := 18) (tgt := 28) E dX3_clear_18 (by decide) (fun h18 => ?_) (fun h18 => ?_)
      · refine z_iinc_2 (pc := 28) E dX3_clear_28 (nI_1 j) rfl ?_
        refine z_goto (pc := 31) (tgt := 2) E dX3_clear_31 (by decide) ?_
        first | exact z_mem (by rw [mset_rset]; exact rset_congr (clr_s h18)) (ih (j + 1) (by omega)) | exact z_mem (rset_congr (clr_n h18)) (ih (j + 1) (by omega))
      · refine z_aload_0 (pc := 21) E dX3_clear_21 ?_
        refine z_get (pc := 22) E dX3_clear_22 fiX3_9 (ok16 (by omega) (by omega)) rfl rfl ?_
        refine z_iload_2 (pc := 25) E dX3_clear_25 ?_
        refine z_iconst (v := -1) (pc := 26) E dX3_clear_26 (by decide) ?_
        refine z_iast (pc := 27) E dX3_clear_27 (ok4 (by omega) (by omega)) (fun _ => rfl) rfl (by omega) (by omega) ?_
        refine z_iinc_2 (pc := 28) E dX3_clear_28 (nI_1 j) rfl ?_
        refine z_goto (pc := 31) (tgt := 2) E dX3_clear_31 (by decide) ?_
        first | exact z_mem (by rw [mset_rset]; exact rset_congr (clr_s h18)) (ih (j + 1) (by omega)) | exact z_mem (rset_congr (clr_n h18)) (ih (j + 1) (by omega))
  refine z_iconst (v := 0) (pc := 0) E dX3_clear_0 (by decide) ?_
  refine z_istore_2 (pc := 1) E dX3_clear_1 rfl ?_
  exact z_mem (by rw [clr_0, rset_self]) (L (10 * (i + 1)) 0 (by omega))

set_option maxRecDepth 100000 in
set_option maxHeartbeats 4000000 in
theorem m_X3_lay (M : Mem) (s i : Nat) (t a w : Int32) (hs : s < 2) (hi : i < 3) : CV yX3_lay cX3_lay 5 none 0 0 0 (fun G => [.ref (ad G 16 s i), .int t, .int a, .int w]) M (fun M' => M' = rset M 4 s i (layF (M 4 s i) t a w (10 * (i + 1)))) := by
  refine CV.mk (own := RX3) (by decide +kernel) rfl (fun _ => rfl) (fun _ => Nat.le_of_ble_eq_true rfl) (lv0 := fun G => [some (.ref (ad G 16 s i)), some (.int t), some (.int a), some (.int w), none]) (fun _ => rfl) (fun X G E => ?_)
  have L : ∀ (k : Nat) (j : Nat), j + k = 10 * (i + 1) → Z X G (0, 0) (QV X G (fun M' => M' = rset M 4 s i (layF (M 4 s i) t a w (10 * (i + 1)))) 0 0) 3 [some (.ref (ad G 16 s i)), some (.int t), some (.int a), some (.int w), some (.int (nI j))] [] (rset M 4 s i (layF (M 4 s i) t a w j)) 0 0 := by
    intro k
    induction k with
    | zero =>
      intro j hj
      obtain rfl : j = 10 * (i + 1) := by omega
      refine z_iload_4 (pc := 3) E dX3_lay_3 ?_
      refine z_aload_0 (pc := 5) E dX3_lay_5 ?_
      refine z_get (pc := 6) E dX3_lay_6 fiX3_9 (ok16 (by omega) (by omega)) rfl rfl ?_
      refine z_alen (t0 := 0) (pc := 9) E dX3_lay_9 (ok4 (by omega) (by omega)) rfl rfl rfl ?_
      refine z_icmp_ge (pc := 10) (tgt := 41) E dX3_lay_10 (by decide) (fun h10 => ?_) (fun h10 => absurd h10 (fun z => z (ct_ge rfl (by omega) (by omega))))
      exact z_vret (pc := 41) E dX3_lay_41 rfl
    | succ k ih =>
      intro j hj
      refine z_iload_4 (pc := 3) E dX3_lay_3 ?_
      refine z_aload_0 (pc := 5) E dX3_lay_5 ?_
      refine z_get (pc := 6) E dX3_lay_6 fiX3_9 (ok16 (by omega) (by omega)) rfl rfl ?_
      refine z_alen (t0 := 0) (pc := 9) E dX3_lay_9 (ok4 (by omega) (by omega)) rfl rfl rfl ?_
      refine z_icmp_ge (pc := 10) (tgt := 41) E dX3_lay_10 (by decide) (fun h10 => absurd h10 (ct_lt rfl (by omega) (by omega))) (fun h10 => ?_)
      refine z_iload_4 (pc := 13) E dX3_lay_13 ?_
      refine z_iload_2 (pc := 15) E dX3_lay_15 ?_
      refine z_icmp_lt (pc := 16) (tgt := 35) E dX3_lay_16 (by decide) (fun h16 => ?_) (fun h16 => ?_)
      · refine z_iinc_4 (pc := 35) E dX3_lay_35 (nI_1 j) rfl ?_
        refine z_goto (pc := 38) (tgt := 3) E dX3_lay_38 (by decide) ?_
        first | exact z_mem (by rw [mset_rset]; exact rset_congr (lay_s ⟨Int32.not_lt.mp h16, Int32.not_le.mp h24⟩)) (ih (j + 1) (by omega)) | exact z_mem (rset_congr (lay_n (fun z => Int32.not_le.mpr z.2 h24))) (ih (j + 1) (by omega)) | exact z_mem (rset_congr (lay_n (fun z => Int32.not_le.mpr h16 z.1))) (ih (j + 1) (by omega))
      · refine z_iload_4 (pc := 19) E dX3_lay_19 ?_
        refine z_iload_2 (pc := 21) E dX3_lay_21 ?_
        refine z_iload_3 (pc := 22) E dX3_lay_22 ?_
        refine z_iadd (pc := 23) E dX3_lay_23 ?_
        refine z_icmp_ge (pc := 24) (tgt := 35) E dX3_lay_24 (by decide) (fun h24 => ?_) (fun h24 => ?_)
        · refine z_iinc_4 (pc := 35) E dX3_lay_35 (nI_1 j) rfl ?_
          refine z_goto (pc := 38) (tgt := 3) E dX3_lay_38 (by decide) ?_
          first | exact z_mem (by rw [mset_rset]; exact rset_congr (lay_s ⟨Int32.not_lt.mp h16, Int32.not_le.mp h24⟩)) (ih (j + 1) (by omega)) | exact z_mem (rset_congr (lay_n (fun z => Int32.not_le.mpr z.2 h24))) (ih (j + 1) (by omega)) | exact z_mem (rset_congr (lay_n (fun z => Int32.not_le.mpr h16 z.1))) (ih (j + 1) (by omega))
        · refine z_aload_0 (pc := 27) E dX3_lay_27 ?_
          refine z_get (pc := 28) E dX3_lay_28 fiX3_9 (ok16 (by omega) (by omega)) rfl rfl ?_
          refine z_iload_4 (pc := 31) E dX3_lay_31 ?_
          refine z_iload_1 (pc := 33) E dX3_lay_33 ?_
          refine z_iast (pc := 34) E dX3_lay_34 (ok4 (by omega) (by omega)) (fun _ => rfl) rfl (by omega) (by omega) ?_
          refine z_iinc_4 (pc := 35) E dX3_lay_35 (nI_1 j) rfl ?_
          refine z_goto (pc := 38) (tgt := 3) E dX3_lay_38 (by decide) ?_
          first | exact z_mem (by rw [mset_rset]; exact rset_congr (lay_s ⟨Int32.not_lt.mp h16, Int32.not_le.mp h24⟩)) (ih (j + 1) (by omega)) | exact z_mem (rset_congr (lay_n (fun z => Int32.not_le.mpr z.2 h24))) (ih (j + 1) (by omega)) | exact z_mem (rset_congr (lay_n (fun z => Int32.not_le.mpr h16 z.1))) (ih (j + 1) (by omega))
  refine z_iconst (v := 0) (pc := 0) E dX3_lay_0 (by decide) ?_
  refine z_istore_4 (pc := 1) E dX3_lay_1 rfl ?_
  exact z_mem (by rw [lay_0, rset_self]) (L (10 * (i + 1)) 0 (by omega))

set_option maxRecDepth 100000 in
set_option maxHeartbeats 4000000 in
theorem m_X3_copyFrom (M : Mem) (s i : Nat) (s2 : Nat) (hs : s < 2) (hi : i < 3) (hs2 : s2 < 2) (hne : ¬ s2 = s) : CV yX3_copyFrom cX3_copyFrom 3 none 0 0 0 (fun G => [.ref (ad G 16 s i), .ref (ad G 16 s2 i)]) M (fun M' => M' = rset M 4 s i (cpyF (M 4 s i) (M 4 s2 i) (10 * (i + 1)))) := by
  refine CV.mk (own := RX3) (by decide +kernel) rfl (fun _ => rfl) (fun _ => Nat.le_of_ble_eq_true rfl) (lv0 := fun G => [some (.ref (ad G 16 s i)), some (.ref (ad G 16 s2 i)), none]) (fun _ => rfl) (fun X G E => ?_)
  have L : ∀ (k : Nat) (j : Nat), j + k = 10 * (i + 1) → Z X G (0, 0) (QV X G (fun M' => M' = rset M 4 s i (cpyF (M 4 s i) (M 4 s2 i) (10 * (i + 1)))) 0 0) 2 [some (.ref (ad G 16 s i)), some (.ref (ad G 16 s2 i)), some (.int (nI j))] [] (rset M 4 s i (cpyF (M 4 s i) (M 4 s2 i) j)) 0 0 := by
    intro k
    induction k with
    | zero =>
      intro j hj
      obtain rfl : j = 10 * (i + 1) := by omega
      refine z_iload_2 (pc := 2) E dX3_copyFrom_2 ?_
      refine z_aload_0 (pc := 3) E dX3_copyFrom_3 ?_
      refine z_get (pc := 4) E dX3_copyFrom_4 fiX3_9 (ok16 (by omega) (by omega)) rfl rfl ?_
      refine z_alen (t0 := 0) (pc := 7) E dX3_copyFrom_7 (ok4 (by omega) (by omega)) rfl rfl rfl ?_
      refine z_icmp_ge (pc := 8) (tgt := 38) E dX3_copyFrom_8 (by decide) (fun h8 => ?_) (fun h8 => absurd h8 (fun z => z (ct_ge rfl (by omega) (by omega))))
      exact z_vret (pc := 38) E dX3_copyFrom_38 rfl
    | succ k ih =>
      intro j hj
      refine z_iload_2 (pc := 2) E dX3_copyFrom_2 ?_
      refine z_aload_0 (pc := 3) E dX3_copyFrom_3 ?_
      refine z_get (pc := 4) E dX3_copyFrom_4 fiX3_9 (ok16 (by omega) (by omega)) rfl rfl ?_
      refine z_alen (t0 := 0) (pc := 7) E dX3_copyFrom_7 (ok4 (by omega) (by omega)) rfl rfl rfl ?_
      refine z_icmp_ge (pc := 8) (tgt := 38) E dX3_copyFrom_8 (by decide) (fun h8 => absurd h8 (ct_lt rfl (by omega) (by omega))) (fun h8 => ?_)
      refine z_iload_2 (pc := 11) E dX3_copyFrom_11 ?_
      refine z_aload_1 (pc := 12) E dX3_copyFrom_12 ?_
      refine z_get (pc := 13) E dX3_copyFrom_13 fiX3_9 (ok16 (by omega) (by omega)) rfl rfl ?_
      refine z_alen (t0 := 0) (pc := 16) E dX3_copyFrom_16 (ok4 (by omega) (by omega)) rfl rfl rfl ?_
      refine z_icmp_ge (pc := 17) (tgt := 38) E dX3_copyFrom_17 (by decide) (fun h17 => absurd h17 (ct_lt rfl (by omega) (by omega))) (fun h17 => ?_)
      refine z_aload_0 (pc := 20) E dX3_copyFrom_20 ?_
      refine z_get (pc := 21) E dX3_copyFrom_21 fiX3_9 (ok16 (by omega) (by omega)) rfl rfl ?_
      refine z_iload_2 (pc := 24) E dX3_copyFrom_24 ?_
      refine z_aload_1 (pc := 25) E dX3_copyFrom_25 ?_
      refine z_get (pc := 26) E dX3_copyFrom_26 fiX3_9 (ok16 (by omega) (by omega)) rfl rfl ?_
      refine z_iload_2 (pc := 29) E dX3_copyFrom_29 ?_
      refine z_iald (pc := 30) E dX3_copyFrom_30 (ok4 (by omega) (by omega)) rfl rfl (by omega) (by omega) ?_
      rw [rset_off _ _ (show ¬ ((4 : Nat) = 4 ∧ s2 = s ∧ i = i) from fun z => hne z.2.1)]
      refine z_iast (pc := 31) E dX3_copyFrom_31 (ok4 (by omega) (by omega)) (fun _ => rfl) rfl (by omega) (by omega) ?_
      refine z_iinc_2 (pc := 32) E dX3_copyFrom_32 (nI_1 j) rfl ?_
      refine z_goto (pc := 35) (tgt := 2) E dX3_copyFrom_35 (by decide) ?_
      exact z_mem (by rw [mset_rset]; exact rset_congr cpy_s) (ih (j + 1) (by omega))
  refine z_iconst (v := 0) (pc := 0) E dX3_copyFrom_0 (by decide) ?_
  refine z_istore_2 (pc := 1) E dX3_copyFrom_1 rfl ?_
  exact z_mem (by rw [cpy_0, rset_self]) (L (10 * (i + 1)) 0 (by omega))

set_option maxRecDepth 100000 in
set_option maxHeartbeats 4000000 in
theorem m_X3_pushLeft (M : Mem) (s i : Nat) (hs : s < 2) (hi : i < 3) : CI yX3_pushLeft cX3_pushLeft 6 (some .int) 0 0 0 (fun G => [.ref (ad G 16 s i)]) M (fun r M' => r = (pushF (10 * (i + 1)) 0 0 (-1) 0 (M 4 s i)).1 ∧ M' = rset M 4 s i (pushF (10 * (i + 1)) 0 0 (-1) 0 (M 4 s i)).2) := by
  refine CI.mk (own := RX3) (by decide +kernel) rfl (fun _ => rfl) (fun _ => Nat.le_of_ble_eq_true rfl) (lv0 := fun G => [some (.ref (ad G 16 s i)), none, none, none, none, none]) (fun _ => rfl) (fun X G E => ?_)
  have L : ∀ (k : Nat) (j : Nat) (m l : Int32) (to : Nat) (p : Nat → Int32) (v5 : Option Value), j + k = 10 * (i + 1) → to ≤ j → pushF (10 * (i + 1)) 0 0 (-1) 0 (M 4 s i) = pushF k j m l to p → Z X G (0, 0) (QI X G (fun r M' => r = (pushF (10 * (i + 1)) 0 0 (-1) 0 (M 4 s i)).1 ∧ M' = rset M 4 s i (pushF (10 * (i + 1)) 0 0 (-1) 0 (M 4 s i)).2) 0 0) 9 [some (.ref (ad G 16 s i)), some (.int m), some (.int l), some (.int (nI to)), some (.int (nI j)), v5] [] (rset M 4 s i p) 0 0 := by
    intro k
    induction k with
    | zero =>
      intro j m l to p v5 hj hto hE
      refine z_iload_4 (pc := 9) E dX3_pushLeft_9 ?_
      refine z_aload_0 (pc := 11) E dX3_pushLeft_11 ?_
      refine z_get (pc := 12) E dX3_pushLeft_12 fiX3_9 (ok16 (by omega) (by omega)) rfl rfl ?_
      refine z_alen (t0 := 0) (pc := 15) E dX3_pushLeft_15 (ok4 (by omega) (by omega)) rfl rfl rfl ?_
      refine z_icmp_ge (pc := 16) (tgt := 77) E dX3_pushLeft_16 (by decide) (fun h16 => ?_) (fun h16 => absurd h16 (fun z => z (ct_ge rfl (by omega) (by omega))))
      refine z_iload_1 (pc := 77) E dX3_pushLeft_77 ?_
      exact z_iret (pc := 78) E dX3_pushLeft_78 ⟨by rw [hE]; rfl, by rw [hE]; rfl⟩
    | succ k ih =>
      intro j m l to p v5 hj hto hE
      refine z_iload_4 (pc := 9) E dX3_pushLeft_9 ?_
      refine z_aload_0 (pc := 11) E dX3_pushLeft_11 ?_
      refine z_get (pc := 12) E dX3_pushLeft_12 fiX3_9 (ok16 (by omega) (by omega)) rfl rfl ?_
      refine z_alen (t0 := 0) (pc := 15) E dX3_pushLeft_15 (ok4 (by omega) (by omega)) rfl rfl rfl ?_
      refine z_icmp_ge (pc := 16) (tgt := 77) E dX3_pushLeft_16 (by decide) (fun h16 => absurd h16 (ct_lt rfl (by omega) (by omega))) (fun h16 => ?_)
      refine z_aload_0 (pc := 19) E dX3_pushLeft_19 ?_
      refine z_get (pc := 20) E dX3_pushLeft_20 fiX3_9 (ok16 (by omega) (by omega)) rfl rfl ?_
      refine z_iload_4 (pc := 23) E dX3_pushLeft_23 ?_
      refine z_iald (pc := 25) E dX3_pushLeft_25 (ok4 (by omega) (by omega)) rfl rfl (by omega) (by omega) ?_
      rw [rset_cell]
      refine z_istore_5 (pc := 26) E dX3_pushLeft_26 rfl ?_
      refine z_iload_5 (pc := 28) E dX3_pushLeft_28 ?_
      refine z_iconst (v := -1) (pc := 30) E dX3_pushLeft_30 (by decide) ?_
      refine z_icmp_eq (pc := 31) (tgt := 71) E dX3_pushLeft_31 (by decide) (fun h31 => ?_) (fun h31 => ?_)
      · refine z_iinc_4 (pc := 71) E dX3_pushLeft_71 (nI_1 j) rfl ?_
        refine z_goto (pc := 74) (tgt := 9) E dX3_pushLeft_74 (by decide) ?_
        first | exact ih (j + 1) _ _ _ _ _ (by omega) (by omega) (hE.trans (push_n h31)) | exact z_mem (by rw [mset_rset, mset_rset]) (ih (j + 1) _ _ (to + 1) _ _ (by omega) (by omega) (hE.trans (push_a h31 (Or.inl h37)))) | exact z_mem (by rw [mset_rset, mset_rset]) (ih (j + 1) _ _ (to + 1) _ _ (by omega) (by omega) (hE.trans (push_a h31 (Or.inr ((nI_leI (n31 (by omega)) (n31 (by omega))).mp h43))))) | exact z_mem (by rw [mset_rset, mset_rset]) (ih (j + 1) _ _ (to + 1) _ _ (by omega) (by omega) (hE.trans (push_b h31 h37 (Nat.not_le.mp (fun z => h43 ((nI_leI (n31 (by omega)) (n31 (by omega))).mpr z))))))
      · refine z_iload_5 (pc := 34) E dX3_pushLeft_34 ?_
        refine z_iload_2 (pc := 36) E dX3_pushLeft_36 ?_
        refine z_icmp_eq (pc := 37) (tgt := 49) E dX3_pushLeft_37 (by decide) (fun h37 => ?_) (fun h37 => ?_)
        · refine z_iload_5 (pc := 49) E dX3_pushLeft_49 ?_
          refine z_istore_2 (pc := 51) E dX3_pushLeft_51 rfl ?_
          refine z_aload_0 (pc := 52) E dX3_pushLeft_52 ?_
          refine z_get (pc := 53) E dX3_pushLeft_53 fiX3_9 (ok16 (by omega) (by omega)) rfl rfl ?_
          refine z_iload_4 (pc := 56) E dX3_pushLeft_56 ?_
          refine z_iconst (v := -1) (pc := 58) E dX3_pushLeft_58 (by decide) ?_
          refine z_iast (pc := 59) E dX3_pushLeft_59 (ok4 (by omega) (by omega)) (fun _ => rfl) rfl (by omega) (by omega) ?_
          refine z_aload_0 (pc := 60) E dX3_pushLeft_60 ?_
          refine z_get (pc := 61) E dX3_pushLeft_61 fiX3_9 (ok16 (by omega) (by omega)) rfl rfl ?_
          refine z_iload_3 (pc := 64) E dX3_pushLeft_64 ?_
          refine z_iload_5 (pc := 65) E dX3_pushLeft_65 ?_
          refine z_iast (pc := 67) E dX3_pushLeft_67 (ok4 (by omega) (by omega)) (fun _ => rfl) rfl (by omega) (by omega) ?_
          refine z_iinc_3 (pc := 68) E dX3_pushLeft_68 (nI_1 to) rfl ?_
          refine z_iinc_4 (pc := 71) E dX3_pushLeft_71 (nI_1 j) rfl ?_
          refine z_goto (pc := 74) (tgt := 9) E dX3_pushLeft_74 (by decide) ?_
          first | exact ih (j + 1) _ _ _ _ _ (by omega) (by omega) (hE.trans (push_n h31)) | exact z_mem (by rw [mset_rset, mset_rset]) (ih (j + 1) _ _ (to + 1) _ _ (by omega) (by omega) (hE.trans (push_a h31 (Or.inl h37)))) | exact z_mem (by rw [mset_rset, mset_rset]) (ih (j + 1) _ _ (to + 1) _ _ (by omega) (by omega) (hE.trans (push_a h31 (Or.inr ((nI_leI (n31 (by omega)) (n31 (by omega))).mp h43))))) | exact z_mem (by rw [mset_rset, mset_rset]) (ih (j + 1) _ _ (to + 1) _ _ (by omega) (by omega) (hE.trans (push_b h31 h37 (Nat.not_le.mp (fun z => h43 ((nI_leI (n31 (by omega)) (n31 (by omega))).mpr z))))))
        · refine z_iload_3 (pc := 40) E dX3_pushLeft_40 ?_
          refine z_iload_4 (pc := 41) E dX3_pushLeft_41 ?_
          refine z_icmp_ge (pc := 43) (tgt := 49) E dX3_pushLeft_43 (by decide) (fun h43 => ?_) (fun h43 => ?_)
          · refine z_iload_5 (pc := 49) E dX3_pushLeft_49 ?_
            refine z_istore_2 (pc := 51) E dX3_pushLeft_51 rfl ?_
            refine z_aload_0 (pc := 52) E dX3_pushLeft_52 ?_
            refine z_get (pc := 53) E dX3_pushLeft_53 fiX3_9 (ok16 (by omega) (by omega)) rfl rfl ?_
            refine z_iload_4 (pc := 56) E dX3_pushLeft_56 ?_
            refine z_iconst (v := -1) (pc := 58) E dX3_pushLeft_58 (by decide) ?_
            refine z_iast (pc := 59) E dX3_pushLeft_59 (ok4 (by omega) (by omega)) (fun _ => rfl) rfl (by omega) (by omega) ?_
            refine z_aload_0 (pc := 60) E dX3_pushLeft_60 ?_
            refine z_get (pc := 61) E dX3_pushLeft_61 fiX3_9 (ok16 (by omega) (by omega)) rfl rfl ?_
            refine z_iload_3 (pc := 64) E dX3_pushLeft_64 ?_
            refine z_iload_5 (pc := 65) E dX3_pushLeft_65 ?_
            refine z_iast (pc := 67) E dX3_pushLeft_67 (ok4 (by omega) (by omega)) (fun _ => rfl) rfl (by omega) (by omega) ?_
            refine z_iinc_3 (pc := 68) E dX3_pushLeft_68 (nI_1 to) rfl ?_
            refine z_iinc_4 (pc := 71) E dX3_pushLeft_71 (nI_1 j) rfl ?_
            refine z_goto (pc := 74) (tgt := 9) E dX3_pushLeft_74 (by decide) ?_
            first | exact ih (j + 1) _ _ _ _ _ (by omega) (by omega) (hE.trans (push_n h31)) | exact z_mem (by rw [mset_rset, mset_rset]) (ih (j + 1) _ _ (to + 1) _ _ (by omega) (by omega) (hE.trans (push_a h31 (Or.inl h37)))) | exact z_mem (by rw [mset_rset, mset_rset]) (ih (j + 1) _ _ (to + 1) _ _ (by omega) (by omega) (hE.trans (push_a h31 (Or.inr ((nI_leI (n31 (by omega)) (n31 (by omega))).mp h43))))) | exact z_mem (by rw [mset_rset, mset_rset]) (ih (j + 1) _ _ (to + 1) _ _ (by omega) (by omega) (hE.trans (push_b h31 h37 (Nat.not_le.mp (fun z => h43 ((nI_leI (n31 (by omega)) (n31 (by omega))).mpr z))))))
          · refine z_iinc_1 (pc := 46) E dX3_pushLeft_46 rfl rfl ?_
            refine z_iload_5 (pc := 49) E dX3_pushLeft_49 ?_
            refine z_istore_2 (pc := 51) E dX3_pushLeft_51 rfl ?_
            refine z_aload_0 (pc := 52) E dX3_pushLeft_52 ?_
            refine z_get (pc := 53) E dX3_pushLeft_53 fiX3_9 (ok16 (by omega) (by omega)) rfl rfl ?_
            refine z_iload_4 (pc := 56) E dX3_pushLeft_56 ?_
            refine z_iconst (v := -1) (pc := 58) E dX3_pushLeft_58 (by decide) ?_
            refine z_iast (pc := 59) E dX3_pushLeft_59 (ok4 (by omega) (by omega)) (fun _ => rfl) rfl (by omega) (by omega) ?_
            refine z_aload_0 (pc := 60) E dX3_pushLeft_60 ?_
            refine z_get (pc := 61) E dX3_pushLeft_61 fiX3_9 (ok16 (by omega) (by omega)) rfl rfl ?_
            refine z_iload_3 (pc := 64) E dX3_pushLeft_64 ?_
            refine z_iload_5 (pc := 65) E dX3_pushLeft_65 ?_
            refine z_iast (pc := 67) E dX3_pushLeft_67 (ok4 (by omega) (by omega)) (fun _ => rfl) rfl (by omega) (by omega) ?_
            refine z_iinc_3 (pc := 68) E dX3_pushLeft_68 (nI_1 to) rfl ?_
            refine z_iinc_4 (pc := 71) E dX3_pushLeft_71 (nI_1 j) rfl ?_
            refine z_goto (pc := 74) (tgt := 9) E dX3_pushLeft_74 (by decide) ?_
            first | exact ih (j + 1) _ _ _ _ _ (by omega) (by omega) (hE.trans (push_n h31)) | exact z_mem (by rw [mset_rset, mset_rset]) (ih (j + 1) _ _ (to + 1) _ _ (by omega) (by omega) (hE.trans (push_a h31 (Or.inl h37)))) | exact z_mem (by rw [mset_rset, mset_rset]) (ih (j + 1) _ _ (to + 1) _ _ (by omega) (by omega) (hE.trans (push_a h31 (Or.inr ((nI_leI (n31 (by omega)) (n31 (by omega))).mp h43))))) | exact z_mem (by rw [mset_rset, mset_rset]) (ih (j + 1) _ _ (to + 1) _ _ (by omega) (by omega) (hE.trans (push_b h31 h37 (Nat.not_le.mp (fun z => h43 ((nI_leI (n31 (by omega)) (n31 (by omega))).mpr z))))))
  refine z_iconst (v := 0) (pc := 0) E dX3_pushLeft_0 (by decide) ?_
  refine z_istore_1 (pc := 1) E dX3_pushLeft_1 rfl ?_
  refine z_iconst (v := -1) (pc := 2) E dX3_pushLeft_2 (by decide) ?_
  refine z_istore_2 (pc := 3) E dX3_pushLeft_3 rfl ?_
  refine z_iconst (v := 0) (pc := 4) E dX3_pushLeft_4 (by decide) ?_
  refine z_istore_3 (pc := 5) E dX3_pushLeft_5 rfl ?_
  refine z_iconst (v := 0) (pc := 6) E dX3_pushLeft_6 (by decide) ?_
  refine z_istore_4 (pc := 7) E dX3_pushLeft_7 rfl ?_
  exact z_mem (rset_self _ _ _ _) (L (10 * (i + 1)) 0 0 (-1) 0 _ _ (by omega) (by omega) rfl)

