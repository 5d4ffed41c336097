set_option maxRecDepth 100000 in
set_option maxHeartbeats 4000000 in
theorem m_X7_get (M : Mem) (s t w : Nat) (hs : s < 2) (ht : t < 40) (hw : w < 11) : CI yX7_get cX7_get 3 (some .int) 0 0 0 (fun G => [.ref (ad G 6 s 0), .int (nI t), .int (nI w)]) M (fun r M' => r = oc M s t w ∧ M' = M) := by
  refine CI.mk (own := RX7) (by decide +kernel) rfl (fun _ => rfl) (fun _ => Nat.le_of_ble_eq_true rfl) (lv0 := fun G => [some (.ref (ad G 6 s 0)), some (.int (nI t)), some (.int (nI w))]) (fun _ => rfl) (fun X G E => ?_)
  refine z_aload_0 (pc := 0) E dX7_get_0 ?_
  refine z_get (pc := 1) E dX7_get_1 fiX7_26 (ok6 (by omega)) rfl rfl ?_
  refine z_bipush (v := 11) (pc := 4) E dX7_get_4 (by decide) ?_
  refine z_iload_1 (pc := 6) E dX7_get_6 ?_
  refine z_imul (pc := 7) E dX7_get_7 ?_
  refine z_iload_2 (pc := 8) E dX7_get_8 ?_
  refine z_iadd (pc := 9) E dX7_get_9 ?_
  refine z_iald (pc := 10) E dX7_get_10 (ok9 (by omega)) rfl (nI_row t w) (by omega) (by omega) ?_
  exact z_iret (pc := 11) E dX7_get_11 ⟨rfl, rfl⟩

set_option maxRecDepth 100000 in
set_option maxHeartbeats 4000000 in
theorem m_X7_set (M : Mem) (s t w : Nat) (x : Int32) (hs : s < 2) (ht : t < 40) (hw : w < 11) : CV yX7_set cX7_set 4 none 0 0 0 (fun G => [.ref (ad G 6 s 0), .int (nI t), .int (nI w), .int x]) M (fun M' => M' = mset M 9 s 0 (11 * t + w) x) := by
  refine CV.mk (own := RX7) (by decide +kernel) rfl (fun _ => rfl) (fun _ => Nat.le_of_ble_eq_true rfl) (lv0 := fun G => [some (.ref (ad G 6 s 0)), some (.int (nI t)), some (.int (nI w)), some (.int x)]) (fun _ => rfl) (fun X G E => ?_)
  refine z_aload_0 (pc := 0) E dX7_set_0 ?_
  refine z_get (pc := 1) E dX7_set_1 fiX7_26 (ok6 (by omega)) rfl rfl ?_
  refine z_bipush (v := 11) (pc := 4) E dX7_set_4 (by decide) ?_
  refine z_iload_1 (pc := 6) E dX7_set_6 ?_
  refine z_imul (pc := 7) E dX7_set_7 ?_
  refine z_iload_2 (pc := 8) E dX7_set_8 ?_
  refine z_iadd (pc := 9) E dX7_set_9 ?_
  refine z_iload_3 (pc := 10) E dX7_set_10 ?_
  refine z_iast (pc := 11) E dX7_set_11 (ok9 (by omega)) (fun _ => rfl) (nI_row t w) (by omega) (by omega) ?_
  exact z_vret (pc := 12) E dX7_set_12 rfl

set_option maxRecDepth 100000 in
set_option maxHeartbeats 4000000 in
theorem m_X7_interestOf (M : Mem) (s t : Nat) (hs : s < 2) (ht : t < 40) : CI yX7_interestOf cX7_interestOf 2 (some .int) 1 0 0 (fun G => [.ref (ad G 6 s 0), .int (nI t)]) M (fun r M' => r = intr (M 6 s 0 0) (oc M s t 10) (oc M s t 4) ∧ M' = M) := by
  refine CI.mk (own := RX7) (by decide +kernel) rfl (fun _ => rfl) (fun _ => Nat.le_of_ble_eq_true rfl) (lv0 := fun G => [some (.ref (ad G 6 s 0)), some (.int (nI t))]) (fun _ => rfl) (fun X G E => ?_)
  refine z_aload_0 (pc := 0) E dX7_interestOf_0 ?_
  refine z_get (pc := 1) E dX7_interestOf_1 fiX7_38 (ok6 (by omega)) rfl rfl ?_
  refine z_aload_0 (pc := 4) E dX7_interestOf_4 ?_
  refine z_iload_1 (pc := 5) E dX7_interestOf_5 ?_
  refine z_bipush (v := 10) (pc := 6) E dX7_interestOf_6 (by decide) ?_
  refine z_ivp (pc := 8) E (m_X7_get _ _ t 10 hs (by omega) (by decide)) rfl rfl kX7_get mlX7_58 dX7_interestOf_8 (ok6 (by omega)) rfl rfl rfl (Nat.le_of_ble_eq_true rfl) rfl (by decide) (by decide) ⟨by omega, by omega⟩ ?_
  refine z_isub (pc := 11) E dX7_interestOf_11 ?_
  refine z_bipush (v := 30) (pc := 12) E dX7_interestOf_12 (by decide) ?_
  refine z_idiv (pc := 14) E dX7_interestOf_14 (by decide) ?_
  refine z_iconst (v := 1) (pc := 15) E dX7_interestOf_15 (by decide) ?_
  refine z_iadd (pc := 16) E dX7_interestOf_16 ?_
  refine z_iconst (v := 1) (pc := 17) E dX7_interestOf_17 (by decide) ?_
  refine z_aload_0 (pc := 18) E dX7_interestOf_18 ?_
  refine z_iload_1 (pc := 19) E dX7_interestOf_19 ?_
  refine z_iconst (v := 4) (pc := 20) E dX7_interestOf_20 (by decide) ?_
  refine z_ivp (pc := 21) E (m_X7_get _ _ t 4 hs (by omega) (by decide)) rfl rfl kX7_get mlX7_58 dX7_interestOf_21 (ok6 (by omega)) rfl rfl rfl (Nat.le_of_ble_eq_true rfl) rfl (by decide) (by decide) ⟨by omega, by omega⟩ ?_
  refine z_iconst (v := 5) (pc := 24) E dX7_interestOf_24 (by decide) ?_
  refine z_imul (pc := 25) E dX7_interestOf_25 ?_
  refine z_bipush (v := 100) (pc := 26) E dX7_interestOf_26 (by decide) ?_
  refine z_idiv (pc := 28) E dX7_interestOf_28 (by decide) ?_
  refine z_max (pc := 29) E dX7_interestOf_29 mlX7_62 rfl (by decide) (Nat.le_of_ble_eq_true rfl) ⟨by omega, by omega⟩ ?_
  refine z_imul (pc := 32) E dX7_interestOf_32 ?_
  exact z_iret (pc := 33) E dX7_interestOf_33 ⟨rfl, rfl⟩

set_option maxRecDepth 100000 in
set_option maxHeartbeats 4000000 in
theorem m_X7_owed (M : Mem) (s t : Nat) (hs : s < 2) (ht : t < 40) : CI yX7_owed cX7_owed 2 (some .int) 2 0 0 (fun G => [.ref (ad G 6 s 0), .int (nI t)]) M (fun r M' => r = owedV M s t ∧ M' = M) := by
  refine CI.mk (own := RX7) (by decide +kernel) rfl (fun _ => rfl) (fun _ => Nat.le_of_ble_eq_true rfl) (lv0 := fun G => [some (.ref (ad G 6 s 0)), some (.int (nI t))]) (fun _ => rfl) (fun X G E => ?_)
  refine z_aload_0 (pc := 0) E dX7_owed_0 ?_
  refine z_iload_1 (pc := 1) E dX7_owed_1 ?_
  refine z_bipush (v := 6) (pc := 2) E dX7_owed_2 (by decide) ?_
  refine z_ivp (pc := 4) E (m_X7_get _ _ t 6 hs (by omega) (by decide)) rfl rfl kX7_get mlX7_58 dX7_owed_4 (ok6 (by omega)) rfl rfl rfl (Nat.le_of_ble_eq_true rfl) rfl (by decide) (by decide) ⟨by omega, by omega⟩ ?_
  refine z_if_ne (pc := 7) (tgt := 25) E dX7_owed_7 (by decide) (fun h7 => ?_) (fun h7 => ?_)
  · refine z_iconst (v := 0) (pc := 25) E dX7_owed_25 (by decide) ?_
    exact z_iret (pc := 26) E dX7_owed_26 ⟨by first | exact (if_pos h7).symm | exact (if_neg h7).symm, rfl⟩
  · refine z_aload_0 (pc := 10) E dX7_owed_10 ?_
    refine z_iload_1 (pc := 11) E dX7_owed_11 ?_
    refine z_iconst (v := 4) (pc := 12) E dX7_owed_12 (by decide) ?_
    refine z_ivp (pc := 13) E (m_X7_get _ _ t 4 hs (by omega) (by decide)) rfl rfl kX7_get mlX7_58 dX7_owed_13 (ok6 (by omega)) rfl rfl rfl (Nat.le_of_ble_eq_true rfl) rfl (by decide) (by decide) ⟨by omega, by omega⟩ ?_
    refine z_aload_0 (pc := 16) E dX7_owed_16 ?_
    refine z_iload_1 (pc := 17) E dX7_owed_17 ?_
    refine z_ivp (pc := 18) E (m_X7_interestOf _ _ _ hs ht) rfl rfl kX7_interestOf mlX7_67 dX7_owed_18 (ok6 (by omega)) rfl rfl rfl (Nat.le_of_ble_eq_true rfl) rfl (by decide) (by decide) ⟨by omega, by omega⟩ ?_
    refine z_iadd (pc := 21) E dX7_owed_21 ?_
    refine z_goto (pc := 22) (tgt := 26) E dX7_owed_22 (by decide) ?_
    exact z_iret (pc := 26) E dX7_owed_26 ⟨by first | exact (if_pos h7).symm | exact (if_neg h7).symm, rfl⟩

set_option maxRecDepth 100000 in
set_option maxHeartbeats 4000000 in
theorem m_X7_how (M : Mem) (s n : Nat) (x : Int32) (hs : s < 2) (hn : M 6 s 0 2 = nI n) (h40 : n ≤ 40) : CI yX7_how cX7_how 4 (some .int) 1 0 0 (fun G => [.ref (ad G 6 s 0), .int x]) M (fun r M' => r = howN M s n x ∧ M' = M) := by
  refine CI.mk (own := RX7) (by decide +kernel) rfl (fun _ => rfl) (fun _ => Nat.le_of_ble_eq_true rfl) (lv0 := fun G => [some (.ref (ad G 6 s 0)), some (.int x), none, none]) (fun _ => rfl) (fun X G E => ?_)
  have L : ∀ (k : Nat) (t : Nat), t + k = n → Z X G (0, 0) (QI X G (fun r M' => r = howN M s n x ∧ M' = M) 0 0) 4 [some (.ref (ad G 6 s 0)), some (.int x), some (.int (fsum t (fun t => b2 (oc M s t 6 = x)))), some (.int (nI t))] [] (M) 0 0 := by
    intro k
    induction k with
    | zero =>
      intro t ht
      obtain rfl : t = n := by omega
      refine z_iload_3 (pc := 4) E dX7_how_4 ?_
      refine z_aload_0 (pc := 5) E dX7_how_5 ?_
      refine z_get (pc := 6) E dX7_how_6 fiX7_41 (ok6 (by omega)) rfl rfl ?_
      refine z_icmp_ge (pc := 9) (tgt := 37) E dX7_how_9 (by decide) (fun h9 => ?_) (fun h9 => absurd h9 (fun z => z (ct_ge hn (by omega) (by omega))))
      refine z_iload_2 (pc := 37) E dX7_how_37 ?_
      exact z_iret (pc := 38) E dX7_how_38 ⟨rfl, rfl⟩
    | succ k ih =>
      intro t ht
      refine z_iload_3 (pc := 4) E dX7_how_4 ?_
      refine z_aload_0 (pc := 5) E dX7_how_5 ?_
      refine z_get (pc := 6) E dX7_how_6 fiX7_41 (ok6 (by omega)) rfl rfl ?_
      refine z_icmp_ge (pc := 9) (tgt := 37) E dX7_how_9 (by decide) (fun h9 => absurd h9 (ct_lt hn (by omega) (by omega))) (fun h9 => ?_)
      refine z_iload_2 (pc := 12) E dX7_how_12 ?_
      refine z_aload_0 (pc := 13) E dX7_how_13 ?_
      refine z_iload_3 (pc := 14) E dX7_how_14 ?_
      refine z_bipush (v := 6) (pc := 15) E dX7_how_15 (by decide) ?_
      refine z_ivp (pc := 17) E (m_X7_get _ _ t 6 hs (by omega) (by decide)) rfl rfl kX7_get mlX7_58 dX7_how_17 (ok6 (by omega)) rfl rfl rfl (Nat.le_of_ble_eq_true rfl) rfl (by decide) (by decide) ⟨by omega, by omega⟩ ?_
      refine z_iload_1 (pc := 20) E dX7_how_20 ?_
      refine z_icmp_ne (pc := 21) (tgt := 28) E dX7_how_21 (by decide) (fun h21 => ?_) (fun h21 => ?_)
      · refine z_iconst (v := 0) (pc := 28) E dX7_how_28 (by decide) ?_
        refine z_iadd (pc := 29) E dX7_how_29 ?_
        refine z_istore_2 (pc := 30) E dX7_how_30 rfl ?_
        refine z_iinc_3 (pc := 31) E dX7_how_31 (nI_1 t) rfl ?_
        refine z_goto (pc := 34) (tgt := 4) E dX7_how_34 (by decide) ?_
        first | rw [fs_y (f := (fun t => b2 (oc M s t 6 = x))) (b2_t h21)] | rw [fs_y (f := (fun t => b2 (oc M s t 6 = x))) (b2_f h21)]
        exact ih (t + 1) (by omega)
      · refine z_iconst (v := 1) (pc := 24) E dX7_how_24 (by decide) ?_
        refine z_goto (pc := 25) (tgt := 29) E dX7_how_25 (by decide) ?_
        refine z_iadd (pc := 29) E dX7_how_29 ?_
        refine z_istore_2 (pc := 30) E dX7_how_30 rfl ?_
        refine z_iinc_3 (pc := 31) E dX7_how_31 (nI_1 t) rfl ?_
        refine z_goto (pc := 34) (tgt := 4) E dX7_how_34 (by decide) ?_
        first | rw [fs_y (f := (fun t => b2 (oc M s t 6 = x))) (b2_t h21)] | rw [fs_y (f := (fun t => b2 (oc M s t 6 = x))) (b2_f h21)]
        exact ih (t + 1) (by omega)
  refine z_iconst (v := 0) (pc := 0) E dX7_how_0 (by decide) ?_
  refine z_istore_2 (pc := 1) E dX7_how_1 rfl ?_
  refine z_iconst (v := 0) (pc := 2) E dX7_how_2 (by decide) ?_
  refine z_istore_3 (pc := 3) E dX7_how_3 rfl ?_
  exact L n 0 (by omega)

set_option maxRecDepth 100000 in
set_option maxHeartbeats 4000000 in
theorem m_X7_take (M : Mem) (s t : Nat) (hs : s < 2) (ht : t < 40) : CV yX7_take cX7_take 3 none 1 0 0 (fun G => [.ref (ad G 6 s 0), .int (nI t)]) M (fun M' => M' = takeM M s t) := by
  refine CV.mk (own := RX7) (by decide +kernel) rfl (fun _ => rfl) (fun _ => Nat.le_of_ble_eq_true rfl) (lv0 := fun G => [some (.ref (ad G 6 s 0)), some (.int (nI t)), none]) (fun _ => rfl) (fun X G E => ?_)
  have L : ∀ (k : Nat) (j : Nat), j + k = 60 → Z X G (0, 0) (QV X G (fun M' => M' = takeM M s t) 0 0) 2 [some (.ref (ad G 6 s 0)), some (.int (nI t)), some (.int (nI j))] [] (rset M 10 s 0 (clrF (M 10 s 0) (nI t) j)) 0 0 := by
    intro k
    induction k with
    | zero =>
      intro j hj
      obtain rfl : j = 60 := by omega
      refine z_iload_2 (pc := 2) E dX7_take_2 ?_
      refine z_bipush (v := 60) (pc := 3) E dX7_take_3 (by decide) ?_
      refine z_icmp_ge (pc := 5) (tgt := 31) E dX7_take_5 (by decide) (fun h5 => ?_) (fun h5 => absurd h5 (fun z => z (ct_ge (n := 60) rfl (by omega) (by omega))))
      refine z_aload_0 (pc := 31) E dX7_take_31 ?_
      refine z_iload_1 (pc := 32) E dX7_take_32 ?_
      refine z_bipush (v := 7) (pc := 33) E dX7_take_33 (by decide) ?_
      refine z_iconst (v := -1) (pc := 35) E dX7_take_35 (by decide) ?_
      refine z_vvf (pc := 36) E (m_X7_set _ _ t 7 _ hs (by omega) (by decide)) rfl rfl kX7_set mlX7_54 dX7_take_36 (ok6 (by omega)) rfl rfl rfl (Nat.le_of_ble_eq_true rfl) rfl (by decide) (by decide) ⟨by omega, by omega⟩ ?_
      exact z_vret (pc := 39) E dX7_take_39 rfl
    | succ k ih =>
      intro j hj
      refine z_iload_2 (pc := 2) E dX7_take_2 ?_
      refine z_bipush (v := 60) (pc := 3) E dX7_take_3 (by decide) ?_
      refine z_icmp_ge (pc := 5) (tgt := 31) E dX7_take_5 (by decide) (fun h5 => absurd h5 (ct_lt (n := 60) rfl (by omega) (by omega))) (fun h5 => ?_)
      refine z_aload_0 (pc := 8) E dX7_take_8 ?_
      refine z_get (pc := 9) E dX7_take_9 fiX7_29 (ok6 (by omega)) rfl rfl ?_
      refine z_iload_2 (pc := 12) E dX7_take_12 ?_
      refine z_iald (pc := 13) E dX7_take_13 (ok10 (by omega)) rfl rfl (by omega) (by omega) ?_
      refine z_iload_1 (pc := 14) E dX7_take_14 ?_
      refine z_icmp_ne (pc := 15) (tgt := 25) E dX7_take_15 (by decide) (fun h15 => ?_) (fun h15 => ?_)
      · refine z_iinc_2 (pc := 25) E dX7_take_25 (nI_1 j) rfl ?_
        refine z_goto (pc := 28) (tgt := 2) E dX7_take_28 (by decide) ?_
        first | exact z_mem (by rw [mset_rset]; exact rset_congr (fun q => clr_s (Decidable.not_not.mp (fun z => z ((by rw [rset_cell, clr_j] at h15; exact h15)))) q)) (ih (j + 1) (by omega)) | exact z_mem (rset_congr (fun q => clr_n (by rw [rset_cell, clr_j] at h15; exact h15) q)) (ih (j + 1) (by omega))
      · refine z_aload_0 (pc := 18) E dX7_take_18 ?_
        refine z_get (pc := 19) E dX7_take_19 fiX7_29 (ok6 (by omega)) rfl rfl ?_
        refine z_iload_2 (pc := 22) E dX7_take_22 ?_
        refine z_iconst (v := -1) (pc := 23) E dX7_take_23 (by decide) ?_
        refine z_iast (pc := 24) E dX7_take_24 (ok10 (by omega)) (fun _ => rfl) rfl (by omega) (by omega) ?_
        refine z_iinc_2 (pc := 25) E dX7_take_25 (nI_1 j) rfl ?_
        refine z_goto (pc := 28) (tgt := 2) E dX7_take_28 (by decide) ?_
        first | exact z_mem (by rw [mset_rset]; exact rset_congr (fun q => clr_s (Decidable.not_not.mp (fun z => z ((by rw [rset_cell, clr_j] at h15; exact h15)))) q)) (ih (j + 1) (by omega)) | exact z_mem (rset_congr (fun q => clr_n (by rw [rset_cell, clr_j] at h15; exact h15) q)) (ih (j + 1) (by omega))
  refine z_iconst (v := 0) (pc := 0) E dX7_take_0 (by decide) ?_
  refine z_istore_2 (pc := 1) E dX7_take_1 rfl ?_
  exact z_mem (by rw [clr_0]; exact rset_self _ _ _ _) (L 60 0 (by omega))

set_option maxRecDepth 100000 in
set_option maxHeartbeats 4000000 in
theorem m_X7_lay (M : Mem) (s t a W : Nat) (hs : s < 2) (ht : t < 40) (hw : oc M s t 3 = nI W) (haW : a + W ≤ 60) : CV yX7_lay cX7_lay 4 none 1 0 0 (fun G => [.ref (ad G 6 s 0), .int (nI t), .int (nI a)]) M (fun M' => M' = mlayM M s t a W) := by
  refine CV.mk (own := RX7) (by decide +kernel) rfl (fun _ => rfl) (fun _ => Nat.le_of_ble_eq_true rfl) (lv0 := fun G => [some (.ref (ad G 6 s 0)), some (.int (nI t)), some (.int (nI a)), none]) (fun _ => rfl) (fun X G E => ?_)
  have L : ∀ (k : Nat) (j : Nat), j + k = W → Z X G (0, 0) (QV X G (fun M' => M' = mlayM M s t a W) 0 0) 10 [some (.ref (ad G 6 s 0)), some (.int (nI t)), some (.int (nI a)), some (.int (nI (a + j)))] [] (rset (mset M 9 s 0 (11 * t + 7) (nI a)) 10 s 0 (layN (M 10 s 0) (nI t) a j)) 0 0 := by
    intro k
    induction k with
    | zero =>
      intro j hj
      obtain rfl : j = W := by omega
      have hw9 := ((show oc (rset (mset M 9 s 0 (11 * t + 7) (nI a)) 10 s 0 (layN (M 10 s 0) (nI t) a j)) s t 3 = oc M s t 3 from by show rset _ _ _ _ _ 9 s 0 _ = _; rw [rset_k (by decide), mset_s (by omega)]).trans hw)
      refine z_iload_3 (pc := 10) E dX7_lay_10 ?_
      refine z_iload_2 (pc := 11) E dX7_lay_11 ?_
      refine z_aload_0 (pc := 12) E dX7_lay_12 ?_
      refine z_iload_1 (pc := 13) E dX7_lay_13 ?_
      refine z_iconst (v := 3) (pc := 14) E dX7_lay_14 (by decide) ?_
      refine z_ivp (pc := 15) E (m_X7_get _ _ t 3 hs (by omega) (by decide)) rfl rfl kX7_get mlX7_58 dX7_lay_15 (ok6 (by omega)) rfl rfl rfl (Nat.le_of_ble_eq_true rfl) rfl (by decide) (by decide) ⟨by omega, by omega⟩ ?_
      refine z_iadd (pc := 18) E dX7_lay_18 ?_
      refine z_icmp_ge (pc := 19) (tgt := 35) E dX7_lay_19 (by decide) (fun h19 => ?_) (fun h19 => absurd h19 (fun z => z (by rw [hw9, nI_add]; exact nI_le (by omega) (n31 (by omega)))))
      exact z_vret (pc := 35) E dX7_lay_35 rfl
    | succ k ih =>
      intro j hj
      have hw9 := ((show oc (rset (mset M 9 s 0 (11 * t + 7) (nI a)) 10 s 0 (layN (M 10 s 0) (nI t) a j)) s t 3 = oc M s t 3 from by show rset _ _ _ _ _ 9 s 0 _ = _; rw [rset_k (by decide), mset_s (by omega)]).trans hw)
      refine z_iload_3 (pc := 10) E dX7_lay_10 ?_
      refine z_iload_2 (pc := 11) E dX7_lay_11 ?_
      refine z_aload_0 (pc := 12) E dX7_lay_12 ?_
      refine z_iload_1 (pc := 13) E dX7_lay_13 ?_
      refine z_iconst (v := 3) (pc := 14) E dX7_lay_14 (by decide) ?_
      refine z_ivp (pc := 15) E (m_X7_get _ _ t 3 hs (by omega) (by decide)) rfl rfl kX7_get mlX7_58 dX7_lay_15 (ok6 (by omega)) rfl rfl rfl (Nat.le_of_ble_eq_true rfl) rfl (by decide) (by decide) ⟨by omega, by omega⟩ ?_
      refine z_iadd (pc := 18) E dX7_lay_18 ?_
      refine z_icmp_ge (pc := 19) (tgt := 35) E dX7_lay_19 (by decide) (fun h19 => absurd h19 (by rw [hw9, nI_add]; exact nI_ge (by omega) (n31 (by omega)))) (fun h19 => ?_)
      refine z_aload_0 (pc := 22) E dX7_lay_22 ?_
      refine z_get (pc := 23) E dX7_lay_23 fiX7_29 (ok6 (by omega)) rfl rfl ?_
      refine z_iload_3 (pc := 26) E dX7_lay_26 ?_
      refine z_iload_1 (pc := 27) E dX7_lay_27 ?_
      refine z_iast (pc := 28) E dX7_lay_28 (ok10 (by omega)) (fun _ => rfl) rfl (by omega) (by omega) ?_
      refine z_iinc_3 (pc := 29) E dX7_lay_29 (nI_1 (a + j)) rfl ?_
      refine z_goto (pc := 32) (tgt := 10) E dX7_lay_32 (by decide) ?_
      exact z_mem (by rw [mset_rset, ← layN_s]) (ih (j + 1) (by omega))
  refine z_aload_0 (pc := 0) E dX7_lay_0 ?_
  refine z_iload_1 (pc := 1) E dX7_lay_1 ?_
  refine z_bipush (v := 7) (pc := 2) E dX7_lay_2 (by decide) ?_
  refine z_iload_2 (pc := 4) E dX7_lay_4 ?_
  refine z_vvf (pc := 5) E (m_X7_set _ _ t 7 _ hs ht (by decide)) rfl rfl kX7_set mlX7_54 dX7_lay_5 (ok6 (by omega)) rfl rfl rfl (Nat.le_of_ble_eq_true rfl) rfl (by decide) (by decide) ⟨by omega, by omega⟩ ?_
  refine z_iload_2 (pc := 8) E dX7_lay_8 ?_
  refine z_istore_3 (pc := 9) E dX7_lay_9 rfl ?_
  exact z_mem (by rw [layN_0]; exact (congrArg (fun p => rset _ 10 s 0 p) (by rw [mset_k (by decide)])).trans (rset_self _ 10 s 0)) (L W 0 (by omega))

set_option maxRecDepth 100000 in
set_option maxHeartbeats 4000000 in
theorem m_X7_gap (M : Mem) (s W : Nat) (hs : s < 2) (hW : 1 ≤ W) (hW2 : W ≤ 100) : CI yX7_gap cX7_gap 5 (some .int) 0 0 0 (fun G => [.ref (ad G 6 s 0), .int (nI W)]) M (fun r M' => r = mgapF M s (nI W) 3 0 ∧ M' = M) := by
  refine CI.mk (own := RX7) (by decide +kernel) rfl (fun _ => rfl) (fun _ => Nat.le_of_ble_eq_true rfl) (lv0 := fun G => [some (.ref (ad G 6 s 0)), some (.int (nI W)), none, none, none]) (fun _ => rfl) (fun X G E => ?_)
  have L : ∀ (k i : Nat) (v3 v4 : Option Value), i + k = 3 → mgapF M s (nI W) 3 0 = mgapF M s (nI W) k i → Z X G (0, 0) (QI X G (fun r M' => r = mgapF M s (nI W) 3 0 ∧ M' = M) 0 0) 2 [some (.ref (ad G 6 s 0)), some (.int (nI W)), some (.int (nI i)), v3, v4] [] M 0 0 := by
    intro k
    induction k with
    | zero =>
      intro i v3 v4 hi hE
      refine z_iload_2 (pc := 2) E dX7_gap_2 ?_
      refine z_iconst (v := 3) (pc := 3) E dX7_gap_3 (by decide) ?_
      refine z_icmp_ge (pc := 4) (tgt := 71) E dX7_gap_4 (by decide) (fun h4 => ?_) (fun h4 => absurd h4 (fun z => z (ct_ge (n := 3) rfl (by omega) (by omega))))
      refine z_iconst (v := -1) (pc := 71) E dX7_gap_71 (by decide) ?_
      exact z_iret (pc := 72) E dX7_gap_72 ⟨hE.symm, rfl⟩
    | succ k ih =>
      intro i v3 v4 hi hE
      have hu : mgapF M s (nI W) (k + 1) i = if mgapS M s i (nI W) = -1 then mgapF M s (nI W) k (i + 1) else mgapS M s i (nI W) := rfl
      have hf := frN_s (i := i) (by omega)
      have hf2 := frN_le (i := i) (by omega)
      have L2 : ∀ (m j F : Nat), j + m = frN (i + 1) → F ≤ j → mgapS M s i (nI W) = gapB (M 10 s 0) (nI W) 0 m j (nI F) → Z X G (0, 0) (QI X G (fun r M' => r = mgapF M s (nI W) 3 0 ∧ M' = M) 0 0) 16 [some (.ref (ad G 6 s 0)), some (.int (nI W)), some (.int (nI i)), some (.int (nI F)), some (.int (nI j))] [] M 0 0 := by
        intro m
        induction m with
        | zero =>
          intro j F hj hj2 hG
          refine z_iload_4 (pc := 16) E dX7_gap_16 ?_
          refine z_from7 (host := RX8) (pc := 18) E dX7_gap_18 (by decide +kernel) ?_
          refine z_iload_2 (pc := 21) E dX7_gap_21 ?_
          refine z_iconst (v := 1) (pc := 22) E dX7_gap_22 (by decide) ?_
          refine z_iadd (pc := 23) E dX7_gap_23 ?_
          refine z_tald (pc := 24) E dX7_gap_24 (nI_1 i) (by omega) ?_
          refine z_icmp_ge (pc := 25) (tgt := 65) E dX7_gap_25 (by decide) (fun h25 => ?_) (fun h25 => absurd h25 (fun z => z (ct_ge (fromN _) (by omega) (by omega))))
          refine z_iinc_2 (pc := 65) E dX7_gap_65 (nI_1 i) rfl ?_
          refine z_goto (pc := 68) (tgt := 2) E dX7_gap_68 (by decide) ?_
          exact ih (i + 1) _ _ (by omega) (by rw [hE, hu]; exact if_pos (hG.trans rfl))
        | succ m ih2 =>
          intro j F hj hj2 hG
          have hg : gapB (M 10 s 0) (nI W) 0 (m + 1) j (nI F) = if (if M 10 s 0 j = -1 then nI F + 1 else 0) = nI W then nI (0 + j) - nI W + 1 else gapB (M 10 s 0) (nI W) 0 m (j + 1) (if M 10 s 0 j = -1 then nI F + 1 else 0) := rfl
          refine z_iload_4 (pc := 16) E dX7_gap_16 ?_
          refine z_from7 (host := RX8) (pc := 18) E dX7_gap_18 (by decide +kernel) ?_
          refine z_iload_2 (pc := 21) E dX7_gap_21 ?_
          refine z_iconst (v := 1) (pc := 22) E dX7_gap_22 (by decide) ?_
          refine z_iadd (pc := 23) E dX7_gap_23 ?_
          refine z_tald (pc := 24) E dX7_gap_24 (nI_1 i) (by omega) ?_
          refine z_icmp_ge (pc := 25) (tgt := 65) E dX7_gap_25 (by decide) (fun h25 => absurd h25 (ct_lt (fromN _) (by omega) (by omega))) (fun h25 => ?_)
          refine z_aload_0 (pc := 28) E dX7_gap_28 ?_
          refine z_get (pc := 29) E dX7_gap_29 fiX7_29 (ok6 (by omega)) rfl rfl ?_
          refine z_iload_4 (pc := 32) E dX7_gap_32 ?_
          refine z_iald (pc := 34) E dX7_gap_34 (ok10 (by omega)) rfl rfl (by omega) (by omega) ?_
          refine z_iconst (v := -1) (pc := 35) E dX7_gap_35 (by decide) ?_
          refine z_icmp_ne (pc := 36) (tgt := 45) E dX7_gap_36 (by decide) (fun h36 => ?_) (fun h36 => ?_)
          · refine z_iconst (v := 0) (pc := 45) E dX7_gap_45 (by decide) ?_
            refine z_istore_3 (pc := 46) E dX7_gap_46 rfl ?_
            refine z_iload_3 (pc := 47) E dX7_gap_47 ?_
            refine z_iload_1 (pc := 48) E dX7_gap_48 ?_
            refine z_icmp_ne (pc := 49) (tgt := 59) E dX7_gap_49 (by decide) (fun h49 => ?_) (fun h49 => ?_)
            · refine z_iinc_4 (pc := 59) E dX7_gap_59 (nI_1 j) rfl ?_
              refine z_goto (pc := 62) (tgt := 16) E dX7_gap_62 (by decide) ?_
              first | exact ih2 (j + 1) 0 (by omega) (by omega) (by rw [hG, hg, if_neg h36, if_neg h49]; rfl) | (rw [nI_1 F]; exact ih2 (j + 1) (F + 1) (by omega) (by omega) (by rw [hG, hg, if_pos h36, if_neg h49, nI_1]))
            · refine z_iload_4 (pc := 52) E dX7_gap_52 ?_
              refine z_iload_1 (pc := 54) E dX7_gap_54 ?_
              refine z_isub (pc := 55) E dX7_gap_55 ?_
              refine z_iconst (v := 1) (pc := 56) E dX7_gap_56 (by decide) ?_
              refine z_iadd (pc := 57) E dX7_gap_57 ?_
              exact z_iret (pc := 58) E dX7_gap_58 ⟨by first | exact gap_ret hE hu hG (hg.trans (by rw [if_pos h36, if_pos h49, Nat.zero_add])) (gap_hit hj2 (by omega) hW2 h49) | exact absurd h49 (gap_z hW hW2), rfl⟩
          · refine z_iload_3 (pc := 39) E dX7_gap_39 ?_
            refine z_iconst (v := 1) (pc := 40) E dX7_gap_40 (by decide) ?_
            refine z_iadd (pc := 41) E dX7_gap_41 ?_
            refine z_goto (pc := 42) (tgt := 46) E dX7_gap_42 (by decide) ?_
            refine z_istore_3 (pc := 46) E dX7_gap_46 rfl ?_
            refine z_iload_3 (pc := 47) E dX7_gap_47 ?_
            refine z_iload_1 (pc := 48) E dX7_gap_48 ?_
            refine z_icmp_ne (pc := 49) (tgt := 59) E dX7_gap_49 (by decide) (fun h49 => ?_) (fun h49 => ?_)
            · refine z_iinc_4 (pc := 59) E dX7_gap_59 (nI_1 j) rfl ?_
              refine z_goto (pc := 62) (tgt := 16) E dX7_gap_62 (by decide) ?_
              first | exact ih2 (j + 1) 0 (by omega) (by omega) (by rw [hG, hg, if_neg h36, if_neg h49]; rfl) | (rw [nI_1 F]; exact ih2 (j + 1) (F + 1) (by omega) (by omega) (by rw [hG, hg, if_pos h36, if_neg h49, nI_1]))
            · refine z_iload_4 (pc := 52) E dX7_gap_52 ?_
              refine z_iload_1 (pc := 54) E dX7_gap_54 ?_
              refine z_isub (pc := 55) E dX7_gap_55 ?_
              refine z_iconst (v := 1) (pc := 56) E dX7_gap_56 (by decide) ?_
              refine z_iadd (pc := 57) E dX7_gap_57 ?_
              exact z_iret (pc := 58) E dX7_gap_58 ⟨by first | exact gap_ret hE hu hG (hg.trans (by rw [if_pos h36, if_pos h49, Nat.zero_add])) (gap_hit hj2 (by omega) hW2 h49) | exact absurd h49 (gap_z hW hW2), rfl⟩
      refine z_iload_2 (pc := 2) E dX7_gap_2 ?_
      refine z_iconst (v := 3) (pc := 3) E dX7_gap_3 (by decide) ?_
      refine z_icmp_ge (pc := 4) (tgt := 71) E dX7_gap_4 (by decide) (fun h4 => absurd h4 (ct_lt (n := 3) rfl (by omega) (by omega))) (fun h4 => ?_)
      refine z_iconst (v := 0) (pc := 7) E dX7_gap_7 (by decide) ?_
      refine z_istore_3 (pc := 8) E dX7_gap_8 rfl ?_
      refine z_from7 (host := RX8) (pc := 9) E dX7_gap_9 (by decide +kernel) ?_
      refine z_iload_2 (pc := 12) E dX7_gap_12 ?_
      refine z_tald (pc := 13) E dX7_gap_13 rfl (by omega) ?_
      refine z_istore_4 (pc := 14) E dX7_gap_14 rfl ?_
      rw [fromN]
      exact L2 (10 * (i + 1)) (frN i) 0 (by omega) (Nat.zero_le _) rfl
  refine z_iconst (v := 0) (pc := 0) E dX7_gap_0 (by decide) ?_
  refine z_istore_2 (pc := 1) E dX7_gap_1 rfl ?_
  exact L 3 0 _ _ (by omega) rfl

