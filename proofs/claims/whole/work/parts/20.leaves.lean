set_option maxRecDepth 100000 in
set_option maxHeartbeats 4000000 in
theorem m_X6_isWithin (M : Mem) (x lo hi : Int32) : CI yX6_isWithin cX6_isWithin 3 (some .boolean) 0 0 0 (fun G => [.int x, .int lo, .int hi]) M (fun r M' => r = b2 (lo ≤ x ∧ x ≤ hi) ∧ M' = M) := by
  refine CI.mk (own := RX6) (by decide +kernel) rfl (fun _ => rfl) (fun _ => Nat.le_of_ble_eq_true rfl) (lv0 := fun G => [some (.int x), some (.int lo), some (.int hi)]) (fun _ => rfl) (fun X G E => ?_)
  refine z_iload_0 (pc := 0) E dX6_isWithin_0 ?_
  refine z_iload_1 (pc := 1) E dX6_isWithin_1 ?_
  refine z_icmp_lt (pc := 2) (tgt := 14) E dX6_isWithin_2 (by decide) (fun h2 => ?_) (fun h2 => ?_)
  · refine z_iconst (v := 0) (pc := 14) E dX6_isWithin_14 (by decide) ?_
    exact z_zret (pc := 15) E dX6_isWithin_15 (by first | exact Or.inl rfl | exact Or.inr rfl | exact b2_01 _) ⟨by first | exact (b2_t ⟨Int32.not_lt.mp h2, Int32.not_lt.mp h7⟩).symm | exact (b2_f (fun z => Int32.not_le.mpr h7 z.2)).symm | exact (b2_f (fun z => Int32.not_le.mpr h2 z.1)).symm, rfl⟩
  · refine z_iload_0 (pc := 5) E dX6_isWithin_5 ?_
    refine z_iload_2 (pc := 6) E dX6_isWithin_6 ?_
    refine z_icmp_gt (pc := 7) (tgt := 14) E dX6_isWithin_7 (by decide) (fun h7 => ?_) (fun h7 => ?_)
    · refine z_iconst (v := 0) (pc := 14) E dX6_isWithin_14 (by decide) ?_
      exact z_zret (pc := 15) E dX6_isWithin_15 (by first | exact Or.inl rfl | exact Or.inr rfl | exact b2_01 _) ⟨by first | exact (b2_t ⟨Int32.not_lt.mp h2, Int32.not_lt.mp h7⟩).symm | exact (b2_f (fun z => Int32.not_le.mpr h7 z.2)).symm | exact (b2_f (fun z => Int32.not_le.mpr h2 z.1)).symm, rfl⟩
    · refine z_iconst (v := 1) (pc := 10) E dX6_isWithin_10 (by decide) ?_
      refine z_goto (pc := 11) (tgt := 15) E dX6_isWithin_11 (by decide) ?_
      exact z_zret (pc := 15) E dX6_isWithin_15 (by first | exact Or.inl rfl | exact Or.inr rfl | exact b2_01 _) ⟨by first | exact (b2_t ⟨Int32.not_lt.mp h2, Int32.not_lt.mp h7⟩).symm | exact (b2_f (fun z => Int32.not_le.mpr h7 z.2)).symm | exact (b2_f (fun z => Int32.not_le.mpr h2 z.1)).symm, rfl⟩

set_option maxRecDepth 100000 in
set_option maxHeartbeats 4000000 in
theorem m_J9_floorMod_7cf53 (M : Mem) (n : Nat) (hn : n < 2 ^ 31) : CI yJ9_floorMod_7cf53 cJ9_floorMod_7cf53 3 (some .int) 0 0 0 (fun G => [.int (nI n), .int 7]) M (fun r M' => r = nI (n % 7) ∧ M' = M) := by
  refine CI.mk (own := RJ9) (by decide +kernel) rfl (fun _ => rfl) (fun _ => Nat.le_of_ble_eq_true rfl) (lv0 := fun G => [some (.int (nI n)), some (.int 7), none]) (fun _ => rfl) (fun X G E => ?_)
  refine z_iload_0 (pc := 0) E dJ9_floorMod_7cf53_0 ?_
  refine z_iload_1 (pc := 1) E dJ9_floorMod_7cf53_1 ?_
  refine z_irem (pc := 2) E dJ9_floorMod_7cf53_2 (by decide) ?_
  refine z_istore_2 (pc := 3) E dJ9_floorMod_7cf53_3 rfl ?_
  refine z_iload_0 (pc := 4) E dJ9_floorMod_7cf53_4 ?_
  refine z_iload_1 (pc := 5) E dJ9_floorMod_7cf53_5 ?_
  refine z_ixor (pc := 6) E dJ9_floorMod_7cf53_6 ?_
  refine z_if_ge (pc := 7) (tgt := 18) E dJ9_floorMod_7cf53_7 (by decide) (fun h7 => ?_) (fun h7 => absurd h7 (fun z => z (nn_xor hn)))
  refine z_iload_2 (pc := 18) E dJ9_floorMod_7cf53_18 ?_
  exact z_iret (pc := 19) E dJ9_floorMod_7cf53_19 ⟨pk_rem hn (by decide) (by decide), rfl⟩

set_option maxRecDepth 100000 in
set_option maxHeartbeats 4000000 in
theorem m_X4_hasCustomer (M : Mem) (s : Nat) (c : Int32) (hs : s < 2) : CI yX4_hasCustomer cX4_hasCustomer 2 (some .boolean) 1 0 0 (fun G => [.ref (ad G 0 s 0), .int c]) M (fun r M' => r = b2 (0 ≤ c ∧ c ≤ M 0 s 0 3 - 1) ∧ M' = M) := by
  refine CI.mk (own := RX4) (by decide +kernel) rfl (fun _ => rfl) (fun _ => Nat.le_of_ble_eq_true rfl) (lv0 := fun G => [some (.ref (ad G 0 s 0)), some (.int c)]) (fun _ => rfl) (fun X G E => ?_)
  refine z_iload_1 (pc := 0) E dX4_hasCustomer_0 ?_
  refine z_iconst (v := 0) (pc := 1) E dX4_hasCustomer_1 (by decide) ?_
  refine z_aload_0 (pc := 2) E dX4_hasCustomer_2 ?_
  refine z_get (pc := 3) E dX4_hasCustomer_3 fiX4_43 (ok0 (by omega)) rfl rfl ?_
  refine z_iconst (v := 1) (pc := 6) E dX4_hasCustomer_6 (by decide) ?_
  refine z_isub (pc := 7) E dX4_hasCustomer_7 ?_
  refine z_isNp (pc := 8) E (m_X6_isWithin _ _ _ _) rfl rfl kX6_isWithin (by decide +kernel : ((RX4 : String), 46, yX6_isWithin, (RX6 : String)) ∈ NWm) dX4_hasCustomer_8 rfl (Nat.le_of_ble_eq_true rfl) rfl (by decide) (by decide) ⟨by omega, by omega⟩ ?_
  exact z_zret (pc := 11) E dX4_hasCustomer_11 (by first | exact Or.inl rfl | exact Or.inr rfl | exact b2_01 _) ⟨rfl, rfl⟩

set_option maxRecDepth 100000 in
set_option maxHeartbeats 4000000 in
theorem m_X4_hasTicket (M : Mem) (s : Nat) (c : Int32) (hs : s < 2) : CI yX4_hasTicket cX4_hasTicket 2 (some .boolean) 1 0 0 (fun G => [.ref (ad G 0 s 0), .int c]) M (fun r M' => r = b2 (0 ≤ c ∧ c ≤ M 0 s 0 4 - 1) ∧ M' = M) := by
  refine CI.mk (own := RX4) (by decide +kernel) rfl (fun _ => rfl) (fun _ => Nat.le_of_ble_eq_true rfl) (lv0 := fun G => [some (.ref (ad G 0 s 0)), some (.int c)]) (fun _ => rfl) (fun X G E => ?_)
  refine z_iload_1 (pc := 0) E dX4_hasTicket_0 ?_
  refine z_iconst (v := 0) (pc := 1) E dX4_hasTicket_1 (by decide) ?_
  refine z_aload_0 (pc := 2) E dX4_hasTicket_2 ?_
  refine z_get (pc := 3) E dX4_hasTicket_3 fiX4_50 (ok0 (by omega)) rfl rfl ?_
  refine z_iconst (v := 1) (pc := 6) E dX4_hasTicket_6 (by decide) ?_
  refine z_isub (pc := 7) E dX4_hasTicket_7 ?_
  refine z_isNp (pc := 8) E (m_X6_isWithin _ _ _ _) rfl rfl kX6_isWithin (by decide +kernel : ((RX4 : String), 46, yX6_isWithin, (RX6 : String)) ∈ NWm) dX4_hasTicket_8 rfl (Nat.le_of_ble_eq_true rfl) rfl (by decide) (by decide) ⟨by omega, by omega⟩ ?_
  exact z_zret (pc := 11) E dX4_hasTicket_11 (by first | exact Or.inl rfl | exact Or.inr rfl | exact b2_01 _) ⟨rfl, rfl⟩

set_option maxRecDepth 100000 in
set_option maxHeartbeats 4000000 in
theorem m_X0_want (M : Mem) (s i : Nat) (k p : Int32) (hs : s < 2) (hi : i < 7) : CV yX0_want cX0_want 3 none 0 0 0 (fun G => [.ref (ad G 3 s i), .int k, .int p]) M (fun M' => M' = mset (mset M 3 s i 0 k) 3 s i 1 (if k = -1 then 0 else p)) := by
  refine CV.mk (own := RX0) (by decide +kernel) rfl (fun _ => rfl) (fun _ => Nat.le_of_ble_eq_true rfl) (lv0 := fun G => [some (.ref (ad G 3 s i)), some (.int k), some (.int p)]) (fun _ => rfl) (fun X G E => ?_)
  refine z_aload_0 (pc := 0) E dX0_want_0 ?_
  refine z_iload_1 (pc := 1) E dX0_want_1 ?_
  refine z_put (pc := 2) E dX0_want_2 fiX0_9 fpX0_0 (ok3 (by omega) (by omega)) rfl rfl (Nat.le_of_ble_eq_true rfl) ?_
  refine z_aload_0 (pc := 5) E dX0_want_5 ?_
  refine z_iload_1 (pc := 6) E dX0_want_6 ?_
  refine z_iconst (v := -1) (pc := 7) E dX0_want_7 (by decide) ?_
  refine z_icmp_ne (pc := 8) (tgt := 15) E dX0_want_8 (by decide) (fun h8 => ?_) (fun h8 => ?_)
  · refine z_iload_2 (pc := 15) E dX0_want_15 ?_
    refine z_put (pc := 16) E dX0_want_16 fiX0_15 fpX0_1 (ok3 (by omega) (by omega)) rfl rfl (Nat.le_of_ble_eq_true rfl) ?_
    exact z_vret (pc := 19) E dX0_want_19 (by first | rw [if_neg h8] | rw [if_pos (Decidable.not_not.mp h8)] | rw [if_pos h8])
  · refine z_iconst (v := 0) (pc := 11) E dX0_want_11 (by decide) ?_
    refine z_goto (pc := 12) (tgt := 16) E dX0_want_12 (by decide) ?_
    refine z_put (pc := 16) E dX0_want_16 fiX0_15 fpX0_1 (ok3 (by omega) (by omega)) rfl rfl (Nat.le_of_ble_eq_true rfl) ?_
    exact z_vret (pc := 19) E dX0_want_19 (by first | rw [if_neg h8] | rw [if_pos (Decidable.not_not.mp h8)] | rw [if_pos h8])

set_option maxRecDepth 100000 in
set_option maxHeartbeats 4000000 in
theorem m_X0_takes (M : Mem) (s i t : Nat) (hs : s < 2) (hi : i < 7) (ht : t < 40) : CI yX0_takes cX0_takes 2 (some .boolean) 0 0 0 (fun G => [.ref (ad G 3 s i), .ref (ad G 2 s t)]) M (fun r M' => r = b2 (M 2 s t 7 = 2 ∧ M 2 s t 1 = M 3 s i 0 ∧ M 2 s t 8 ≤ M 3 s i 1) ∧ M' = M) := by
  refine CI.mk (own := RX0) (by decide +kernel) rfl (fun _ => rfl) (fun _ => Nat.le_of_ble_eq_true rfl) (lv0 := fun G => [some (.ref (ad G 3 s i)), some (.ref (ad G 2 s t))]) (fun _ => rfl) (fun X G E => ?_)
  refine z_aload_1 (pc := 0) E dX0_takes_0 ?_
  refine z_get (pc := 1) E dX0_takes_1 fiX0_18 (ok2 (by omega) (by omega)) rfl rfl ?_
  refine z_iconst (v := 2) (pc := 4) E dX0_takes_4 (by decide) ?_
  refine z_icmp_ne (pc := 5) (tgt := 34) E dX0_takes_5 (by decide) (fun h5 => ?_) (fun h5 => ?_)
  · refine z_iconst (v := 0) (pc := 34) E dX0_takes_34 (by decide) ?_
    exact z_zret (pc := 35) E dX0_takes_35 (by first | exact Or.inl rfl | exact Or.inr rfl | exact b2_01 _) ⟨by first | exact (b2_t ⟨h5, h16, Int32.not_lt.mp h27⟩).symm | exact (b2_f (fun z => Int32.not_le.mpr h27 z.2.2)).symm | exact (b2_f (fun z => h16 z.2.1)).symm | exact (b2_f (fun z => h5 z.1)).symm, rfl⟩
  · refine z_aload_1 (pc := 8) E dX0_takes_8 ?_
    refine z_get (pc := 9) E dX0_takes_9 fiX0_23 (ok2 (by omega) (by omega)) rfl rfl ?_
    refine z_aload_0 (pc := 12) E dX0_takes_12 ?_
    refine z_get (pc := 13) E dX0_takes_13 fiX0_9 (ok3 (by omega) (by omega)) rfl rfl ?_
    refine z_icmp_ne (pc := 16) (tgt := 34) E dX0_takes_16 (by decide) (fun h16 => ?_) (fun h16 => ?_)
    · refine z_iconst (v := 0) (pc := 34) E dX0_takes_34 (by decide) ?_
      exact z_zret (pc := 35) E dX0_takes_35 (by first | exact Or.inl rfl | exact Or.inr rfl | exact b2_01 _) ⟨by first | exact (b2_t ⟨h5, h16, Int32.not_lt.mp h27⟩).symm | exact (b2_f (fun z => Int32.not_le.mpr h27 z.2.2)).symm | exact (b2_f (fun z => h16 z.2.1)).symm | exact (b2_f (fun z => h5 z.1)).symm, rfl⟩
    · refine z_aload_1 (pc := 19) E dX0_takes_19 ?_
      refine z_get (pc := 20) E dX0_takes_20 fiX0_24 (ok2 (by omega) (by omega)) rfl rfl ?_
      refine z_aload_0 (pc := 23) E dX0_takes_23 ?_
      refine z_get (pc := 24) E dX0_takes_24 fiX0_15 (ok3 (by omega) (by omega)) rfl rfl ?_
      refine z_icmp_gt (pc := 27) (tgt := 34) E dX0_takes_27 (by decide) (fun h27 => ?_) (fun h27 => ?_)
      · refine z_iconst (v := 0) (pc := 34) E dX0_takes_34 (by decide) ?_
        exact z_zret (pc := 35) E dX0_takes_35 (by first | exact Or.inl rfl | exact Or.inr rfl | exact b2_01 _) ⟨by first | exact (b2_t ⟨h5, h16, Int32.not_lt.mp h27⟩).symm | exact (b2_f (fun z => Int32.not_le.mpr h27 z.2.2)).symm | exact (b2_f (fun z => h16 z.2.1)).symm | exact (b2_f (fun z => h5 z.1)).symm, rfl⟩
      · refine z_iconst (v := 1) (pc := 30) E dX0_takes_30 (by decide) ?_
        refine z_goto (pc := 31) (tgt := 35) E dX0_takes_31 (by decide) ?_
        exact z_zret (pc := 35) E dX0_takes_35 (by first | exact Or.inl rfl | exact Or.inr rfl | exact b2_01 _) ⟨by first | exact (b2_t ⟨h5, h16, Int32.not_lt.mp h27⟩).symm | exact (b2_f (fun z => Int32.not_le.mpr h27 z.2.2)).symm | exact (b2_f (fun z => h16 z.2.1)).symm | exact (b2_f (fun z => h5 z.1)).symm, rfl⟩

set_option maxRecDepth 100000 in
set_option maxHeartbeats 4000000 in
theorem m_X1_begin (M : Mem) (s i : Nat) (c : Int32) (hs : s < 2) (hi : i < 10) : CV yX1_begin cX1_begin 2 none 0 0 0 (fun G => [.ref (ad G 1 s i), .int c]) M (fun M' => M' = mset (mset M 1 s i 0 c) 1 s i 1 5) := by
  refine CV.mk (own := RX1) (by decide +kernel) rfl (fun _ => rfl) (fun _ => Nat.le_of_ble_eq_true rfl) (lv0 := fun G => [some (.ref (ad G 1 s i)), some (.int c)]) (fun _ => rfl) (fun X G E => ?_)
  refine z_aload_0 (pc := 0) E dX1_begin_0 ?_
  refine z_iload_1 (pc := 1) E dX1_begin_1 ?_
  refine z_put (pc := 2) E dX1_begin_2 fiX1_7 fpX1_0 (ok1 (by omega) (by omega)) rfl rfl (Nat.le_of_ble_eq_true rfl) ?_
  refine z_aload_0 (pc := 5) E dX1_begin_5 ?_
  refine z_iconst (v := 5) (pc := 6) E dX1_begin_6 (by decide) ?_
  refine z_put (pc := 7) E dX1_begin_7 fiX1_13 fpX1_1 (ok1 (by omega) (by omega)) rfl rfl (Nat.le_of_ble_eq_true rfl) ?_
  exact z_vret (pc := 10) E dX1_begin_10 rfl

set_option maxRecDepth 100000 in
set_option maxHeartbeats 4000000 in
theorem m_X1_loanFor (M : Mem) (s i : Nat) (v : Int32) (hs : s < 2) (hi : i < 10) : CI yX1_loanFor cX1_loanFor 2 (some .int) 1 0 0 (fun G => [.ref (ad G 1 s i), .int v]) M (fun r M' => r = loanV (M 1 s i 1) v ∧ M' = M) := by
  refine CI.mk (own := RX1) (by decide +kernel) rfl (fun _ => rfl) (fun _ => Nat.le_of_ble_eq_true rfl) (lv0 := fun G => [some (.ref (ad G 1 s i)), some (.int v)]) (fun _ => rfl) (fun X G E => ?_)
  refine z_iconst (v := 1) (pc := 0) E dX1_loanFor_0 (by decide) ?_
  refine z_iload_1 (pc := 1) E dX1_loanFor_1 ?_
  refine z_bipush (v := 40) (pc := 2) E dX1_loanFor_2 (by decide) ?_
  refine z_iconst (v := 4) (pc := 4) E dX1_loanFor_4 (by decide) ?_
  refine z_aload_0 (pc := 5) E dX1_loanFor_5 ?_
  refine z_get (pc := 6) E dX1_loanFor_6 fiX1_13 (ok1 (by omega) (by omega)) rfl rfl ?_
  refine z_imul (pc := 9) E dX1_loanFor_9 ?_
  refine z_iadd (pc := 10) E dX1_loanFor_10 ?_
  refine z_imul (pc := 11) E dX1_loanFor_11 ?_
  refine z_bipush (v := 100) (pc := 12) E dX1_loanFor_12 (by decide) ?_
  refine z_idiv (pc := 14) E dX1_loanFor_14 (by decide) ?_
  refine z_max (pc := 15) E dX1_loanFor_15 mlX1_16 rfl (by decide) (Nat.le_of_ble_eq_true rfl) ⟨by omega, by omega⟩ ?_
  exact z_iret (pc := 18) E dX1_loanFor_18 ⟨rfl, rfl⟩

set_option maxRecDepth 100000 in
set_option maxHeartbeats 4000000 in
theorem m_X1_changeTrust (M : Mem) (s i : Nat) (x : Int32) (hs : s < 2) (hi : i < 10) : CV yX1_changeTrust cX1_changeTrust 2 none 1 0 0 (fun G => [.ref (ad G 1 s i), .int x]) M (fun M' => M' = mset M 1 s i 1 (trV (M 1 s i 1) x)) := by
  refine CV.mk (own := RX1) (by decide +kernel) rfl (fun _ => rfl) (fun _ => Nat.le_of_ble_eq_true rfl) (lv0 := fun G => [some (.ref (ad G 1 s i)), some (.int x)]) (fun _ => rfl) (fun X G E => ?_)
  refine z_aload_0 (pc := 0) E dX1_changeTrust_0 ?_
  refine z_iconst (v := 0) (pc := 1) E dX1_changeTrust_1 (by decide) ?_
  refine z_bipush (v := 10) (pc := 2) E dX1_changeTrust_2 (by decide) ?_
  refine z_aload_0 (pc := 4) E dX1_changeTrust_4 ?_
  refine z_get (pc := 5) E dX1_changeTrust_5 fiX1_13 (ok1 (by omega) (by omega)) rfl rfl ?_
  refine z_iload_1 (pc := 8) E dX1_changeTrust_8 ?_
  refine z_iadd (pc := 9) E dX1_changeTrust_9 ?_
  refine z_min (pc := 10) E dX1_changeTrust_10 mlX1_22 rfl (by decide) (Nat.le_of_ble_eq_true rfl) ⟨by omega, by omega⟩ ?_
  refine z_max (pc := 13) E dX1_changeTrust_13 mlX1_16 rfl (by decide) (Nat.le_of_ble_eq_true rfl) ⟨by omega, by omega⟩ ?_
  refine z_put (pc := 16) E dX1_changeTrust_16 fiX1_13 fpX1_1 (ok1 (by omega) (by omega)) rfl rfl (Nat.le_of_ble_eq_true rfl) ?_
  exact z_vret (pc := 19) E dX1_changeTrust_19 rfl

set_option maxRecDepth 100000 in
set_option maxHeartbeats 4000000 in
theorem m_X1_copyFrom (M : Mem) (s i s2 i2 : Nat) (hs : s < 2) (hi : i < 10) (hs2 : s2 < 2) (hi2 : i2 < 10) (hne : ¬ s2 = s) : CV yX1_copyFrom cX1_copyFrom 2 none 0 0 0 (fun G => [.ref (ad G 1 s i), .ref (ad G 1 s2 i2)]) M (fun M' => M' = mset (mset M 1 s i 0 (M 1 s2 i2 0)) 1 s i 1 (M 1 s2 i2 1)) := by
  refine CV.mk (own := RX1) (by decide +kernel) rfl (fun _ => rfl) (fun _ => Nat.le_of_ble_eq_true rfl) (lv0 := fun G => [some (.ref (ad G 1 s i)), some (.ref (ad G 1 s2 i2))]) (fun _ => rfl) (fun X G E => ?_)
  refine z_aload_0 (pc := 0) E dX1_copyFrom_0 ?_
  refine z_aload_1 (pc := 1) E dX1_copyFrom_1 ?_
  refine z_get (pc := 2) E dX1_copyFrom_2 fiX1_7 (ok1 (by omega) (by omega)) rfl rfl ?_
  refine z_put (pc := 5) E dX1_copyFrom_5 fiX1_7 fpX1_0 (ok1 (by omega) (by omega)) rfl rfl (Nat.le_of_ble_eq_true rfl) ?_
  refine z_aload_0 (pc := 8) E dX1_copyFrom_8 ?_
  refine z_aload_1 (pc := 9) E dX1_copyFrom_9 ?_
  refine z_get (pc := 10) E dX1_copyFrom_10 fiX1_13 (ok1 (by omega) (by omega)) rfl rfl ?_
  refine z_put (pc := 13) E dX1_copyFrom_13 fiX1_13 fpX1_1 (ok1 (by omega) (by omega)) rfl rfl (Nat.le_of_ble_eq_true rfl) ?_
  exact z_vret (pc := 16) E dX1_copyFrom_16 (by simp [mset, hne])

set_option maxRecDepth 100000 in
set_option maxHeartbeats 4000000 in
theorem m_X5_describe (M : Mem) (s t : Nat) (a b c d : Int32) (hs : s < 2) (ht : t < 40) : CV yX5_describe cX5_describe 5 none 0 0 0 (fun G => [.ref (ad G 2 s t), .int a, .int b, .int c, .int d]) M (fun M' => M' = mset (mset (mset (mset M 2 s t 0 a) 2 s t 1 b) 2 s t 2 c) 2 s t 3 d) := by
  refine CV.mk (own := RX5) (by decide +kernel) rfl (fun _ => rfl) (fun _ => Nat.le_of_ble_eq_true rfl) (lv0 := fun G => [some (.ref (ad G 2 s t)), some (.int a), some (.int b), some (.int c), some (.int d)]) (fun _ => rfl) (fun X G E => ?_)
  refine z_aload_0 (pc := 0) E dX5_describe_0 ?_
  refine z_iload_1 (pc := 1) E dX5_describe_1 ?_
  refine z_put (pc := 2) E dX5_describe_2 fiX5_9 fpX5_0 (ok2 (by omega) (by omega)) rfl rfl (Nat.le_of_ble_eq_true rfl) ?_
  refine z_aload_0 (pc := 5) E dX5_describe_5 ?_
  refine z_iload_2 (pc := 6) E dX5_describe_6 ?_
  refine z_put (pc := 7) E dX5_describe_7 fiX5_15 fpX5_1 (ok2 (by omega) (by omega)) rfl rfl (Nat.le_of_ble_eq_true rfl) ?_
  refine z_aload_0 (pc := 10) E dX5_describe_10 ?_
  refine z_iload_3 (pc := 11) E dX5_describe_11 ?_
  refine z_put (pc := 12) E dX5_describe_12 fiX5_18 fpX5_2 (ok2 (by omega) (by omega)) rfl rfl (Nat.le_of_ble_eq_true rfl) ?_
  refine z_aload_0 (pc := 15) E dX5_describe_15 ?_
  refine z_iload_4 (pc := 16) E dX5_describe_16 ?_
  refine z_put (pc := 18) E dX5_describe_18 fiX5_21 fpX5_3 (ok2 (by omega) (by omega)) rfl rfl (Nat.le_of_ble_eq_true rfl) ?_
  exact z_vret (pc := 21) E dX5_describe_21 rfl

set_option maxRecDepth 100000 in
set_option maxHeartbeats 4000000 in
theorem m_X5_lend (M : Mem) (s t : Nat) (a b : Int32) (hs : s < 2) (ht : t < 40) : CV yX5_lend cX5_lend 3 none 0 0 0 (fun G => [.ref (ad G 2 s t), .int a, .int b]) M (fun M' => M' = mset (mset (mset (mset (mset (mset M 2 s t 4 a) 2 s t 5 b) 2 s t 6 (b + 60)) 2 s t 7 0) 2 s t 8 0) 2 s t 9 0) := by
  refine CV.mk (own := RX5) (by decide +kernel) rfl (fun _ => rfl) (fun _ => Nat.le_of_ble_eq_true rfl) (lv0 := fun G => [some (.ref (ad G 2 s t)), some (.int a), some (.int b)]) (fun _ => rfl) (fun X G E => ?_)
  refine z_aload_0 (pc := 0) E dX5_lend_0 ?_
  refine z_iload_1 (pc := 1) E dX5_lend_1 ?_
  refine z_put (pc := 2) E dX5_lend_2 fiX5_24 fpX5_4 (ok2 (by omega) (by omega)) rfl rfl (Nat.le_of_ble_eq_true rfl) ?_
  refine z_aload_0 (pc := 5) E dX5_lend_5 ?_
  refine z_iload_2 (pc := 6) E dX5_lend_6 ?_
  refine z_put (pc := 7) E dX5_lend_7 fiX5_27 fpX5_5 (ok2 (by omega) (by omega)) rfl rfl (Nat.le_of_ble_eq_true rfl) ?_
  refine z_aload_0 (pc := 10) E dX5_lend_10 ?_
  refine z_iload_2 (pc := 11) E dX5_lend_11 ?_
  refine z_bipush (v := 60) (pc := 12) E dX5_lend_12 (by decide) ?_
  refine z_iadd (pc := 14) E dX5_lend_14 ?_
  refine z_put (pc := 15) E dX5_lend_15 fiX5_30 fpX5_6 (ok2 (by omega) (by omega)) rfl rfl (Nat.le_of_ble_eq_true rfl) ?_
  refine z_aload_0 (pc := 18) E dX5_lend_18 ?_
  refine z_iconst (v := 0) (pc := 19) E dX5_lend_19 (by decide) ?_
  refine z_put (pc := 20) E dX5_lend_20 fiX5_33 fpX5_7 (ok2 (by omega) (by omega)) rfl rfl (Nat.le_of_ble_eq_true rfl) ?_
  refine z_aload_0 (pc := 23) E dX5_lend_23 ?_
  refine z_iconst (v := 0) (pc := 24) E dX5_lend_24 (by decide) ?_
  refine z_put (pc := 25) E dX5_lend_25 fiX5_36 fpX5_8 (ok2 (by omega) (by omega)) rfl rfl (Nat.le_of_ble_eq_true rfl) ?_
  refine z_aload_0 (pc := 28) E dX5_lend_28 ?_
  refine z_iconst (v := 0) (pc := 29) E dX5_lend_29 (by decide) ?_
  refine z_put (pc := 30) E dX5_lend_30 fiX5_39 fpX5_9 (ok2 (by omega) (by omega)) rfl rfl (Nat.le_of_ble_eq_true rfl) ?_
  exact z_vret (pc := 33) E dX5_lend_33 rfl

set_option maxRecDepth 100000 in
set_option maxHeartbeats 4000000 in
theorem m_X5_extend (M : Mem) (s t : Nat) (a : Int32) (hs : s < 2) (ht : t < 40) : CV yX5_extend cX5_extend 2 none 0 0 0 (fun G => [.ref (ad G 2 s t), .int a]) M (fun M' => M' = mset (mset (mset M 2 s t 5 a) 2 s t 6 (a + 60)) 2 s t 9 (M 2 s t 9 + 1)) := by
  refine CV.mk (own := RX5) (by decide +kernel) rfl (fun _ => rfl) (fun _ => Nat.le_of_ble_eq_true rfl) (lv0 := fun G => [some (.ref (ad G 2 s t)), some (.int a)]) (fun _ => rfl) (fun X G E => ?_)
  refine z_aload_0 (pc := 0) E dX5_extend_0 ?_
  refine z_iload_1 (pc := 1) E dX5_extend_1 ?_
  refine z_put (pc := 2) E dX5_extend_2 fiX5_27 fpX5_5 (ok2 (by omega) (by omega)) rfl rfl (Nat.le_of_ble_eq_true rfl) ?_
  refine z_aload_0 (pc := 5) E dX5_extend_5 ?_
  refine z_iload_1 (pc := 6) E dX5_extend_6 ?_
  refine z_bipush (v := 60) (pc := 7) E dX5_extend_7 (by decide) ?_
  refine z_iadd (pc := 9) E dX5_extend_9 ?_
  refine z_put (pc := 10) E dX5_extend_10 fiX5_30 fpX5_6 (ok2 (by omega) (by omega)) rfl rfl (Nat.le_of_ble_eq_true rfl) ?_
  refine z_aload_0 (pc := 13) E dX5_extend_13 ?_
  refine z_dup (pc := 14) E dX5_extend_14 rfl ?_
  refine z_get (pc := 15) E dX5_extend_15 fiX5_39 (ok2 (by omega) (by omega)) rfl rfl ?_
  refine z_iconst (v := 1) (pc := 18) E dX5_extend_18 (by decide) ?_
  refine z_iadd (pc := 19) E dX5_extend_19 ?_
  refine z_put (pc := 20) E dX5_extend_20 fiX5_39 fpX5_9 (ok2 (by omega) (by omega)) rfl rfl (Nat.le_of_ble_eq_true rfl) ?_
  exact z_vret (pc := 23) E dX5_extend_23 (by simp [mset])

set_option maxRecDepth 100000 in
set_option maxHeartbeats 4000000 in
theorem m_X5_interest (M : Mem) (s t : Nat) (day : Int32) (hs : s < 2) (ht : t < 40) : CI yX5_interest cX5_interest 3 (some .int) 1 0 0 (fun G => [.ref (ad G 2 s t), .int day]) M (fun r M' => r = intr day (M 2 s t 5) (M 2 s t 4) ∧ M' = M) := by
  refine CI.mk (own := RX5) (by decide +kernel) rfl (fun _ => rfl) (fun _ => Nat.le_of_ble_eq_true rfl) (lv0 := fun G => [some (.ref (ad G 2 s t)), some (.int day), none]) (fun _ => rfl) (fun X G E => ?_)
  refine z_iload_1 (pc := 0) E dX5_interest_0 ?_
  refine z_aload_0 (pc := 1) E dX5_interest_1 ?_
  refine z_get (pc := 2) E dX5_interest_2 fiX5_27 (ok2 (by omega) (by omega)) rfl rfl ?_
  refine z_isub (pc := 5) E dX5_interest_5 ?_
  refine z_bipush (v := 30) (pc := 6) E dX5_interest_6 (by decide) ?_
  refine z_idiv (pc := 8) E dX5_interest_8 (by decide) ?_
  refine z_iconst (v := 1) (pc := 9) E dX5_interest_9 (by decide) ?_
  refine z_iadd (pc := 10) E dX5_interest_10 ?_
  refine z_istore_2 (pc := 11) E dX5_interest_11 rfl ?_
  refine z_iload_2 (pc := 12) E dX5_interest_12 ?_
  refine z_iconst (v := 1) (pc := 13) E dX5_interest_13 (by decide) ?_
  refine z_aload_0 (pc := 14) E dX5_interest_14 ?_
  refine z_get (pc := 15) E dX5_interest_15 fiX5_24 (ok2 (by omega) (by omega)) rfl rfl ?_
  refine z_iconst (v := 5) (pc := 18) E dX5_interest_18 (by decide) ?_
  refine z_imul (pc := 19) E dX5_interest_19 ?_
  refine z_bipush (v := 100) (pc := 20) E dX5_interest_20 (by decide) ?_
  refine z_idiv (pc := 22) E dX5_interest_22 (by decide) ?_
  refine z_max (pc := 23) E dX5_interest_23 mlX5_42 rfl (by decide) (Nat.le_of_ble_eq_true rfl) ⟨by omega, by omega⟩ ?_
  refine z_imul (pc := 26) E dX5_interest_26 ?_
  exact z_iret (pc := 27) E dX5_interest_27 ⟨rfl, rfl⟩

set_option maxRecDepth 100000 in
set_option maxHeartbeats 4000000 in
theorem m_X5_debt (M : Mem) (s t : Nat) (day : Int32) (hs : s < 2) (ht : t < 40) : CI yX5_debt cX5_debt 2 (some .int) 2 0 0 (fun G => [.ref (ad G 2 s t), .int day]) M (fun r M' => r = debtV M s t day ∧ M' = M) := by
  refine CI.mk (own := RX5) (by decide +kernel) rfl (fun _ => rfl) (fun _ => Nat.le_of_ble_eq_true rfl) (lv0 := fun G => [some (.ref (ad G 2 s t)), some (.int day)]) (fun _ => rfl) (fun X G E => ?_)
  refine z_aload_0 (pc := 0) E dX5_debt_0 ?_
  refine z_get (pc := 1) E dX5_debt_1 fiX5_33 (ok2 (by omega) (by omega)) rfl rfl ?_
  refine z_if_ne (pc := 4) (tgt := 20) E dX5_debt_4 (by decide) (fun h4 => ?_) (fun h4 => ?_)
  · refine z_iconst (v := 0) (pc := 20) E dX5_debt_20 (by decide) ?_
    exact z_iret (pc := 21) E dX5_debt_21 ⟨by first | exact (if_pos h4).symm | exact (if_pos (Decidable.not_not.mp h4)).symm | exact (if_neg h4).symm, rfl⟩
  · refine z_aload_0 (pc := 7) E dX5_debt_7 ?_
    refine z_get (pc := 8) E dX5_debt_8 fiX5_24 (ok2 (by omega) (by omega)) rfl rfl ?_
    refine z_aload_0 (pc := 11) E dX5_debt_11 ?_
    refine z_iload_1 (pc := 12) E dX5_debt_12 ?_
    refine z_ivp (pc := 13) E (m_X5_interest _ _ _ _ hs ht) rfl rfl kX5_interest mlX5_48 dX5_debt_13 (ok2 (by omega) (by omega)) rfl rfl rfl (Nat.le_of_ble_eq_true rfl) rfl (by decide) (by decide) ⟨by omega, by omega⟩ ?_
    refine z_iadd (pc := 16) E dX5_debt_16 ?_
    refine z_goto (pc := 17) (tgt := 21) E dX5_debt_17 (by decide) ?_
    exact z_iret (pc := 21) E dX5_debt_21 ⟨by first | exact (if_pos h4).symm | exact (if_pos (Decidable.not_not.mp h4)).symm | exact (if_neg h4).symm, rfl⟩

set_option maxRecDepth 100000 in
set_option maxHeartbeats 4000000 in
theorem m_X5_offer (M : Mem) (s t : Nat) (hs : s < 2) (ht : t < 40) : CV yX5_offer cX5_offer 1 none 0 0 0 (fun G => [.ref (ad G 2 s t)]) M (fun M' => M' = mset (mset M 2 s t 7 2) 2 s t 8 (M 2 s t 2)) := by
  refine CV.mk (own := RX5) (by decide +kernel) rfl (fun _ => rfl) (fun _ => Nat.le_of_ble_eq_true rfl) (lv0 := fun G => [some (.ref (ad G 2 s t))]) (fun _ => rfl) (fun X G E => ?_)
  refine z_aload_0 (pc := 0) E dX5_offer_0 ?_
  refine z_iconst (v := 2) (pc := 1) E dX5_offer_1 (by decide) ?_
  refine z_put (pc := 2) E dX5_offer_2 fiX5_33 fpX5_7 (ok2 (by omega) (by omega)) rfl rfl (Nat.le_of_ble_eq_true rfl) ?_
  refine z_aload_0 (pc := 5) E dX5_offer_5 ?_
  refine z_aload_0 (pc := 6) E dX5_offer_6 ?_
  refine z_get (pc := 7) E dX5_offer_7 fiX5_18 (ok2 (by omega) (by omega)) rfl rfl ?_
  refine z_put (pc := 10) E dX5_offer_10 fiX5_36 fpX5_8 (ok2 (by omega) (by omega)) rfl rfl (Nat.le_of_ble_eq_true rfl) ?_
  exact z_vret (pc := 13) E dX5_offer_13 (by simp [mset])

set_option maxRecDepth 100000 in
set_option maxHeartbeats 4000000 in
theorem m_X5_cheapen (M : Mem) (s t : Nat) (hs : s < 2) (ht : t < 40) : CV yX5_cheapen cX5_cheapen 1 none 1 0 0 (fun G => [.ref (ad G 2 s t)]) M (fun M' => M' = mset M 2 s t 8 (cheapV (M 2 s t 8) (M 2 s t 2))) := by
  refine CV.mk (own := RX5) (by decide +kernel) rfl (fun _ => rfl) (fun _ => Nat.le_of_ble_eq_true rfl) (lv0 := fun G => [some (.ref (ad G 2 s t))]) (fun _ => rfl) (fun X G E => ?_)
  refine z_aload_0 (pc := 0) E dX5_cheapen_0 ?_
  refine z_aload_0 (pc := 1) E dX5_cheapen_1 ?_
  refine z_get (pc := 2) E dX5_cheapen_2 fiX5_36 (ok2 (by omega) (by omega)) rfl rfl ?_
  refine z_aload_0 (pc := 5) E dX5_cheapen_5 ?_
  refine z_get (pc := 6) E dX5_cheapen_6 fiX5_18 (ok2 (by omega) (by omega)) rfl rfl ?_
  refine z_bipush (v := 20) (pc := 9) E dX5_cheapen_9 (by decide) ?_
  refine z_idiv (pc := 11) E dX5_cheapen_11 (by decide) ?_
  refine z_isub (pc := 12) E dX5_cheapen_12 ?_
  refine z_aload_0 (pc := 13) E dX5_cheapen_13 ?_
  refine z_get (pc := 14) E dX5_cheapen_14 fiX5_18 (ok2 (by omega) (by omega)) rfl rfl ?_
  refine z_iconst (v := 3) (pc := 17) E dX5_cheapen_17 (by decide) ?_
  refine z_imul (pc := 18) E dX5_cheapen_18 ?_
  refine z_bipush (v := 10) (pc := 19) E dX5_cheapen_19 (by decide) ?_
  refine z_idiv (pc := 21) E dX5_cheapen_21 (by decide) ?_
  refine z_max (pc := 22) E dX5_cheapen_22 mlX5_42 rfl (by decide) (Nat.le_of_ble_eq_true rfl) ⟨by omega, by omega⟩ ?_
  refine z_put (pc := 25) E dX5_cheapen_25 fiX5_36 fpX5_8 (ok2 (by omega) (by omega)) rfl rfl (Nat.le_of_ble_eq_true rfl) ?_
  exact z_vret (pc := 28) E dX5_cheapen_28 rfl

set_option maxRecDepth 100000 in
set_option maxHeartbeats 4000000 in
theorem m_X5_copyFrom (M : Mem) (s t s2 t2 : Nat) (hs : s < 2) (ht : t < 40) (hs2 : s2 < 2) (ht2 : t2 < 40) (hne : ¬ s2 = s) : CV yX5_copyFrom cX5_copyFrom 2 none 1 0 0 (fun G => [.ref (ad G 2 s t), .ref (ad G 2 s2 t2)]) M (fun M' => M' = rset M 2 s t (fun j => if j < 10 then M 2 s2 t2 j else M 2 s t j)) := by
  refine CV.mk (own := RX5) (by decide +kernel) rfl (fun _ => rfl) (fun _ => Nat.le_of_ble_eq_true rfl) (lv0 := fun G => [some (.ref (ad G 2 s t)), some (.ref (ad G 2 s2 t2))]) (fun _ => rfl) (fun X G E => ?_)
  refine z_aload_0 (pc := 0) E dX5_copyFrom_0 ?_
  refine z_aload_1 (pc := 1) E dX5_copyFrom_1 ?_
  refine z_get (pc := 2) E dX5_copyFrom_2 fiX5_9 (ok2 (by omega) (by omega)) rfl rfl ?_
  refine z_aload_1 (pc := 5) E dX5_copyFrom_5 ?_
  refine z_get (pc := 6) E dX5_copyFrom_6 fiX5_15 (ok2 (by omega) (by omega)) rfl rfl ?_
  refine z_aload_1 (pc := 9) E dX5_copyFrom_9 ?_
  refine z_get (pc := 10) E dX5_copyFrom_10 fiX5_18 (ok2 (by omega) (by omega)) rfl rfl ?_
  refine z_aload_1 (pc := 13) E dX5_copyFrom_13 ?_
  refine z_get (pc := 14) E dX5_copyFrom_14 fiX5_21 (ok2 (by omega) (by omega)) rfl rfl ?_
  refine z_vvf (pc := 17) E (m_X5_describe _ _ _ _ _ _ _ hs ht) rfl rfl kX5_describe mlX5_52 dX5_copyFrom_17 (ok2 (by omega) (by omega)) rfl rfl rfl (Nat.le_of_ble_eq_true rfl) rfl (by decide) (by decide) ⟨by omega, by omega⟩ ?_
  refine z_aload_0 (pc := 20) E dX5_copyFrom_20 ?_
  refine z_aload_1 (pc := 21) E dX5_copyFrom_21 ?_
  refine z_get (pc := 22) E dX5_copyFrom_22 fiX5_24 (ok2 (by omega) (by omega)) rfl rfl ?_
  refine z_put (pc := 25) E dX5_copyFrom_25 fiX5_24 fpX5_4 (ok2 (by omega) (by omega)) rfl rfl (Nat.le_of_ble_eq_true rfl) ?_
  refine z_aload_0 (pc := 28) E dX5_copyFrom_28 ?_
  refine z_aload_1 (pc := 29) E dX5_copyFrom_29 ?_
  refine z_get (pc := 30) E dX5_copyFrom_30 fiX5_27 (ok2 (by omega) (by omega)) rfl rfl ?_
  refine z_put (pc := 33) E dX5_copyFrom_33 fiX5_27 fpX5_5 (ok2 (by omega) (by omega)) rfl rfl (Nat.le_of_ble_eq_true rfl) ?_
  refine z_aload_0 (pc := 36) E dX5_copyFrom_36 ?_
  refine z_aload_1 (pc := 37) E dX5_copyFrom_37 ?_
  refine z_get (pc := 38) E dX5_copyFrom_38 fiX5_30 (ok2 (by omega) (by omega)) rfl rfl ?_
  refine z_put (pc := 41) E dX5_copyFrom_41 fiX5_30 fpX5_6 (ok2 (by omega) (by omega)) rfl rfl (Nat.le_of_ble_eq_true rfl) ?_
  refine z_aload_0 (pc := 44) E dX5_copyFrom_44 ?_
  refine z_aload_1 (pc := 45) E dX5_copyFrom_45 ?_
  refine z_get (pc := 46) E dX5_copyFrom_46 fiX5_33 (ok2 (by omega) (by omega)) rfl rfl ?_
  refine z_put (pc := 49) E dX5_copyFrom_49 fiX5_33 fpX5_7 (ok2 (by omega) (by omega)) rfl rfl (Nat.le_of_ble_eq_true rfl) ?_
  refine z_aload_0 (pc := 52) E dX5_copyFrom_52 ?_
  refine z_aload_1 (pc := 53) E dX5_copyFrom_53 ?_
  refine z_get (pc := 54) E dX5_copyFrom_54 fiX5_36 (ok2 (by omega) (by omega)) rfl rfl ?_
  refine z_put (pc := 57) E dX5_copyFrom_57 fiX5_36 fpX5_8 (ok2 (by omega) (by omega)) rfl rfl (Nat.le_of_ble_eq_true rfl) ?_
  refine z_aload_0 (pc := 60) E dX5_copyFrom_60 ?_
  refine z_aload_1 (pc := 61) E dX5_copyFrom_61 ?_
  refine z_get (pc := 62) E dX5_copyFrom_62 fiX5_39 (ok2 (by omega) (by omega)) rfl rfl ?_
  refine z_put (pc := 65) E dX5_copyFrom_65 fiX5_39 fpX5_9 (ok2 (by omega) (by omega)) rfl rfl (Nat.le_of_ble_eq_true rfl) ?_
  exact z_vret (pc := 68) E dX5_copyFrom_68 (by simp only [mset_r, rset_cell, rset_rset, rset_off _ _ (show ¬ ((2 : Nat) = 2 ∧ s2 = s ∧ t2 = t) from fun z => hne z.2.1)]; exact congrArg (rset M 2 s t) (upd10 _ _))

