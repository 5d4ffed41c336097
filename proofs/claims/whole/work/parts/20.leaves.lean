set_option maxRecDepth 100000 in
set_option maxHeartbeats 4000000 in
theorem m_X6_isWithin (M : Mem) (x lo hi : Int32) : CI yX6_isWithin cX6_isWithin 3 (some .boolean) 0 0 0 (fun G => [.int x, .int lo, .int hi]) M (fun r M' => r = b2 (lo ≤ x ∧ x ≤ hi) ∧ M' = M) := by
  refine CI.mk (own := RX6) (by decide +kernel) rfl (fun _ => rfl) (fun _ => Nat.le_of_ble_eq_true rfl) (lv0 := fun G => [some (.int x), some (.int lo), some (.int hi)]) (fun _ => rfl) (fun X G E => ?_)
  refine z_iload_0 (pc := 0) E dX6_isWithin_0 ?_
  refine z_iload_1 (pc := 1) E dX6_isWithin_1 ?_
  refine z_icmp_lt (pc := 2) (tgt := 14) E dX6_isWithin_2 (by decide) (fun h2 => ?_) (fun h2 => ?_)
  · refine z_iconst (v := 0) (pc := 14) E dX6_isWithin_14 (by decide) ?_
    exact z_zret (pc := 15) E dX6_isWithin_15 (by first | exact Or.inl rfl | exact Or.inr rfl | exact b2_01 _) ⟨by first | exact (b2_t ⟨Int32.not_lt.mp h2, Int32.not_lt.mp h7⟩).symm | exact (b2_f (fun z => Int32.not_le.mpr h7 z.2)).symm | exact (b2_f (fun z => Int32.not_le.mpr h2 z.1)).symm, rfl⟩
  · refine z_iload_0 (pc := 5) E dX6_isWithin_5 ?_
    refine z_iload_2 (pc := 6) E dX6_isWithin_6 ?_
    refine z_icmp_gt (pc := 7) (tgt := 14) E dX6_isWithin_7 (by decide) (fun h7 => ?_) (fun h7 => ?_)
    · refine z_iconst (v := 0) (pc := 14) E dX6_isWithin_14 (by decide) ?_
      exact z_zret (pc := 15) E dX6_isWithin_15 (by first | exact Or.inl rfl | exact Or.inr rfl | exact b2_01 _) ⟨by first | exact (b2_t ⟨Int32.not_lt.mp h2, Int32.not_lt.mp h7⟩).symm | exact (b2_f (fun z => Int32.not_le.mpr h7 z.2)).symm | exact (b2_f (fun z => Int32.not_le.mpr h2 z.1)).symm, rfl⟩
    · refine z_iconst (v := 1) (pc := 10) E dX6_isWithin_10 (by decide) ?_
      refine z_goto (pc := 11) (tgt := 15) E dX6_isWithin_11 (by decide) ?_
      exact z_zret (pc := 15) E dX6_isWithin_15 (by first | exact Or.inl rfl | exact Or.inr rfl | exact b2_01 _) ⟨by first | exact (b2_t ⟨Int32.not_lt.mp h2, Int32.not_lt.mp h7⟩).symm | exact (b2_f (fun z => Int32.not_le.mpr h7 z.2)).symm | exact (b2_f (fun z => Int32.not_le.mpr h2 z.1)).symm, rfl⟩

set_option maxRecDepth 100000 in
set_option maxHeartbeats 4000000 in
theorem m_X4_hasCustomer (M : Mem) (s : Nat) (c : Int32) (hs : s < 2) : CI yX4_hasCustomer cX4_hasCustomer 2 (some .boolean) 1 0 0 (fun G => [.ref (ad G 0 s 0), .int c]) M (fun r M' => r = b2 (0 ≤ c ∧ c ≤ M 0 s 0 3 - 1) ∧ M' = M) := by
  refine CI.mk (own := RX4) (by decide +kernel) rfl (fun _ => rfl) (fun _ => Nat.le_of_ble_eq_true rfl) (lv0 := fun G => [some (.ref (ad G 0 s 0)), some (.int c)]) (fun _ => rfl) (fun X G E => ?_)
  refine z_iload_1 (pc := 0) E dX4_hasCustomer_0 ?_
  refine z_iconst (v := 0) (pc := 1) E dX4_hasCustomer_1 (by decide) ?_
  refine z_aload_0 (pc := 2) E dX4_hasCustomer_2 ?_
  refine z_get (pc := 3) E dX4_hasCustomer_3 fiX4_43 (ok0 (by omega)) rfl rfl ?_
  refine z_iconst (v := 1) (pc := 6) E dX4_hasCustomer_6 (by decide) ?_
  refine z_isub (pc := 7) E dX4_hasCustomer_7 ?_
  refine z_isNp (pc := 8) E (m_X6_isWithin _ _ _ _) rfl rfl kX6_isWithin (by decide +kernel : ((RX4 : String), 46, yX6_isWithin, (RX6 : String)) ∈ NWm) dX4_hasCustomer_8 rfl (by decide) rfl (by decide) (by decide) ⟨by omega, by omega⟩ ?_
  exact z_zret (pc := 11) E dX4_hasCustomer_11 (by first | exact Or.inl rfl | exact Or.inr rfl | exact b2_01 _) ⟨rfl, rfl⟩

set_option maxRecDepth 100000 in
set_option maxHeartbeats 4000000 in
theorem m_X4_hasTicket (M : Mem) (s : Nat) (c : Int32) (hs : s < 2) : CI yX4_hasTicket cX4_hasTicket 2 (some .boolean) 1 0 0 (fun G => [.ref (ad G 0 s 0), .int c]) M (fun r M' => r = b2 (0 ≤ c ∧ c ≤ M 0 s 0 4 - 1) ∧ M' = M) := by
  refine CI.mk (own := RX4) (by decide +kernel) rfl (fun _ => rfl) (fun _ => Nat.le_of_ble_eq_true rfl) (lv0 := fun G => [some (.ref (ad G 0 s 0)), some (.int c)]) (fun _ => rfl) (fun X G E => ?_)
  refine z_iload_1 (pc := 0) E dX4_hasTicket_0 ?_
  refine z_iconst (v := 0) (pc := 1) E dX4_hasTicket_1 (by decide) ?_
  refine z_aload_0 (pc := 2) E dX4_hasTicket_2 ?_
  refine z_get (pc := 3) E dX4_hasTicket_3 fiX4_50 (ok0 (by omega)) rfl rfl ?_
  refine z_iconst (v := 1) (pc := 6) E dX4_hasTicket_6 (by decide) ?_
  refine z_isub (pc := 7) E dX4_hasTicket_7 ?_
  refine z_isNp (pc := 8) E (m_X6_isWithin _ _ _ _) rfl rfl kX6_isWithin (by decide +kernel : ((RX4 : String), 46, yX6_isWithin, (RX6 : String)) ∈ NWm) dX4_hasTicket_8 rfl (by decide) rfl (by decide) (by decide) ⟨by omega, by omega⟩ ?_
  exact z_zret (pc := 11) E dX4_hasTicket_11 (by first | exact Or.inl rfl | exact Or.inr rfl | exact b2_01 _) ⟨rfl, rfl⟩

