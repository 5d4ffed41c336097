/-! the reference: helpers -/
theorem mset_mset (M : Mem) (k s i j : Nat) (x y : Int32) : mset (mset M k s i j x) k s i j y = mset M k s i j y := by
  funext k' s' i' j'
  unfold mset
  by_cases h : k' = k ∧ s' = s ∧ i' = i ∧ j' = j
  · rw [if_pos h, if_pos h]
  · rw [if_neg h, if_neg h, if_neg h]
theorem mfail {K e : Nat} {M : Mem} {x : Int32} (h : K = e) (he : ¬ e = 0) (hx : x = nI e) : ¬ K = 0 ∧ mset (mset M 11 0 0 0 0) 11 0 0 0 x = mset M 11 0 0 0 (nI K) := by
  subst h
  subst hx
  exact ⟨he, mset_mset _ _ _ _ _ _ _⟩
def shN (q : Nat) : Nat := if q < 10 then 0 else if q < 30 then 1 else 2
theorem shN_lt (q : Nat) : shN q < 3 := by
  unfold shN
  split
  · decide
  · split <;> decide
theorem nI_ltd {a b : Nat} (ha : a ≤ 1000) (hb : b ≤ 1000) (h : ¬ nI b ≤ nI a) : a < b := by
  rcases Nat.lt_or_ge a b with z | z
  · exact z
  · exact absurd (nI_le z (n31 ha)) h
theorem nI_ged {a b : Nat} (ha : a ≤ 1000) (hb : b ≤ 1000) (h : nI b ≤ nI a) : b ≤ a := by
  rcases Nat.lt_or_ge a b with z | z
  · exact absurd h (nI_ge z (n31 hb))
  · exact z

set_option maxRecDepth 100000 in
set_option maxHeartbeats 4000000 in
theorem m_X8_isIn (M : Mem) (x lo hi : Int32) : CI yX8_isIn cX8_isIn 3 (some .boolean) 0 0 0 (fun G => [.int x, .int lo, .int hi]) M (fun r M' => r = b2 (lo ≤ x ∧ x ≤ hi) ∧ M' = M) := by
  refine CI.mk (own := RX8) (by decide +kernel) rfl (fun _ => rfl) (fun _ => Nat.le_of_ble_eq_true rfl) (lv0 := fun G => [some (.int x), some (.int lo), some (.int hi)]) (fun _ => rfl) (fun X G E => ?_)
  refine z_iload_0 (pc := 0) E dX8_isIn_0 ?_
  refine z_iload_1 (pc := 1) E dX8_isIn_1 ?_
  refine z_icmp_lt (pc := 2) (tgt := 14) E dX8_isIn_2 (by decide) (fun h2 => ?_) (fun h2 => ?_)
  · refine z_iconst (v := 0) (pc := 14) E dX8_isIn_14 (by decide) ?_
    exact z_zret (pc := 15) E dX8_isIn_15 (by first | exact Or.inl rfl | exact Or.inr rfl | exact b2_01 _) ⟨by first | exact (b2_f (fun z => absurd h2 (Int32.not_lt.mpr z.1))).symm | exact (b2_f (fun z => absurd h7 (Int32.not_lt.mpr z.2))).symm | exact (b2_t ⟨Int32.not_lt.mp h2, Int32.not_lt.mp h7⟩).symm, rfl⟩
  · refine z_iload_0 (pc := 5) E dX8_isIn_5 ?_
    refine z_iload_2 (pc := 6) E dX8_isIn_6 ?_
    refine z_icmp_gt (pc := 7) (tgt := 14) E dX8_isIn_7 (by decide) (fun h7 => ?_) (fun h7 => ?_)
    · refine z_iconst (v := 0) (pc := 14) E dX8_isIn_14 (by decide) ?_
      exact z_zret (pc := 15) E dX8_isIn_15 (by first | exact Or.inl rfl | exact Or.inr rfl | exact b2_01 _) ⟨by first | exact (b2_f (fun z => absurd h2 (Int32.not_lt.mpr z.1))).symm | exact (b2_f (fun z => absurd h7 (Int32.not_lt.mpr z.2))).symm | exact (b2_t ⟨Int32.not_lt.mp h2, Int32.not_lt.mp h7⟩).symm, rfl⟩
    · refine z_iconst (v := 1) (pc := 10) E dX8_isIn_10 (by decide) ?_
      refine z_goto (pc := 11) (tgt := 15) E dX8_isIn_11 (by decide) ?_
      exact z_zret (pc := 15) E dX8_isIn_15 (by first | exact Or.inl rfl | exact Or.inr rfl | exact b2_01 _) ⟨by first | exact (b2_f (fun z => absurd h2 (Int32.not_lt.mpr z.1))).symm | exact (b2_f (fun z => absurd h7 (Int32.not_lt.mpr z.2))).symm | exact (b2_t ⟨Int32.not_lt.mp h2, Int32.not_lt.mp h7⟩).symm, rfl⟩

set_option maxRecDepth 100000 in
set_option maxHeartbeats 4000000 in
theorem m_X8_no (M : Mem) (e : Int32) : CI yX8_no cX8_no 2 (some .int) 0 0 0 (fun G => [.ref (ad G 11 0 0), .int e]) M (fun r M' => r = 0 ∧ M' = mset M 11 0 0 0 e) := by
  refine CI.mk (own := RX8) (by decide +kernel) rfl (fun _ => rfl) (fun _ => Nat.le_of_ble_eq_true rfl) (lv0 := fun G => [some (.ref (ad G 11 0 0)), some (.int e)]) (fun _ => rfl) (fun X G E => ?_)
  refine z_aload_0 (pc := 0) E dX8_no_0 ?_
  refine z_iload_1 (pc := 1) E dX8_no_1 ?_
  refine z_put (pc := 2) E dX8_no_2 fiX8_28 fpX8_0 ok11 rfl rfl (Nat.le_of_ble_eq_true rfl) ?_
  refine z_iconst (v := 0) (pc := 5) E dX8_no_5 (by decide) ?_
  exact z_iret (pc := 6) E dX8_no_6 ⟨rfl, rfl⟩

set_option maxRecDepth 100000 in
set_option maxHeartbeats 4000000 in
theorem m_X8_thrown (M : Mem) : CI yX8_thrown cX8_thrown 1 (some .int) 0 0 0 (fun G => [.ref (ad G 11 0 0)]) M (fun r M' => r = M 11 0 0 0 ∧ M' = M) := by
  refine CI.mk (own := RX8) (by decide +kernel) rfl (fun _ => rfl) (fun _ => Nat.le_of_ble_eq_true rfl) (lv0 := fun G => [some (.ref (ad G 11 0 0))]) (fun _ => rfl) (fun X G E => ?_)
  refine z_aload_0 (pc := 0) E dX8_thrown_0 ?_
  refine z_get (pc := 1) E dX8_thrown_1 fiX8_28 ok11 rfl rfl ?_
  exact z_iret (pc := 4) E dX8_thrown_4 ⟨rfl, rfl⟩

set_option maxRecDepth 100000 in
set_option maxHeartbeats 4000000 in
theorem m_X8_isCustomer (M : Mem) (c : Int32) : CI yX8_isCustomer cX8_isCustomer 2 (some .boolean) 1 0 0 (fun G => [.ref (ad G 11 0 0), .int c]) M (fun r M' => r = b2 (0 ≤ c ∧ c ≤ M 11 0 0 1 - 1) ∧ M' = M) := by
  refine CI.mk (own := RX8) (by decide +kernel) rfl (fun _ => rfl) (fun _ => Nat.le_of_ble_eq_true rfl) (lv0 := fun G => [some (.ref (ad G 11 0 0)), some (.int c)]) (fun _ => rfl) (fun X G E => ?_)
  refine z_iload_1 (pc := 0) E dX8_isCustomer_0 ?_
  refine z_iconst (v := 0) (pc := 1) E dX8_isCustomer_1 (by decide) ?_
  refine z_aload_0 (pc := 2) E dX8_isCustomer_2 ?_
  refine z_get (pc := 3) E dX8_isCustomer_3 fiX8_32 ok11 rfl rfl ?_
  refine z_iconst (v := 1) (pc := 6) E dX8_isCustomer_6 (by decide) ?_
  refine z_isub (pc := 7) E dX8_isCustomer_7 ?_
  refine z_isp (pc := 8) E (m_X8_isIn _ _ _ _) rfl rfl kX8_isIn mlX8_35 dX8_isCustomer_8 rfl (Nat.le_of_ble_eq_true rfl) rfl (by decide) (by decide) ⟨by omega, by omega⟩ ?_
  exact z_zret (pc := 11) E dX8_isCustomer_11 (by first | exact Or.inl rfl | exact Or.inr rfl | exact b2_01 _) ⟨rfl, rfl⟩

set_option maxRecDepth 100000 in
set_option maxHeartbeats 4000000 in
theorem m_X8_isTicket (M : Mem) (c : Int32) : CI yX8_isTicket cX8_isTicket 2 (some .boolean) 1 0 0 (fun G => [.ref (ad G 11 0 0), .int c]) M (fun r M' => r = b2 (0 ≤ c ∧ c ≤ M 6 0 0 2 - 1) ∧ M' = M) := by
  refine CI.mk (own := RX8) (by decide +kernel) rfl (fun _ => rfl) (fun _ => Nat.le_of_ble_eq_true rfl) (lv0 := fun G => [some (.ref (ad G 11 0 0)), some (.int c)]) (fun _ => rfl) (fun X G E => ?_)
  refine z_iload_1 (pc := 0) E dX8_isTicket_0 ?_
  refine z_iconst (v := 0) (pc := 1) E dX8_isTicket_1 (by decide) ?_
  refine z_aload_0 (pc := 2) E dX8_isTicket_2 ?_
  refine z_get (pc := 3) E dX8_isTicket_3 fiX8_21 ok11 rfl rfl ?_
  refine z_getN (pc := 6) E dX8_isTicket_6 fiX8_39 (ok6 (by omega)) rfl rfl ?_
  refine z_iconst (v := 1) (pc := 9) E dX8_isTicket_9 (by decide) ?_
  refine z_isub (pc := 10) E dX8_isTicket_10 ?_
  refine z_isp (pc := 11) E (m_X8_isIn _ _ _ _) rfl rfl kX8_isIn mlX8_35 dX8_isTicket_11 rfl (Nat.le_of_ble_eq_true rfl) rfl (by decide) (by decide) ⟨by omega, by omega⟩ ?_
  exact z_zret (pc := 14) E dX8_isTicket_14 (by first | exact Or.inl rfl | exact Or.inr rfl | exact b2_01 _) ⟨rfl, rfl⟩

set_option maxRecDepth 100000 in
set_option maxHeartbeats 4000000 in
theorem m_X8_pay (M : Mem) (i : Nat) (x y : Int32) (hi : i < 10) : CV yX8_pay cX8_pay 4 none 0 0 0 (fun G => [.ref (ad G 11 0 0), .int (nI i), .int x, .int y]) M (fun M' => M' = mset (mset (mset M 7 0 0 i (M 7 0 0 i - x)) 6 0 0 1 (M 6 0 0 1 + x)) 6 0 0 3 (M 6 0 0 3 + y)) := by
  refine CV.mk (own := RX8) (by decide +kernel) rfl (fun _ => rfl) (fun _ => Nat.le_of_ble_eq_true rfl) (lv0 := fun G => [some (.ref (ad G 11 0 0)), some (.int (nI i)), some (.int x), some (.int y)]) (fun _ => rfl) (fun X G E => ?_)
  refine z_aload_0 (pc := 0) E dX8_pay_0 ?_
  refine z_get (pc := 1) E dX8_pay_1 fiX8_21 ok11 rfl rfl ?_
  refine z_getN (pc := 4) E dX8_pay_4 fiX8_46 (ok6 (by omega)) rfl rfl ?_
  refine z_iload_1 (pc := 7) E dX8_pay_7 ?_
  refine z_dup2 (pc := 8) E dX8_pay_8 rfl rfl ?_
  refine z_iald (pc := 9) E dX8_pay_9 (ok7 (by omega)) rfl rfl hi (by omega) ?_
  refine z_iload_2 (pc := 10) E dX8_pay_10 ?_
  refine z_isub (pc := 11) E dX8_pay_11 ?_
  refine z_iast (pc := 12) E dX8_pay_12 (ok7 (by omega)) (fun _ => rfl) rfl hi (by omega) ?_
  refine z_aload_0 (pc := 13) E dX8_pay_13 ?_
  refine z_get (pc := 14) E dX8_pay_14 fiX8_21 ok11 rfl rfl ?_
  refine z_dup (pc := 17) E dX8_pay_17 rfl ?_
  refine z_getN (pc := 18) E dX8_pay_18 fiX8_74 (ok6 (by omega)) rfl rfl ?_
  refine z_iload_2 (pc := 21) E dX8_pay_21 ?_
  refine z_iadd (pc := 22) E dX8_pay_22 ?_
  refine z_putN (pc := 23) E dX8_pay_23 fiX8_74 fpX7_1 (ok6 (by omega)) rfl rfl (Nat.le_of_ble_eq_true rfl) ?_
  refine z_aload_0 (pc := 26) E dX8_pay_26 ?_
  refine z_get (pc := 27) E dX8_pay_27 fiX8_21 ok11 rfl rfl ?_
  refine z_dup (pc := 30) E dX8_pay_30 rfl ?_
  refine z_getN (pc := 31) E dX8_pay_31 fiX8_105 (ok6 (by omega)) rfl rfl ?_
  refine z_iload_3 (pc := 34) E dX8_pay_34 ?_
  refine z_iadd (pc := 35) E dX8_pay_35 ?_
  refine z_putN (pc := 36) E dX8_pay_36 fiX8_105 fpX7_3 (ok6 (by omega)) rfl rfl (Nat.le_of_ble_eq_true rfl) ?_
  exact z_vret (pc := 39) E dX8_pay_39 rfl

set_option maxRecDepth 100000 in
set_option maxHeartbeats 4000000 in
theorem m_X8_shelfOf (M : Mem) (q : Nat) (hq : q ≤ 100) : CI yX8_shelfOf cX8_shelfOf 1 (some .int) 0 0 0 (fun G => [.int (nI q)]) M (fun r M' => r = nI (shN q) ∧ M' = M) := by
  refine CI.mk (own := RX8) (by decide +kernel) rfl (fun _ => rfl) (fun _ => Nat.le_of_ble_eq_true rfl) (lv0 := fun G => [some (.int (nI q))]) (fun _ => rfl) (fun X G E => ?_)
  refine z_iload_0 (pc := 0) E dX8_shelfOf_0 ?_
  refine z_from8 (pc := 1) E dX8_shelfOf_1 flX8_93 ?_
  refine z_iconst (v := 1) (pc := 4) E dX8_shelfOf_4 (by decide) ?_
  refine z_tald (pc := 5) E dX8_shelfOf_5 rfl (by decide) ?_
  refine z_icmp_ge (pc := 6) (tgt := 13) E dX8_shelfOf_6 (by decide) (fun h6 => ?_) (fun h6 => ?_)
  · refine z_iload_0 (pc := 13) E dX8_shelfOf_13 ?_
    refine z_from8 (pc := 14) E dX8_shelfOf_14 flX8_93 ?_
    refine z_iconst (v := 2) (pc := 17) E dX8_shelfOf_17 (by decide) ?_
    refine z_tald (pc := 18) E dX8_shelfOf_18 rfl (by decide) ?_
    refine z_icmp_ge (pc := 19) (tgt := 26) E dX8_shelfOf_19 (by decide) (fun h19 => ?_) (fun h19 => ?_)
    · refine z_iconst (v := 2) (pc := 26) E dX8_shelfOf_26 (by decide) ?_
      exact z_iret (pc := 27) E dX8_shelfOf_27 ⟨by unfold shN; first | (rw [if_pos (nI_ltd (b := 10) (by omega) (by decide) h6)]; rfl) | (rw [if_neg (by have := nI_ged (b := 10) (by omega) (by decide) h6; omega), if_pos (nI_ltd (b := 30) (by omega) (by decide) h19)]; rfl) | (rw [if_neg (by have := nI_ged (b := 10) (by omega) (by decide) h6; omega), if_neg (by have := nI_ged (b := 30) (by omega) (by decide) h19; omega)]; rfl), rfl⟩
    · refine z_iconst (v := 1) (pc := 22) E dX8_shelfOf_22 (by decide) ?_
      refine z_goto (pc := 23) (tgt := 27) E dX8_shelfOf_23 (by decide) ?_
      exact z_iret (pc := 27) E dX8_shelfOf_27 ⟨by unfold shN; first | (rw [if_pos (nI_ltd (b := 10) (by omega) (by decide) h6)]; rfl) | (rw [if_neg (by have := nI_ged (b := 10) (by omega) (by decide) h6; omega), if_pos (nI_ltd (b := 30) (by omega) (by decide) h19)]; rfl) | (rw [if_neg (by have := nI_ged (b := 10) (by omega) (by decide) h6; omega), if_neg (by have := nI_ged (b := 30) (by omega) (by decide) h19; omega)]; rfl), rfl⟩
  · refine z_iconst (v := 0) (pc := 9) E dX8_shelfOf_9 (by decide) ?_
    refine z_goto (pc := 10) (tgt := 27) E dX8_shelfOf_10 (by decide) ?_
    exact z_iret (pc := 27) E dX8_shelfOf_27 ⟨by unfold shN; first | (rw [if_pos (nI_ltd (b := 10) (by omega) (by decide) h6)]; rfl) | (rw [if_neg (by have := nI_ged (b := 10) (by omega) (by decide) h6; omega), if_pos (nI_ltd (b := 30) (by omega) (by decide) h19)]; rfl) | (rw [if_neg (by have := nI_ged (b := 10) (by omega) (by decide) h6; omega), if_neg (by have := nI_ged (b := 30) (by omega) (by decide) h19; omega)]; rfl), rfl⟩

def mcomeK (M : Mem) (x : Int32) : Nat := if 0 ≤ x ∧ x ≤ 2000 then if ¬ (M 11 0 0 1 = 10) then 0 else 2 else 1

set_option maxRecDepth 100000 in
set_option maxHeartbeats 4000000 in
theorem m_X8_come (M : Mem) (cN : Nat) (x : Int32) (hc : M 11 0 0 1 = nI cN) (h10 : cN ≤ 10) : CI yX8_come cX8_come 2 (some .int) 1 0 0 (fun G => [.ref (ad G 11 0 0), .int x]) M (fun r M' => (mcomeK M x = 0 ∧ cN < 10 ∧ r = nI cN ∧ M' = mset (mset (mset (mset M 11 0 0 0 0) 7 0 0 cN x) 8 0 0 cN 5) 11 0 0 1 (nI (cN + 1))) ∨ (¬ mcomeK M x = 0 ∧ M' = mset M 11 0 0 0 (nI (mcomeK M x)))) := by
  refine CI.mk (own := RX8) (by decide +kernel) rfl (fun _ => rfl) (fun _ => Nat.le_of_ble_eq_true rfl) (lv0 := fun G => [some (.ref (ad G 11 0 0)), some (.int x)]) (fun _ => rfl) (fun X G E => ?_)
  refine z_aload_0 (pc := 0) E dX8_come_0 ?_
  refine z_iconst (v := 0) (pc := 1) E dX8_come_1 (by decide) ?_
  refine z_put (pc := 2) E dX8_come_2 fiX8_28 fpX8_0 ok11 rfl rfl (Nat.le_of_ble_eq_true rfl) ?_
  refine z_iload_1 (pc := 5) E dX8_come_5 ?_
  refine z_iconst (v := 0) (pc := 6) E dX8_come_6 (by decide) ?_
  refine z_sipush (v := 2000) (pc := 7) E dX8_come_7 (by decide) ?_
  refine z_isp (pc := 10) E (m_X8_isIn _ _ _ _) rfl rfl kX8_isIn mlX8_35 dX8_come_10 rfl (Nat.le_of_ble_eq_true rfl) rfl (by decide) (by decide) ⟨by omega, by omega⟩ ?_
  refine z_if_ne (pc := 13) (tgt := 22) E dX8_come_13 (by decide) (fun h13 => ?_) (fun h13 => ?_)
  · have g13 : 0 ≤ x ∧ x ≤ 2000 := b2_n0 h13
    refine z_aload_0 (pc := 22) E dX8_come_22 ?_
    refine z_get (pc := 23) E dX8_come_23 fiX8_32 ok11 rfl rfl ?_
    refine z_bipush (v := 10) (pc := 26) E dX8_come_26 (by decide) ?_
    refine z_icmp_ne (pc := 28) (tgt := 37) E dX8_come_28 (by decide) (fun h28 => ?_) (fun h28 => ?_)
    · have g28 : ¬ (M 11 0 0 1 = 10) := h28
      have h9 : cN < 10 := Nat.lt_of_le_of_ne h10 (fun z => g28 (by rw [hc, z]; rfl))
      refine z_aload_0 (pc := 37) E dX8_come_37 ?_
      refine z_get (pc := 38) E dX8_come_38 fiX8_21 ok11 rfl rfl ?_
      refine z_getN (pc := 41) E dX8_come_41 fiX8_46 (ok6 (by omega)) rfl rfl ?_
      refine z_aload_0 (pc := 44) E dX8_come_44 ?_
      refine z_get (pc := 45) E dX8_come_45 fiX8_32 ok11 rfl rfl ?_
      refine z_iload_1 (pc := 48) E dX8_come_48 ?_
      refine z_iast (pc := 49) E dX8_come_49 (ok7 (by omega)) (fun _ => rfl) hc h9 (by omega) ?_
      refine z_aload_0 (pc := 50) E dX8_come_50 ?_
      refine z_get (pc := 51) E dX8_come_51 fiX8_21 ok11 rfl rfl ?_
      refine z_getN (pc := 54) E dX8_come_54 fiX8_49 (ok6 (by omega)) rfl rfl ?_
      refine z_aload_0 (pc := 57) E dX8_come_57 ?_
      refine z_get (pc := 58) E dX8_come_58 fiX8_32 ok11 rfl rfl ?_
      refine z_iconst (v := 5) (pc := 61) E dX8_come_61 (by decide) ?_
      refine z_iast (pc := 62) E dX8_come_62 (ok8 (by omega)) (fun _ => rfl) hc h9 (by omega) ?_
      refine z_aload_0 (pc := 63) E dX8_come_63 ?_
      refine z_dup (pc := 64) E dX8_come_64 rfl ?_
      refine z_get (pc := 65) E dX8_come_65 fiX8_32 ok11 rfl rfl ?_
      refine z_iconst (v := 1) (pc := 68) E dX8_come_68 (by decide) ?_
      refine z_iadd (pc := 69) E dX8_come_69 ?_
      refine z_put (pc := 70) E dX8_come_70 fiX8_32 fpX8_1 ok11 rfl rfl (Nat.le_of_ble_eq_true rfl) ?_
      refine z_aload_0 (pc := 73) E dX8_come_73 ?_
      refine z_get (pc := 74) E dX8_come_74 fiX8_32 ok11 rfl rfl ?_
      refine z_iconst (v := 1) (pc := 77) E dX8_come_77 (by decide) ?_
      refine z_isub (pc := 78) E dX8_come_78 ?_
      exact z_iret (pc := 79) E dX8_come_79 (Or.inl ⟨by unfold mcomeK; rw [if_pos g13, if_pos g28], h9, by show M 11 0 0 1 + 1 - 1 = _; rw [hc, nI_1, nI_s1], congrArg (mset _ 11 0 0 1) (show M 11 0 0 1 + 1 = _ from by rw [hc, nI_1])⟩)
    · have g28 : ¬ (¬ (M 11 0 0 1 = 10)) := not_not_intro h28
      refine z_aload_0 (pc := 31) E dX8_come_31 ?_
      refine z_iconst (v := 2) (pc := 32) E dX8_come_32 (by decide) ?_
      refine z_ivf (pc := 33) E (m_X8_no _ _) rfl rfl kX8_no mlX8_42 dX8_come_33 ok11 rfl rfl rfl (Nat.le_of_ble_eq_true rfl) rfl (by decide) (by decide) ⟨by omega, by omega⟩ ?_
      exact z_iret (pc := 36) E dX8_come_36 (Or.inr (mfail (e := 2) (by unfold mcomeK; rw [if_pos g13, if_neg g28]) (by decide) rfl))
  · have g13 : ¬ (0 ≤ x ∧ x ≤ 2000) := b2_e0 h13
    refine z_aload_0 (pc := 16) E dX8_come_16 ?_
    refine z_iconst (v := 1) (pc := 17) E dX8_come_17 (by decide) ?_
    refine z_ivf (pc := 18) E (m_X8_no _ _) rfl rfl kX8_no mlX8_42 dX8_come_18 ok11 rfl rfl rfl (Nat.le_of_ble_eq_true rfl) rfl (by decide) (by decide) ⟨by omega, by omega⟩ ?_
    exact z_iret (pc := 21) E dX8_come_21 (Or.inr (mfail (e := 1) (by unfold mcomeK; rw [if_neg g13]) (by decide) rfl))

def mearnK (M : Mem) (c x : Int32) : Nat := if 0 ≤ c ∧ c ≤ M 11 0 0 1 - 1 then if 1 ≤ x ∧ x ≤ 1000 then 0 else 2 else 1

set_option maxRecDepth 100000 in
set_option maxHeartbeats 4000000 in
theorem m_X8_earn (M : Mem) (cN : Nat) (c x : Int32) (hc : M 11 0 0 1 = nI cN) (h10 : cN ≤ 10) : CI yX8_earn cX8_earn 3 (some .int) 2 0 0 (fun G => [.ref (ad G 11 0 0), .int c, .int x]) M (fun r M' => (mearnK M c x = 0 ∧ ∃ i, i < cN ∧ c = nI i ∧ r = M 7 0 0 i + x ∧ M' = mset (mset M 11 0 0 0 0) 7 0 0 i (M 7 0 0 i + x)) ∨ (¬ mearnK M c x = 0 ∧ M' = mset M 11 0 0 0 (nI (mearnK M c x)))) := by
  refine CI.mk (own := RX8) (by decide +kernel) rfl (fun _ => rfl) (fun _ => Nat.le_of_ble_eq_true rfl) (lv0 := fun G => [some (.ref (ad G 11 0 0)), some (.int c), some (.int x)]) (fun _ => rfl) (fun X G E => ?_)
  refine z_aload_0 (pc := 0) E dX8_earn_0 ?_
  refine z_iconst (v := 0) (pc := 1) E dX8_earn_1 (by decide) ?_
  refine z_put (pc := 2) E dX8_earn_2 fiX8_28 fpX8_0 ok11 rfl rfl (Nat.le_of_ble_eq_true rfl) ?_
  refine z_aload_0 (pc := 5) E dX8_earn_5 ?_
  refine z_iload_1 (pc := 6) E dX8_earn_6 ?_
  refine z_ivp (pc := 7) E (m_X8_isCustomer _ _) rfl rfl kX8_isCustomer mlX8_52 dX8_earn_7 ok11 rfl rfl rfl (Nat.le_of_ble_eq_true rfl) rfl (by decide) (by decide) ⟨by omega, by omega⟩ ?_
  refine z_if_ne (pc := 10) (tgt := 19) E dX8_earn_10 (by decide) (fun h10 => ?_) (fun h10 => ?_)
  · have g10 : 0 ≤ c ∧ c ≤ M 11 0 0 1 - 1 := b2_n0 h10
    obtain ⟨i, hi, rfl⟩ := ix_of (hc_rw hc g10) (by omega)
    refine z_iload_2 (pc := 19) E dX8_earn_19 ?_
    refine z_iconst (v := 1) (pc := 20) E dX8_earn_20 (by decide) ?_
    refine z_sipush (v := 1000) (pc := 21) E dX8_earn_21 (by decide) ?_
    refine z_isp (pc := 24) E (m_X8_isIn _ _ _ _) rfl rfl kX8_isIn mlX8_35 dX8_earn_24 rfl (Nat.le_of_ble_eq_true rfl) rfl (by decide) (by decide) ⟨by omega, by omega⟩ ?_
    refine z_if_ne (pc := 27) (tgt := 36) E dX8_earn_27 (by decide) (fun h27 => ?_) (fun h27 => ?_)
    · have g27 : 1 ≤ x ∧ x ≤ 1000 := b2_n0 h27
      refine z_aload_0 (pc := 36) E dX8_earn_36 ?_
      refine z_get (pc := 37) E dX8_earn_37 fiX8_21 ok11 rfl rfl ?_
      refine z_getN (pc := 40) E dX8_earn_40 fiX8_46 (ok6 (by omega)) rfl rfl ?_
      refine z_iload_1 (pc := 43) E dX8_earn_43 ?_
      refine z_dup2 (pc := 44) E dX8_earn_44 rfl rfl ?_
      refine z_iald (pc := 45) E dX8_earn_45 (ok7 (by omega)) rfl rfl (by omega) (by omega) ?_
      refine z_iload_2 (pc := 46) E dX8_earn_46 ?_
      refine z_iadd (pc := 47) E dX8_earn_47 ?_
      refine z_iast (pc := 48) E dX8_earn_48 (ok7 (by omega)) (fun _ => rfl) rfl (by omega) (by omega) ?_
      refine z_aload_0 (pc := 49) E dX8_earn_49 ?_
      refine z_get (pc := 50) E dX8_earn_50 fiX8_21 ok11 rfl rfl ?_
      refine z_getN (pc := 53) E dX8_earn_53 fiX8_46 (ok6 (by omega)) rfl rfl ?_
      refine z_iload_1 (pc := 56) E dX8_earn_56 ?_
      refine z_iald (pc := 57) E dX8_earn_57 (ok7 (by omega)) rfl rfl (by omega) (by omega) ?_
      exact z_iret (pc := 58) E dX8_earn_58 (Or.inl ⟨by unfold mearnK; rw [if_pos g10, if_pos g27], i, hi, rfl, by simp [mset], rfl⟩)
    · have g27 : ¬ (1 ≤ x ∧ x ≤ 1000) := b2_e0 h27
      refine z_aload_0 (pc := 30) E dX8_earn_30 ?_
      refine z_iconst (v := 2) (pc := 31) E dX8_earn_31 (by decide) ?_
      refine z_ivf (pc := 32) E (m_X8_no _ _) rfl rfl kX8_no mlX8_42 dX8_earn_32 ok11 rfl rfl rfl (Nat.le_of_ble_eq_true rfl) rfl (by decide) (by decide) ⟨by omega, by omega⟩ ?_
      exact z_iret (pc := 35) E dX8_earn_35 (Or.inr (mfail (e := 2) (by unfold mearnK; rw [if_pos g10, if_neg g27]) (by decide) rfl))
  · have g10 : ¬ (0 ≤ c ∧ c ≤ M 11 0 0 1 - 1) := b2_e0 h10
    refine z_aload_0 (pc := 13) E dX8_earn_13 ?_
    refine z_iconst (v := 1) (pc := 14) E dX8_earn_14 (by decide) ?_
    refine z_ivf (pc := 15) E (m_X8_no _ _) rfl rfl kX8_no mlX8_42 dX8_earn_15 ok11 rfl rfl rfl (Nat.le_of_ble_eq_true rfl) rfl (by decide) (by decide) ⟨by omega, by omega⟩ ?_
    exact z_iret (pc := 18) E dX8_earn_18 (Or.inr (mfail (e := 1) (by unfold mearnK; rw [if_neg g10]) (by decide) rfl))

def msetBuyerK (d k p : Int32) : Nat := if 0 ≤ d ∧ d ≤ 6 then if (-1 ≤ k ∧ k ≤ 4) ∧ (0 ≤ p ∧ p ≤ 500) then 0 else 2 else 1

set_option maxRecDepth 100000 in
set_option maxHeartbeats 4000000 in
theorem m_X8_setBuyer (M : Mem) (d k p : Int32) : CI yX8_setBuyer cX8_setBuyer 5 (some .int) 1 0 0 (fun G => [.ref (ad G 11 0 0), .int d, .int k, .int p]) M (fun r M' => (msetBuyerK d k p = 0 ∧ ∃ j, j < 7 ∧ d = nI j ∧ r = M 12 0 0 j ∧ M' = mset (mset (mset M 11 0 0 0 0) 12 0 0 j k) 13 0 0 j (if k = -1 then 0 else p)) ∨ (¬ msetBuyerK d k p = 0 ∧ M' = mset M 11 0 0 0 (nI (msetBuyerK d k p)))) := by
  refine CI.mk (own := RX8) (by decide +kernel) rfl (fun _ => rfl) (fun _ => Nat.le_of_ble_eq_true rfl) (lv0 := fun G => [some (.ref (ad G 11 0 0)), some (.int d), some (.int k), some (.int p), none]) (fun _ => rfl) (fun X G E => ?_)
  refine z_aload_0 (pc := 0) E dX8_setBuyer_0 ?_
  refine z_iconst (v := 0) (pc := 1) E dX8_setBuyer_1 (by decide) ?_
  refine z_put (pc := 2) E dX8_setBuyer_2 fiX8_28 fpX8_0 ok11 rfl rfl (Nat.le_of_ble_eq_true rfl) ?_
  refine z_iload_1 (pc := 5) E dX8_setBuyer_5 ?_
  refine z_iconst (v := 0) (pc := 6) E dX8_setBuyer_6 (by decide) ?_
  refine z_bipush (v := 6) (pc := 7) E dX8_setBuyer_7 (by decide) ?_
  refine z_isp (pc := 9) E (m_X8_isIn _ _ _ _) rfl rfl kX8_isIn mlX8_35 dX8_setBuyer_9 rfl (Nat.le_of_ble_eq_true rfl) rfl (by decide) (by decide) ⟨by omega, by omega⟩ ?_
  refine z_if_ne (pc := 12) (tgt := 21) E dX8_setBuyer_12 (by decide) (fun h12 => ?_) (fun h12 => ?_)
  · have g12 : 0 ≤ d ∧ d ≤ 6 := b2_n0 h12
    obtain ⟨j, hj, rfl⟩ := ix_c (n := 7) g12 (by decide) (by decide)
    refine z_iload_2 (pc := 21) E dX8_setBuyer_21 ?_
    refine z_iconst (v := -1) (pc := 22) E dX8_setBuyer_22 (by decide) ?_
    refine z_iconst (v := 4) (pc := 23) E dX8_setBuyer_23 (by decide) ?_
    refine z_isp (pc := 24) E (m_X8_isIn _ _ _ _) rfl rfl kX8_isIn mlX8_35 dX8_setBuyer_24 rfl (Nat.le_of_ble_eq_true rfl) rfl (by decide) (by decide) ⟨by omega, by omega⟩ ?_
    refine z_if_eq (pc := 27) (tgt := 41) E dX8_setBuyer_27 (by decide) (fun h27 => ?_) (fun h27 => ?_)
    · have g27 : ¬ (-1 ≤ k ∧ k ≤ 4) := b2_e0 h27
      refine z_aload_0 (pc := 41) E dX8_setBuyer_41 ?_
      refine z_iconst (v := 2) (pc := 42) E dX8_setBuyer_42 (by decide) ?_
      refine z_ivf (pc := 43) E (m_X8_no _ _) rfl rfl kX8_no mlX8_42 dX8_setBuyer_43 ok11 rfl rfl rfl (Nat.le_of_ble_eq_true rfl) rfl (by decide) (by decide) ⟨by omega, by omega⟩ ?_
      exact z_iret (pc := 46) E dX8_setBuyer_46 (Or.inr (mfail (e := 2) (by unfold msetBuyerK; rw [if_pos g12, if_neg (fun z => g27 z.1)]) (by decide) rfl))
    · have g27 : -1 ≤ k ∧ k ≤ 4 := b2_n0 h27
      refine z_iload_3 (pc := 30) E dX8_setBuyer_30 ?_
      refine z_iconst (v := 0) (pc := 31) E dX8_setBuyer_31 (by decide) ?_
      refine z_sipush (v := 500) (pc := 32) E dX8_setBuyer_32 (by decide) ?_
      refine z_isp (pc := 35) E (m_X8_isIn _ _ _ _) rfl rfl kX8_isIn mlX8_35 dX8_setBuyer_35 rfl (Nat.le_of_ble_eq_true rfl) rfl (by decide) (by decide) ⟨by omega, by omega⟩ ?_
      refine z_if_ne (pc := 38) (tgt := 47) E dX8_setBuyer_38 (by decide) (fun h38 => ?_) (fun h38 => ?_)
      · have g38 : 0 ≤ p ∧ p ≤ 500 := b2_n0 h38
        refine z_aload_0 (pc := 47) E dX8_setBuyer_47 ?_
        refine z_get (pc := 48) E dX8_setBuyer_48 fiX8_9 ok11 rfl rfl ?_
        refine z_iload_1 (pc := 51) E dX8_setBuyer_51 ?_
        refine z_iald (pc := 52) E dX8_setBuyer_52 ok12 rfl rfl (by omega) (by omega) ?_
        refine z_istore_4 (pc := 53) E dX8_setBuyer_53 rfl ?_
        refine z_aload_0 (pc := 55) E dX8_setBuyer_55 ?_
        refine z_get (pc := 56) E dX8_setBuyer_56 fiX8_9 ok11 rfl rfl ?_
        refine z_iload_1 (pc := 59) E dX8_setBuyer_59 ?_
        refine z_iload_2 (pc := 60) E dX8_setBuyer_60 ?_
        refine z_iast (pc := 61) E dX8_setBuyer_61 ok12 (fun _ => rfl) rfl (by omega) (by omega) ?_
        refine z_aload_0 (pc := 62) E dX8_setBuyer_62 ?_
        refine z_get (pc := 63) E dX8_setBuyer_63 fiX8_13 ok11 rfl rfl ?_
        refine z_iload_1 (pc := 66) E dX8_setBuyer_66 ?_
        refine z_iload_2 (pc := 67) E dX8_setBuyer_67 ?_
        refine z_iconst (v := -1) (pc := 68) E dX8_setBuyer_68 (by decide) ?_
        refine z_icmp_ne (pc := 69) (tgt := 76) E dX8_setBuyer_69 (by decide) (fun h69 => ?_) (fun h69 => ?_)
        · refine z_iload_3 (pc := 76) E dX8_setBuyer_76 ?_
          refine z_iast (pc := 77) E dX8_setBuyer_77 ok13 (fun _ => rfl) rfl (by omega) (by omega) ?_
          refine z_iload_4 (pc := 78) E dX8_setBuyer_78 ?_
          exact z_iret (pc := 80) E dX8_setBuyer_80 (Or.inl ⟨by unfold msetBuyerK; rw [if_pos g12, if_pos (⟨g27, g38⟩ : _ ∧ _)], j, hj, rfl, rfl, by rw [if_neg h69]⟩)
        · refine z_iconst (v := 0) (pc := 72) E dX8_setBuyer_72 (by decide) ?_
          refine z_goto (pc := 73) (tgt := 77) E dX8_setBuyer_73 (by decide) ?_
          refine z_iast (pc := 77) E dX8_setBuyer_77 ok13 (fun _ => rfl) rfl (by omega) (by omega) ?_
          refine z_iload_4 (pc := 78) E dX8_setBuyer_78 ?_
          exact z_iret (pc := 80) E dX8_setBuyer_80 (Or.inl ⟨by unfold msetBuyerK; rw [if_pos g12, if_pos (⟨g27, g38⟩ : _ ∧ _)], j, hj, rfl, rfl, by rw [if_pos h69]⟩)
      · have g38 : ¬ (0 ≤ p ∧ p ≤ 500) := b2_e0 h38
        refine z_aload_0 (pc := 41) E dX8_setBuyer_41 ?_
        refine z_iconst (v := 2) (pc := 42) E dX8_setBuyer_42 (by decide) ?_
        refine z_ivf (pc := 43) E (m_X8_no _ _) rfl rfl kX8_no mlX8_42 dX8_setBuyer_43 ok11 rfl rfl rfl (Nat.le_of_ble_eq_true rfl) rfl (by decide) (by decide) ⟨by omega, by omega⟩ ?_
        exact z_iret (pc := 46) E dX8_setBuyer_46 (Or.inr (mfail (e := 2) (by unfold msetBuyerK; rw [if_pos g12, if_neg (fun z => g38 z.2)]) (by decide) rfl))
  · have g12 : ¬ (0 ≤ d ∧ d ≤ 6) := b2_e0 h12
    refine z_aload_0 (pc := 15) E dX8_setBuyer_15 ?_
    refine z_iconst (v := 1) (pc := 16) E dX8_setBuyer_16 (by decide) ?_
    refine z_ivf (pc := 17) E (m_X8_no _ _) rfl rfl kX8_no mlX8_42 dX8_setBuyer_17 ok11 rfl rfl rfl (Nat.le_of_ble_eq_true rfl) rfl (by decide) (by decide) ⟨by omega, by omega⟩ ?_
    exact z_iret (pc := 20) E dX8_setBuyer_20 (Or.inr (mfail (e := 1) (by unfold msetBuyerK; rw [if_neg g12]) (by decide) rfl))

def mowesK (M : Mem) (t : Int32) : Nat := if 0 ≤ t ∧ t ≤ M 6 0 0 2 - 1 then 0 else 1

set_option maxRecDepth 100000 in
set_option maxHeartbeats 4000000 in
theorem m_X8_owes (M : Mem) (n : Nat) (t : Int32) (hn : M 6 0 0 2 = nI n) (h40 : n ≤ 40) : CI yX8_owes cX8_owes 2 (some .int) 3 0 0 (fun G => [.ref (ad G 11 0 0), .int t]) M (fun r M' => (mowesK M t = 0 ∧ ∃ i, i < n ∧ t = nI i ∧ r = owedV M 0 i ∧ M' = (mset M 11 0 0 0 0)) ∨ (¬ mowesK M t = 0 ∧ M' = mset M 11 0 0 0 (nI (mowesK M t)))) := by
  refine CI.mk (own := RX8) (by decide +kernel) rfl (fun _ => rfl) (fun _ => Nat.le_of_ble_eq_true rfl) (lv0 := fun G => [some (.ref (ad G 11 0 0)), some (.int t)]) (fun _ => rfl) (fun X G E => ?_)
  refine z_aload_0 (pc := 0) E dX8_owes_0 ?_
  refine z_iconst (v := 0) (pc := 1) E dX8_owes_1 (by decide) ?_
  refine z_put (pc := 2) E dX8_owes_2 fiX8_28 fpX8_0 ok11 rfl rfl (Nat.le_of_ble_eq_true rfl) ?_
  refine z_aload_0 (pc := 5) E dX8_owes_5 ?_
  refine z_iload_1 (pc := 6) E dX8_owes_6 ?_
  refine z_ivp (pc := 7) E (m_X8_isTicket _ _) rfl rfl kX8_isTicket mlX8_99 dX8_owes_7 ok11 rfl rfl rfl (Nat.le_of_ble_eq_true rfl) rfl (by decide) (by decide) ⟨by omega, by omega⟩ ?_
  refine z_if_eq (pc := 10) (tgt := 24) E dX8_owes_10 (by decide) (fun h10 => ?_) (fun h10 => ?_)
  · have g10 : ¬ (0 ≤ t ∧ t ≤ M 6 0 0 2 - 1) := b2_e0 h10
    refine z_aload_0 (pc := 24) E dX8_owes_24 ?_
    refine z_iconst (v := 1) (pc := 25) E dX8_owes_25 (by decide) ?_
    refine z_ivf (pc := 26) E (m_X8_no _ _) rfl rfl kX8_no mlX8_42 dX8_owes_26 ok11 rfl rfl rfl (Nat.le_of_ble_eq_true rfl) rfl (by decide) (by decide) ⟨by omega, by omega⟩ ?_
    exact z_iret (pc := 29) E dX8_owes_29 (Or.inr (mfail (e := 1) (by unfold mowesK; rw [if_neg g10]) (by decide) rfl))
  · have g10 : 0 ≤ t ∧ t ≤ M 6 0 0 2 - 1 := b2_n0 h10
    obtain ⟨i, hi, rfl⟩ := ix_of (hc_rw hn g10) (by omega)
    refine z_aload_0 (pc := 13) E dX8_owes_13 ?_
    refine z_get (pc := 14) E dX8_owes_14 fiX8_21 ok11 rfl rfl ?_
    refine z_iload_1 (pc := 17) E dX8_owes_17 ?_
    refine z_ivp (pc := 18) E (m_X7_owed _ 0 _ (by decide) (by omega)) rfl rfl kX7_owed mlX8_60 dX8_owes_18 (ok6 (by omega)) rfl rfl rfl (Nat.le_of_ble_eq_true rfl) rfl (by decide) (by decide) ⟨by omega, by omega⟩ ?_
    refine z_goto (pc := 21) (tgt := 29) E dX8_owes_21 (by decide) ?_
    exact z_iret (pc := 29) E dX8_owes_29 (Or.inl ⟨by unfold mowesK; rw [if_pos g10], i, hi, rfl, rfl, rfl⟩)

theorem mgap_rng (M : Mem) (s : Nat) {W : Nat} (hW : 1 ≤ W) (hW2 : W ≤ 100) : ∀ n i, i + n = 3 → mgapF M s (nI W) n i = -1 ∨ ∃ q, q + W ≤ 60 ∧ mgapF M s (nI W) n i = nI q
  | 0, _, _ => Or.inl rfl
  | n + 1, i, h => by
    have e : mgapF M s (nI W) (n + 1) i = if mgapS M s i (nI W) = -1 then mgapF M s (nI W) n (i + 1) else mgapS M s i (nI W) := rfl
    have hf := frN_s (i := i) (by omega)
    have hf2 := frN_le (i := i) (by omega)
    rcases gap_rng (p := M 10 s 0) hW hW2 (10 * (i + 1)) (frN i) 0 (Nat.zero_le _) (by omega) (by omega) (fun j h1 h2 => by omega) with g | ⟨q, g1, g2, g3, g4⟩
    · rw [if_pos (show mgapS M s i (nI W) = -1 from g 0 (by omega))] at e
      rw [e]
      exact mgap_rng M s hW hW2 n (i + 1) (by omega)
    · have e1 : mgapS M s i (nI W) = nI q := (g4 0 (by omega)).trans (by rw [Nat.zero_add])
      rw [if_neg (by rw [e1]; exact nI_m1 (by omega))] at e
      exact Or.inr ⟨q, by omega, e.trans e1⟩
theorem mgapF_k {A B : Mem} {s : Nat} (h : A 10 = B 10) (w : Int32) : ∀ n i, mgapF A s w n i = mgapF B s w n i
  | 0, _ => rfl
  | n + 1, i => by
    show (if mgapS A s i w = -1 then mgapF A s w n (i + 1) else mgapS A s i w) = (if mgapS B s i w = -1 then mgapF B s w n (i + 1) else mgapS B s i w)
    have e : mgapS A s i w = mgapS B s i w := by unfold mgapS; rw [h]
    rw [e, mgapF_k h]
/-- where a thing would be laid, as the reference tells it -/
def mroomV (M : Mem) (W : Nat) : Int32 := if mgapF M 0 (nI W) 3 0 = -1 then -1 else 100 * nI (shN (mgapF M 0 (nI W) 3 0).toNatClampNeg) + mgapF M 0 (nI W) 3 0 - fromV (shN (mgapF M 0 (nI W) 3 0).toNatClampNeg)

def mroomK (w : Int32) : Nat := if 1 ≤ w ∧ w ≤ 10 then 0 else 1

set_option maxRecDepth 100000 in
set_option maxHeartbeats 4000000 in
theorem m_X8_room (M : Mem) (w : Int32) : CI yX8_room cX8_room 3 (some .int) 1 0 0 (fun G => [.ref (ad G 11 0 0), .int w]) M (fun r M' => (mroomK w = 0 ∧ ∃ W, 1 ≤ W ∧ W ≤ 10 ∧ w = nI W ∧ r = mroomV M W ∧ M' = (mset M 11 0 0 0 0)) ∨ (¬ mroomK w = 0 ∧ M' = mset M 11 0 0 0 (nI (mroomK w)))) := by
  refine CI.mk (own := RX8) (by decide +kernel) rfl (fun _ => rfl) (fun _ => Nat.le_of_ble_eq_true rfl) (lv0 := fun G => [some (.ref (ad G 11 0 0)), some (.int w), none]) (fun _ => rfl) (fun X G E => ?_)
  refine z_aload_0 (pc := 0) E dX8_room_0 ?_
  refine z_iconst (v := 0) (pc := 1) E dX8_room_1 (by decide) ?_
  refine z_put (pc := 2) E dX8_room_2 fiX8_28 fpX8_0 ok11 rfl rfl (Nat.le_of_ble_eq_true rfl) ?_
  refine z_iload_1 (pc := 5) E dX8_room_5 ?_
  refine z_iconst (v := 1) (pc := 6) E dX8_room_6 (by decide) ?_
  refine z_bipush (v := 10) (pc := 7) E dX8_room_7 (by decide) ?_
  refine z_isp (pc := 9) E (m_X8_isIn _ _ _ _) rfl rfl kX8_isIn mlX8_35 dX8_room_9 rfl (Nat.le_of_ble_eq_true rfl) rfl (by decide) (by decide) ⟨by omega, by omega⟩ ?_
  refine z_if_ne (pc := 12) (tgt := 21) E dX8_room_12 (by decide) (fun h12 => ?_) (fun h12 => ?_)
  · have g12 : 1 ≤ w ∧ w ≤ 10 := b2_n0 h12
    obtain ⟨W, hW1, hW, rfl⟩ := ix_n (n := 10) g12 rfl (by decide)
    refine z_aload_0 (pc := 21) E dX8_room_21 ?_
    refine z_get (pc := 22) E dX8_room_22 fiX8_21 ok11 rfl rfl ?_
    refine z_iload_1 (pc := 25) E dX8_room_25 ?_
    refine z_ivp (pc := 26) E (m_X7_gap _ 0 W (by decide) hW1 (by omega)) rfl rfl kX7_gap mlX8_71 dX8_room_26 (ok6 (by omega)) rfl rfl rfl (Nat.le_of_ble_eq_true rfl) rfl (by decide) (by decide) ⟨by omega, by omega⟩ ?_
    rw [show mgapF (mset M 11 0 0 0 0) 0 (nI W) 3 0 = mgapF M 0 (nI W) 3 0 from mgapF_k rfl _ _ _]
    refine z_istore_2 (pc := 29) E dX8_room_29 rfl ?_
    refine z_iload_2 (pc := 30) E dX8_room_30 ?_
    refine z_iconst (v := -1) (pc := 31) E dX8_room_31 (by decide) ?_
    refine z_icmp_ne (pc := 32) (tgt := 39) E dX8_room_32 (by decide) (fun h32 => ?_) (fun h32 => ?_)
    · obtain ⟨q, hq, he⟩ := (mgap_rng M 0 hW1 (by omega) 3 0 rfl).resolve_left h32
      rw [he]
      refine z_bipush (v := 100) (pc := 39) E dX8_room_39 (by decide) ?_
      refine z_iload_2 (pc := 41) E dX8_room_41 ?_
      refine z_isp (pc := 42) E (m_X8_shelfOf _ q (by omega)) rfl rfl kX8_shelfOf mlX8_96 dX8_room_42 rfl (Nat.le_of_ble_eq_true rfl) rfl (by decide) (by decide) ⟨by omega, by omega⟩ ?_
      refine z_imul (pc := 45) E dX8_room_45 ?_
      refine z_iload_2 (pc := 46) E dX8_room_46 ?_
      refine z_iadd (pc := 47) E dX8_room_47 ?_
      refine z_from8 (pc := 48) E dX8_room_48 flX8_93 ?_
      refine z_iload_2 (pc := 51) E dX8_room_51 ?_
      refine z_isp (pc := 52) E (m_X8_shelfOf _ q (by omega)) rfl rfl kX8_shelfOf mlX8_96 dX8_room_52 rfl (Nat.le_of_ble_eq_true rfl) rfl (by decide) (by decide) ⟨by omega, by omega⟩ ?_
      refine z_tald (pc := 55) E dX8_room_55 rfl (Nat.lt_trans (shN_lt q) (by decide)) ?_
      refine z_isub (pc := 56) E dX8_room_56 ?_
      exact z_iret (pc := 57) E dX8_room_57 (Or.inl ⟨by unfold mroomK; rw [if_pos g12], W, hW1, hW, rfl, by unfold mroomV; first | exact (if_pos h32).symm | (rw [if_neg h32]; rw [he]; rw [nI_clamp (n31 (by omega))]), rfl⟩)
    · refine z_iconst (v := -1) (pc := 35) E dX8_room_35 (by decide) ?_
      refine z_goto (pc := 36) (tgt := 57) E dX8_room_36 (by decide) ?_
      exact z_iret (pc := 57) E dX8_room_57 (Or.inl ⟨by unfold mroomK; rw [if_pos g12], W, hW1, hW, rfl, by unfold mroomV; first | exact (if_pos h32).symm | (rw [if_neg h32]; rw [he]; rw [nI_clamp (n31 (by omega))]), rfl⟩)
  · have g12 : ¬ (1 ≤ w ∧ w ≤ 10) := b2_e0 h12
    refine z_aload_0 (pc := 15) E dX8_room_15 ?_
    refine z_iconst (v := 1) (pc := 16) E dX8_room_16 (by decide) ?_
    refine z_ivf (pc := 17) E (m_X8_no _ _) rfl rfl kX8_no mlX8_42 dX8_room_17 ok11 rfl rfl rfl (Nat.le_of_ble_eq_true rfl) rfl (by decide) (by decide) ⟨by omega, by omega⟩ ?_
    exact z_iret (pc := 20) E dX8_room_20 (Or.inr (mfail (e := 1) (by unfold mroomK; rw [if_neg g12]) (by decide) rfl))

def matK (sh pl : Int32) : Nat := if (0 ≤ sh ∧ sh ≤ 2) ∧ (0 ≤ pl ∧ pl ≤ fromV (sh.toNatClampNeg + 1) - fromV sh.toNatClampNeg - 1) then 0 else 1

theorem ix_at {i : Nat} {x : Int32} (hi : i < 3) (h : 0 ≤ x ∧ x ≤ fromV (i + 1) - fromV i - 1) : ∃ p : Nat, p < 10 * (i + 1) ∧ x = nI p := by
  refine ix_of (n := 10 * (i + 1)) ?_ (by omega)
  have hf := frN_s hi
  rw [fromN, fromN, pk_sub (by omega), show frN (i + 1) - frN i = 10 * (i + 1) by omega] at h
  exact h

set_option maxRecDepth 100000 in
set_option maxHeartbeats 4000000 in
theorem m_X8_at (M : Mem) (sh pl : Int32) : CI yX8_at cX8_at 3 (some .int) 1 0 0 (fun G => [.ref (ad G 11 0 0), .int sh, .int pl]) M (fun r M' => (matK sh pl = 0 ∧ ∃ i p, i < 3 ∧ p < 10 * (i + 1) ∧ sh = nI i ∧ pl = nI p ∧ r = M 10 0 0 (frN i + p) ∧ M' = (mset M 11 0 0 0 0)) ∨ (¬ matK sh pl = 0 ∧ M' = mset M 11 0 0 0 (nI (matK sh pl)))) := by
  refine CI.mk (own := RX8) (by decide +kernel) rfl (fun _ => rfl) (fun _ => Nat.le_of_ble_eq_true rfl) (lv0 := fun G => [some (.ref (ad G 11 0 0)), some (.int sh), some (.int pl)]) (fun _ => rfl) (fun X G E => ?_)
  refine z_aload_0 (pc := 0) E dX8_at_0 ?_
  refine z_iconst (v := 0) (pc := 1) E dX8_at_1 (by decide) ?_
  refine z_put (pc := 2) E dX8_at_2 fiX8_28 fpX8_0 ok11 rfl rfl (Nat.le_of_ble_eq_true rfl) ?_
  refine z_iload_1 (pc := 5) E dX8_at_5 ?_
  refine z_iconst (v := 0) (pc := 6) E dX8_at_6 (by decide) ?_
  refine z_iconst (v := 2) (pc := 7) E dX8_at_7 (by decide) ?_
  refine z_isp (pc := 8) E (m_X8_isIn _ _ _ _) rfl rfl kX8_isIn mlX8_35 dX8_at_8 rfl (Nat.le_of_ble_eq_true rfl) rfl (by decide) (by decide) ⟨by omega, by omega⟩ ?_
  refine z_if_eq (pc := 11) (tgt := 55) E dX8_at_11 (by decide) (fun h11 => ?_) (fun h11 => ?_)
  · have g11 : ¬ (0 ≤ sh ∧ sh ≤ 2) := b2_e0 h11
    refine z_aload_0 (pc := 55) E dX8_at_55 ?_
    refine z_iconst (v := 1) (pc := 56) E dX8_at_56 (by decide) ?_
    refine z_ivf (pc := 57) E (m_X8_no _ _) rfl rfl kX8_no mlX8_42 dX8_at_57 ok11 rfl rfl rfl (Nat.le_of_ble_eq_true rfl) rfl (by decide) (by decide) ⟨by omega, by omega⟩ ?_
    exact z_iret (pc := 60) E dX8_at_60 (Or.inr (mfail (e := 1) (by unfold matK; rw [if_neg (fun z => g11 z.1)]) (by decide) rfl))
  · have g11 : 0 ≤ sh ∧ sh ≤ 2 := b2_n0 h11
    obtain ⟨i, hi, hie⟩ := ix_c (n := 3) g11 (by decide) (by decide)
    subst hie
    have hf := frN_s hi
    have hf2 := frN_le hi
    refine z_iload_2 (pc := 14) E dX8_at_14 ?_
    refine z_iconst (v := 0) (pc := 15) E dX8_at_15 (by decide) ?_
    refine z_from8 (pc := 16) E dX8_at_16 flX8_93 ?_
    refine z_iload_1 (pc := 19) E dX8_at_19 ?_
    refine z_iconst (v := 1) (pc := 20) E dX8_at_20 (by decide) ?_
    refine z_iadd (pc := 21) E dX8_at_21 ?_
    refine z_tald (pc := 22) E dX8_at_22 (nI_1 i) (by omega) ?_
    refine z_from8 (pc := 23) E dX8_at_23 flX8_93 ?_
    refine z_iload_1 (pc := 26) E dX8_at_26 ?_
    refine z_tald (pc := 27) E dX8_at_27 rfl (by omega) ?_
    refine z_isub (pc := 28) E dX8_at_28 ?_
    refine z_iconst (v := 1) (pc := 29) E dX8_at_29 (by decide) ?_
    refine z_isub (pc := 30) E dX8_at_30 ?_
    refine z_isp (pc := 31) E (m_X8_isIn _ _ _ _) rfl rfl kX8_isIn mlX8_35 dX8_at_31 rfl (Nat.le_of_ble_eq_true rfl) rfl (by decide) (by decide) ⟨by omega, by omega⟩ ?_
    refine z_if_eq (pc := 34) (tgt := 55) E dX8_at_34 (by decide) (fun h34 => ?_) (fun h34 => ?_)
    · have g34 : ¬ (0 ≤ pl ∧ pl ≤ fromV (i + 1) - fromV i - 1) := b2_e0 h34
      refine z_aload_0 (pc := 55) E dX8_at_55 ?_
      refine z_iconst (v := 1) (pc := 56) E dX8_at_56 (by decide) ?_
      refine z_ivf (pc := 57) E (m_X8_no _ _) rfl rfl kX8_no mlX8_42 dX8_at_57 ok11 rfl rfl rfl (Nat.le_of_ble_eq_true rfl) rfl (by decide) (by decide) ⟨by omega, by omega⟩ ?_
      exact z_iret (pc := 60) E dX8_at_60 (Or.inr (mfail (e := 1) (by unfold matK; rw [nI_clamp (n31 (show i ≤ 1000 by omega)), if_neg (fun z => g34 z.2)]) (by decide) rfl))
    · have g34 : 0 ≤ pl ∧ pl ≤ fromV (i + 1) - fromV i - 1 := b2_n0 h34
      obtain ⟨p, hp, hpe⟩ := ix_at hi g34
      subst hpe
      refine z_aload_0 (pc := 37) E dX8_at_37 ?_
      refine z_get (pc := 38) E dX8_at_38 fiX8_21 ok11 rfl rfl ?_
      refine z_getN (pc := 41) E dX8_at_41 fiX8_125 (ok6 (by omega)) rfl rfl ?_
      refine z_from8 (pc := 44) E dX8_at_44 flX8_93 ?_
      refine z_iload_1 (pc := 47) E dX8_at_47 ?_
      refine z_tald (pc := 48) E dX8_at_48 rfl (by omega) ?_
      refine z_iload_2 (pc := 49) E dX8_at_49 ?_
      refine z_iadd (pc := 50) E dX8_at_50 ?_
      refine z_iald (pc := 51) E dX8_at_51 (ok10 (by omega)) rfl (by rw [fromN, nI_add]) (by omega) (by omega) ?_
      refine z_goto (pc := 52) (tgt := 60) E dX8_at_52 (by decide) ?_
      exact z_iret (pc := 60) E dX8_at_60 (Or.inl ⟨by unfold matK; rw [nI_clamp (n31 (show i ≤ 1000 by omega)), if_pos (⟨g11, g34⟩ : _ ∧ _)], i, p, hi, hp, rfl, rfl, rfl, rfl⟩)

