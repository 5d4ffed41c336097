/-! the face: which calls are refused, and with what number -/
theorem hc_rw {x a b : Int32} (h : a = b) (g : 0 ≤ x ∧ x ≤ a - 1) : 0 ≤ x ∧ x ≤ b - 1 := h ▸ g
theorem ix_c {x m : Int32} {n : Nat} (h : 0 ≤ x ∧ x ≤ m) (hm : nI n - 1 = m) (hn : n ≤ 1000) : ∃ j : Nat, j < n ∧ x = nI j := by
  subst hm
  exact ix_of h hn
theorem ct_of {a : Int32} {t n : Nat} (ha : a = nI t) (h : ¬ nI n ≤ a) (ht : t ≤ 1000) : t < n := by
  rcases Nat.lt_or_ge t n with q | q
  · exact q
  · exact absurd (by rw [ha]; exact nI_le q (n31 ht)) h

def comeK (M : Mem) (x : Int32) : Nat := if 0 ≤ x ∧ x ≤ 2000 then if ¬ (10 ≤ M 0 0 0 3) then 0 else 2 else 1

set_option maxRecDepth 100000 in
set_option maxHeartbeats 4000000 in
theorem m_X6_come (M : Mem) (cN : Nat) (x : Int32) (hc : M 0 0 0 3 = nI cN) (h10 : cN ≤ 10) : XI yX6_come cX6_come 2 (some .int) 7 2 12 (fun G => [.ref (ad G 14 0 0), .int x]) M (fun r M' => comeK M x = 0 ∧ cN < 10 ∧ r = nI cN ∧ M' = mset (mset (mset M 1 0 cN 0 x) 1 0 cN 1 5) 0 0 0 3 (nI (cN + 1))) (fun Ex M' => M' = M ∧ ((Ex = IAE ∧ comeK M x = 1) ∨ (Ex = ISE ∧ comeK M x = 2))) := by
  refine XI.mk (own := RX6) (by decide +kernel) rfl (fun _ => rfl) (fun _ => Nat.le_of_ble_eq_true rfl) (lv0 := fun G => [some (.ref (ad G 14 0 0)), some (.int x)]) (fun _ => rfl) (fun X G E hX => ?_)
  refine z_iload_1 (pc := 0) E dX6_come_0 ?_
  refine z_iconst (v := 0) (pc := 1) E dX6_come_1 (by decide) ?_
  refine z_sipush (v := 2000) (pc := 2) E dX6_come_2 (by decide) ?_
  refine z_isp (pc := 5) E (m_X6_isWithin _ _ _ _) rfl rfl kX6_isWithin mlX6_23 dX6_come_5 rfl (Nat.le_of_ble_eq_true rfl) rfl (by decide) (by decide) ⟨by omega, by omega⟩ ?_
  refine z_chkI (pc := 8) E hX (m_X6_checkArgument _ _) rfl rfl kX6_checkArgument mlX6_27 dX6_come_8 rfl (by decide) rfl (Nat.le_of_ble_eq_true rfl) (by decide) ⟨by omega, by omega⟩ (fun Ex M9 hx => ⟨hx.2.2, Or.inl ⟨hx.1, by unfold comeK; rw [if_neg (b2_e0 hx.2.1)]⟩⟩) (fun h8 => ?_)
  refine z_aload_0 (pc := 11) E dX6_come_11 ?_
  refine z_get (pc := 12) E dX6_come_12 fiX6_10 ok14 rfl rfl ?_
  refine z_get (pc := 15) E dX6_come_15 fiX6_31 (ok0 (by omega)) rfl rfl ?_
  refine z_bipush (v := 10) (pc := 18) E dX6_come_18 (by decide) ?_
  refine z_icmp_ge (pc := 20) (tgt := 27) E dX6_come_20 (by decide) (fun h20 => ?_) (fun h20 => ?_)
  · refine z_iconst (v := 0) (pc := 27) E dX6_come_27 (by decide) ?_
    exact z_chkI (pc := 28) E hX (m_X6_checkState _ _) rfl rfl kX6_checkState mlX6_35 dX6_come_28 rfl (by decide) rfl (Nat.le_of_ble_eq_true rfl) (by decide) ⟨by omega, by omega⟩ (fun Ex M9 hx => ⟨hx.2.2, Or.inr (⟨hx.1, by unfold comeK; rw [if_pos (b2_n0 h8), if_neg (not_not_intro h20)]⟩)⟩) (fun hq => absurd rfl hq)
  · refine z_iconst (v := 1) (pc := 23) E dX6_come_23 (by decide) ?_
    refine z_goto (pc := 24) (tgt := 28) E dX6_come_24 (by decide) ?_
    refine z_chkI (pc := 28) E hX (m_X6_checkState _ _) rfl rfl kX6_checkState mlX6_35 dX6_come_28 rfl (by decide) rfl (Nat.le_of_ble_eq_true rfl) (by decide) ⟨by omega, by omega⟩ (fun Ex M9 hx => absurd hx.2.1 (by decide)) (fun _ => ?_)
    have h9 : cN < 10 := ct_of (n := 10) hc h20 (by omega)
    refine z_aload_0 (pc := 31) E dX6_come_31 ?_
    refine z_get (pc := 32) E dX6_come_32 fiX6_10 ok14 rfl rfl ?_
    refine z_iload_1 (pc := 35) E dX6_come_35 ?_
    refine z_ivf (pc := 36) E (m_X4_addCustomer _ _ _ _ (by decide) hc h9) rfl rfl kX4_addCustomer mlX6_38 dX6_come_36 (ok0 (by omega)) rfl rfl rfl (Nat.le_of_ble_eq_true rfl) rfl (by decide) (by decide) ⟨by omega, by omega⟩ ?_
    exact z_xiret (pc := 39) E dX6_come_39 (by omega) (by omega) ⟨by unfold comeK; rw [if_pos (b2_n0 h8), if_pos h20], h9, rfl, rfl⟩

def earnK (M : Mem) (c x : Int32) : Nat := if 0 ≤ c ∧ c ≤ M 0 0 0 3 - 1 then if 1 ≤ x ∧ x ≤ 1000 then 0 else 2 else 1

set_option maxRecDepth 100000 in
set_option maxHeartbeats 4000000 in
theorem m_X6_earn (M : Mem) (cN : Nat) (c x : Int32) (hc : M 0 0 0 3 = nI cN) (h10 : cN ≤ 10) : XI yX6_earn cX6_earn 4 (some .int) 7 2 12 (fun G => [.ref (ad G 14 0 0), .int c, .int x]) M (fun r M' => earnK M c x = 0 ∧ ∃ i, i < cN ∧ c = nI i ∧ r = M 1 0 i 0 + x ∧ M' = mset M 1 0 i 0 (M 1 0 i 0 + x)) (fun Ex M' => M' = M ∧ ((Ex = IOB ∧ earnK M c x = 1) ∨ (Ex = IAE ∧ earnK M c x = 2))) := by
  refine XI.mk (own := RX6) (by decide +kernel) rfl (fun _ => rfl) (fun _ => Nat.le_of_ble_eq_true rfl) (lv0 := fun G => [some (.ref (ad G 14 0 0)), some (.int c), some (.int x), none]) (fun _ => rfl) (fun X G E hX => ?_)
  refine z_aload_0 (pc := 0) E dX6_earn_0 ?_
  refine z_get (pc := 1) E dX6_earn_1 fiX6_10 ok14 rfl rfl ?_
  refine z_iload_1 (pc := 4) E dX6_earn_4 ?_
  refine z_ivp (pc := 5) E (m_X4_hasCustomer _ _ _ (by decide)) rfl rfl kX4_hasCustomer mlX6_42 dX6_earn_5 (ok0 (by omega)) rfl rfl rfl (Nat.le_of_ble_eq_true rfl) rfl (by decide) (by decide) ⟨by omega, by omega⟩ ?_
  refine z_chkI (pc := 8) E hX (m_X6_checkIndex _ _) rfl rfl kX6_checkIndex mlX6_46 dX6_earn_8 rfl (by decide) rfl (Nat.le_of_ble_eq_true rfl) (by decide) ⟨by omega, by omega⟩ (fun Ex M9 hx => ⟨hx.2.2, Or.inl ⟨hx.1, by unfold earnK; rw [if_neg (b2_e0 hx.2.1)]⟩⟩) (fun h8 => ?_)
  refine z_iload_2 (pc := 11) E dX6_earn_11 ?_
  refine z_iconst (v := 1) (pc := 12) E dX6_earn_12 (by decide) ?_
  refine z_sipush (v := 1000) (pc := 13) E dX6_earn_13 (by decide) ?_
  refine z_isp (pc := 16) E (m_X6_isWithin _ _ _ _) rfl rfl kX6_isWithin mlX6_23 dX6_earn_16 rfl (Nat.le_of_ble_eq_true rfl) rfl (by decide) (by decide) ⟨by omega, by omega⟩ ?_
  refine z_chkI (pc := 19) E hX (m_X6_checkArgument _ _) rfl rfl kX6_checkArgument mlX6_27 dX6_earn_19 rfl (by decide) rfl (Nat.le_of_ble_eq_true rfl) (by decide) ⟨by omega, by omega⟩ (fun Ex M9 hx => ⟨hx.2.2, Or.inr (⟨hx.1, by unfold earnK; rw [if_pos (b2_n0 h8), if_neg (b2_e0 hx.2.1)]⟩)⟩) (fun h19 => ?_)
  obtain ⟨i, hi, rfl⟩ := ix_of (hc_rw hc (b2_n0 h8)) (by omega)
  refine z_aload_0 (pc := 22) E dX6_earn_22 ?_
  refine z_get (pc := 23) E dX6_earn_23 fiX6_10 ok14 rfl rfl ?_
  refine z_get (pc := 26) E dX6_earn_26 fiX6_49 (ok0 (by omega)) rfl rfl ?_
  refine z_iload_1 (pc := 29) E dX6_earn_29 ?_
  refine z_aald (t0 := 2) (pc := 30) E dX6_earn_30 (ok17 (by omega)) rfl rfl rfl (by omega) (by omega) rfl ?_
  refine z_astore_3 (pc := 31) E dX6_earn_31 rfl ?_
  refine z_aload_3 (pc := 32) E dX6_earn_32 ?_
  refine z_dup (pc := 33) E dX6_earn_33 rfl ?_
  refine z_get (pc := 34) E dX6_earn_34 fiX6_53 (ok1 (by omega) (by omega)) rfl rfl ?_
  refine z_iload_2 (pc := 37) E dX6_earn_37 ?_
  refine z_iadd (pc := 38) E dX6_earn_38 ?_
  refine z_put (pc := 39) E dX6_earn_39 fiX6_53 fpX1_0 (ok1 (by omega) (by omega)) rfl rfl (Nat.le_of_ble_eq_true rfl) ?_
  refine z_aload_3 (pc := 42) E dX6_earn_42 ?_
  refine z_get (pc := 43) E dX6_earn_43 fiX6_53 (ok1 (by omega) (by omega)) rfl rfl ?_
  exact z_xiret (pc := 46) E dX6_earn_46 (by omega) (by omega) ⟨by unfold earnK; rw [if_pos (b2_n0 h8), if_pos (b2_n0 h19)], i, hi, rfl, by simp [mset], rfl⟩

def setBuyerK (d k p : Int32) : Nat := if 0 ≤ d ∧ d ≤ 6 then if (-1 ≤ k ∧ k ≤ 4) ∧ (0 ≤ p ∧ p ≤ 500) then 0 else 2 else 1

set_option maxRecDepth 100000 in
set_option maxHeartbeats 4000000 in
theorem m_X6_setBuyer (M : Mem) (d k p : Int32) : XI yX6_setBuyer cX6_setBuyer 6 (some .int) 7 2 12 (fun G => [.ref (ad G 14 0 0), .int d, .int k, .int p]) M (fun r M' => setBuyerK d k p = 0 ∧ ∃ j, j < 7 ∧ d = nI j ∧ r = M 3 0 j 0 ∧ M' = mset (mset M 3 0 j 0 k) 3 0 j 1 (if k = -1 then 0 else p)) (fun Ex M' => M' = M ∧ ((Ex = IOB ∧ setBuyerK d k p = 1) ∨ (Ex = IAE ∧ setBuyerK d k p = 2))) := by
  refine XI.mk (own := RX6) (by decide +kernel) rfl (fun _ => rfl) (fun _ => Nat.le_of_ble_eq_true rfl) (lv0 := fun G => [some (.ref (ad G 14 0 0)), some (.int d), some (.int k), some (.int p), none, none]) (fun _ => rfl) (fun X G E hX => ?_)
  refine z_iload_1 (pc := 0) E dX6_setBuyer_0 ?_
  refine z_iconst (v := 0) (pc := 1) E dX6_setBuyer_1 (by decide) ?_
  refine z_bipush (v := 6) (pc := 2) E dX6_setBuyer_2 (by decide) ?_
  refine z_isp (pc := 4) E (m_X6_isWithin _ _ _ _) rfl rfl kX6_isWithin mlX6_23 dX6_setBuyer_4 rfl (Nat.le_of_ble_eq_true rfl) rfl (by decide) (by decide) ⟨by omega, by omega⟩ ?_
  refine z_chkI (pc := 7) E hX (m_X6_checkIndex _ _) rfl rfl kX6_checkIndex mlX6_46 dX6_setBuyer_7 rfl (by decide) rfl (Nat.le_of_ble_eq_true rfl) (by decide) ⟨by omega, by omega⟩ (fun Ex M9 hx => ⟨hx.2.2, Or.inl ⟨hx.1, by unfold setBuyerK; rw [if_neg (b2_e0 hx.2.1)]⟩⟩) (fun h7 => ?_)
  refine z_iload_2 (pc := 10) E dX6_setBuyer_10 ?_
  refine z_iconst (v := -1) (pc := 11) E dX6_setBuyer_11 (by decide) ?_
  refine z_iconst (v := 4) (pc := 12) E dX6_setBuyer_12 (by decide) ?_
  refine z_isp (pc := 13) E (m_X6_isWithin _ _ _ _) rfl rfl kX6_isWithin mlX6_23 dX6_setBuyer_13 rfl (Nat.le_of_ble_eq_true rfl) rfl (by decide) (by decide) ⟨by omega, by omega⟩ ?_
  refine z_if_eq (pc := 16) (tgt := 34) E dX6_setBuyer_16 (by decide) (fun h16 => ?_) (fun h16 => ?_)
  · refine z_iconst (v := 0) (pc := 34) E dX6_setBuyer_34 (by decide) ?_
    exact z_chkI (pc := 35) E hX (m_X6_checkArgument _ _) rfl rfl kX6_checkArgument mlX6_27 dX6_setBuyer_35 rfl (by decide) rfl (Nat.le_of_ble_eq_true rfl) (by decide) ⟨by omega, by omega⟩ (fun Ex M9 hx => ⟨hx.2.2, Or.inr (⟨hx.1, by unfold setBuyerK; rw [if_pos (b2_n0 h7), if_neg (fun z => (b2_e0 h16) z.1)]⟩)⟩) (fun hq => absurd rfl hq)
  · refine z_iload_3 (pc := 19) E dX6_setBuyer_19 ?_
    refine z_iconst (v := 0) (pc := 20) E dX6_setBuyer_20 (by decide) ?_
    refine z_sipush (v := 500) (pc := 21) E dX6_setBuyer_21 (by decide) ?_
    refine z_isp (pc := 24) E (m_X6_isWithin _ _ _ _) rfl rfl kX6_isWithin mlX6_23 dX6_setBuyer_24 rfl (Nat.le_of_ble_eq_true rfl) rfl (by decide) (by decide) ⟨by omega, by omega⟩ ?_
    refine z_if_eq (pc := 27) (tgt := 34) E dX6_setBuyer_27 (by decide) (fun h27 => ?_) (fun h27 => ?_)
    · refine z_iconst (v := 0) (pc := 34) E dX6_setBuyer_34 (by decide) ?_
      exact z_chkI (pc := 35) E hX (m_X6_checkArgument _ _) rfl rfl kX6_checkArgument mlX6_27 dX6_setBuyer_35 rfl (by decide) rfl (Nat.le_of_ble_eq_true rfl) (by decide) ⟨by omega, by omega⟩ (fun Ex M9 hx => ⟨hx.2.2, Or.inr (⟨hx.1, by unfold setBuyerK; rw [if_pos (b2_n0 h7), if_neg (fun z => (b2_e0 h27) z.2)]⟩)⟩) (fun hq => absurd rfl hq)
    · refine z_iconst (v := 1) (pc := 30) E dX6_setBuyer_30 (by decide) ?_
      refine z_goto (pc := 31) (tgt := 35) E dX6_setBuyer_31 (by decide) ?_
      refine z_chkI (pc := 35) E hX (m_X6_checkArgument _ _) rfl rfl kX6_checkArgument mlX6_27 dX6_setBuyer_35 rfl (by decide) rfl (Nat.le_of_ble_eq_true rfl) (by decide) ⟨by omega, by omega⟩ (fun Ex M9 hx => absurd hx.2.1 (by decide)) (fun _ => ?_)
      obtain ⟨j, hj, rfl⟩ := ix_c (n := 7) (b2_n0 h7) (by decide) (by decide)
      refine z_aload_0 (pc := 38) E dX6_setBuyer_38 ?_
      refine z_get (pc := 39) E dX6_setBuyer_39 fiX6_10 ok14 rfl rfl ?_
      refine z_get (pc := 42) E dX6_setBuyer_42 fiX6_58 (ok0 (by omega)) rfl rfl ?_
      refine z_iload_1 (pc := 45) E dX6_setBuyer_45 ?_
      refine z_aald (t0 := 1) (pc := 46) E dX6_setBuyer_46 (ok19 (by omega)) rfl rfl rfl (by omega) (by omega) rfl ?_
      refine z_astore_4 (pc := 47) E dX6_setBuyer_47 rfl ?_
      refine z_aload_4 (pc := 49) E dX6_setBuyer_49 ?_
      refine z_get (pc := 51) E dX6_setBuyer_51 fiX6_62 (ok3 (by omega) (by omega)) rfl rfl ?_
      refine z_istore_5 (pc := 54) E dX6_setBuyer_54 rfl ?_
      refine z_aload_4 (pc := 56) E dX6_setBuyer_56 ?_
      refine z_iload_2 (pc := 58) E dX6_setBuyer_58 ?_
      refine z_iload_3 (pc := 59) E dX6_setBuyer_59 ?_
      refine z_vvf (pc := 60) E (m_X0_want _ _ _ _ _ (by decide) hj) rfl rfl kX0_want mlX6_67 dX6_setBuyer_60 (ok3 (by omega) (by omega)) rfl rfl rfl (Nat.le_of_ble_eq_true rfl) rfl (by decide) (by decide) ⟨by omega, by omega⟩ ?_
      refine z_iload_5 (pc := 63) E dX6_setBuyer_63 ?_
      exact z_xiret (pc := 65) E dX6_setBuyer_65 (by omega) (by omega) ⟨by unfold setBuyerK; rw [if_pos (b2_n0 h7), if_pos (⟨(b2_n0 h16), (b2_n0 h27)⟩ : _ ∧ _)], j, hj, rfl, rfl, rfl⟩

def customerK (M : Mem) (c w : Int32) : Nat := if (0 ≤ c ∧ c ≤ M 0 0 0 3 - 1) ∧ (0 ≤ w ∧ w ≤ 4) then 0 else 1

set_option maxRecDepth 100000 in
set_option maxHeartbeats 4000000 in
theorem m_X6_customer (M : Mem) (n cN : Nat) (c w : Int32) (hn : M 0 0 0 4 = nI n) (h40 : n ≤ 40) (hc : M 0 0 0 3 = nI cN) (h10 : cN ≤ 10) : XI yX6_customer cX6_customer 3 (some .int) 7 1 6 (fun G => [.ref (ad G 14 0 0), .int c, .int w]) M (fun r M' => customerK M c w = 0 ∧ ∃ i j, i < cN ∧ j < 5 ∧ c = nI i ∧ w = nI j ∧ r = custV M 0 n i j ∧ M' = M) (fun Ex M' => M' = M ∧ ((Ex = IOB ∧ customerK M c w = 1))) := by
  refine XI.mk (own := RX6) (by decide +kernel) rfl (fun _ => rfl) (fun _ => Nat.le_of_ble_eq_true rfl) (lv0 := fun G => [some (.ref (ad G 14 0 0)), some (.int c), some (.int w)]) (fun _ => rfl) (fun X G E hX => ?_)
  refine z_aload_0 (pc := 0) E dX6_customer_0 ?_
  refine z_get (pc := 1) E dX6_customer_1 fiX6_10 ok14 rfl rfl ?_
  refine z_iload_1 (pc := 4) E dX6_customer_4 ?_
  refine z_ivp (pc := 5) E (m_X4_hasCustomer _ _ _ (by decide)) rfl rfl kX4_hasCustomer mlX6_42 dX6_customer_5 (ok0 (by omega)) rfl rfl rfl (Nat.le_of_ble_eq_true rfl) rfl (by decide) (by decide) ⟨by omega, by omega⟩ ?_
  refine z_if_eq (pc := 8) (tgt := 24) E dX6_customer_8 (by decide) (fun h8 => ?_) (fun h8 => ?_)
  · refine z_iconst (v := 0) (pc := 24) E dX6_customer_24 (by decide) ?_
    exact z_chkI (pc := 25) E hX (m_X6_checkIndex _ _) rfl rfl kX6_checkIndex mlX6_46 dX6_customer_25 rfl (by decide) rfl (Nat.le_of_ble_eq_true rfl) (by decide) ⟨by omega, by omega⟩ (fun Ex M9 hx => ⟨hx.2.2, ⟨hx.1, by unfold customerK; rw [if_neg (fun z => (b2_e0 h8) z.1)]⟩⟩) (fun hq => absurd rfl hq)
  · refine z_iload_2 (pc := 11) E dX6_customer_11 ?_
    refine z_iconst (v := 0) (pc := 12) E dX6_customer_12 (by decide) ?_
    refine z_iconst (v := 4) (pc := 13) E dX6_customer_13 (by decide) ?_
    refine z_isp (pc := 14) E (m_X6_isWithin _ _ _ _) rfl rfl kX6_isWithin mlX6_23 dX6_customer_14 rfl (Nat.le_of_ble_eq_true rfl) rfl (by decide) (by decide) ⟨by omega, by omega⟩ ?_
    refine z_if_eq (pc := 17) (tgt := 24) E dX6_customer_17 (by decide) (fun h17 => ?_) (fun h17 => ?_)
    · refine z_iconst (v := 0) (pc := 24) E dX6_customer_24 (by decide) ?_
      exact z_chkI (pc := 25) E hX (m_X6_checkIndex _ _) rfl rfl kX6_checkIndex mlX6_46 dX6_customer_25 rfl (by decide) rfl (Nat.le_of_ble_eq_true rfl) (by decide) ⟨by omega, by omega⟩ (fun Ex M9 hx => ⟨hx.2.2, ⟨hx.1, by unfold customerK; rw [if_neg (fun z => (b2_e0 h17) z.2)]⟩⟩) (fun hq => absurd rfl hq)
    · refine z_iconst (v := 1) (pc := 20) E dX6_customer_20 (by decide) ?_
      refine z_goto (pc := 21) (tgt := 25) E dX6_customer_21 (by decide) ?_
      refine z_chkI (pc := 25) E hX (m_X6_checkIndex _ _) rfl rfl kX6_checkIndex mlX6_46 dX6_customer_25 rfl (by decide) rfl (Nat.le_of_ble_eq_true rfl) (by decide) ⟨by omega, by omega⟩ (fun Ex M9 hx => absurd hx.2.1 (by decide)) (fun _ => ?_)
      obtain ⟨i, hi, rfl⟩ := ix_of (hc_rw hc (b2_n0 h8)) (by omega)
      obtain ⟨j, hj, rfl⟩ := ix_c (n := 5) (b2_n0 h17) (by decide) (by decide)
      refine z_aload_0 (pc := 28) E dX6_customer_28 ?_
      refine z_get (pc := 29) E dX6_customer_29 fiX6_10 ok14 rfl rfl ?_
      refine z_iload_1 (pc := 32) E dX6_customer_32 ?_
      refine z_iload_2 (pc := 33) E dX6_customer_33 ?_
      refine z_ivp (pc := 34) E (m_X4_tellCustomer _ _ n _ _ (by decide) hn h40 (by omega) hj) rfl rfl kX4_tellCustomer mlX6_71 dX6_customer_34 (ok0 (by omega)) rfl rfl rfl (Nat.le_of_ble_eq_true rfl) rfl (by decide) (by decide) ⟨by omega, by omega⟩ ?_
      exact z_xiret (pc := 37) E dX6_customer_37 (by omega) (by omega) ⟨by unfold customerK; rw [if_pos (⟨(b2_n0 h8), (b2_n0 h17)⟩ : _ ∧ _)], i, j, hi, hj, rfl, rfl, rfl, rfl⟩

def ticketK (M : Mem) (t w : Int32) : Nat := if (0 ≤ t ∧ t ≤ M 0 0 0 4 - 1) ∧ (0 ≤ w ∧ w ≤ 10) then 0 else 1

set_option maxRecDepth 100000 in
set_option maxHeartbeats 4000000 in
theorem m_X6_ticket (M : Mem) (n : Nat) (t w : Int32) (hn : M 0 0 0 4 = nI n) (h40 : n ≤ 40) : XI yX6_ticket cX6_ticket 3 (some .int) 7 1 6 (fun G => [.ref (ad G 14 0 0), .int t, .int w]) M (fun r M' => ticketK M t w = 0 ∧ ∃ i j, i < n ∧ j < 11 ∧ t = nI i ∧ w = nI j ∧ r = tickV M 0 i j ∧ M' = M) (fun Ex M' => M' = M ∧ ((Ex = IOB ∧ ticketK M t w = 1))) := by
  refine XI.mk (own := RX6) (by decide +kernel) rfl (fun _ => rfl) (fun _ => Nat.le_of_ble_eq_true rfl) (lv0 := fun G => [some (.ref (ad G 14 0 0)), some (.int t), some (.int w)]) (fun _ => rfl) (fun X G E hX => ?_)
  refine z_aload_0 (pc := 0) E dX6_ticket_0 ?_
  refine z_get (pc := 1) E dX6_ticket_1 fiX6_10 ok14 rfl rfl ?_
  refine z_iload_1 (pc := 4) E dX6_ticket_4 ?_
  refine z_ivp (pc := 5) E (m_X4_hasTicket _ _ _ (by decide)) rfl rfl kX4_hasTicket mlX6_95 dX6_ticket_5 (ok0 (by omega)) rfl rfl rfl (Nat.le_of_ble_eq_true rfl) rfl (by decide) (by decide) ⟨by omega, by omega⟩ ?_
  refine z_if_eq (pc := 8) (tgt := 25) E dX6_ticket_8 (by decide) (fun h8 => ?_) (fun h8 => ?_)
  · refine z_iconst (v := 0) (pc := 25) E dX6_ticket_25 (by decide) ?_
    exact z_chkI (pc := 26) E hX (m_X6_checkIndex _ _) rfl rfl kX6_checkIndex mlX6_46 dX6_ticket_26 rfl (by decide) rfl (Nat.le_of_ble_eq_true rfl) (by decide) ⟨by omega, by omega⟩ (fun Ex M9 hx => ⟨hx.2.2, ⟨hx.1, by unfold ticketK; rw [if_neg (fun z => (b2_e0 h8) z.1)]⟩⟩) (fun hq => absurd rfl hq)
  · refine z_iload_2 (pc := 11) E dX6_ticket_11 ?_
    refine z_iconst (v := 0) (pc := 12) E dX6_ticket_12 (by decide) ?_
    refine z_bipush (v := 10) (pc := 13) E dX6_ticket_13 (by decide) ?_
    refine z_isp (pc := 15) E (m_X6_isWithin _ _ _ _) rfl rfl kX6_isWithin mlX6_23 dX6_ticket_15 rfl (Nat.le_of_ble_eq_true rfl) rfl (by decide) (by decide) ⟨by omega, by omega⟩ ?_
    refine z_if_eq (pc := 18) (tgt := 25) E dX6_ticket_18 (by decide) (fun h18 => ?_) (fun h18 => ?_)
    · refine z_iconst (v := 0) (pc := 25) E dX6_ticket_25 (by decide) ?_
      exact z_chkI (pc := 26) E hX (m_X6_checkIndex _ _) rfl rfl kX6_checkIndex mlX6_46 dX6_ticket_26 rfl (by decide) rfl (Nat.le_of_ble_eq_true rfl) (by decide) ⟨by omega, by omega⟩ (fun Ex M9 hx => ⟨hx.2.2, ⟨hx.1, by unfold ticketK; rw [if_neg (fun z => (b2_e0 h18) z.2)]⟩⟩) (fun hq => absurd rfl hq)
    · refine z_iconst (v := 1) (pc := 21) E dX6_ticket_21 (by decide) ?_
      refine z_goto (pc := 22) (tgt := 26) E dX6_ticket_22 (by decide) ?_
      refine z_chkI (pc := 26) E hX (m_X6_checkIndex _ _) rfl rfl kX6_checkIndex mlX6_46 dX6_ticket_26 rfl (by decide) rfl (Nat.le_of_ble_eq_true rfl) (by decide) ⟨by omega, by omega⟩ (fun Ex M9 hx => absurd hx.2.1 (by decide)) (fun _ => ?_)
      obtain ⟨i, hi, rfl⟩ := ix_of (hc_rw hn (b2_n0 h8)) (by omega)
      obtain ⟨j, hj, rfl⟩ := ix_c (n := 11) (b2_n0 h18) (by decide) (by decide)
      refine z_aload_0 (pc := 29) E dX6_ticket_29 ?_
      refine z_get (pc := 30) E dX6_ticket_30 fiX6_10 ok14 rfl rfl ?_
      refine z_iload_1 (pc := 33) E dX6_ticket_33 ?_
      refine z_iload_2 (pc := 34) E dX6_ticket_34 ?_
      refine z_ivp (pc := 35) E (m_X4_tellTicket _ _ _ _ (by decide) (by omega) hj) rfl rfl kX4_tellTicket mlX6_98 dX6_ticket_35 (ok0 (by omega)) rfl rfl rfl (Nat.le_of_ble_eq_true rfl) rfl (by decide) (by decide) ⟨by omega, by omega⟩ ?_
      exact z_xiret (pc := 38) E dX6_ticket_38 (by omega) (by omega) ⟨by unfold ticketK; rw [if_pos (⟨(b2_n0 h8), (b2_n0 h18)⟩ : _ ∧ _)], i, j, hi, hj, rfl, rfl, rfl, rfl⟩

def owesK (M : Mem) (t : Int32) : Nat := if 0 ≤ t ∧ t ≤ M 0 0 0 4 - 1 then 0 else 1

set_option maxRecDepth 100000 in
set_option maxHeartbeats 4000000 in
theorem m_X6_owes (M : Mem) (n : Nat) (t : Int32) (hn : M 0 0 0 4 = nI n) (h40 : n ≤ 40) : XI yX6_owes cX6_owes 2 (some .int) 7 1 6 (fun G => [.ref (ad G 14 0 0), .int t]) M (fun r M' => owesK M t = 0 ∧ ∃ i, i < n ∧ t = nI i ∧ r = debtV M 0 i (M 0 0 0 0) ∧ M' = M) (fun Ex M' => M' = M ∧ ((Ex = IOB ∧ owesK M t = 1))) := by
  refine XI.mk (own := RX6) (by decide +kernel) rfl (fun _ => rfl) (fun _ => Nat.le_of_ble_eq_true rfl) (lv0 := fun G => [some (.ref (ad G 14 0 0)), some (.int t)]) (fun _ => rfl) (fun X G E hX => ?_)
  refine z_aload_0 (pc := 0) E dX6_owes_0 ?_
  refine z_get (pc := 1) E dX6_owes_1 fiX6_10 ok14 rfl rfl ?_
  refine z_iload_1 (pc := 4) E dX6_owes_4 ?_
  refine z_ivp (pc := 5) E (m_X4_hasTicket _ _ _ (by decide)) rfl rfl kX4_hasTicket mlX6_95 dX6_owes_5 (ok0 (by omega)) rfl rfl rfl (Nat.le_of_ble_eq_true rfl) rfl (by decide) (by decide) ⟨by omega, by omega⟩ ?_
  refine z_chkI (pc := 8) E hX (m_X6_checkIndex _ _) rfl rfl kX6_checkIndex mlX6_46 dX6_owes_8 rfl (by decide) rfl (Nat.le_of_ble_eq_true rfl) (by decide) ⟨by omega, by omega⟩ (fun Ex M9 hx => ⟨hx.2.2, ⟨hx.1, by unfold owesK; rw [if_neg (b2_e0 hx.2.1)]⟩⟩) (fun h8 => ?_)
  obtain ⟨i, hi, rfl⟩ := ix_of (hc_rw hn (b2_n0 h8)) (by omega)
  refine z_aload_0 (pc := 11) E dX6_owes_11 ?_
  refine z_get (pc := 12) E dX6_owes_12 fiX6_10 ok14 rfl rfl ?_
  refine z_get (pc := 15) E dX6_owes_15 fiX6_101 (ok0 (by omega)) rfl rfl ?_
  refine z_iload_1 (pc := 18) E dX6_owes_18 ?_
  refine z_aald (t0 := 4) (pc := 19) E dX6_owes_19 (ok18 (by omega)) rfl rfl rfl (by omega) (by omega) rfl ?_
  refine z_aload_0 (pc := 20) E dX6_owes_20 ?_
  refine z_get (pc := 21) E dX6_owes_21 fiX6_10 ok14 rfl rfl ?_
  refine z_get (pc := 24) E dX6_owes_24 fiX6_105 (ok0 (by omega)) rfl rfl ?_
  refine z_ivp (pc := 27) E (m_X5_debt _ _ _ _ (by decide) (by omega)) rfl rfl kX5_debt mlX6_108 dX6_owes_27 (ok2 (by omega) (by omega)) rfl rfl rfl (Nat.le_of_ble_eq_true rfl) rfl (by decide) (by decide) ⟨by omega, by omega⟩ ?_
  exact z_xiret (pc := 30) E dX6_owes_30 (by omega) (by omega) ⟨by unfold owesK; rw [if_pos (b2_n0 h8)], i, hi, rfl, rfl, rfl⟩

def renewK (M : Mem) (t : Int32) : Nat := if 0 ≤ t ∧ t ≤ M 0 0 0 4 - 1 then if (M 2 0 t.toNatClampNeg 7 = 0) ∧ (¬ (3 ≤ M 2 0 t.toNatClampNeg 9)) then if intr (M 0 0 0 0) (M 2 0 t.toNatClampNeg 5) (M 2 0 t.toNatClampNeg 4) ≤ M 1 0 (M 2 0 t.toNatClampNeg 0).toNatClampNeg 0 then 0 else 2 else 2 else 1

set_option maxRecDepth 100000 in
set_option maxHeartbeats 4000000 in
theorem m_X6_renew (M : Mem) (n cN : Nat) (t : Int32) (hn : M 0 0 0 4 = nI n) (h40 : n ≤ 40) (hc : M 0 0 0 3 = nI cN) (h10 : cN ≤ 10) (how : ∀ t, t < n → ∃ i, i < cN ∧ M 2 0 t 0 = nI i) : XI yX6_renew cX6_renew 4 (some .int) 7 3 18 (fun G => [.ref (ad G 14 0 0), .int t]) M (fun r M' => renewK M t = 0 ∧ ∃ i a, i < n ∧ a < cN ∧ t = nI i ∧ M 2 0 i 0 = nI a ∧ r = (intr (M 0 0 0 0) (M 2 0 i 5) (M 2 0 i 4)) ∧ M' = mset (mset (mset (mset (mset (mset M 1 0 a 0 (M 1 0 a 0 - (intr (M 0 0 0 0) (M 2 0 i 5) (M 2 0 i 4)))) 0 0 0 1 (M 0 0 0 1 + (intr (M 0 0 0 0) (M 2 0 i 5) (M 2 0 i 4)))) 0 0 0 2 (M 0 0 0 2 + (intr (M 0 0 0 0) (M 2 0 i 5) (M 2 0 i 4)))) 2 0 i 5 (M 0 0 0 0)) 2 0 i 6 (M 0 0 0 0 + 60)) 2 0 i 9 (M 2 0 i 9 + 1)) (fun Ex M' => M' = M ∧ ((Ex = IOB ∧ renewK M t = 1) ∨ (Ex = ISE ∧ renewK M t = 2))) := by
  refine XI.mk (own := RX6) (by decide +kernel) rfl (fun _ => rfl) (fun _ => Nat.le_of_ble_eq_true rfl) (lv0 := fun G => [some (.ref (ad G 14 0 0)), some (.int t), none, none]) (fun _ => rfl) (fun X G E hX => ?_)
  refine z_aload_0 (pc := 0) E dX6_renew_0 ?_
  refine z_get (pc := 1) E dX6_renew_1 fiX6_10 ok14 rfl rfl ?_
  refine z_iload_1 (pc := 4) E dX6_renew_4 ?_
  refine z_ivp (pc := 5) E (m_X4_hasTicket _ _ _ (by decide)) rfl rfl kX4_hasTicket mlX6_95 dX6_renew_5 (ok0 (by omega)) rfl rfl rfl (Nat.le_of_ble_eq_true rfl) rfl (by decide) (by decide) ⟨by omega, by omega⟩ ?_
  refine z_chkI (pc := 8) E hX (m_X6_checkIndex _ _) rfl rfl kX6_checkIndex mlX6_46 dX6_renew_8 rfl (by decide) rfl (Nat.le_of_ble_eq_true rfl) (by decide) ⟨by omega, by omega⟩ (fun Ex M9 hx => ⟨hx.2.2, Or.inl ⟨hx.1, by unfold renewK; rw [if_neg (b2_e0 hx.2.1)]⟩⟩) (fun h8 => ?_)
  obtain ⟨i, hi, rfl⟩ := ix_of (hc_rw hn (b2_n0 h8)) (by omega)
  obtain ⟨a, ha, ho⟩ := how i hi
  refine z_aload_0 (pc := 11) E dX6_renew_11 ?_
  refine z_get (pc := 12) E dX6_renew_12 fiX6_10 ok14 rfl rfl ?_
  refine z_get (pc := 15) E dX6_renew_15 fiX6_101 (ok0 (by omega)) rfl rfl ?_
  refine z_iload_1 (pc := 18) E dX6_renew_18 ?_
  refine z_aald (t0 := 4) (pc := 19) E dX6_renew_19 (ok18 (by omega)) rfl rfl rfl (by omega) (by omega) rfl ?_
  refine z_astore_2 (pc := 20) E dX6_renew_20 rfl ?_
  refine z_aload_2 (pc := 21) E dX6_renew_21 ?_
  refine z_get (pc := 22) E dX6_renew_22 fiX6_113 (ok2 (by omega) (by omega)) rfl rfl ?_
  refine z_if_ne (pc := 25) (tgt := 40) E dX6_renew_25 (by decide) (fun h25 => ?_) (fun h25 => ?_)
  · refine z_iconst (v := 0) (pc := 40) E dX6_renew_40 (by decide) ?_
    exact z_chkI (pc := 41) E hX (m_X6_checkState _ _) rfl rfl kX6_checkState mlX6_35 dX6_renew_41 rfl (by decide) rfl (Nat.le_of_ble_eq_true rfl) (by decide) ⟨by omega, by omega⟩ (fun Ex M9 hx => ⟨hx.2.2, Or.inr (⟨hx.1, by unfold renewK; rw [nI_clamp (n31 (show i ≤ 1000 by omega)), ho, nI_clamp (n31 (show a ≤ 1000 by omega)), if_pos (b2_n0 h8), if_neg (fun z => h25 z.1)]⟩)⟩) (fun hq => absurd rfl hq)
  · refine z_aload_2 (pc := 28) E dX6_renew_28 ?_
    refine z_get (pc := 29) E dX6_renew_29 fiX6_116 (ok2 (by omega) (by omega)) rfl rfl ?_
    refine z_iconst (v := 3) (pc := 32) E dX6_renew_32 (by decide) ?_
    refine z_icmp_ge (pc := 33) (tgt := 40) E dX6_renew_33 (by decide) (fun h33 => ?_) (fun h33 => ?_)
    · refine z_iconst (v := 0) (pc := 40) E dX6_renew_40 (by decide) ?_
      exact z_chkI (pc := 41) E hX (m_X6_checkState _ _) rfl rfl kX6_checkState mlX6_35 dX6_renew_41 rfl (by decide) rfl (Nat.le_of_ble_eq_true rfl) (by decide) ⟨by omega, by omega⟩ (fun Ex M9 hx => ⟨hx.2.2, Or.inr (⟨hx.1, by unfold renewK; rw [nI_clamp (n31 (show i ≤ 1000 by omega)), ho, nI_clamp (n31 (show a ≤ 1000 by omega)), if_pos (b2_n0 h8), if_neg (fun z => (not_not_intro h33) z.2)]⟩)⟩) (fun hq => absurd rfl hq)
    · refine z_iconst (v := 1) (pc := 36) E dX6_renew_36 (by decide) ?_
      refine z_goto (pc := 37) (tgt := 41) E dX6_renew_37 (by decide) ?_
      refine z_chkI (pc := 41) E hX (m_X6_checkState _ _) rfl rfl kX6_checkState mlX6_35 dX6_renew_41 rfl (by decide) rfl (Nat.le_of_ble_eq_true rfl) (by decide) ⟨by omega, by omega⟩ (fun Ex M9 hx => absurd hx.2.1 (by decide)) (fun _ => ?_)
      refine z_aload_2 (pc := 44) E dX6_renew_44 ?_
      refine z_aload_0 (pc := 45) E dX6_renew_45 ?_
      refine z_get (pc := 46) E dX6_renew_46 fiX6_10 ok14 rfl rfl ?_
      refine z_get (pc := 49) E dX6_renew_49 fiX6_105 (ok0 (by omega)) rfl rfl ?_
      refine z_ivp (pc := 52) E (m_X5_interest _ _ _ _ (by decide) (by omega)) rfl rfl kX5_interest mlX6_119 dX6_renew_52 (ok2 (by omega) (by omega)) rfl rfl rfl (Nat.le_of_ble_eq_true rfl) rfl (by decide) (by decide) ⟨by omega, by omega⟩ ?_
      refine z_istore_3 (pc := 55) E dX6_renew_55 rfl ?_
      refine z_aload_0 (pc := 56) E dX6_renew_56 ?_
      refine z_get (pc := 57) E dX6_renew_57 fiX6_10 ok14 rfl rfl ?_
      refine z_aload_2 (pc := 60) E dX6_renew_60 ?_
      refine z_get (pc := 61) E dX6_renew_61 fiX6_122 (ok2 (by omega) (by omega)) rfl rfl ?_
      refine z_top (y := nI a) ho.symm ?_
      refine z_iload_3 (pc := 64) E dX6_renew_64 ?_
      refine z_ivp (pc := 65) E (m_X4_canPay _ _ a cN _ (by decide) hc h10 ha) rfl rfl kX4_canPay mlX6_125 dX6_renew_65 (ok0 (by omega)) rfl rfl rfl (Nat.le_of_ble_eq_true rfl) rfl (by decide) (by decide) ⟨by omega, by omega⟩ ?_
      refine z_chkI (pc := 68) E hX (m_X6_checkState _ _) rfl rfl kX6_checkState mlX6_35 dX6_renew_68 rfl (by decide) rfl (Nat.le_of_ble_eq_true rfl) (by decide) ⟨by omega, by omega⟩ (fun Ex M9 hx => ⟨hx.2.2, Or.inr (⟨hx.1, by unfold renewK; rw [nI_clamp (n31 (show i ≤ 1000 by omega)), ho, nI_clamp (n31 (show a ≤ 1000 by omega)), if_pos (b2_n0 h8), if_pos (⟨h25, h33⟩ : _ ∧ _), if_neg (b2_e0 hx.2.1)]⟩)⟩) (fun h68 => ?_)
      refine z_aload_0 (pc := 71) E dX6_renew_71 ?_
      refine z_get (pc := 72) E dX6_renew_72 fiX6_10 ok14 rfl rfl ?_
      refine z_aload_2 (pc := 75) E dX6_renew_75 ?_
      refine z_get (pc := 76) E dX6_renew_76 fiX6_122 (ok2 (by omega) (by omega)) rfl rfl ?_
      refine z_top (y := nI a) ho.symm ?_
      refine z_iload_3 (pc := 79) E dX6_renew_79 ?_
      refine z_iload_3 (pc := 80) E dX6_renew_80 ?_
      refine z_vvf (pc := 81) E (m_X4_takeFrom _ _ a cN _ _ (by decide) hc h10 ha) rfl rfl kX4_takeFrom mlX6_129 dX6_renew_81 (ok0 (by omega)) rfl rfl rfl (Nat.le_of_ble_eq_true rfl) rfl (by decide) (by decide) ⟨by omega, by omega⟩ ?_
      refine z_aload_2 (pc := 84) E dX6_renew_84 ?_
      refine z_aload_0 (pc := 85) E dX6_renew_85 ?_
      refine z_get (pc := 86) E dX6_renew_86 fiX6_10 ok14 rfl rfl ?_
      refine z_get (pc := 89) E dX6_renew_89 fiX6_105 (ok0 (by omega)) rfl rfl ?_
      refine z_vvf (pc := 92) E (m_X5_extend _ _ _ _ (by decide) (by omega)) rfl rfl kX5_extend mlX6_133 dX6_renew_92 (ok2 (by omega) (by omega)) rfl rfl rfl (Nat.le_of_ble_eq_true rfl) rfl (by decide) (by decide) ⟨by omega, by omega⟩ ?_
      refine z_iload_3 (pc := 95) E dX6_renew_95 ?_
      exact z_xiret (pc := 96) E dX6_renew_96 (by omega) (by omega) ⟨by unfold renewK; rw [nI_clamp (n31 (show i ≤ 1000 by omega)), ho, nI_clamp (n31 (show a ≤ 1000 by omega)), if_pos (b2_n0 h8), if_pos (⟨h25, h33⟩ : _ ∧ _), if_pos (b2_n0 h68)], i, a, hi, ha, rfl, ho, rfl, rfl⟩

def fetchK (M : Mem) (t : Int32) : Nat := if 0 ≤ t ∧ t ≤ M 0 0 0 4 - 1 then if M 2 0 t.toNatClampNeg 7 = 0 then if debtV M 0 t.toNatClampNeg (M 0 0 0 0) ≤ M 1 0 (M 2 0 t.toNatClampNeg 0).toNatClampNeg 0 then 0 else 2 else 2 else 1

set_option maxRecDepth 100000 in
set_option maxHeartbeats 4000000 in
theorem m_X6_fetch (M : Mem) (n cN : Nat) (t : Int32) (hn : M 0 0 0 4 = nI n) (h40 : n ≤ 40) (hc : M 0 0 0 3 = nI cN) (h10 : cN ≤ 10) (how : ∀ t, t < n → ∃ i, i < cN ∧ M 2 0 t 0 = nI i) : XI yX6_fetch cX6_fetch 4 (some .int) 7 3 18 (fun G => [.ref (ad G 14 0 0), .int t]) M (fun r M' => fetchK M t = 0 ∧ ∃ i a, i < n ∧ a < cN ∧ t = nI i ∧ M 2 0 i 0 = nI a ∧ r = (debtV M 0 i (M 0 0 0 0)) ∧ M' = mset (clrM (mset (mset (mset (mset M 1 0 a 0 (M 1 0 a 0 - (debtV M 0 i (M 0 0 0 0)))) 0 0 0 1 (M 0 0 0 1 + (debtV M 0 i (M 0 0 0 0)))) 0 0 0 2 (M 0 0 0 2 + (intr (M 0 0 0 0) (M 2 0 i 5) (M 2 0 i 4)))) 2 0 i 7 1) 0 (nI i) 3) 1 0 a 1 (trV (M 1 0 a 1) 1)) (fun Ex M' => M' = M ∧ ((Ex = IOB ∧ fetchK M t = 1) ∨ (Ex = ISE ∧ fetchK M t = 2))) := by
  refine XI.mk (own := RX6) (by decide +kernel) rfl (fun _ => rfl) (fun _ => Nat.le_of_ble_eq_true rfl) (lv0 := fun G => [some (.ref (ad G 14 0 0)), some (.int t), none, none]) (fun _ => rfl) (fun X G E hX => ?_)
  refine z_aload_0 (pc := 0) E dX6_fetch_0 ?_
  refine z_get (pc := 1) E dX6_fetch_1 fiX6_10 ok14 rfl rfl ?_
  refine z_iload_1 (pc := 4) E dX6_fetch_4 ?_
  refine z_ivp (pc := 5) E (m_X4_hasTicket _ _ _ (by decide)) rfl rfl kX4_hasTicket mlX6_95 dX6_fetch_5 (ok0 (by omega)) rfl rfl rfl (Nat.le_of_ble_eq_true rfl) rfl (by decide) (by decide) ⟨by omega, by omega⟩ ?_
  refine z_chkI (pc := 8) E hX (m_X6_checkIndex _ _) rfl rfl kX6_checkIndex mlX6_46 dX6_fetch_8 rfl (by decide) rfl (Nat.le_of_ble_eq_true rfl) (by decide) ⟨by omega, by omega⟩ (fun Ex M9 hx => ⟨hx.2.2, Or.inl ⟨hx.1, by unfold fetchK; rw [if_neg (b2_e0 hx.2.1)]⟩⟩) (fun h8 => ?_)
  obtain ⟨i, hi, rfl⟩ := ix_of (hc_rw hn (b2_n0 h8)) (by omega)
  obtain ⟨a, ha, ho⟩ := how i hi
  refine z_aload_0 (pc := 11) E dX6_fetch_11 ?_
  refine z_get (pc := 12) E dX6_fetch_12 fiX6_10 ok14 rfl rfl ?_
  refine z_get (pc := 15) E dX6_fetch_15 fiX6_101 (ok0 (by omega)) rfl rfl ?_
  refine z_iload_1 (pc := 18) E dX6_fetch_18 ?_
  refine z_aald (t0 := 4) (pc := 19) E dX6_fetch_19 (ok18 (by omega)) rfl rfl rfl (by omega) (by omega) rfl ?_
  refine z_astore_2 (pc := 20) E dX6_fetch_20 rfl ?_
  refine z_aload_2 (pc := 21) E dX6_fetch_21 ?_
  refine z_get (pc := 22) E dX6_fetch_22 fiX6_113 (ok2 (by omega) (by omega)) rfl rfl ?_
  refine z_if_ne (pc := 25) (tgt := 32) E dX6_fetch_25 (by decide) (fun h25 => ?_) (fun h25 => ?_)
  · refine z_iconst (v := 0) (pc := 32) E dX6_fetch_32 (by decide) ?_
    exact z_chkI (pc := 33) E hX (m_X6_checkState _ _) rfl rfl kX6_checkState mlX6_35 dX6_fetch_33 rfl (by decide) rfl (Nat.le_of_ble_eq_true rfl) (by decide) ⟨by omega, by omega⟩ (fun Ex M9 hx => ⟨hx.2.2, Or.inr (⟨hx.1, by unfold fetchK; rw [nI_clamp (n31 (show i ≤ 1000 by omega)), ho, nI_clamp (n31 (show a ≤ 1000 by omega)), if_pos (b2_n0 h8), if_neg h25]⟩)⟩) (fun hq => absurd rfl hq)
  · refine z_iconst (v := 1) (pc := 28) E dX6_fetch_28 (by decide) ?_
    refine z_goto (pc := 29) (tgt := 33) E dX6_fetch_29 (by decide) ?_
    refine z_chkI (pc := 33) E hX (m_X6_checkState _ _) rfl rfl kX6_checkState mlX6_35 dX6_fetch_33 rfl (by decide) rfl (Nat.le_of_ble_eq_true rfl) (by decide) ⟨by omega, by omega⟩ (fun Ex M9 hx => absurd hx.2.1 (by decide)) (fun _ => ?_)
    refine z_aload_2 (pc := 36) E dX6_fetch_36 ?_
    refine z_aload_0 (pc := 37) E dX6_fetch_37 ?_
    refine z_get (pc := 38) E dX6_fetch_38 fiX6_10 ok14 rfl rfl ?_
    refine z_get (pc := 41) E dX6_fetch_41 fiX6_105 (ok0 (by omega)) rfl rfl ?_
    refine z_ivp (pc := 44) E (m_X5_debt _ _ _ _ (by decide) (by omega)) rfl rfl kX5_debt mlX6_108 dX6_fetch_44 (ok2 (by omega) (by omega)) rfl rfl rfl (Nat.le_of_ble_eq_true rfl) rfl (by decide) (by decide) ⟨by omega, by omega⟩ ?_
    refine z_istore_3 (pc := 47) E dX6_fetch_47 rfl ?_
    refine z_aload_0 (pc := 48) E dX6_fetch_48 ?_
    refine z_get (pc := 49) E dX6_fetch_49 fiX6_10 ok14 rfl rfl ?_
    refine z_aload_2 (pc := 52) E dX6_fetch_52 ?_
    refine z_get (pc := 53) E dX6_fetch_53 fiX6_122 (ok2 (by omega) (by omega)) rfl rfl ?_
    refine z_top (y := nI a) ho.symm ?_
    refine z_iload_3 (pc := 56) E dX6_fetch_56 ?_
    refine z_ivp (pc := 57) E (m_X4_canPay _ _ a cN _ (by decide) hc h10 ha) rfl rfl kX4_canPay mlX6_125 dX6_fetch_57 (ok0 (by omega)) rfl rfl rfl (Nat.le_of_ble_eq_true rfl) rfl (by decide) (by decide) ⟨by omega, by omega⟩ ?_
    refine z_chkI (pc := 60) E hX (m_X6_checkState _ _) rfl rfl kX6_checkState mlX6_35 dX6_fetch_60 rfl (by decide) rfl (Nat.le_of_ble_eq_true rfl) (by decide) ⟨by omega, by omega⟩ (fun Ex M9 hx => ⟨hx.2.2, Or.inr (⟨hx.1, by unfold fetchK; rw [nI_clamp (n31 (show i ≤ 1000 by omega)), ho, nI_clamp (n31 (show a ≤ 1000 by omega)), if_pos (b2_n0 h8), if_pos h25, if_neg (b2_e0 hx.2.1)]⟩)⟩) (fun h60 => ?_)
    refine z_aload_0 (pc := 63) E dX6_fetch_63 ?_
    refine z_get (pc := 64) E dX6_fetch_64 fiX6_10 ok14 rfl rfl ?_
    refine z_aload_2 (pc := 67) E dX6_fetch_67 ?_
    refine z_get (pc := 68) E dX6_fetch_68 fiX6_122 (ok2 (by omega) (by omega)) rfl rfl ?_
    refine z_top (y := nI a) ho.symm ?_
    refine z_iload_3 (pc := 71) E dX6_fetch_71 ?_
    refine z_aload_2 (pc := 72) E dX6_fetch_72 ?_
    refine z_aload_0 (pc := 73) E dX6_fetch_73 ?_
    refine z_get (pc := 74) E dX6_fetch_74 fiX6_10 ok14 rfl rfl ?_
    refine z_get (pc := 77) E dX6_fetch_77 fiX6_105 (ok0 (by omega)) rfl rfl ?_
    refine z_ivp (pc := 80) E (m_X5_interest _ _ _ _ (by decide) (by omega)) rfl rfl kX5_interest mlX6_119 dX6_fetch_80 (ok2 (by omega) (by omega)) rfl rfl rfl (Nat.le_of_ble_eq_true rfl) rfl (by decide) (by decide) ⟨by omega, by omega⟩ ?_
    refine z_vvf (pc := 83) E (m_X4_takeFrom _ _ a cN _ _ (by decide) hc h10 ha) rfl rfl kX4_takeFrom mlX6_129 dX6_fetch_83 (ok0 (by omega)) rfl rfl rfl (Nat.le_of_ble_eq_true rfl) rfl (by decide) (by decide) ⟨by omega, by omega⟩ ?_
    refine z_aload_0 (pc := 86) E dX6_fetch_86 ?_
    refine z_get (pc := 87) E dX6_fetch_87 fiX6_10 ok14 rfl rfl ?_
    refine z_iload_1 (pc := 90) E dX6_fetch_90 ?_
    refine z_vvf (pc := 91) E (m_X4_handOut _ _ a cN _ (by decide) (by rw [mset_s (by decide), mset_s (by decide), mset_k (by decide)]; exact hc) h10 ha (by omega) ho) rfl rfl kX4_handOut mlX6_137 dX6_fetch_91 (ok0 (by omega)) rfl rfl rfl (Nat.le_of_ble_eq_true rfl) rfl (by decide) (by decide) ⟨by omega, by omega⟩ ?_
    refine z_iload_3 (pc := 94) E dX6_fetch_94 ?_
    exact z_xiret (pc := 95) E dX6_fetch_95 (by omega) (by omega) ⟨by unfold fetchK; rw [nI_clamp (n31 (show i ≤ 1000 by omega)), ho, nI_clamp (n31 (show a ≤ 1000 by omega)), if_pos (b2_n0 h8), if_pos h25, if_pos (b2_n0 h60)], i, a, hi, ha, rfl, ho, rfl, by rw [mset_k (by decide), mset_k (by decide), mset_s (by decide)]⟩

def roomK (w : Int32) : Nat := if 1 ≤ w ∧ w ≤ 10 then 0 else 1

set_option maxRecDepth 100000 in
set_option maxHeartbeats 4000000 in
theorem m_X6_room (M : Mem) (w : Int32) : XI yX6_room cX6_room 2 (some .int) 7 1 6 (fun G => [.ref (ad G 14 0 0), .int w]) M (fun r M' => roomK w = 0 ∧ r = spotF M 0 w 3 0 ∧ M' = M) (fun Ex M' => M' = M ∧ ((Ex = IAE ∧ roomK w = 1))) := by
  refine XI.mk (own := RX6) (by decide +kernel) rfl (fun _ => rfl) (fun _ => Nat.le_of_ble_eq_true rfl) (lv0 := fun G => [some (.ref (ad G 14 0 0)), some (.int w)]) (fun _ => rfl) (fun X G E hX => ?_)
  refine z_iload_1 (pc := 0) E dX6_room_0 ?_
  refine z_iconst (v := 1) (pc := 1) E dX6_room_1 (by decide) ?_
  refine z_bipush (v := 10) (pc := 2) E dX6_room_2 (by decide) ?_
  refine z_isp (pc := 4) E (m_X6_isWithin _ _ _ _) rfl rfl kX6_isWithin mlX6_23 dX6_room_4 rfl (Nat.le_of_ble_eq_true rfl) rfl (by decide) (by decide) ⟨by omega, by omega⟩ ?_
  refine z_chkI (pc := 7) E hX (m_X6_checkArgument _ _) rfl rfl kX6_checkArgument mlX6_27 dX6_room_7 rfl (by decide) rfl (Nat.le_of_ble_eq_true rfl) (by decide) ⟨by omega, by omega⟩ (fun Ex M9 hx => ⟨hx.2.2, ⟨hx.1, by unfold roomK; rw [if_neg (b2_e0 hx.2.1)]⟩⟩) (fun h7 => ?_)
  refine z_aload_0 (pc := 10) E dX6_room_10 ?_
  refine z_get (pc := 11) E dX6_room_11 fiX6_10 ok14 rfl rfl ?_
  refine z_get (pc := 14) E dX6_room_14 fiX6_82 (ok0 (by omega)) rfl rfl ?_
  refine z_iload_1 (pc := 17) E dX6_room_17 ?_
  refine z_ivp (pc := 18) E (m_X2_spotFor _ _ _ (by decide)) rfl rfl kX2_spotFor mlX6_86 dX6_room_18 (ok15 (by omega)) rfl rfl rfl (Nat.le_of_ble_eq_true rfl) rfl (by decide) (by decide) ⟨by omega, by omega⟩ ?_
  exact z_xiret (pc := 21) E dX6_room_21 (by omega) (by omega) ⟨by unfold roomK; rw [if_pos (b2_n0 h7)], rfl, rfl⟩

set_option maxRecDepth 100000 in
set_option maxHeartbeats 4000000 in
theorem m_X6_tidy (M : Mem) : CI yX6_tidy cX6_tidy 1 (some .int) 2 0 0 (fun G => [.ref (ad G 14 0 0)]) M (fun r M' => r = fsum 3 (fun i => (pushS M 0 i).1) ∧ M' = pushM M 0 3) := by
  refine CI.mk (own := RX6) (by decide +kernel) rfl (fun _ => rfl) (fun _ => Nat.le_of_ble_eq_true rfl) (lv0 := fun G => [some (.ref (ad G 14 0 0))]) (fun _ => rfl) (fun X G E => ?_)
  refine z_aload_0 (pc := 0) E dX6_tidy_0 ?_
  refine z_get (pc := 1) E dX6_tidy_1 fiX6_10 ok14 rfl rfl ?_
  refine z_get (pc := 4) E dX6_tidy_4 fiX6_82 (ok0 (by omega)) rfl rfl ?_
  refine z_ivf (pc := 7) E (m_X2_pushLeft _ _ (by decide)) rfl rfl kX2_pushLeft mlX6_152 dX6_tidy_7 (ok15 (by omega)) rfl rfl rfl (Nat.le_of_ble_eq_true rfl) rfl (by decide) (by decide) ⟨by omega, by omega⟩ ?_
  exact z_iret (pc := 10) E dX6_tidy_10 ⟨rfl, rfl⟩

theorem ix_1 {x : Int32} (h : 1 ≤ x ∧ x ≤ 200) : ∃ D : Nat, 1 ≤ D ∧ D ≤ 200 ∧ x = nI D := by
  have h1 := Int32.le_iff_toInt_le.mp h.1
  have h2 := Int32.le_iff_toInt_le.mp h.2
  have e1 : (1 : Int32).toInt = 1 := rfl
  have e2 : (200 : Int32).toInt = 200 := rfl
  rw [e1] at h1
  rw [e2] at h2
  refine ⟨x.toInt.toNat, by omega, by omega, ?_⟩
  have h3 : x.toInt = (nI x.toInt.toNat).toInt := by rw [nI_toInt (by omega)]; omega
  exact Int32.toInt_inj.mp h3

def passK (x : Int32) : Nat := if 1 ≤ x ∧ x ≤ 200 then 0 else 1

set_option maxRecDepth 100000 in
set_option maxHeartbeats 4000000 in
theorem m_X6_pass (M : Mem) (n cN d : Nat) (x : Int32) (hn : M 0 0 0 4 = nI n) (h40 : n ≤ 40) (hc : M 0 0 0 3 = nI cN) (h10 : cN ≤ 10) (how : ∀ t, t < n → ∃ i, i < cN ∧ M 2 0 t 0 = nI i) (hd : M 0 0 0 0 = nI d) (hdD : d < 2 ^ 30) : XI yX6_pass cX6_pass 2 (some .int) 7 1 6 (fun G => [.ref (ad G 14 0 0), .int x]) M (fun r M' => passK x = 0 ∧ ∃ D, 1 ≤ D ∧ D ≤ 200 ∧ x = nI D ∧ r = (goN M 0 n D).1 ∧ M' = (goN M 0 n D).2) (fun Ex M' => M' = M ∧ ((Ex = IAE ∧ passK x = 1))) := by
  refine XI.mk (own := RX6) (by decide +kernel) rfl (fun _ => rfl) (fun _ => Nat.le_of_ble_eq_true rfl) (lv0 := fun G => [some (.ref (ad G 14 0 0)), some (.int x)]) (fun _ => rfl) (fun X G E hX => ?_)
  refine z_iload_1 (pc := 0) E dX6_pass_0 ?_
  refine z_iconst (v := 1) (pc := 1) E dX6_pass_1 (by decide) ?_
  refine z_sipush (v := 200) (pc := 2) E dX6_pass_2 (by decide) ?_
  refine z_isp (pc := 5) E (m_X6_isWithin _ _ _ _) rfl rfl kX6_isWithin mlX6_23 dX6_pass_5 rfl (Nat.le_of_ble_eq_true rfl) rfl (by decide) (by decide) ⟨by omega, by omega⟩ ?_
  refine z_chkI (pc := 8) E hX (m_X6_checkArgument _ _) rfl rfl kX6_checkArgument mlX6_27 dX6_pass_8 rfl (by decide) rfl (Nat.le_of_ble_eq_true rfl) (by decide) ⟨by omega, by omega⟩ (fun Ex M9 hx => ⟨hx.2.2, ⟨hx.1, by unfold passK; rw [if_neg (b2_e0 hx.2.1)]⟩⟩) (fun h8 => ?_)
  obtain ⟨D, hD1, hD, rfl⟩ := ix_1 (b2_n0 h8)
  refine z_aload_0 (pc := 11) E dX6_pass_11 ?_
  refine z_get (pc := 12) E dX6_pass_12 fiX6_10 ok14 rfl rfl ?_
  refine z_iload_1 (pc := 15) E dX6_pass_15 ?_
  refine z_ivf (pc := 16) E (m_X4_goOn _ _ n cN d D (by decide) hn h40 hc h10 how hd (by omega) hD) rfl rfl kX4_goOn mlX6_156 dX6_pass_16 (ok0 (by omega)) rfl rfl rfl (Nat.le_of_ble_eq_true rfl) rfl (by decide) (by decide) ⟨by omega, by omega⟩ ?_
  exact z_xiret (pc := 19) E dX6_pass_19 (by omega) (by omega) ⟨by unfold passK; rw [if_pos (b2_n0 h8)], D, hD1, hD, rfl, rfl, rfl⟩

def countK (w : Int32) : Nat := if 0 ≤ w ∧ w ≤ 10 then 0 else 1

set_option maxRecDepth 100000 in
set_option maxHeartbeats 4000000 in
theorem m_X6_count (M : Mem) (n : Nat) (w : Int32) (hn : M 0 0 0 4 = nI n) (h40 : n ≤ 40) : XI yX6_count cX6_count 2 (some .int) 7 1 6 (fun G => [.ref (ad G 14 0 0), .int w]) M (fun r M' => countK w = 0 ∧ ∃ j, j < 11 ∧ w = nI j ∧ r = cntV M 0 n j ∧ M' = M) (fun Ex M' => M' = M ∧ ((Ex = IOB ∧ countK w = 1))) := by
  refine XI.mk (own := RX6) (by decide +kernel) rfl (fun _ => rfl) (fun _ => Nat.le_of_ble_eq_true rfl) (lv0 := fun G => [some (.ref (ad G 14 0 0)), some (.int w)]) (fun _ => rfl) (fun X G E hX => ?_)
  refine z_iload_1 (pc := 0) E dX6_count_0 ?_
  refine z_iconst (v := 0) (pc := 1) E dX6_count_1 (by decide) ?_
  refine z_bipush (v := 10) (pc := 2) E dX6_count_2 (by decide) ?_
  refine z_isp (pc := 4) E (m_X6_isWithin _ _ _ _) rfl rfl kX6_isWithin mlX6_23 dX6_count_4 rfl (Nat.le_of_ble_eq_true rfl) rfl (by decide) (by decide) ⟨by omega, by omega⟩ ?_
  refine z_chkI (pc := 7) E hX (m_X6_checkIndex _ _) rfl rfl kX6_checkIndex mlX6_46 dX6_count_7 rfl (by decide) rfl (Nat.le_of_ble_eq_true rfl) (by decide) ⟨by omega, by omega⟩ (fun Ex M9 hx => ⟨hx.2.2, ⟨hx.1, by unfold countK; rw [if_neg (b2_e0 hx.2.1)]⟩⟩) (fun h7 => ?_)
  obtain ⟨j, hj, rfl⟩ := ix_c (n := 11) (b2_n0 h7) (by decide) (by decide)
  refine z_aload_0 (pc := 10) E dX6_count_10 ?_
  refine z_get (pc := 11) E dX6_count_11 fiX6_10 ok14 rfl rfl ?_
  refine z_iload_1 (pc := 14) E dX6_count_14 ?_
  refine z_ivp (pc := 15) E (m_X4_tellCount _ _ n _ (by decide) hn h40 hj) rfl rfl kX4_tellCount mlX6_159 dX6_count_15 (ok0 (by omega)) rfl rfl rfl (Nat.le_of_ble_eq_true rfl) rfl (by decide) (by decide) ⟨by omega, by omega⟩ ?_
  exact z_xiret (pc := 18) E dX6_count_18 (by omega) (by omega) ⟨by unfold countK; rw [if_pos (b2_n0 h7)], j, hj, rfl, rfl, rfl⟩

def bestK (M : Mem) (c : Int32) : Nat := if 0 ≤ c ∧ c ≤ M 0 0 0 3 - 1 then 0 else 1

set_option maxRecDepth 100000 in
set_option maxHeartbeats 4000000 in
theorem m_X6_best (M : Mem) (n cN : Nat) (c : Int32) (hn : M 0 0 0 4 = nI n) (h40 : n ≤ 40) (hc : M 0 0 0 3 = nI cN) (h10 : cN ≤ 10) : XI yX6_best cX6_best 2 (some .int) 7 1 6 (fun G => [.ref (ad G 14 0 0), .int c]) M (fun r M' => bestK M c = 0 ∧ ∃ i, i < cN ∧ c = nI i ∧ r = bestF M 0 i (M 0 0 0 0) n 0 (-1) 0 ∧ M' = M) (fun Ex M' => M' = M ∧ ((Ex = IOB ∧ bestK M c = 1))) := by
  refine XI.mk (own := RX6) (by decide +kernel) rfl (fun _ => rfl) (fun _ => Nat.le_of_ble_eq_true rfl) (lv0 := fun G => [some (.ref (ad G 14 0 0)), some (.int c)]) (fun _ => rfl) (fun X G E hX => ?_)
  refine z_aload_0 (pc := 0) E dX6_best_0 ?_
  refine z_get (pc := 1) E dX6_best_1 fiX6_10 ok14 rfl rfl ?_
  refine z_iload_1 (pc := 4) E dX6_best_4 ?_
  refine z_ivp (pc := 5) E (m_X4_hasCustomer _ _ _ (by decide)) rfl rfl kX4_hasCustomer mlX6_42 dX6_best_5 (ok0 (by omega)) rfl rfl rfl (Nat.le_of_ble_eq_true rfl) rfl (by decide) (by decide) ⟨by omega, by omega⟩ ?_
  refine z_chkI (pc := 8) E hX (m_X6_checkIndex _ _) rfl rfl kX6_checkIndex mlX6_46 dX6_best_8 rfl (by decide) rfl (Nat.le_of_ble_eq_true rfl) (by decide) ⟨by omega, by omega⟩ (fun Ex M9 hx => ⟨hx.2.2, ⟨hx.1, by unfold bestK; rw [if_neg (b2_e0 hx.2.1)]⟩⟩) (fun h8 => ?_)
  obtain ⟨i, hi, rfl⟩ := ix_of (hc_rw hc (b2_n0 h8)) (by omega)
  refine z_aload_0 (pc := 11) E dX6_best_11 ?_
  refine z_get (pc := 12) E dX6_best_12 fiX6_10 ok14 rfl rfl ?_
  refine z_iload_1 (pc := 15) E dX6_best_15 ?_
  refine z_ivp (pc := 16) E (m_X4_bestFor _ _ n _ cN (by decide) hn h40 hc h10 hi) rfl rfl kX4_bestFor mlX6_177 dX6_best_16 (ok0 (by omega)) rfl rfl rfl (Nat.le_of_ble_eq_true rfl) rfl (by decide) (by decide) ⟨by omega, by omega⟩ ?_
  exact z_xiret (pc := 19) E dX6_best_19 (by omega) (by omega) ⟨by unfold bestK; rw [if_pos (b2_n0 h8)], i, hi, rfl, rfl, rfl⟩

/-- what is foreseen: 0 the coins, 1 the things sold, 2 the things for sale -/
def foreV (M : Mem) (n D w : Nat) : Int32 := match w with
  | 0 => (goN M 1 n D).2 0 1 0 1
  | 1 => (goN M 1 n D).1
  | _ => stN (goN M 1 n D).2 1 n 2
theorem shopC_o {M : Mem} {k i j cN n : Nat} : shopC M 1 0 cN n k 0 i j = M k 0 i j := by
  unfold shopC cpyM shM buyK scaK cpK
  simp
theorem shopC_0 {M : Mem} {cN n : Nat} {j : Nat} (hj : j < 5) : shopC M 1 0 cN n 0 1 0 j = M 0 0 0 j := by
  unfold shopC cpyM shM buyK scaK cpK
  simp [hj]
theorem shopC_2 {M : Mem} {cN n t j : Nat} (ht : t < n) (hj : j < 10) : shopC M 1 0 cN n 2 1 t j = M 2 0 t j := by
  unfold shopC cpyM shM buyK scaK cpK
  simp [hj, ht]

def foreseeK (x w : Int32) : Nat := if 1 ≤ x ∧ x ≤ 200 then if 0 ≤ w ∧ w ≤ 2 then 0 else 2 else 1

set_option maxRecDepth 100000 in
set_option maxHeartbeats 4000000 in
theorem m_X6_foresee_0 (M : Mem) (n cN d : Nat) (x w : Int32) (hn : M 0 0 0 4 = nI n) (h40 : n ≤ 40) (hc : M 0 0 0 3 = nI cN) (h10 : cN ≤ 10) (how : ∀ t, t < n → ∃ i, i < cN ∧ M 2 0 t 0 = nI i) (hd : M 0 0 0 0 = nI d) (hdD : d < 2 ^ 30) (hw : w = nI 0) : XI yX6_foresee cX6_foresee 4 (some .int) 7 2 12 (fun G => [.ref (ad G 14 0 0), .int x, .int w]) M (fun r M' => foreseeK x w = 0 ∧ ∃ D, 1 ≤ D ∧ D ≤ 200 ∧ x = nI D ∧ r = foreV (shopC M 1 0 cN n) n D 0 ∧ M' = (goN (shopC M 1 0 cN n) 1 n D).2) (fun Ex M' => M' = M ∧ ((Ex = IAE ∧ foreseeK x w = 1) ∨ (Ex = IOB ∧ foreseeK x w = 2))) := by
  refine XI.mk (own := RX6) (by decide +kernel) rfl (fun _ => rfl) (fun _ => Nat.le_of_ble_eq_true rfl) (lv0 := fun G => [some (.ref (ad G 14 0 0)), some (.int x), some (.int w), none]) (fun _ => rfl) (fun X G E hX => ?_)
  refine z_iload_1 (pc := 0) E dX6_foresee_0 ?_
  refine z_iconst (v := 1) (pc := 1) E dX6_foresee_1 (by decide) ?_
  refine z_sipush (v := 200) (pc := 2) E dX6_foresee_2 (by decide) ?_
  refine z_isp (pc := 5) E (m_X6_isWithin _ _ _ _) rfl rfl kX6_isWithin mlX6_23 dX6_foresee_5 rfl (Nat.le_of_ble_eq_true rfl) rfl (by decide) (by decide) ⟨by omega, by omega⟩ ?_
  refine z_chkI (pc := 8) E hX (m_X6_checkArgument _ _) rfl rfl kX6_checkArgument mlX6_27 dX6_foresee_8 rfl (by decide) rfl (Nat.le_of_ble_eq_true rfl) (by decide) ⟨by omega, by omega⟩ (fun Ex M9 hx => ⟨hx.2.2, Or.inl ⟨hx.1, by unfold foreseeK; rw [if_neg (b2_e0 hx.2.1)]⟩⟩) (fun h8 => ?_)
  refine z_iload_2 (pc := 11) E dX6_foresee_11 ?_
  refine z_iconst (v := 0) (pc := 12) E dX6_foresee_12 (by decide) ?_
  refine z_iconst (v := 2) (pc := 13) E dX6_foresee_13 (by decide) ?_
  refine z_isp (pc := 14) E (m_X6_isWithin _ _ _ _) rfl rfl kX6_isWithin mlX6_23 dX6_foresee_14 rfl (Nat.le_of_ble_eq_true rfl) rfl (by decide) (by decide) ⟨by omega, by omega⟩ ?_
  refine z_chkI (pc := 17) E hX (m_X6_checkIndex _ _) rfl rfl kX6_checkIndex mlX6_46 dX6_foresee_17 rfl (by decide) rfl (Nat.le_of_ble_eq_true rfl) (by decide) ⟨by omega, by omega⟩ (fun Ex M9 hx => ⟨hx.2.2, Or.inr (⟨hx.1, by unfold foreseeK; rw [if_pos (b2_n0 h8), if_neg (b2_e0 hx.2.1)]⟩)⟩) (fun h17 => ?_)
  obtain ⟨D, hD1, hD, rfl⟩ := ix_1 (b2_n0 h8)
  refine z_aload_0 (pc := 20) E dX6_foresee_20 ?_
  refine z_get (pc := 21) E dX6_foresee_21 fiX6_16 ok14 rfl rfl ?_
  refine z_aload_0 (pc := 24) E dX6_foresee_24 ?_
  refine z_get (pc := 25) E dX6_foresee_25 fiX6_10 ok14 rfl rfl ?_
  refine z_vvf (pc := 28) E (m_X4_copyFrom _ _ _ n cN (by decide) (by decide) (by decide) hn h40 hc h10) rfl rfl kX4_copyFrom mlX6_162 dX6_foresee_28 (ok0 (by omega)) rfl rfl rfl (Nat.le_of_ble_eq_true rfl) rfl (by decide) (by decide) ⟨by omega, by omega⟩ ?_
  refine z_aload_0 (pc := 31) E dX6_foresee_31 ?_
  refine z_get (pc := 32) E dX6_foresee_32 fiX6_16 ok14 rfl rfl ?_
  refine z_iload_1 (pc := 35) E dX6_foresee_35 ?_
  refine z_ivf (pc := 36) E (m_X4_goOn _ _ n cN d D (by decide) ((shopC_0 (by decide)).trans hn) h40 ((shopC_0 (by decide)).trans hc) h10 (fun t ht => by rw [shopC_2 ht (by decide)]; exact how t ht) ((shopC_0 (by decide)).trans hd) (by omega) hD) rfl rfl kX4_goOn mlX6_156 dX6_foresee_36 (ok0 (by omega)) rfl rfl rfl (Nat.le_of_ble_eq_true rfl) rfl (by decide) (by decide) ⟨by omega, by omega⟩ ?_
  refine z_istore_3 (pc := 39) E dX6_foresee_39 rfl ?_
  refine z_iload_2 (pc := 40) E dX6_foresee_40 ?_
  subst hw
  refine z_lsw (pc := 41) (tgt := 68) (off := 27) E dX6_foresee_41 (by decide) (by decide) (by decide) ?_
  refine z_aload_0 (pc := 68) E dX6_foresee_68 ?_
  refine z_get (pc := 69) E dX6_foresee_69 fiX6_16 ok14 rfl rfl ?_
  refine z_get (pc := 72) E dX6_foresee_72 fiX6_78 (ok0 (by omega)) rfl rfl ?_
  exact z_xiret (pc := 75) E dX6_foresee_75 (by omega) (by omega) ⟨by unfold foreseeK; rw [if_pos (b2_n0 h8), if_pos (b2_n0 h17)], D, hD1, hD, rfl, rfl, rfl⟩

set_option maxRecDepth 100000 in
set_option maxHeartbeats 4000000 in
theorem m_X6_foresee_1 (M : Mem) (n cN d : Nat) (x w : Int32) (hn : M 0 0 0 4 = nI n) (h40 : n ≤ 40) (hc : M 0 0 0 3 = nI cN) (h10 : cN ≤ 10) (how : ∀ t, t < n → ∃ i, i < cN ∧ M 2 0 t 0 = nI i) (hd : M 0 0 0 0 = nI d) (hdD : d < 2 ^ 30) (hw : w = nI 1) : XI yX6_foresee cX6_foresee 4 (some .int) 7 2 12 (fun G => [.ref (ad G 14 0 0), .int x, .int w]) M (fun r M' => foreseeK x w = 0 ∧ ∃ D, 1 ≤ D ∧ D ≤ 200 ∧ x = nI D ∧ r = foreV (shopC M 1 0 cN n) n D 1 ∧ M' = (goN (shopC M 1 0 cN n) 1 n D).2) (fun Ex M' => M' = M ∧ ((Ex = IAE ∧ foreseeK x w = 1) ∨ (Ex = IOB ∧ foreseeK x w = 2))) := by
  refine XI.mk (own := RX6) (by decide +kernel) rfl (fun _ => rfl) (fun _ => Nat.le_of_ble_eq_true rfl) (lv0 := fun G => [some (.ref (ad G 14 0 0)), some (.int x), some (.int w), none]) (fun _ => rfl) (fun X G E hX => ?_)
  refine z_iload_1 (pc := 0) E dX6_foresee_0 ?_
  refine z_iconst (v := 1) (pc := 1) E dX6_foresee_1 (by decide) ?_
  refine z_sipush (v := 200) (pc := 2) E dX6_foresee_2 (by decide) ?_
  refine z_isp (pc := 5) E (m_X6_isWithin _ _ _ _) rfl rfl kX6_isWithin mlX6_23 dX6_foresee_5 rfl (Nat.le_of_ble_eq_true rfl) rfl (by decide) (by decide) ⟨by omega, by omega⟩ ?_
  refine z_chkI (pc := 8) E hX (m_X6_checkArgument _ _) rfl rfl kX6_checkArgument mlX6_27 dX6_foresee_8 rfl (by decide) rfl (Nat.le_of_ble_eq_true rfl) (by decide) ⟨by omega, by omega⟩ (fun Ex M9 hx => ⟨hx.2.2, Or.inl ⟨hx.1, by unfold foreseeK; rw [if_neg (b2_e0 hx.2.1)]⟩⟩) (fun h8 => ?_)
  refine z_iload_2 (pc := 11) E dX6_foresee_11 ?_
  refine z_iconst (v := 0) (pc := 12) E dX6_foresee_12 (by decide) ?_
  refine z_iconst (v := 2) (pc := 13) E dX6_foresee_13 (by decide) ?_
  refine z_isp (pc := 14) E (m_X6_isWithin _ _ _ _) rfl rfl kX6_isWithin mlX6_23 dX6_foresee_14 rfl (Nat.le_of_ble_eq_true rfl) rfl (by decide) (by decide) ⟨by omega, by omega⟩ ?_
  refine z_chkI (pc := 17) E hX (m_X6_checkIndex _ _) rfl rfl kX6_checkIndex mlX6_46 dX6_foresee_17 rfl (by decide) rfl (Nat.le_of_ble_eq_true rfl) (by decide) ⟨by omega, by omega⟩ (fun Ex M9 hx => ⟨hx.2.2, Or.inr (⟨hx.1, by unfold foreseeK; rw [if_pos (b2_n0 h8), if_neg (b2_e0 hx.2.1)]⟩)⟩) (fun h17 => ?_)
  obtain ⟨D, hD1, hD, rfl⟩ := ix_1 (b2_n0 h8)
  refine z_aload_0 (pc := 20) E dX6_foresee_20 ?_
  refine z_get (pc := 21) E dX6_foresee_21 fiX6_16 ok14 rfl rfl ?_
  refine z_aload_0 (pc := 24) E dX6_foresee_24 ?_
  refine z_get (pc := 25) E dX6_foresee_25 fiX6_10 ok14 rfl rfl ?_
  refine z_vvf (pc := 28) E (m_X4_copyFrom _ _ _ n cN (by decide) (by decide) (by decide) hn h40 hc h10) rfl rfl kX4_copyFrom mlX6_162 dX6_foresee_28 (ok0 (by omega)) rfl rfl rfl (Nat.le_of_ble_eq_true rfl) rfl (by decide) (by decide) ⟨by omega, by omega⟩ ?_
  refine z_aload_0 (pc := 31) E dX6_foresee_31 ?_
  refine z_get (pc := 32) E dX6_foresee_32 fiX6_16 ok14 rfl rfl ?_
  refine z_iload_1 (pc := 35) E dX6_foresee_35 ?_
  refine z_ivf (pc := 36) E (m_X4_goOn _ _ n cN d D (by decide) ((shopC_0 (by decide)).trans hn) h40 ((shopC_0 (by decide)).trans hc) h10 (fun t ht => by rw [shopC_2 ht (by decide)]; exact how t ht) ((shopC_0 (by decide)).trans hd) (by omega) hD) rfl rfl kX4_goOn mlX6_156 dX6_foresee_36 (ok0 (by omega)) rfl rfl rfl (Nat.le_of_ble_eq_true rfl) rfl (by decide) (by decide) ⟨by omega, by omega⟩ ?_
  refine z_istore_3 (pc := 39) E dX6_foresee_39 rfl ?_
  refine z_iload_2 (pc := 40) E dX6_foresee_40 ?_
  subst hw
  refine z_lsw (pc := 41) (tgt := 76) (off := 35) E dX6_foresee_41 (by decide) (by decide) (by decide) ?_
  refine z_iload_3 (pc := 76) E dX6_foresee_76 ?_
  exact z_xiret (pc := 77) E dX6_foresee_77 (by omega) (by omega) ⟨by unfold foreseeK; rw [if_pos (b2_n0 h8), if_pos (b2_n0 h17)], D, hD1, hD, rfl, rfl, rfl⟩

set_option maxRecDepth 100000 in
set_option maxHeartbeats 4000000 in
theorem m_X6_foresee_2 (M : Mem) (n cN d : Nat) (x w : Int32) (hn : M 0 0 0 4 = nI n) (h40 : n ≤ 40) (hc : M 0 0 0 3 = nI cN) (h10 : cN ≤ 10) (how : ∀ t, t < n → ∃ i, i < cN ∧ M 2 0 t 0 = nI i) (hd : M 0 0 0 0 = nI d) (hdD : d < 2 ^ 30) (hw : w = nI 2) : XI yX6_foresee cX6_foresee 4 (some .int) 7 2 12 (fun G => [.ref (ad G 14 0 0), .int x, .int w]) M (fun r M' => foreseeK x w = 0 ∧ ∃ D, 1 ≤ D ∧ D ≤ 200 ∧ x = nI D ∧ r = foreV (shopC M 1 0 cN n) n D 2 ∧ M' = (goN (shopC M 1 0 cN n) 1 n D).2) (fun Ex M' => M' = M ∧ ((Ex = IAE ∧ foreseeK x w = 1) ∨ (Ex = IOB ∧ foreseeK x w = 2))) := by
  refine XI.mk (own := RX6) (by decide +kernel) rfl (fun _ => rfl) (fun _ => Nat.le_of_ble_eq_true rfl) (lv0 := fun G => [some (.ref (ad G 14 0 0)), some (.int x), some (.int w), none]) (fun _ => rfl) (fun X G E hX => ?_)
  refine z_iload_1 (pc := 0) E dX6_foresee_0 ?_
  refine z_iconst (v := 1) (pc := 1) E dX6_foresee_1 (by decide) ?_
  refine z_sipush (v := 200) (pc := 2) E dX6_foresee_2 (by decide) ?_
  refine z_isp (pc := 5) E (m_X6_isWithin _ _ _ _) rfl rfl kX6_isWithin mlX6_23 dX6_foresee_5 rfl (Nat.le_of_ble_eq_true rfl) rfl (by decide) (by decide) ⟨by omega, by omega⟩ ?_
  refine z_chkI (pc := 8) E hX (m_X6_checkArgument _ _) rfl rfl kX6_checkArgument mlX6_27 dX6_foresee_8 rfl (by decide) rfl (Nat.le_of_ble_eq_true rfl) (by decide) ⟨by omega, by omega⟩ (fun Ex M9 hx => ⟨hx.2.2, Or.inl ⟨hx.1, by unfold foreseeK; rw [if_neg (b2_e0 hx.2.1)]⟩⟩) (fun h8 => ?_)
  refine z_iload_2 (pc := 11) E dX6_foresee_11 ?_
  refine z_iconst (v := 0) (pc := 12) E dX6_foresee_12 (by decide) ?_
  refine z_iconst (v := 2) (pc := 13) E dX6_foresee_13 (by decide) ?_
  refine z_isp (pc := 14) E (m_X6_isWithin _ _ _ _) rfl rfl kX6_isWithin mlX6_23 dX6_foresee_14 rfl (Nat.le_of_ble_eq_true rfl) rfl (by decide) (by decide) ⟨by omega, by omega⟩ ?_
  refine z_chkI (pc := 17) E hX (m_X6_checkIndex _ _) rfl rfl kX6_checkIndex mlX6_46 dX6_foresee_17 rfl (by decide) rfl (Nat.le_of_ble_eq_true rfl) (by decide) ⟨by omega, by omega⟩ (fun Ex M9 hx => ⟨hx.2.2, Or.inr (⟨hx.1, by unfold foreseeK; rw [if_pos (b2_n0 h8), if_neg (b2_e0 hx.2.1)]⟩)⟩) (fun h17 => ?_)
  obtain ⟨D, hD1, hD, rfl⟩ := ix_1 (b2_n0 h8)
  refine z_aload_0 (pc := 20) E dX6_foresee_20 ?_
  refine z_get (pc := 21) E dX6_foresee_21 fiX6_16 ok14 rfl rfl ?_
  refine z_aload_0 (pc := 24) E dX6_foresee_24 ?_
  refine z_get (pc := 25) E dX6_foresee_25 fiX6_10 ok14 rfl rfl ?_
  refine z_vvf (pc := 28) E (m_X4_copyFrom _ _ _ n cN (by decide) (by decide) (by decide) hn h40 hc h10) rfl rfl kX4_copyFrom mlX6_162 dX6_foresee_28 (ok0 (by omega)) rfl rfl rfl (Nat.le_of_ble_eq_true rfl) rfl (by decide) (by decide) ⟨by omega, by omega⟩ ?_
  refine z_aload_0 (pc := 31) E dX6_foresee_31 ?_
  refine z_get (pc := 32) E dX6_foresee_32 fiX6_16 ok14 rfl rfl ?_
  refine z_iload_1 (pc := 35) E dX6_foresee_35 ?_
  refine z_ivf (pc := 36) E (m_X4_goOn _ _ n cN d D (by decide) ((shopC_0 (by decide)).trans hn) h40 ((shopC_0 (by decide)).trans hc) h10 (fun t ht => by rw [shopC_2 ht (by decide)]; exact how t ht) ((shopC_0 (by decide)).trans hd) (by omega) hD) rfl rfl kX4_goOn mlX6_156 dX6_foresee_36 (ok0 (by omega)) rfl rfl rfl (Nat.le_of_ble_eq_true rfl) rfl (by decide) (by decide) ⟨by omega, by omega⟩ ?_
  refine z_istore_3 (pc := 39) E dX6_foresee_39 rfl ?_
  refine z_iload_2 (pc := 40) E dX6_foresee_40 ?_
  subst hw
  refine z_lsw (pc := 41) (tgt := 78) (off := 37) E dX6_foresee_41 (by decide) (by decide) (by decide) ?_
  refine z_aload_0 (pc := 78) E dX6_foresee_78 ?_
  refine z_get (pc := 79) E dX6_foresee_79 fiX6_16 ok14 rfl rfl ?_
  refine z_iconst (v := 2) (pc := 82) E dX6_foresee_82 (by decide) ?_
  refine z_ivp (pc := 83) E (m_X4_ticketsIn _ _ n _ (by decide) ((goN_0 (by decide) (by decide) _).trans ((shopC_0 (by decide)).trans hn)) h40) rfl rfl kX4_ticketsIn mlX6_166 dX6_foresee_83 (ok0 (by omega)) rfl rfl rfl (Nat.le_of_ble_eq_true rfl) rfl (by decide) (by decide) ⟨by omega, by omega⟩ ?_
  exact z_xiret (pc := 86) E dX6_foresee_86 (by omega) (by omega) ⟨by unfold foreseeK; rw [if_pos (b2_n0 h8), if_pos (b2_n0 h17)], D, hD1, hD, rfl, rfl, rfl⟩

set_option maxRecDepth 100000 in
set_option maxHeartbeats 4000000 in
theorem m_X6_at (M : Mem) (sh pl : Int32) : XI yX6_at cX6_at 3 (some .int) 7 1 6 (fun G => [.ref (ad G 14 0 0), .int sh, .int pl]) M (fun r M' => ∃ i p : Nat, i < 3 ∧ p < 10 * (i + 1) ∧ sh = nI i ∧ pl = nI p ∧ r = M 4 0 i p ∧ M' = M) (fun Ex M' => M' = M ∧ Ex = IOB ∧ ¬ plcP sh pl) := by
  refine XI.mk (own := RX6) (by decide +kernel) rfl (fun _ => rfl) (fun _ => Nat.le_of_ble_eq_true rfl) (lv0 := fun G => [some (.ref (ad G 14 0 0)), some (.int sh), some (.int pl)]) (fun _ => rfl) (fun X G E hX => ?_)
  refine z_aload_0 (pc := 0) E dX6_at_0 ?_
  refine z_get (pc := 1) E dX6_at_1 fiX6_10 ok14 rfl rfl ?_
  refine z_get (pc := 4) E dX6_at_4 fiX6_82 (ok0 (by omega)) rfl rfl ?_
  refine z_iload_1 (pc := 7) E dX6_at_7 ?_
  refine z_iload_2 (pc := 8) E dX6_at_8 ?_
  refine z_iv (pc := 9) E (m_X2_hasPlace _ _ _ _ (by decide)) rfl rfl kX2_hasPlace mlX6_140 dX6_at_9 (ok15 (by omega)) rfl rfl rfl (Nat.le_of_ble_eq_true rfl) rfl (by decide) (by decide) ⟨by omega, by omega⟩ (fun _ _ _ => Or.inl rfl) (fun r9 M9 hM9 => ?_)
  obtain ⟨rfl, hM9⟩ := hM9
  refine z_chkI (pc := 12) E hX (m_X6_checkIndex _ _) rfl rfl kX6_checkIndex mlX6_46 dX6_at_12 rfl (by decide) rfl (Nat.le_of_ble_eq_true rfl) (by decide) ⟨by omega, by omega⟩ (fun Ex M' hx => ⟨hx.2.2, hx.1, (hM9.resolve_left (fun z => absurd (z.1.symm.trans hx.2.1) (by decide))).2⟩) (fun h12 => ?_)
  obtain ⟨i, p, hi, hp, rfl, rfl⟩ := (hM9.resolve_right (fun z => h12 z.1)).2
  refine z_aload_0 (pc := 15) E dX6_at_15 ?_
  refine z_get (pc := 16) E dX6_at_16 fiX6_10 ok14 rfl rfl ?_
  refine z_get (pc := 19) E dX6_at_19 fiX6_82 (ok0 (by omega)) rfl rfl ?_
  refine z_get (pc := 22) E dX6_at_22 fiX6_143 (ok15 (by omega)) rfl rfl ?_
  refine z_iload_1 (pc := 25) E dX6_at_25 ?_
  refine z_aald (t0 := 3) (pc := 26) E dX6_at_26 (ok20 (by omega)) rfl rfl rfl (by omega) (by omega) rfl ?_
  refine z_get (pc := 27) E dX6_at_27 fiX6_147 (ok16 (by omega) (by omega)) rfl rfl ?_
  refine z_iload_2 (pc := 30) E dX6_at_30 ?_
  refine z_iald (pc := 31) E dX6_at_31 (ok4 (by omega) (by omega)) rfl rfl (by omega) (by omega) ?_
  exact z_xiret (pc := 32) E dX6_at_32 (by omega) (by omega) ⟨i, p, hi, hp, rfl, rfl, rfl, rfl⟩

