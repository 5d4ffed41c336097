/-! the law's wrappers -/

set_option maxRecDepth 100000 in
set_option maxHeartbeats 4000000 in
theorem m_X6_foresee_x (M : Mem) (n cN d : Nat) (x w : Int32) (hw : ¬ (0 ≤ w ∧ w ≤ 2)) : XI yX6_foresee cX6_foresee 4 (some .int) 7 2 12 (fun G => [.ref (ad G 14 0 0), .int x, .int w]) M (fun r M' => False) (fun Ex M' => M' = M ∧ ((Ex = IAE ∧ foreseeK x w = 1) ∨ (Ex = IOB ∧ foreseeK x w = 2))) := by
  refine XI.mk (own := RX6) (by decide +kernel) rfl (fun _ => rfl) (fun _ => Nat.le_of_ble_eq_true rfl) (lv0 := fun G => [some (.ref (ad G 14 0 0)), some (.int x), some (.int w), none]) (fun _ => rfl) (fun X G E hX => ?_)
  refine z_iload_1 (pc := 0) E dX6_foresee_0 ?_
  refine z_iconst (v := 1) (pc := 1) E dX6_foresee_1 (by decide) ?_
  refine z_sipush (v := 200) (pc := 2) E dX6_foresee_2 (by decide) ?_
  refine z_isp (pc := 5) E (m_X6_isWithin _ _ _ _) rfl rfl kX6_isWithin mlX6_23 dX6_foresee_5 rfl (Nat.le_of_ble_eq_true rfl) rfl (by decide) (by decide) ⟨by omega, by omega⟩ ?_
  refine z_chkI (pc := 8) E hX (m_X6_checkArgument _ _) rfl rfl kX6_checkArgument mlX6_27 dX6_foresee_8 rfl (by decide) rfl (Nat.le_of_ble_eq_true rfl) (by decide) ⟨by omega, by omega⟩ (fun Ex M9 hx => ⟨hx.2.2, Or.inl ⟨hx.1, by unfold foreseeK; rw [if_neg (b2_e0 hx.2.1)]⟩⟩) (fun h8 => ?_)
  refine z_iload_2 (pc := 11) E dX6_foresee_11 ?_
  refine z_iconst (v := 0) (pc := 12) E dX6_foresee_12 (by decide) ?_
  refine z_iconst (v := 2) (pc := 13) E dX6_foresee_13 (by decide) ?_
  refine z_isp (pc := 14) E (m_X6_isWithin _ _ _ _) rfl rfl kX6_isWithin mlX6_23 dX6_foresee_14 rfl (Nat.le_of_ble_eq_true rfl) rfl (by decide) (by decide) ⟨by omega, by omega⟩ ?_
  refine z_chkI (pc := 17) E hX (m_X6_checkIndex _ _) rfl rfl kX6_checkIndex mlX6_46 dX6_foresee_17 rfl (by decide) rfl (Nat.le_of_ble_eq_true rfl) (by decide) ⟨by omega, by omega⟩ (fun Ex M9 hx => ⟨hx.2.2, Or.inr (⟨hx.1, by unfold foreseeK; rw [if_pos (b2_n0 h8), if_neg (b2_e0 hx.2.1)]⟩)⟩) (fun h17 => ?_)
  exact absurd (b2_n0 h17) hw

set_option maxRecDepth 100000 in
set_option maxHeartbeats 4000000 in
theorem w_come (M : Mem) (cN : Nat) (x : Int32) (hc : M 0 0 0 3 = nI cN) (h10 : cN ≤ 10) : WC yL_come cL_come 4 [(0, 9, 12, 13), (0, 9, 15, 15)] 8 2 12 (fun G => [.ref (ad G 14 0 0), .int x, .ref (ad G 21 0 0)]) M (fun k9 M' => (k9 = 0 ∧ ∃ v9 M1, (fun r M' => comeK M x = 0 ∧ cN < 10 ∧ r = nI cN ∧ M' = mset (mset (mset M 1 0 cN 0 x) 1 0 cN 1 5) 0 0 0 3 (nI (cN + 1))) v9 M1 ∧ M' = mset M1 21 0 0 0 v9) ∨ (M' = M ∧ ¬ comeK M x = 0 ∧ k9 = nI (comeK M x))) := by
  refine WC.mk (own := RL) (by decide +kernel) rfl (fun _ => rfl) (fun _ => Nat.le_of_ble_eq_true rfl) (lv0 := fun G => [some (.ref (ad G 14 0 0)), some (.int x), some (.ref (ad G 21 0 0)), none]) (fun _ => rfl) (fun X G E hX => ?_)
  refine z_aload_2 (pc := 0) E dL_come_0 ?_
  refine z_iconst (v := 0) (pc := 1) E dL_come_1 (by decide) ?_
  refine z_aload_0 (pc := 2) E dL_come_2 ?_
  refine z_iload_1 (pc := 3) E dL_come_3 ?_
  refine z_xcI (pc := 4) E hX (m_X6_come M cN x hc h10) rfl rfl kX6_come mlL_7 dL_come_4 ok14 rfl rfl rfl (Nat.le_of_ble_eq_true rfl) rfl (by decide) (by decide) ⟨by omega, by omega⟩ (fun Ex M9 hx => ?_) (fun r M9 hr => ?_)
  · have hM9 := hx.1
    rcases hx.2 with ⟨rfl, hk⟩ | ⟨rfl, hk⟩
    · refine ⟨[], ⟨0, 9, 12, 13⟩, [⟨0, 9, 15, 15⟩], rfl, (fun _ h => absurd h List.not_mem_nil), by decide, by decide, clL_13, by decide +kernel, fun q => z_mem hM9.symm ?_⟩
      refine z_astore_3 (pc := 12) E dL_come_12 rfl ?_
      refine z_iconst (v := 1) (pc := 13) E dL_come_13 (by decide) ?_
      exact z_wret (pc := 14) E dL_come_14 (by omega) (by omega) (Or.inr ⟨rfl, by rw [hk]; decide, by rw [hk]; rfl⟩)
    · refine ⟨[⟨0, 9, 12, 13⟩], ⟨0, 9, 15, 15⟩, [], rfl, (List.forall_mem_cons.mpr ⟨Or.inr ⟨by decide, IAE, clL_13, by decide +kernel⟩, (fun _ h => absurd h List.not_mem_nil)⟩), by decide, by decide, clL_15, by decide +kernel, fun q => z_mem hM9.symm ?_⟩
      refine z_astore_3 (pc := 15) E dL_come_15 rfl ?_
      refine z_iconst (v := 2) (pc := 16) E dL_come_16 (by decide) ?_
      exact z_wret (pc := 17) E dL_come_17 (by omega) (by omega) (Or.inr ⟨rfl, by rw [hk]; decide, by rw [hk]; rfl⟩)
  · refine z_i2l (pc := 7) E dL_come_7 ?_
    refine z_last (pc := 8) E dL_come_8 ?_
    refine z_goto (pc := 9) (tgt := 18) E dL_come_9 (by decide) ?_
    refine z_iconst (v := 0) (pc := 18) E dL_come_18 (by decide) ?_
    exact z_wret (pc := 19) E dL_come_19 (by omega) (by omega) (Or.inl ⟨rfl, r, M9, hr, rfl⟩)

set_option maxRecDepth 100000 in
set_option maxHeartbeats 4000000 in
theorem w_earn (M : Mem) (cN : Nat) (c x : Int32) (hc : M 0 0 0 3 = nI cN) (h10 : cN ≤ 10) : WC yL_earn cL_earn 5 [(0, 10, 13, 21), (0, 10, 17, 13)] 8 2 12 (fun G => [.ref (ad G 14 0 0), .int c, .int x, .ref (ad G 21 0 0)]) M (fun k9 M' => (k9 = 0 ∧ ∃ v9 M1, (fun r M' => earnK M c x = 0 ∧ ∃ i, i < cN ∧ c = nI i ∧ r = M 1 0 i 0 + x ∧ M' = mset M 1 0 i 0 (M 1 0 i 0 + x)) v9 M1 ∧ M' = mset M1 21 0 0 0 v9) ∨ (M' = M ∧ ¬ earnK M c x = 0 ∧ k9 = nI (earnK M c x))) := by
  refine WC.mk (own := RL) (by decide +kernel) rfl (fun _ => rfl) (fun _ => Nat.le_of_ble_eq_true rfl) (lv0 := fun G => [some (.ref (ad G 14 0 0)), some (.int c), some (.int x), some (.ref (ad G 21 0 0)), none]) (fun _ => rfl) (fun X G E hX => ?_)
  refine z_aload_3 (pc := 0) E dL_earn_0 ?_
  refine z_iconst (v := 0) (pc := 1) E dL_earn_1 (by decide) ?_
  refine z_aload_0 (pc := 2) E dL_earn_2 ?_
  refine z_iload_1 (pc := 3) E dL_earn_3 ?_
  refine z_iload_2 (pc := 4) E dL_earn_4 ?_
  refine z_xcI (pc := 5) E hX (m_X6_earn M cN c x hc h10) rfl rfl kX6_earn mlL_17 dL_earn_5 ok14 rfl rfl rfl (Nat.le_of_ble_eq_true rfl) rfl (by decide) (by decide) ⟨by omega, by omega⟩ (fun Ex M9 hx => ?_) (fun r M9 hr => ?_)
  · have hM9 := hx.1
    rcases hx.2 with ⟨rfl, hk⟩ | ⟨rfl, hk⟩
    · refine ⟨[], ⟨0, 10, 13, 21⟩, [⟨0, 10, 17, 13⟩], rfl, (fun _ h => absurd h List.not_mem_nil), by decide, by decide, clL_21, by decide +kernel, fun q => z_mem hM9.symm ?_⟩
      refine z_astore_4 (pc := 13) E dL_earn_13 rfl ?_
      refine z_iconst (v := 1) (pc := 15) E dL_earn_15 (by decide) ?_
      exact z_wret (pc := 16) E dL_earn_16 (by omega) (by omega) (Or.inr ⟨rfl, by rw [hk]; decide, by rw [hk]; rfl⟩)
    · refine ⟨[⟨0, 10, 13, 21⟩], ⟨0, 10, 17, 13⟩, [], rfl, (List.forall_mem_cons.mpr ⟨Or.inr ⟨by decide, IOB, clL_21, by decide +kernel⟩, (fun _ h => absurd h List.not_mem_nil)⟩), by decide, by decide, clL_13, by decide +kernel, fun q => z_mem hM9.symm ?_⟩
      refine z_astore_4 (pc := 17) E dL_earn_17 rfl ?_
      refine z_iconst (v := 2) (pc := 19) E dL_earn_19 (by decide) ?_
      exact z_wret (pc := 20) E dL_earn_20 (by omega) (by omega) (Or.inr ⟨rfl, by rw [hk]; decide, by rw [hk]; rfl⟩)
  · refine z_i2l (pc := 8) E dL_earn_8 ?_
    refine z_last (pc := 9) E dL_earn_9 ?_
    refine z_goto (pc := 10) (tgt := 21) E dL_earn_10 (by decide) ?_
    refine z_iconst (v := 0) (pc := 21) E dL_earn_21 (by decide) ?_
    exact z_wret (pc := 22) E dL_earn_22 (by omega) (by omega) (Or.inl ⟨rfl, r, M9, hr, rfl⟩)

set_option maxRecDepth 100000 in
set_option maxHeartbeats 4000000 in
theorem w_setBuyer (M : Mem) (d k p : Int32) : WC yL_setBuyer cL_setBuyer 6 [(0, 12, 15, 21), (0, 12, 19, 13)] 8 2 12 (fun G => [.ref (ad G 14 0 0), .int d, .int k, .int p, .ref (ad G 21 0 0)]) M (fun k9 M' => (k9 = 0 ∧ ∃ v9 M1, (fun r M' => setBuyerK d k p = 0 ∧ ∃ j, j < 7 ∧ d = nI j ∧ r = M 3 0 j 0 ∧ M' = mset (mset M 3 0 j 0 k) 3 0 j 1 (if k = -1 then 0 else p)) v9 M1 ∧ M' = mset M1 21 0 0 0 v9) ∨ (M' = M ∧ ¬ setBuyerK d k p = 0 ∧ k9 = nI (setBuyerK d k p))) := by
  refine WC.mk (own := RL) (by decide +kernel) rfl (fun _ => rfl) (fun _ => Nat.le_of_ble_eq_true rfl) (lv0 := fun G => [some (.ref (ad G 14 0 0)), some (.int d), some (.int k), some (.int p), some (.ref (ad G 21 0 0)), none]) (fun _ => rfl) (fun X G E hX => ?_)
  refine z_aload_4 (pc := 0) E dL_setBuyer_0 ?_
  refine z_iconst (v := 0) (pc := 2) E dL_setBuyer_2 (by decide) ?_
  refine z_aload_0 (pc := 3) E dL_setBuyer_3 ?_
  refine z_iload_1 (pc := 4) E dL_setBuyer_4 ?_
  refine z_iload_2 (pc := 5) E dL_setBuyer_5 ?_
  refine z_iload_3 (pc := 6) E dL_setBuyer_6 ?_
  refine z_xcI (pc := 7) E hX (m_X6_setBuyer M d k p) rfl rfl kX6_setBuyer mlL_23 dL_setBuyer_7 ok14 rfl rfl rfl (Nat.le_of_ble_eq_true rfl) rfl (by decide) (by decide) ⟨by omega, by omega⟩ (fun Ex M9 hx => ?_) (fun r M9 hr => ?_)
  · have hM9 := hx.1
    rcases hx.2 with ⟨rfl, hk⟩ | ⟨rfl, hk⟩
    · refine ⟨[], ⟨0, 12, 15, 21⟩, [⟨0, 12, 19, 13⟩], rfl, (fun _ h => absurd h List.not_mem_nil), by decide, by decide, clL_21, by decide +kernel, fun q => z_mem hM9.symm ?_⟩
      refine z_astore_5 (pc := 15) E dL_setBuyer_15 rfl ?_
      refine z_iconst (v := 1) (pc := 17) E dL_setBuyer_17 (by decide) ?_
      exact z_wret (pc := 18) E dL_setBuyer_18 (by omega) (by omega) (Or.inr ⟨rfl, by rw [hk]; decide, by rw [hk]; rfl⟩)
    · refine ⟨[⟨0, 12, 15, 21⟩], ⟨0, 12, 19, 13⟩, [], rfl, (List.forall_mem_cons.mpr ⟨Or.inr ⟨by decide, IOB, clL_21, by decide +kernel⟩, (fun _ h => absurd h List.not_mem_nil)⟩), by decide, by decide, clL_13, by decide +kernel, fun q => z_mem hM9.symm ?_⟩
      refine z_astore_5 (pc := 19) E dL_setBuyer_19 rfl ?_
      refine z_iconst (v := 2) (pc := 21) E dL_setBuyer_21 (by decide) ?_
      exact z_wret (pc := 22) E dL_setBuyer_22 (by omega) (by omega) (Or.inr ⟨rfl, by rw [hk]; decide, by rw [hk]; rfl⟩)
  · refine z_i2l (pc := 10) E dL_setBuyer_10 ?_
    refine z_last (pc := 11) E dL_setBuyer_11 ?_
    refine z_goto (pc := 12) (tgt := 23) E dL_setBuyer_12 (by decide) ?_
    refine z_iconst (v := 0) (pc := 23) E dL_setBuyer_23 (by decide) ?_
    exact z_wret (pc := 24) E dL_setBuyer_24 (by omega) (by omega) (Or.inl ⟨rfl, r, M9, hr, rfl⟩)

set_option maxRecDepth 100000 in
set_option maxHeartbeats 4000000 in
theorem w_customer (M : Mem) (n cN : Nat) (c w : Int32) (hn : M 0 0 0 4 = nI n) (h40 : n ≤ 40) (hc : M 0 0 0 3 = nI cN) (h10 : cN ≤ 10) : WC yL_customer cL_customer 5 [(0, 10, 13, 21)] 8 1 6 (fun G => [.ref (ad G 14 0 0), .int c, .int w, .ref (ad G 21 0 0)]) M (fun k9 M' => (k9 = 0 ∧ ∃ v9 M1, (fun r M' => customerK M c w = 0 ∧ ∃ i j, i < cN ∧ j < 5 ∧ c = nI i ∧ w = nI j ∧ r = custV M 0 n i j ∧ M' = M) v9 M1 ∧ M' = mset M1 21 0 0 0 v9) ∨ (M' = M ∧ ¬ customerK M c w = 0 ∧ k9 = nI (customerK M c w))) := by
  refine WC.mk (own := RL) (by decide +kernel) rfl (fun _ => rfl) (fun _ => Nat.le_of_ble_eq_true rfl) (lv0 := fun G => [some (.ref (ad G 14 0 0)), some (.int c), some (.int w), some (.ref (ad G 21 0 0)), none]) (fun _ => rfl) (fun X G E hX => ?_)
  refine z_aload_3 (pc := 0) E dL_customer_0 ?_
  refine z_iconst (v := 0) (pc := 1) E dL_customer_1 (by decide) ?_
  refine z_aload_0 (pc := 2) E dL_customer_2 ?_
  refine z_iload_1 (pc := 3) E dL_customer_3 ?_
  refine z_iload_2 (pc := 4) E dL_customer_4 ?_
  refine z_xcI (pc := 5) E hX (m_X6_customer M n cN c w hn h40 hc h10) rfl rfl kX6_customer mlL_27 dL_customer_5 ok14 rfl rfl rfl (Nat.le_of_ble_eq_true rfl) rfl (by decide) (by decide) ⟨by omega, by omega⟩ (fun Ex M9 hx => ?_) (fun r M9 hr => ?_)
  · have hM9 := hx.1
    obtain ⟨rfl, hk⟩ := hx.2
    refine ⟨[], ⟨0, 10, 13, 21⟩, [], rfl, (fun _ h => absurd h List.not_mem_nil), by decide, by decide, clL_21, by decide +kernel, fun q => z_mem hM9.symm ?_⟩
    refine z_astore_4 (pc := 13) E dL_customer_13 rfl ?_
    refine z_iconst (v := 1) (pc := 15) E dL_customer_15 (by decide) ?_
    exact z_wret (pc := 16) E dL_customer_16 (by omega) (by omega) (Or.inr ⟨rfl, by rw [hk]; decide, by rw [hk]; rfl⟩)
  · refine z_i2l (pc := 8) E dL_customer_8 ?_
    refine z_last (pc := 9) E dL_customer_9 ?_
    refine z_goto (pc := 10) (tgt := 17) E dL_customer_10 (by decide) ?_
    refine z_iconst (v := 0) (pc := 17) E dL_customer_17 (by decide) ?_
    exact z_wret (pc := 18) E dL_customer_18 (by omega) (by omega) (Or.inl ⟨rfl, r, M9, hr, rfl⟩)

set_option maxRecDepth 100000 in
set_option maxHeartbeats 4000000 in
theorem w_ticket (M : Mem) (n : Nat) (t w : Int32) (hn : M 0 0 0 4 = nI n) (h40 : n ≤ 40) : WC yL_ticket cL_ticket 5 [(0, 10, 13, 21)] 8 1 6 (fun G => [.ref (ad G 14 0 0), .int t, .int w, .ref (ad G 21 0 0)]) M (fun k9 M' => (k9 = 0 ∧ ∃ v9 M1, (fun r M' => ticketK M t w = 0 ∧ ∃ i j, i < n ∧ j < 11 ∧ t = nI i ∧ w = nI j ∧ r = tickV M 0 i j ∧ M' = M) v9 M1 ∧ M' = mset M1 21 0 0 0 v9) ∨ (M' = M ∧ ¬ ticketK M t w = 0 ∧ k9 = nI (ticketK M t w))) := by
  refine WC.mk (own := RL) (by decide +kernel) rfl (fun _ => rfl) (fun _ => Nat.le_of_ble_eq_true rfl) (lv0 := fun G => [some (.ref (ad G 14 0 0)), some (.int t), some (.int w), some (.ref (ad G 21 0 0)), none]) (fun _ => rfl) (fun X G E hX => ?_)
  refine z_aload_3 (pc := 0) E dL_ticket_0 ?_
  refine z_iconst (v := 0) (pc := 1) E dL_ticket_1 (by decide) ?_
  refine z_aload_0 (pc := 2) E dL_ticket_2 ?_
  refine z_iload_1 (pc := 3) E dL_ticket_3 ?_
  refine z_iload_2 (pc := 4) E dL_ticket_4 ?_
  refine z_xcI (pc := 5) E hX (m_X6_ticket M n t w hn h40) rfl rfl kX6_ticket mlL_34 dL_ticket_5 ok14 rfl rfl rfl (Nat.le_of_ble_eq_true rfl) rfl (by decide) (by decide) ⟨by omega, by omega⟩ (fun Ex M9 hx => ?_) (fun r M9 hr => ?_)
  · have hM9 := hx.1
    obtain ⟨rfl, hk⟩ := hx.2
    refine ⟨[], ⟨0, 10, 13, 21⟩, [], rfl, (fun _ h => absurd h List.not_mem_nil), by decide, by decide, clL_21, by decide +kernel, fun q => z_mem hM9.symm ?_⟩
    refine z_astore_4 (pc := 13) E dL_ticket_13 rfl ?_
    refine z_iconst (v := 1) (pc := 15) E dL_ticket_15 (by decide) ?_
    exact z_wret (pc := 16) E dL_ticket_16 (by omega) (by omega) (Or.inr ⟨rfl, by rw [hk]; decide, by rw [hk]; rfl⟩)
  · refine z_i2l (pc := 8) E dL_ticket_8 ?_
    refine z_last (pc := 9) E dL_ticket_9 ?_
    refine z_goto (pc := 10) (tgt := 17) E dL_ticket_10 (by decide) ?_
    refine z_iconst (v := 0) (pc := 17) E dL_ticket_17 (by decide) ?_
    exact z_wret (pc := 18) E dL_ticket_18 (by omega) (by omega) (Or.inl ⟨rfl, r, M9, hr, rfl⟩)

set_option maxRecDepth 100000 in
set_option maxHeartbeats 4000000 in
theorem w_owes (M : Mem) (n : Nat) (t : Int32) (hn : M 0 0 0 4 = nI n) (h40 : n ≤ 40) : WC yL_owes cL_owes 4 [(0, 9, 12, 21)] 8 1 6 (fun G => [.ref (ad G 14 0 0), .int t, .ref (ad G 21 0 0)]) M (fun k9 M' => (k9 = 0 ∧ ∃ v9 M1, (fun r M' => owesK M t = 0 ∧ ∃ i, i < n ∧ t = nI i ∧ r = debtV M 0 i (M 0 0 0 0) ∧ M' = M) v9 M1 ∧ M' = mset M1 21 0 0 0 v9) ∨ (M' = M ∧ ¬ owesK M t = 0 ∧ k9 = nI (owesK M t))) := by
  refine WC.mk (own := RL) (by decide +kernel) rfl (fun _ => rfl) (fun _ => Nat.le_of_ble_eq_true rfl) (lv0 := fun G => [some (.ref (ad G 14 0 0)), some (.int t), some (.ref (ad G 21 0 0)), none]) (fun _ => rfl) (fun X G E hX => ?_)
  refine z_aload_2 (pc := 0) E dL_owes_0 ?_
  refine z_iconst (v := 0) (pc := 1) E dL_owes_1 (by decide) ?_
  refine z_aload_0 (pc := 2) E dL_owes_2 ?_
  refine z_iload_1 (pc := 3) E dL_owes_3 ?_
  refine z_xcI (pc := 4) E hX (m_X6_owes M n t hn h40) rfl rfl kX6_owes mlL_37 dL_owes_4 ok14 rfl rfl rfl (Nat.le_of_ble_eq_true rfl) rfl (by decide) (by decide) ⟨by omega, by omega⟩ (fun Ex M9 hx => ?_) (fun r M9 hr => ?_)
  · have hM9 := hx.1
    obtain ⟨rfl, hk⟩ := hx.2
    refine ⟨[], ⟨0, 9, 12, 21⟩, [], rfl, (fun _ h => absurd h List.not_mem_nil), by decide, by decide, clL_21, by decide +kernel, fun q => z_mem hM9.symm ?_⟩
    refine z_astore_3 (pc := 12) E dL_owes_12 rfl ?_
    refine z_iconst (v := 1) (pc := 13) E dL_owes_13 (by decide) ?_
    exact z_wret (pc := 14) E dL_owes_14 (by omega) (by omega) (Or.inr ⟨rfl, by rw [hk]; decide, by rw [hk]; rfl⟩)
  · refine z_i2l (pc := 7) E dL_owes_7 ?_
    refine z_last (pc := 8) E dL_owes_8 ?_
    refine z_goto (pc := 9) (tgt := 15) E dL_owes_9 (by decide) ?_
    refine z_iconst (v := 0) (pc := 15) E dL_owes_15 (by decide) ?_
    exact z_wret (pc := 16) E dL_owes_16 (by omega) (by omega) (Or.inl ⟨rfl, r, M9, hr, rfl⟩)

set_option maxRecDepth 100000 in
set_option maxHeartbeats 4000000 in
theorem w_renew (M : Mem) (n cN : Nat) (t : Int32) (hn : M 0 0 0 4 = nI n) (h40 : n ≤ 40) (hc : M 0 0 0 3 = nI cN) (h10 : cN ≤ 10) (how : ∀ t, t < n → ∃ i, i < cN ∧ M 2 0 t 0 = nI i) : WC yL_renew cL_renew 4 [(0, 9, 12, 21), (0, 9, 15, 15)] 8 3 18 (fun G => [.ref (ad G 14 0 0), .int t, .ref (ad G 21 0 0)]) M (fun k9 M' => (k9 = 0 ∧ ∃ v9 M1, (fun r M' => renewK M t = 0 ∧ ∃ i a, i < n ∧ a < cN ∧ t = nI i ∧ M 2 0 i 0 = nI a ∧ r = (intr (M 0 0 0 0) (M 2 0 i 5) (M 2 0 i 4)) ∧ M' = mset (mset (mset (mset (mset (mset M 1 0 a 0 (M 1 0 a 0 - (intr (M 0 0 0 0) (M 2 0 i 5) (M 2 0 i 4)))) 0 0 0 1 (M 0 0 0 1 + (intr (M 0 0 0 0) (M 2 0 i 5) (M 2 0 i 4)))) 0 0 0 2 (M 0 0 0 2 + (intr (M 0 0 0 0) (M 2 0 i 5) (M 2 0 i 4)))) 2 0 i 5 (M 0 0 0 0)) 2 0 i 6 (M 0 0 0 0 + 60)) 2 0 i 9 (M 2 0 i 9 + 1)) v9 M1 ∧ M' = mset M1 21 0 0 0 v9) ∨ (M' = M ∧ ¬ renewK M t = 0 ∧ k9 = nI (renewK M t))) := by
  refine WC.mk (own := RL) (by decide +kernel) rfl (fun _ => rfl) (fun _ => Nat.le_of_ble_eq_true rfl) (lv0 := fun G => [some (.ref (ad G 14 0 0)), some (.int t), some (.ref (ad G 21 0 0)), none]) (fun _ => rfl) (fun X G E hX => ?_)
  refine z_aload_2 (pc := 0) E dL_renew_0 ?_
  refine z_iconst (v := 0) (pc := 1) E dL_renew_1 (by decide) ?_
  refine z_aload_0 (pc := 2) E dL_renew_2 ?_
  refine z_iload_1 (pc := 3) E dL_renew_3 ?_
  refine z_xcI (pc := 4) E hX (m_X6_renew M n cN t hn h40 hc h10 how) rfl rfl kX6_renew mlL_40 dL_renew_4 ok14 rfl rfl rfl (Nat.le_of_ble_eq_true rfl) rfl (by decide) (by decide) ⟨by omega, by omega⟩ (fun Ex M9 hx => ?_) (fun r M9 hr => ?_)
  · have hM9 := hx.1
    rcases hx.2 with ⟨rfl, hk⟩ | ⟨rfl, hk⟩
    · refine ⟨[], ⟨0, 9, 12, 21⟩, [⟨0, 9, 15, 15⟩], rfl, (fun _ h => absurd h List.not_mem_nil), by decide, by decide, clL_21, by decide +kernel, fun q => z_mem hM9.symm ?_⟩
      refine z_astore_3 (pc := 12) E dL_renew_12 rfl ?_
      refine z_iconst (v := 1) (pc := 13) E dL_renew_13 (by decide) ?_
      exact z_wret (pc := 14) E dL_renew_14 (by omega) (by omega) (Or.inr ⟨rfl, by rw [hk]; decide, by rw [hk]; rfl⟩)
    · refine ⟨[⟨0, 9, 12, 21⟩], ⟨0, 9, 15, 15⟩, [], rfl, (List.forall_mem_cons.mpr ⟨Or.inr ⟨by decide, IOB, clL_21, by decide +kernel⟩, (fun _ h => absurd h List.not_mem_nil)⟩), by decide, by decide, clL_15, by decide +kernel, fun q => z_mem hM9.symm ?_⟩
      refine z_astore_3 (pc := 15) E dL_renew_15 rfl ?_
      refine z_iconst (v := 2) (pc := 16) E dL_renew_16 (by decide) ?_
      exact z_wret (pc := 17) E dL_renew_17 (by omega) (by omega) (Or.inr ⟨rfl, by rw [hk]; decide, by rw [hk]; rfl⟩)
  · refine z_i2l (pc := 7) E dL_renew_7 ?_
    refine z_last (pc := 8) E dL_renew_8 ?_
    refine z_goto (pc := 9) (tgt := 18) E dL_renew_9 (by decide) ?_
    refine z_iconst (v := 0) (pc := 18) E dL_renew_18 (by decide) ?_
    exact z_wret (pc := 19) E dL_renew_19 (by omega) (by omega) (Or.inl ⟨rfl, r, M9, hr, rfl⟩)

set_option maxRecDepth 100000 in
set_option maxHeartbeats 4000000 in
theorem w_fetch (M : Mem) (n cN : Nat) (t : Int32) (hn : M 0 0 0 4 = nI n) (h40 : n ≤ 40) (hc : M 0 0 0 3 = nI cN) (h10 : cN ≤ 10) (how : ∀ t, t < n → ∃ i, i < cN ∧ M 2 0 t 0 = nI i) : WC yL_fetch cL_fetch 4 [(0, 9, 12, 21), (0, 9, 15, 15)] 8 3 18 (fun G => [.ref (ad G 14 0 0), .int t, .ref (ad G 21 0 0)]) M (fun k9 M' => (k9 = 0 ∧ ∃ v9 M1, (fun r M' => fetchK M t = 0 ∧ ∃ i a, i < n ∧ a < cN ∧ t = nI i ∧ M 2 0 i 0 = nI a ∧ r = (debtV M 0 i (M 0 0 0 0)) ∧ M' = mset (clrM (mset (mset (mset (mset M 1 0 a 0 (M 1 0 a 0 - (debtV M 0 i (M 0 0 0 0)))) 0 0 0 1 (M 0 0 0 1 + (debtV M 0 i (M 0 0 0 0)))) 0 0 0 2 (M 0 0 0 2 + (intr (M 0 0 0 0) (M 2 0 i 5) (M 2 0 i 4)))) 2 0 i 7 1) 0 (nI i) 3) 1 0 a 1 (trV (M 1 0 a 1) 1)) v9 M1 ∧ M' = mset M1 21 0 0 0 v9) ∨ (M' = M ∧ ¬ fetchK M t = 0 ∧ k9 = nI (fetchK M t))) := by
  refine WC.mk (own := RL) (by decide +kernel) rfl (fun _ => rfl) (fun _ => Nat.le_of_ble_eq_true rfl) (lv0 := fun G => [some (.ref (ad G 14 0 0)), some (.int t), some (.ref (ad G 21 0 0)), none]) (fun _ => rfl) (fun X G E hX => ?_)
  refine z_aload_2 (pc := 0) E dL_fetch_0 ?_
  refine z_iconst (v := 0) (pc := 1) E dL_fetch_1 (by decide) ?_
  refine z_aload_0 (pc := 2) E dL_fetch_2 ?_
  refine z_iload_1 (pc := 3) E dL_fetch_3 ?_
  refine z_xcI (pc := 4) E hX (m_X6_fetch M n cN t hn h40 hc h10 how) rfl rfl kX6_fetch mlL_43 dL_fetch_4 ok14 rfl rfl rfl (Nat.le_of_ble_eq_true rfl) rfl (by decide) (by decide) ⟨by omega, by omega⟩ (fun Ex M9 hx => ?_) (fun r M9 hr => ?_)
  · have hM9 := hx.1
    rcases hx.2 with ⟨rfl, hk⟩ | ⟨rfl, hk⟩
    · refine ⟨[], ⟨0, 9, 12, 21⟩, [⟨0, 9, 15, 15⟩], rfl, (fun _ h => absurd h List.not_mem_nil), by decide, by decide, clL_21, by decide +kernel, fun q => z_mem hM9.symm ?_⟩
      refine z_astore_3 (pc := 12) E dL_fetch_12 rfl ?_
      refine z_iconst (v := 1) (pc := 13) E dL_fetch_13 (by decide) ?_
      exact z_wret (pc := 14) E dL_fetch_14 (by omega) (by omega) (Or.inr ⟨rfl, by rw [hk]; decide, by rw [hk]; rfl⟩)
    · refine ⟨[⟨0, 9, 12, 21⟩], ⟨0, 9, 15, 15⟩, [], rfl, (List.forall_mem_cons.mpr ⟨Or.inr ⟨by decide, IOB, clL_21, by decide +kernel⟩, (fun _ h => absurd h List.not_mem_nil)⟩), by decide, by decide, clL_15, by decide +kernel, fun q => z_mem hM9.symm ?_⟩
      refine z_astore_3 (pc := 15) E dL_fetch_15 rfl ?_
      refine z_iconst (v := 2) (pc := 16) E dL_fetch_16 (by decide) ?_
      exact z_wret (pc := 17) E dL_fetch_17 (by omega) (by omega) (Or.inr ⟨rfl, by rw [hk]; decide, by rw [hk]; rfl⟩)
  · refine z_i2l (pc := 7) E dL_fetch_7 ?_
    refine z_last (pc := 8) E dL_fetch_8 ?_
    refine z_goto (pc := 9) (tgt := 18) E dL_fetch_9 (by decide) ?_
    refine z_iconst (v := 0) (pc := 18) E dL_fetch_18 (by decide) ?_
    exact z_wret (pc := 19) E dL_fetch_19 (by omega) (by omega) (Or.inl ⟨rfl, r, M9, hr, rfl⟩)

set_option maxRecDepth 100000 in
set_option maxHeartbeats 4000000 in
theorem w_room (M : Mem) (w : Int32) : WC yL_room cL_room 4 [(0, 9, 12, 13)] 8 1 6 (fun G => [.ref (ad G 14 0 0), .int w, .ref (ad G 21 0 0)]) M (fun k9 M' => (k9 = 0 ∧ ∃ v9 M1, (fun r M' => roomK w = 0 ∧ r = spotF M 0 w 3 0 ∧ M' = M) v9 M1 ∧ M' = mset M1 21 0 0 0 v9) ∨ (M' = M ∧ ¬ roomK w = 0 ∧ k9 = nI (roomK w))) := by
  refine WC.mk (own := RL) (by decide +kernel) rfl (fun _ => rfl) (fun _ => Nat.le_of_ble_eq_true rfl) (lv0 := fun G => [some (.ref (ad G 14 0 0)), some (.int w), some (.ref (ad G 21 0 0)), none]) (fun _ => rfl) (fun X G E hX => ?_)
  refine z_aload_2 (pc := 0) E dL_room_0 ?_
  refine z_iconst (v := 0) (pc := 1) E dL_room_1 (by decide) ?_
  refine z_aload_0 (pc := 2) E dL_room_2 ?_
  refine z_iload_1 (pc := 3) E dL_room_3 ?_
  refine z_xcI (pc := 4) E hX (m_X6_room M w) rfl rfl kX6_room mlL_49 dL_room_4 ok14 rfl rfl rfl (Nat.le_of_ble_eq_true rfl) rfl (by decide) (by decide) ⟨by omega, by omega⟩ (fun Ex M9 hx => ?_) (fun r M9 hr => ?_)
  · have hM9 := hx.1
    obtain ⟨rfl, hk⟩ := hx.2
    refine ⟨[], ⟨0, 9, 12, 13⟩, [], rfl, (fun _ h => absurd h List.not_mem_nil), by decide, by decide, clL_13, by decide +kernel, fun q => z_mem hM9.symm ?_⟩
    refine z_astore_3 (pc := 12) E dL_room_12 rfl ?_
    refine z_iconst (v := 1) (pc := 13) E dL_room_13 (by decide) ?_
    exact z_wret (pc := 14) E dL_room_14 (by omega) (by omega) (Or.inr ⟨rfl, by rw [hk]; decide, by rw [hk]; rfl⟩)
  · refine z_i2l (pc := 7) E dL_room_7 ?_
    refine z_last (pc := 8) E dL_room_8 ?_
    refine z_goto (pc := 9) (tgt := 15) E dL_room_9 (by decide) ?_
    refine z_iconst (v := 0) (pc := 15) E dL_room_15 (by decide) ?_
    exact z_wret (pc := 16) E dL_room_16 (by omega) (by omega) (Or.inl ⟨rfl, r, M9, hr, rfl⟩)

set_option maxRecDepth 100000 in
set_option maxHeartbeats 4000000 in
theorem w_pass (M : Mem) (n cN d : Nat) (x : Int32) (hn : M 0 0 0 4 = nI n) (h40 : n ≤ 40) (hc : M 0 0 0 3 = nI cN) (h10 : cN ≤ 10) (how : ∀ t, t < n → ∃ i, i < cN ∧ M 2 0 t 0 = nI i) (hd : M 0 0 0 0 = nI d) (hdD : d < 2 ^ 30) : WC yL_pass cL_pass 4 [(0, 9, 12, 13)] 8 1 6 (fun G => [.ref (ad G 14 0 0), .int x, .ref (ad G 21 0 0)]) M (fun k9 M' => (k9 = 0 ∧ ∃ v9 M1, (fun r M' => passK x = 0 ∧ ∃ D, 1 ≤ D ∧ D ≤ 200 ∧ x = nI D ∧ r = (goN M 0 n D).1 ∧ M' = (goN M 0 n D).2) v9 M1 ∧ M' = mset M1 21 0 0 0 v9) ∨ (M' = M ∧ ¬ passK x = 0 ∧ k9 = nI (passK x))) := by
  refine WC.mk (own := RL) (by decide +kernel) rfl (fun _ => rfl) (fun _ => Nat.le_of_ble_eq_true rfl) (lv0 := fun G => [some (.ref (ad G 14 0 0)), some (.int x), some (.ref (ad G 21 0 0)), none]) (fun _ => rfl) (fun X G E hX => ?_)
  refine z_aload_2 (pc := 0) E dL_pass_0 ?_
  refine z_iconst (v := 0) (pc := 1) E dL_pass_1 (by decide) ?_
  refine z_aload_0 (pc := 2) E dL_pass_2 ?_
  refine z_iload_1 (pc := 3) E dL_pass_3 ?_
  refine z_xcI (pc := 4) E hX (m_X6_pass M n cN d x hn h40 hc h10 how hd hdD) rfl rfl kX6_pass mlL_52 dL_pass_4 ok14 rfl rfl rfl (Nat.le_of_ble_eq_true rfl) rfl (by decide) (by decide) ⟨by omega, by omega⟩ (fun Ex M9 hx => ?_) (fun r M9 hr => ?_)
  · have hM9 := hx.1
    obtain ⟨rfl, hk⟩ := hx.2
    refine ⟨[], ⟨0, 9, 12, 13⟩, [], rfl, (fun _ h => absurd h List.not_mem_nil), by decide, by decide, clL_13, by decide +kernel, fun q => z_mem hM9.symm ?_⟩
    refine z_astore_3 (pc := 12) E dL_pass_12 rfl ?_
    refine z_iconst (v := 1) (pc := 13) E dL_pass_13 (by decide) ?_
    exact z_wret (pc := 14) E dL_pass_14 (by omega) (by omega) (Or.inr ⟨rfl, by rw [hk]; decide, by rw [hk]; rfl⟩)
  · refine z_i2l (pc := 7) E dL_pass_7 ?_
    refine z_last (pc := 8) E dL_pass_8 ?_
    refine z_goto (pc := 9) (tgt := 15) E dL_pass_9 (by decide) ?_
    refine z_iconst (v := 0) (pc := 15) E dL_pass_15 (by decide) ?_
    exact z_wret (pc := 16) E dL_pass_16 (by omega) (by omega) (Or.inl ⟨rfl, r, M9, hr, rfl⟩)

set_option maxRecDepth 100000 in
set_option maxHeartbeats 4000000 in
theorem w_count (M : Mem) (n : Nat) (w : Int32) (hn : M 0 0 0 4 = nI n) (h40 : n ≤ 40) : WC yL_count cL_count 4 [(0, 9, 12, 21)] 8 1 6 (fun G => [.ref (ad G 14 0 0), .int w, .ref (ad G 21 0 0)]) M (fun k9 M' => (k9 = 0 ∧ ∃ v9 M1, (fun r M' => countK w = 0 ∧ ∃ j, j < 11 ∧ w = nI j ∧ r = cntV M 0 n j ∧ M' = M) v9 M1 ∧ M' = mset M1 21 0 0 0 v9) ∨ (M' = M ∧ ¬ countK w = 0 ∧ k9 = nI (countK w))) := by
  refine WC.mk (own := RL) (by decide +kernel) rfl (fun _ => rfl) (fun _ => Nat.le_of_ble_eq_true rfl) (lv0 := fun G => [some (.ref (ad G 14 0 0)), some (.int w), some (.ref (ad G 21 0 0)), none]) (fun _ => rfl) (fun X G E hX => ?_)
  refine z_aload_2 (pc := 0) E dL_count_0 ?_
  refine z_iconst (v := 0) (pc := 1) E dL_count_1 (by decide) ?_
  refine z_aload_0 (pc := 2) E dL_count_2 ?_
  refine z_iload_1 (pc := 3) E dL_count_3 ?_
  refine z_xcI (pc := 4) E hX (m_X6_count M n w hn h40) rfl rfl kX6_count mlL_55 dL_count_4 ok14 rfl rfl rfl (Nat.le_of_ble_eq_true rfl) rfl (by decide) (by decide) ⟨by omega, by omega⟩ (fun Ex M9 hx => ?_) (fun r M9 hr => ?_)
  · have hM9 := hx.1
    obtain ⟨rfl, hk⟩ := hx.2
    refine ⟨[], ⟨0, 9, 12, 21⟩, [], rfl, (fun _ h => absurd h List.not_mem_nil), by decide, by decide, clL_21, by decide +kernel, fun q => z_mem hM9.symm ?_⟩
    refine z_astore_3 (pc := 12) E dL_count_12 rfl ?_
    refine z_iconst (v := 1) (pc := 13) E dL_count_13 (by decide) ?_
    exact z_wret (pc := 14) E dL_count_14 (by omega) (by omega) (Or.inr ⟨rfl, by rw [hk]; decide, by rw [hk]; rfl⟩)
  · refine z_i2l (pc := 7) E dL_count_7 ?_
    refine z_last (pc := 8) E dL_count_8 ?_
    refine z_goto (pc := 9) (tgt := 15) E dL_count_9 (by decide) ?_
    refine z_iconst (v := 0) (pc := 15) E dL_count_15 (by decide) ?_
    exact z_wret (pc := 16) E dL_count_16 (by omega) (by omega) (Or.inl ⟨rfl, r, M9, hr, rfl⟩)

set_option maxRecDepth 100000 in
set_option maxHeartbeats 4000000 in
theorem w_best (M : Mem) (n cN : Nat) (c : Int32) (hn : M 0 0 0 4 = nI n) (h40 : n ≤ 40) (hc : M 0 0 0 3 = nI cN) (h10 : cN ≤ 10) : WC yL_best cL_best 4 [(0, 9, 12, 21)] 8 1 6 (fun G => [.ref (ad G 14 0 0), .int c, .ref (ad G 21 0 0)]) M (fun k9 M' => (k9 = 0 ∧ ∃ v9 M1, (fun r M' => bestK M c = 0 ∧ ∃ i, i < cN ∧ c = nI i ∧ r = bestF M 0 i (M 0 0 0 0) n 0 (-1) 0 ∧ M' = M) v9 M1 ∧ M' = mset M1 21 0 0 0 v9) ∨ (M' = M ∧ ¬ bestK M c = 0 ∧ k9 = nI (bestK M c))) := by
  refine WC.mk (own := RL) (by decide +kernel) rfl (fun _ => rfl) (fun _ => Nat.le_of_ble_eq_true rfl) (lv0 := fun G => [some (.ref (ad G 14 0 0)), some (.int c), some (.ref (ad G 21 0 0)), none]) (fun _ => rfl) (fun X G E hX => ?_)
  refine z_aload_2 (pc := 0) E dL_best_0 ?_
  refine z_iconst (v := 0) (pc := 1) E dL_best_1 (by decide) ?_
  refine z_aload_0 (pc := 2) E dL_best_2 ?_
  refine z_iload_1 (pc := 3) E dL_best_3 ?_
  refine z_xcI (pc := 4) E hX (m_X6_best M n cN c hn h40 hc h10) rfl rfl kX6_best mlL_64 dL_best_4 ok14 rfl rfl rfl (Nat.le_of_ble_eq_true rfl) rfl (by decide) (by decide) ⟨by omega, by omega⟩ (fun Ex M9 hx => ?_) (fun r M9 hr => ?_)
  · have hM9 := hx.1
    obtain ⟨rfl, hk⟩ := hx.2
    refine ⟨[], ⟨0, 9, 12, 21⟩, [], rfl, (fun _ h => absurd h List.not_mem_nil), by decide, by decide, clL_21, by decide +kernel, fun q => z_mem hM9.symm ?_⟩
    refine z_astore_3 (pc := 12) E dL_best_12 rfl ?_
    refine z_iconst (v := 1) (pc := 13) E dL_best_13 (by decide) ?_
    exact z_wret (pc := 14) E dL_best_14 (by omega) (by omega) (Or.inr ⟨rfl, by rw [hk]; decide, by rw [hk]; rfl⟩)
  · refine z_i2l (pc := 7) E dL_best_7 ?_
    refine z_last (pc := 8) E dL_best_8 ?_
    refine z_goto (pc := 9) (tgt := 15) E dL_best_9 (by decide) ?_
    refine z_iconst (v := 0) (pc := 15) E dL_best_15 (by decide) ?_
    exact z_wret (pc := 16) E dL_best_16 (by omega) (by omega) (Or.inl ⟨rfl, r, M9, hr, rfl⟩)

set_option maxRecDepth 100000 in
set_option maxHeartbeats 4000000 in
theorem w_foresee_0 (M : Mem) (n cN d : Nat) (x w : Int32) (hn : M 0 0 0 4 = nI n) (h40 : n ≤ 40) (hc : M 0 0 0 3 = nI cN) (h10 : cN ≤ 10) (how : ∀ t, t < n → ∃ i, i < cN ∧ M 2 0 t 0 = nI i) (hd : M 0 0 0 0 = nI d) (hdD : d < 2 ^ 30) (hw : w = nI 0) : WC yL_foresee cL_foresee 5 [(0, 10, 13, 13), (0, 10, 17, 21)] 8 2 12 (fun G => [.ref (ad G 14 0 0), .int x, .int w, .ref (ad G 21 0 0)]) M (fun k9 M' => (k9 = 0 ∧ ∃ v9 M1, (fun r M' => foreseeK x w = 0 ∧ ∃ D, 1 ≤ D ∧ D ≤ 200 ∧ x = nI D ∧ r = foreV (shopC M 1 0 cN n) n D 0 ∧ M' = (goN (shopC M 1 0 cN n) 1 n D).2) v9 M1 ∧ M' = mset M1 21 0 0 0 v9) ∨ (M' = M ∧ ¬ foreseeK x w = 0 ∧ k9 = nI (foreseeK x w))) := by
  refine WC.mk (own := RL) (by decide +kernel) rfl (fun _ => rfl) (fun _ => Nat.le_of_ble_eq_true rfl) (lv0 := fun G => [some (.ref (ad G 14 0 0)), some (.int x), some (.int w), some (.ref (ad G 21 0 0)), none]) (fun _ => rfl) (fun X G E hX => ?_)
  refine z_aload_3 (pc := 0) E dL_foresee_0 ?_
  refine z_iconst (v := 0) (pc := 1) E dL_foresee_1 (by decide) ?_
  refine z_aload_0 (pc := 2) E dL_foresee_2 ?_
  refine z_iload_1 (pc := 3) E dL_foresee_3 ?_
  refine z_iload_2 (pc := 4) E dL_foresee_4 ?_
  refine z_xcI (pc := 5) E hX (m_X6_foresee_0 M n cN d x w hn h40 hc h10 how hd hdD hw) rfl rfl kX6_foresee mlL_58 dL_foresee_5 ok14 rfl rfl rfl (Nat.le_of_ble_eq_true rfl) rfl (by decide) (by decide) ⟨by omega, by omega⟩ (fun Ex M9 hx => ?_) (fun r M9 hr => ?_)
  · have hM9 := hx.1
    rcases hx.2 with ⟨rfl, hk⟩ | ⟨rfl, hk⟩
    · refine ⟨[], ⟨0, 10, 13, 13⟩, [⟨0, 10, 17, 21⟩], rfl, (fun _ h => absurd h List.not_mem_nil), by decide, by decide, clL_13, by decide +kernel, fun q => z_mem hM9.symm ?_⟩
      refine z_astore_4 (pc := 13) E dL_foresee_13 rfl ?_
      refine z_iconst (v := 1) (pc := 15) E dL_foresee_15 (by decide) ?_
      exact z_wret (pc := 16) E dL_foresee_16 (by omega) (by omega) (Or.inr ⟨rfl, by rw [hk]; decide, by rw [hk]; rfl⟩)
    · refine ⟨[⟨0, 10, 13, 13⟩], ⟨0, 10, 17, 21⟩, [], rfl, (List.forall_mem_cons.mpr ⟨Or.inr ⟨by decide, IAE, clL_13, by decide +kernel⟩, (fun _ h => absurd h List.not_mem_nil)⟩), by decide, by decide, clL_21, by decide +kernel, fun q => z_mem hM9.symm ?_⟩
      refine z_astore_4 (pc := 17) E dL_foresee_17 rfl ?_
      refine z_iconst (v := 2) (pc := 19) E dL_foresee_19 (by decide) ?_
      exact z_wret (pc := 20) E dL_foresee_20 (by omega) (by omega) (Or.inr ⟨rfl, by rw [hk]; decide, by rw [hk]; rfl⟩)
  · refine z_i2l (pc := 8) E dL_foresee_8 ?_
    refine z_last (pc := 9) E dL_foresee_9 ?_
    refine z_goto (pc := 10) (tgt := 21) E dL_foresee_10 (by decide) ?_
    refine z_iconst (v := 0) (pc := 21) E dL_foresee_21 (by decide) ?_
    exact z_wret (pc := 22) E dL_foresee_22 (by omega) (by omega) (Or.inl ⟨rfl, r, M9, hr, rfl⟩)

set_option maxRecDepth 100000 in
set_option maxHeartbeats 4000000 in
theorem w_foresee_1 (M : Mem) (n cN d : Nat) (x w : Int32) (hn : M 0 0 0 4 = nI n) (h40 : n ≤ 40) (hc : M 0 0 0 3 = nI cN) (h10 : cN ≤ 10) (how : ∀ t, t < n → ∃ i, i < cN ∧ M 2 0 t 0 = nI i) (hd : M 0 0 0 0 = nI d) (hdD : d < 2 ^ 30) (hw : w = nI 1) : WC yL_foresee cL_foresee 5 [(0, 10, 13, 13), (0, 10, 17, 21)] 8 2 12 (fun G => [.ref (ad G 14 0 0), .int x, .int w, .ref (ad G 21 0 0)]) M (fun k9 M' => (k9 = 0 ∧ ∃ v9 M1, (fun r M' => foreseeK x w = 0 ∧ ∃ D, 1 ≤ D ∧ D ≤ 200 ∧ x = nI D ∧ r = foreV (shopC M 1 0 cN n) n D 1 ∧ M' = (goN (shopC M 1 0 cN n) 1 n D).2) v9 M1 ∧ M' = mset M1 21 0 0 0 v9) ∨ (M' = M ∧ ¬ foreseeK x w = 0 ∧ k9 = nI (foreseeK x w))) := by
  refine WC.mk (own := RL) (by decide +kernel) rfl (fun _ => rfl) (fun _ => Nat.le_of_ble_eq_true rfl) (lv0 := fun G => [some (.ref (ad G 14 0 0)), some (.int x), some (.int w), some (.ref (ad G 21 0 0)), none]) (fun _ => rfl) (fun X G E hX => ?_)
  refine z_aload_3 (pc := 0) E dL_foresee_0 ?_
  refine z_iconst (v := 0) (pc := 1) E dL_foresee_1 (by decide) ?_
  refine z_aload_0 (pc := 2) E dL_foresee_2 ?_
  refine z_iload_1 (pc := 3) E dL_foresee_3 ?_
  refine z_iload_2 (pc := 4) E dL_foresee_4 ?_
  refine z_xcI (pc := 5) E hX (m_X6_foresee_1 M n cN d x w hn h40 hc h10 how hd hdD hw) rfl rfl kX6_foresee mlL_58 dL_foresee_5 ok14 rfl rfl rfl (Nat.le_of_ble_eq_true rfl) rfl (by decide) (by decide) ⟨by omega, by omega⟩ (fun Ex M9 hx => ?_) (fun r M9 hr => ?_)
  · have hM9 := hx.1
    rcases hx.2 with ⟨rfl, hk⟩ | ⟨rfl, hk⟩
    · refine ⟨[], ⟨0, 10, 13, 13⟩, [⟨0, 10, 17, 21⟩], rfl, (fun _ h => absurd h List.not_mem_nil), by decide, by decide, clL_13, by decide +kernel, fun q => z_mem hM9.symm ?_⟩
      refine z_astore_4 (pc := 13) E dL_foresee_13 rfl ?_
      refine z_iconst (v := 1) (pc := 15) E dL_foresee_15 (by decide) ?_
      exact z_wret (pc := 16) E dL_foresee_16 (by omega) (by omega) (Or.inr ⟨rfl, by rw [hk]; decide, by rw [hk]; rfl⟩)
    · refine ⟨[⟨0, 10, 13, 13⟩], ⟨0, 10, 17, 21⟩, [], rfl, (List.forall_mem_cons.mpr ⟨Or.inr ⟨by decide, IAE, clL_13, by decide +kernel⟩, (fun _ h => absurd h List.not_mem_nil)⟩), by decide, by decide, clL_21, by decide +kernel, fun q => z_mem hM9.symm ?_⟩
      refine z_astore_4 (pc := 17) E dL_foresee_17 rfl ?_
      refine z_iconst (v := 2) (pc := 19) E dL_foresee_19 (by decide) ?_
      exact z_wret (pc := 20) E dL_foresee_20 (by omega) (by omega) (Or.inr ⟨rfl, by rw [hk]; decide, by rw [hk]; rfl⟩)
  · refine z_i2l (pc := 8) E dL_foresee_8 ?_
    refine z_last (pc := 9) E dL_foresee_9 ?_
    refine z_goto (pc := 10) (tgt := 21) E dL_foresee_10 (by decide) ?_
    refine z_iconst (v := 0) (pc := 21) E dL_foresee_21 (by decide) ?_
    exact z_wret (pc := 22) E dL_foresee_22 (by omega) (by omega) (Or.inl ⟨rfl, r, M9, hr, rfl⟩)

set_option maxRecDepth 100000 in
set_option maxHeartbeats 4000000 in
theorem w_foresee_2 (M : Mem) (n cN d : Nat) (x w : Int32) (hn : M 0 0 0 4 = nI n) (h40 : n ≤ 40) (hc : M 0 0 0 3 = nI cN) (h10 : cN ≤ 10) (how : ∀ t, t < n → ∃ i, i < cN ∧ M 2 0 t 0 = nI i) (hd : M 0 0 0 0 = nI d) (hdD : d < 2 ^ 30) (hw : w = nI 2) : WC yL_foresee cL_foresee 5 [(0, 10, 13, 13), (0, 10, 17, 21)] 8 2 12 (fun G => [.ref (ad G 14 0 0), .int x, .int w, .ref (ad G 21 0 0)]) M (fun k9 M' => (k9 = 0 ∧ ∃ v9 M1, (fun r M' => foreseeK x w = 0 ∧ ∃ D, 1 ≤ D ∧ D ≤ 200 ∧ x = nI D ∧ r = foreV (shopC M 1 0 cN n) n D 2 ∧ M' = (goN (shopC M 1 0 cN n) 1 n D).2) v9 M1 ∧ M' = mset M1 21 0 0 0 v9) ∨ (M' = M ∧ ¬ foreseeK x w = 0 ∧ k9 = nI (foreseeK x w))) := by
  refine WC.mk (own := RL) (by decide +kernel) rfl (fun _ => rfl) (fun _ => Nat.le_of_ble_eq_true rfl) (lv0 := fun G => [some (.ref (ad G 14 0 0)), some (.int x), some (.int w), some (.ref (ad G 21 0 0)), none]) (fun _ => rfl) (fun X G E hX => ?_)
  refine z_aload_3 (pc := 0) E dL_foresee_0 ?_
  refine z_iconst (v := 0) (pc := 1) E dL_foresee_1 (by decide) ?_
  refine z_aload_0 (pc := 2) E dL_foresee_2 ?_
  refine z_iload_1 (pc := 3) E dL_foresee_3 ?_
  refine z_iload_2 (pc := 4) E dL_foresee_4 ?_
  refine z_xcI (pc := 5) E hX (m_X6_foresee_2 M n cN d x w hn h40 hc h10 how hd hdD hw) rfl rfl kX6_foresee mlL_58 dL_foresee_5 ok14 rfl rfl rfl (Nat.le_of_ble_eq_true rfl) rfl (by decide) (by decide) ⟨by omega, by omega⟩ (fun Ex M9 hx => ?_) (fun r M9 hr => ?_)
  · have hM9 := hx.1
    rcases hx.2 with ⟨rfl, hk⟩ | ⟨rfl, hk⟩
    · refine ⟨[], ⟨0, 10, 13, 13⟩, [⟨0, 10, 17, 21⟩], rfl, (fun _ h => absurd h List.not_mem_nil), by decide, by decide, clL_13, by decide +kernel, fun q => z_mem hM9.symm ?_⟩
      refine z_astore_4 (pc := 13) E dL_foresee_13 rfl ?_
      refine z_iconst (v := 1) (pc := 15) E dL_foresee_15 (by decide) ?_
      exact z_wret (pc := 16) E dL_foresee_16 (by omega) (by omega) (Or.inr ⟨rfl, by rw [hk]; decide, by rw [hk]; rfl⟩)
    · refine ⟨[⟨0, 10, 13, 13⟩], ⟨0, 10, 17, 21⟩, [], rfl, (List.forall_mem_cons.mpr ⟨Or.inr ⟨by decide, IAE, clL_13, by decide +kernel⟩, (fun _ h => absurd h List.not_mem_nil)⟩), by decide, by decide, clL_21, by decide +kernel, fun q => z_mem hM9.symm ?_⟩
      refine z_astore_4 (pc := 17) E dL_foresee_17 rfl ?_
      refine z_iconst (v := 2) (pc := 19) E dL_foresee_19 (by decide) ?_
      exact z_wret (pc := 20) E dL_foresee_20 (by omega) (by omega) (Or.inr ⟨rfl, by rw [hk]; decide, by rw [hk]; rfl⟩)
  · refine z_i2l (pc := 8) E dL_foresee_8 ?_
    refine z_last (pc := 9) E dL_foresee_9 ?_
    refine z_goto (pc := 10) (tgt := 21) E dL_foresee_10 (by decide) ?_
    refine z_iconst (v := 0) (pc := 21) E dL_foresee_21 (by decide) ?_
    exact z_wret (pc := 22) E dL_foresee_22 (by omega) (by omega) (Or.inl ⟨rfl, r, M9, hr, rfl⟩)

set_option maxRecDepth 100000 in
set_option maxHeartbeats 4000000 in
theorem w_raise (M : Mem) (n : Nat) (x : Int32) (hn : M 0 0 0 4 = nI n) (h40 : n ≤ 40) : WC yL_raise cL_raise 4 [(0, 9, 12, 13)] 8 1 6 (fun G => [.ref (ad G 14 0 0), .int x, .ref (ad G 21 0 0)]) M (fun k9 M' => (k9 = 0 ∧ ∃ v9 M1, (fun r M' => raiseK x = 0 ∧ r = raiF (srtF (putP (fun t => decide (M 2 0 t 7 = 2)) (fun t => M 2 0 t 8) (M 5 0 0) n).2 ((putP (fun t => decide (M 2 0 t 7 = 2)) (fun t => M 2 0 t 8) (M 5 0 0) n).1 - 1)) x (putP (fun t => decide (M 2 0 t 7 = 2)) (fun t => M 2 0 t 8) (M 5 0 0) n).1 (putP (fun t => decide (M 2 0 t 7 = 2)) (fun t => M 2 0 t 8) (M 5 0 0) n).1 0 ∧ M' = rset M 5 0 0 (srtF (putP (fun t => decide (M 2 0 t 7 = 2)) (fun t => M 2 0 t 8) (M 5 0 0) n).2 ((putP (fun t => decide (M 2 0 t 7 = 2)) (fun t => M 2 0 t 8) (M 5 0 0) n).1 - 1))) v9 M1 ∧ M' = mset M1 21 0 0 0 v9) ∨ (M' = M ∧ ¬ raiseK x = 0 ∧ k9 = nI (raiseK x))) := by
  refine WC.mk (own := RL) (by decide +kernel) rfl (fun _ => rfl) (fun _ => Nat.le_of_ble_eq_true rfl) (lv0 := fun G => [some (.ref (ad G 14 0 0)), some (.int x), some (.ref (ad G 21 0 0)), none]) (fun _ => rfl) (fun X G E hX => ?_)
  refine z_aload_2 (pc := 0) E dL_raise_0 ?_
  refine z_iconst (v := 0) (pc := 1) E dL_raise_1 (by decide) ?_
  refine z_aload_0 (pc := 2) E dL_raise_2 ?_
  refine z_iload_1 (pc := 3) E dL_raise_3 ?_
  refine z_xcI (pc := 4) E hX (m_X6_raise M n x hn h40) rfl rfl kX6_raise mlL_61 dL_raise_4 ok14 rfl rfl rfl (Nat.le_of_ble_eq_true rfl) rfl (by decide) (by decide) ⟨by omega, by omega⟩ (fun Ex M9 hx => ?_) (fun r M9 hr => ?_)
  · have hM9 := hx.1
    obtain ⟨rfl, hk⟩ := hx.2
    refine ⟨[], ⟨0, 9, 12, 13⟩, [], rfl, (fun _ h => absurd h List.not_mem_nil), by decide, by decide, clL_13, by decide +kernel, fun q => z_mem hM9.symm ?_⟩
    refine z_astore_3 (pc := 12) E dL_raise_12 rfl ?_
    refine z_iconst (v := 1) (pc := 13) E dL_raise_13 (by decide) ?_
    exact z_wret (pc := 14) E dL_raise_14 (by omega) (by omega) (Or.inr ⟨rfl, by rw [hk]; decide, by rw [hk]; rfl⟩)
  · refine z_i2l (pc := 7) E dL_raise_7 ?_
    refine z_last (pc := 8) E dL_raise_8 ?_
    refine z_goto (pc := 9) (tgt := 15) E dL_raise_9 (by decide) ?_
    refine z_iconst (v := 0) (pc := 15) E dL_raise_15 (by decide) ?_
    exact z_wret (pc := 16) E dL_raise_16 (by omega) (by omega) (Or.inl ⟨rfl, r, M9, hr, rfl⟩)

set_option maxRecDepth 100000 in
set_option maxHeartbeats 4000000 in
theorem w_most (M : Mem) (n cN : Nat) (c : Int32) (hn : M 0 0 0 4 = nI n) (h40 : n ≤ 40) (hc : M 0 0 0 3 = nI cN) (h10 : cN ≤ 10) : WC yL_most cL_most 4 [(0, 9, 12, 21)] 8 1 6 (fun G => [.ref (ad G 14 0 0), .int c, .ref (ad G 21 0 0)]) M (fun k9 M' => (k9 = 0 ∧ ∃ v9 M1, (fun r M' => mostK M c = 0 ∧ ∃ i, i < cN ∧ c = nI i ∧ r = mosF (srtF (putP (fun t => decide (M 2 0 t 7 = 0 ∧ M 2 0 t 0 = nI i)) (fun t => debtV M 0 t (M 0 0 0 0)) (M 5 0 0) n).2 ((putP (fun t => decide (M 2 0 t 7 = 0 ∧ M 2 0 t 0 = nI i)) (fun t => debtV M 0 t (M 0 0 0 0)) (M 5 0 0) n).1 - 1)) (putP (fun t => decide (M 2 0 t 7 = 0 ∧ M 2 0 t 0 = nI i)) (fun t => debtV M 0 t (M 0 0 0 0)) (M 5 0 0) n).1 0 (M 1 0 i 0) ∧ M' = rset M 5 0 0 (srtF (putP (fun t => decide (M 2 0 t 7 = 0 ∧ M 2 0 t 0 = nI i)) (fun t => debtV M 0 t (M 0 0 0 0)) (M 5 0 0) n).2 ((putP (fun t => decide (M 2 0 t 7 = 0 ∧ M 2 0 t 0 = nI i)) (fun t => debtV M 0 t (M 0 0 0 0)) (M 5 0 0) n).1 - 1))) v9 M1 ∧ M' = mset M1 21 0 0 0 v9) ∨ (M' = M ∧ ¬ mostK M c = 0 ∧ k9 = nI (mostK M c))) := by
  refine WC.mk (own := RL) (by decide +kernel) rfl (fun _ => rfl) (fun _ => Nat.le_of_ble_eq_true rfl) (lv0 := fun G => [some (.ref (ad G 14 0 0)), some (.int c), some (.ref (ad G 21 0 0)), none]) (fun _ => rfl) (fun X G E hX => ?_)
  refine z_aload_2 (pc := 0) E dL_most_0 ?_
  refine z_iconst (v := 0) (pc := 1) E dL_most_1 (by decide) ?_
  refine z_aload_0 (pc := 2) E dL_most_2 ?_
  refine z_iload_1 (pc := 3) E dL_most_3 ?_
  refine z_xcI (pc := 4) E hX (m_X6_most M n cN c hn h40 hc h10) rfl rfl kX6_most mlL_67 dL_most_4 ok14 rfl rfl rfl (Nat.le_of_ble_eq_true rfl) rfl (by decide) (by decide) ⟨by omega, by omega⟩ (fun Ex M9 hx => ?_) (fun r M9 hr => ?_)
  · have hM9 := hx.1
    obtain ⟨rfl, hk⟩ := hx.2
    refine ⟨[], ⟨0, 9, 12, 21⟩, [], rfl, (fun _ h => absurd h List.not_mem_nil), by decide, by decide, clL_21, by decide +kernel, fun q => z_mem hM9.symm ?_⟩
    refine z_astore_3 (pc := 12) E dL_most_12 rfl ?_
    refine z_iconst (v := 1) (pc := 13) E dL_most_13 (by decide) ?_
    exact z_wret (pc := 14) E dL_most_14 (by omega) (by omega) (Or.inr ⟨rfl, by rw [hk]; decide, by rw [hk]; rfl⟩)
  · refine z_i2l (pc := 7) E dL_most_7 ?_
    refine z_last (pc := 8) E dL_most_8 ?_
    refine z_goto (pc := 9) (tgt := 15) E dL_most_9 (by decide) ?_
    refine z_iconst (v := 0) (pc := 15) E dL_most_15 (by decide) ?_
    exact z_wret (pc := 16) E dL_most_16 (by omega) (by omega) (Or.inl ⟨rfl, r, M9, hr, rfl⟩)

set_option maxRecDepth 100000 in
set_option maxHeartbeats 4000000 in
theorem w_pledge (M : Mem) (n cN : Nat) (c k v w : Int32) (hn : M 0 0 0 4 = nI n) (h40 : n ≤ 40) (hc : M 0 0 0 3 = nI cN) (h10 : cN ≤ 10) : WC yL_pledge cL_pledge 7 [(0, 14, 17, 21), (0, 14, 21, 13), (0, 14, 25, 15)] 8 5 30 (fun G => [.ref (ad G 14 0 0), .int c, .int k, .int v, .int w, .ref (ad G 21 0 0)]) M (fun k9 M' => (k9 = 0 ∧ ∃ v9 M1, (fun r M' => pledgeK M c k v w = 0 ∧ ∃ i W h q, i < cN ∧ 1 ≤ W ∧ W ≤ 10 ∧ h < 3 ∧ q + W ≤ 10 * (h + 1) ∧ n < 40 ∧ c = nI i ∧ w = nI W ∧ spotF M 0 w 3 0 = nI (100 * h + q) ∧ r = nI n ∧ M' = addM M 0 i n h q k v w) v9 M1 ∧ M' = mset M1 21 0 0 0 v9) ∨ (M' = M ∧ ¬ pledgeK M c k v w = 0 ∧ k9 = nI (pledgeK M c k v w))) := by
  refine WC.mk (own := RL) (by decide +kernel) rfl (fun _ => rfl) (fun _ => Nat.le_of_ble_eq_true rfl) (lv0 := fun G => [some (.ref (ad G 14 0 0)), some (.int c), some (.int k), some (.int v), some (.int w), some (.ref (ad G 21 0 0)), none]) (fun _ => rfl) (fun X G E hX => ?_)
  refine z_aload_5 (pc := 0) E dL_pledge_0 ?_
  refine z_iconst (v := 0) (pc := 2) E dL_pledge_2 (by decide) ?_
  refine z_aload_0 (pc := 3) E dL_pledge_3 ?_
  refine z_iload_1 (pc := 4) E dL_pledge_4 ?_
  refine z_iload_2 (pc := 5) E dL_pledge_5 ?_
  refine z_iload_3 (pc := 6) E dL_pledge_6 ?_
  refine z_iload_4 (pc := 7) E dL_pledge_7 ?_
  refine z_xcI (pc := 9) E hX (m_X6_pledge M n cN c k v w hn h40 hc h10) rfl rfl kX6_pledge mlL_30 dL_pledge_9 ok14 rfl rfl rfl (Nat.le_of_ble_eq_true rfl) rfl (by decide) (by decide) ⟨by omega, by omega⟩ (fun Ex M9 hx => ?_) (fun r M9 hr => ?_)
  · have hM9 := hx.1
    rcases hx.2 with ⟨rfl, hk⟩ | ⟨rfl, hk⟩ | ⟨rfl, hk⟩
    · refine ⟨[], ⟨0, 14, 17, 21⟩, [⟨0, 14, 21, 13⟩, ⟨0, 14, 25, 15⟩], rfl, (fun _ h => absurd h List.not_mem_nil), by decide, by decide, clL_21, by decide +kernel, fun q => z_mem hM9.symm ?_⟩
      refine z_astore_6 (pc := 17) E dL_pledge_17 rfl ?_
      refine z_iconst (v := 1) (pc := 19) E dL_pledge_19 (by decide) ?_
      exact z_wret (pc := 20) E dL_pledge_20 (by omega) (by omega) (Or.inr ⟨rfl, by rw [hk]; decide, by rw [hk]; rfl⟩)
    · refine ⟨[⟨0, 14, 17, 21⟩], ⟨0, 14, 21, 13⟩, [⟨0, 14, 25, 15⟩], rfl, (List.forall_mem_cons.mpr ⟨Or.inr ⟨by decide, IOB, clL_21, by decide +kernel⟩, (fun _ h => absurd h List.not_mem_nil)⟩), by decide, by decide, clL_13, by decide +kernel, fun q => z_mem hM9.symm ?_⟩
      refine z_astore_6 (pc := 21) E dL_pledge_21 rfl ?_
      refine z_iconst (v := 2) (pc := 23) E dL_pledge_23 (by decide) ?_
      exact z_wret (pc := 24) E dL_pledge_24 (by omega) (by omega) (Or.inr ⟨rfl, by rw [hk]; decide, by rw [hk]; rfl⟩)
    · refine ⟨[⟨0, 14, 17, 21⟩, ⟨0, 14, 21, 13⟩], ⟨0, 14, 25, 15⟩, [], rfl, (List.forall_mem_cons.mpr ⟨Or.inr ⟨by decide, IOB, clL_21, by decide +kernel⟩, (List.forall_mem_cons.mpr ⟨Or.inr ⟨by decide, IAE, clL_13, by decide +kernel⟩, (fun _ h => absurd h List.not_mem_nil)⟩)⟩), by decide, by decide, clL_15, by decide +kernel, fun q => z_mem hM9.symm ?_⟩
      refine z_astore_6 (pc := 25) E dL_pledge_25 rfl ?_
      refine z_iconst (v := 3) (pc := 27) E dL_pledge_27 (by decide) ?_
      exact z_wret (pc := 28) E dL_pledge_28 (by omega) (by omega) (Or.inr ⟨rfl, by rw [hk]; decide, by rw [hk]; rfl⟩)
  · refine z_i2l (pc := 12) E dL_pledge_12 ?_
    refine z_last (pc := 13) E dL_pledge_13 ?_
    refine z_goto (pc := 14) (tgt := 29) E dL_pledge_14 (by decide) ?_
    refine z_iconst (v := 0) (pc := 29) E dL_pledge_29 (by decide) ?_
    exact z_wret (pc := 30) E dL_pledge_30 (by omega) (by omega) (Or.inl ⟨rfl, r, M9, hr, rfl⟩)

set_option maxRecDepth 100000 in
set_option maxHeartbeats 4000000 in
theorem w_foresee_x (M : Mem) (n cN d : Nat) (x w : Int32) (hw : ¬ (0 ≤ w ∧ w ≤ 2)) : WC yL_foresee cL_foresee 5 [(0, 10, 13, 13), (0, 10, 17, 21)] 8 2 12 (fun G => [.ref (ad G 14 0 0), .int x, .int w, .ref (ad G 21 0 0)]) M (fun k9 M' => (k9 = 0 ∧ ∃ v9 M1, (fun r M' => False) v9 M1 ∧ M' = mset M1 21 0 0 0 v9) ∨ (M' = M ∧ ¬ foreseeK x w = 0 ∧ k9 = nI (foreseeK x w))) := by
  refine WC.mk (own := RL) (by decide +kernel) rfl (fun _ => rfl) (fun _ => Nat.le_of_ble_eq_true rfl) (lv0 := fun G => [some (.ref (ad G 14 0 0)), some (.int x), some (.int w), some (.ref (ad G 21 0 0)), none]) (fun _ => rfl) (fun X G E hX => ?_)
  refine z_aload_3 (pc := 0) E dL_foresee_0 ?_
  refine z_iconst (v := 0) (pc := 1) E dL_foresee_1 (by decide) ?_
  refine z_aload_0 (pc := 2) E dL_foresee_2 ?_
  refine z_iload_1 (pc := 3) E dL_foresee_3 ?_
  refine z_iload_2 (pc := 4) E dL_foresee_4 ?_
  refine z_xcI (pc := 5) E hX (m_X6_foresee_x M n cN d x w hw) rfl rfl kX6_foresee mlL_58 dL_foresee_5 ok14 rfl rfl rfl (Nat.le_of_ble_eq_true rfl) rfl (by decide) (by decide) ⟨by omega, by omega⟩ (fun Ex M9 hx => ?_) (fun r M9 hr => ?_)
  · have hM9 := hx.1
    rcases hx.2 with ⟨rfl, hk⟩ | ⟨rfl, hk⟩
    · refine ⟨[], ⟨0, 10, 13, 13⟩, [⟨0, 10, 17, 21⟩], rfl, (fun _ h => absurd h List.not_mem_nil), by decide, by decide, clL_13, by decide +kernel, fun q => z_mem hM9.symm ?_⟩
      refine z_astore_4 (pc := 13) E dL_foresee_13 rfl ?_
      refine z_iconst (v := 1) (pc := 15) E dL_foresee_15 (by decide) ?_
      exact z_wret (pc := 16) E dL_foresee_16 (by omega) (by omega) (Or.inr ⟨rfl, by rw [hk]; decide, by rw [hk]; rfl⟩)
    · refine ⟨[⟨0, 10, 13, 13⟩], ⟨0, 10, 17, 21⟩, [], rfl, (List.forall_mem_cons.mpr ⟨Or.inr ⟨by decide, IAE, clL_13, by decide +kernel⟩, (fun _ h => absurd h List.not_mem_nil)⟩), by decide, by decide, clL_21, by decide +kernel, fun q => z_mem hM9.symm ?_⟩
      refine z_astore_4 (pc := 17) E dL_foresee_17 rfl ?_
      refine z_iconst (v := 2) (pc := 19) E dL_foresee_19 (by decide) ?_
      exact z_wret (pc := 20) E dL_foresee_20 (by omega) (by omega) (Or.inr ⟨rfl, by rw [hk]; decide, by rw [hk]; rfl⟩)
  · exact hr.elim

set_option maxRecDepth 100000 in
set_option maxHeartbeats 4000000 in
theorem w_at (M : Mem) (sh pl : Int32) : WC yL_at cL_at 5 [(0, 10, 13, 21)] 8 1 6 (fun G => [.ref (ad G 14 0 0), .int sh, .int pl, .ref (ad G 21 0 0)]) M (fun k9 M' => (k9 = 0 ∧ ∃ v9 M1, (fun r M' => ∃ i p : Nat, i < 3 ∧ p < 10 * (i + 1) ∧ sh = nI i ∧ pl = nI p ∧ r = M 4 0 i p ∧ M' = M) v9 M1 ∧ M' = mset M1 21 0 0 0 v9) ∨ (M' = M ∧ ¬ plcP sh pl ∧ k9 = 1)) := by
  refine WC.mk (own := RL) (by decide +kernel) rfl (fun _ => rfl) (fun _ => Nat.le_of_ble_eq_true rfl) (lv0 := fun G => [some (.ref (ad G 14 0 0)), some (.int sh), some (.int pl), some (.ref (ad G 21 0 0)), none]) (fun _ => rfl) (fun X G E hX => ?_)
  refine z_aload_3 (pc := 0) E dL_at_0 ?_
  refine z_iconst (v := 0) (pc := 1) E dL_at_1 (by decide) ?_
  refine z_aload_0 (pc := 2) E dL_at_2 ?_
  refine z_iload_1 (pc := 3) E dL_at_3 ?_
  refine z_iload_2 (pc := 4) E dL_at_4 ?_
  refine z_xcI (pc := 5) E hX (m_X6_at M sh pl) rfl rfl kX6_at mlL_46 dL_at_5 ok14 rfl rfl rfl (Nat.le_of_ble_eq_true rfl) rfl (by decide) (by decide) ⟨by omega, by omega⟩ (fun Ex M9 hx => ?_) (fun r M9 hr => ?_)
  · have hM9 := hx.1
    obtain ⟨rfl, hk⟩ := hx.2
    refine ⟨[], ⟨0, 10, 13, 21⟩, [], rfl, (fun _ h => absurd h List.not_mem_nil), by decide, by decide, clL_21, by decide +kernel, fun q => z_mem hM9.symm ?_⟩
    refine z_astore_4 (pc := 13) E dL_at_13 rfl ?_
    refine z_iconst (v := 1) (pc := 15) E dL_at_15 (by decide) ?_
    exact z_wret (pc := 16) E dL_at_16 (by omega) (by omega) (Or.inr ⟨rfl, hk, rfl⟩)
  · refine z_i2l (pc := 8) E dL_at_8 ?_
    refine z_last (pc := 9) E dL_at_9 ?_
    refine z_goto (pc := 10) (tgt := 17) E dL_at_10 (by decide) ?_
    refine z_iconst (v := 0) (pc := 17) E dL_at_17 (by decide) ?_
    exact z_wret (pc := 18) E dL_at_18 (by omega) (by omega) (Or.inl ⟨rfl, r, M9, hr, rfl⟩)

theorem kL_come : CalW yL_come RL cL_come 4 [(0, 9, 12, 13), (0, 9, 15, 15)] 3 := ⟨rfl, by decide +kernel, by decide +kernel, stL_come, inL, cwL_come⟩

theorem kL_earn : CalW yL_earn RL cL_earn 5 [(0, 10, 13, 21), (0, 10, 17, 13)] 4 := ⟨rfl, by decide +kernel, by decide +kernel, stL_earn, inL, cwL_earn⟩

theorem kL_setBuyer : CalW yL_setBuyer RL cL_setBuyer 6 [(0, 12, 15, 21), (0, 12, 19, 13)] 5 := ⟨rfl, by decide +kernel, by decide +kernel, stL_setBuyer, inL, cwL_setBuyer⟩

theorem kL_customer : CalW yL_customer RL cL_customer 5 [(0, 10, 13, 21)] 4 := ⟨rfl, by decide +kernel, by decide +kernel, stL_customer, inL, cwL_customer⟩

theorem kL_pledge : CalW yL_pledge RL cL_pledge 7 [(0, 14, 17, 21), (0, 14, 21, 13), (0, 14, 25, 15)] 6 := ⟨rfl, by decide +kernel, by decide +kernel, stL_pledge, inL, cwL_pledge⟩

theorem kL_ticket : CalW yL_ticket RL cL_ticket 5 [(0, 10, 13, 21)] 4 := ⟨rfl, by decide +kernel, by decide +kernel, stL_ticket, inL, cwL_ticket⟩

theorem kL_owes : CalW yL_owes RL cL_owes 4 [(0, 9, 12, 21)] 3 := ⟨rfl, by decide +kernel, by decide +kernel, stL_owes, inL, cwL_owes⟩

theorem kL_renew : CalW yL_renew RL cL_renew 4 [(0, 9, 12, 21), (0, 9, 15, 15)] 3 := ⟨rfl, by decide +kernel, by decide +kernel, stL_renew, inL, cwL_renew⟩

theorem kL_fetch : CalW yL_fetch RL cL_fetch 4 [(0, 9, 12, 21), (0, 9, 15, 15)] 3 := ⟨rfl, by decide +kernel, by decide +kernel, stL_fetch, inL, cwL_fetch⟩

theorem kL_at : CalW yL_at RL cL_at 5 [(0, 10, 13, 21)] 4 := ⟨rfl, by decide +kernel, by decide +kernel, stL_at, inL, cwL_at⟩

theorem kL_room : CalW yL_room RL cL_room 4 [(0, 9, 12, 13)] 3 := ⟨rfl, by decide +kernel, by decide +kernel, stL_room, inL, cwL_room⟩

theorem kL_pass : CalW yL_pass RL cL_pass 4 [(0, 9, 12, 13)] 3 := ⟨rfl, by decide +kernel, by decide +kernel, stL_pass, inL, cwL_pass⟩

theorem kL_count : CalW yL_count RL cL_count 4 [(0, 9, 12, 21)] 3 := ⟨rfl, by decide +kernel, by decide +kernel, stL_count, inL, cwL_count⟩

theorem kL_foresee : CalW yL_foresee RL cL_foresee 5 [(0, 10, 13, 13), (0, 10, 17, 21)] 4 := ⟨rfl, by decide +kernel, by decide +kernel, stL_foresee, inL, cwL_foresee⟩

theorem kL_raise : CalW yL_raise RL cL_raise 4 [(0, 9, 12, 13)] 3 := ⟨rfl, by decide +kernel, by decide +kernel, stL_raise, inL, cwL_raise⟩

theorem kL_best : CalW yL_best RL cL_best 4 [(0, 9, 12, 21)] 3 := ⟨rfl, by decide +kernel, by decide +kernel, stL_best, inL, cwL_best⟩

theorem kL_most : CalW yL_most RL cL_most 4 [(0, 9, 12, 21)] 3 := ⟨rfl, by decide +kernel, by decide +kernel, stL_most, inL, cwL_most⟩

