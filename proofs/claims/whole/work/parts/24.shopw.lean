set_option maxRecDepth 100000 in
set_option maxHeartbeats 4000000 in
theorem m_X4_changeTrust (M : Mem) (s : Nat) (i cN : Nat) (x : Int32) (hs : s < 2) (hc : M 0 s 0 3 = nI cN) (h10 : cN ≤ 10) (hi : i < cN) : CV yX4_changeTrust cX4_changeTrust 3 none 2 0 0 (fun G => [.ref (ad G 0 s 0), .int (nI i), .int x]) M (fun M' => M' = mset M 1 s i 1 (trV (M 1 s i 1) x)) := by
  refine CV.mk (own := RX4) (by decide +kernel) rfl (fun _ => rfl) (fun _ => Nat.le_of_ble_eq_true rfl) (lv0 := fun G => [some (.ref (ad G 0 s 0)), some (.int (nI i)), some (.int x)]) (fun _ => rfl) (fun X G E => ?_)
  refine z_aload_0 (pc := 0) E dX4_changeTrust_0 ?_
  refine z_iload_1 (pc := 1) E dX4_changeTrust_1 ?_
  refine z_ivp (pc := 2) E (m_X4_hasCustomer _ _ _ hs) rfl rfl kX4_hasCustomer mlX4_76 dX4_changeTrust_2 (ok0 (by omega)) rfl rfl rfl (Nat.le_of_ble_eq_true rfl) rfl (by decide) (by decide) ⟨by omega, by omega⟩ ?_
  rw [hc, b2_t (in_of_ix rfl hi (by omega))]
  refine z_if_eq (pc := 5) (tgt := 18) E dX4_changeTrust_5 (by decide) (fun h5 => absurd h5 (by decide)) (fun h5 => ?_)
  refine z_aload_0 (pc := 8) E dX4_changeTrust_8 ?_
  refine z_get (pc := 9) E dX4_changeTrust_9 fiX4_17 (ok0 (by omega)) rfl rfl ?_
  refine z_iload_1 (pc := 12) E dX4_changeTrust_12 ?_
  refine z_aald (t0 := 2) (pc := 13) E dX4_changeTrust_13 (ok17 (by omega)) rfl rfl rfl (by omega) (by omega) rfl ?_
  refine z_iload_2 (pc := 14) E dX4_changeTrust_14 ?_
  refine z_vvf (pc := 15) E (m_X1_changeTrust _ _ _ _ hs (by omega)) rfl rfl kX1_changeTrust mlX4_95 dX4_changeTrust_15 (ok1 (by omega) (by omega)) rfl rfl rfl (Nat.le_of_ble_eq_true rfl) rfl (by decide) (by decide) ⟨by omega, by omega⟩ ?_
  exact z_vret (pc := 18) E dX4_changeTrust_18 rfl

set_option maxRecDepth 100000 in
set_option maxHeartbeats 4000000 in
theorem m_X4_takeFrom (M : Mem) (s : Nat) (i cN : Nat) (x y : Int32) (hs : s < 2) (hc : M 0 s 0 3 = nI cN) (h10 : cN ≤ 10) (hi : i < cN) : CV yX4_takeFrom cX4_takeFrom 4 none 2 0 0 (fun G => [.ref (ad G 0 s 0), .int (nI i), .int x, .int y]) M (fun M' => M' = mset (mset (mset M 1 s i 0 (M 1 s i 0 - x)) 0 s 0 1 (M 0 s 0 1 + x)) 0 s 0 2 (M 0 s 0 2 + y)) := by
  refine CV.mk (own := RX4) (by decide +kernel) rfl (fun _ => rfl) (fun _ => Nat.le_of_ble_eq_true rfl) (lv0 := fun G => [some (.ref (ad G 0 s 0)), some (.int (nI i)), some (.int x), some (.int y)]) (fun _ => rfl) (fun X G E => ?_)
  refine z_aload_0 (pc := 0) E dX4_takeFrom_0 ?_
  refine z_iload_1 (pc := 1) E dX4_takeFrom_1 ?_
  refine z_ivp (pc := 2) E (m_X4_hasCustomer _ _ _ hs) rfl rfl kX4_hasCustomer mlX4_76 dX4_takeFrom_2 (ok0 (by omega)) rfl rfl rfl (Nat.le_of_ble_eq_true rfl) rfl (by decide) (by decide) ⟨by omega, by omega⟩ ?_
  rw [hc, b2_t (in_of_ix rfl hi (by omega))]
  refine z_if_eq (pc := 5) (tgt := 43) E dX4_takeFrom_5 (by decide) (fun h5 => absurd h5 (by decide)) (fun h5 => ?_)
  refine z_aload_0 (pc := 8) E dX4_takeFrom_8 ?_
  refine z_get (pc := 9) E dX4_takeFrom_9 fiX4_17 (ok0 (by omega)) rfl rfl ?_
  refine z_iload_1 (pc := 12) E dX4_takeFrom_12 ?_
  refine z_aald (t0 := 2) (pc := 13) E dX4_takeFrom_13 (ok17 (by omega)) rfl rfl rfl (by omega) (by omega) rfl ?_
  refine z_dup (pc := 14) E dX4_takeFrom_14 rfl ?_
  refine z_get (pc := 15) E dX4_takeFrom_15 fiX4_75 (ok1 (by omega) (by omega)) rfl rfl ?_
  refine z_iload_2 (pc := 18) E dX4_takeFrom_18 ?_
  refine z_isub (pc := 19) E dX4_takeFrom_19 ?_
  refine z_put (pc := 20) E dX4_takeFrom_20 fiX4_75 fpX1_0 (ok1 (by omega) (by omega)) rfl rfl (Nat.le_of_ble_eq_true rfl) ?_
  refine z_aload_0 (pc := 23) E dX4_takeFrom_23 ?_
  refine z_dup (pc := 24) E dX4_takeFrom_24 rfl ?_
  refine z_get (pc := 25) E dX4_takeFrom_25 fiX4_11 (ok0 (by omega)) rfl rfl ?_
  refine z_iload_2 (pc := 28) E dX4_takeFrom_28 ?_
  refine z_iadd (pc := 29) E dX4_takeFrom_29 ?_
  refine z_put (pc := 30) E dX4_takeFrom_30 fiX4_11 fpX4_1 (ok0 (by omega)) rfl rfl (Nat.le_of_ble_eq_true rfl) ?_
  refine z_aload_0 (pc := 33) E dX4_takeFrom_33 ?_
  refine z_dup (pc := 34) E dX4_takeFrom_34 rfl ?_
  refine z_get (pc := 35) E dX4_takeFrom_35 fiX4_80 (ok0 (by omega)) rfl rfl ?_
  refine z_iload_3 (pc := 38) E dX4_takeFrom_38 ?_
  refine z_iadd (pc := 39) E dX4_takeFrom_39 ?_
  refine z_put (pc := 40) E dX4_takeFrom_40 fiX4_80 fpX4_2 (ok0 (by omega)) rfl rfl (Nat.le_of_ble_eq_true rfl) ?_
  exact z_vret (pc := 43) E dX4_takeFrom_43 (by simp [mset])

set_option maxRecDepth 100000 in
set_option maxHeartbeats 4000000 in
theorem m_X4_handOut (M : Mem) (s : Nat) (i cN : Nat) (t : Nat) (hs : s < 2) (hc : M 0 s 0 3 = nI cN) (h10 : cN ≤ 10) (hi : i < cN) (ht : t < 40) (ho : M 2 s t 0 = nI i) : CV yX4_handOut cX4_handOut 2 none 3 0 0 (fun G => [.ref (ad G 0 s 0), .int (nI t)]) M (fun M' => M' = mset (clrM (mset M 2 s t 7 1) s (nI t) 3) 1 s i 1 (trV (M 1 s i 1) 1)) := by
  refine CV.mk (own := RX4) (by decide +kernel) rfl (fun _ => rfl) (fun _ => Nat.le_of_ble_eq_true rfl) (lv0 := fun G => [some (.ref (ad G 0 s 0)), some (.int (nI t))]) (fun _ => rfl) (fun X G E => ?_)
  refine z_aload_0 (pc := 0) E dX4_handOut_0 ?_
  refine z_get (pc := 1) E dX4_handOut_1 fiX4_23 (ok0 (by omega)) rfl rfl ?_
  refine z_iload_1 (pc := 4) E dX4_handOut_4 ?_
  refine z_aald (t0 := 4) (pc := 5) E dX4_handOut_5 (ok18 (by omega)) rfl rfl rfl (by omega) (by omega) rfl ?_
  refine z_iconst (v := 1) (pc := 6) E dX4_handOut_6 (by decide) ?_
  refine z_put (pc := 7) E dX4_handOut_7 fiX4_83 fpX5_7 (ok2 (by omega) (by omega)) rfl rfl (Nat.le_of_ble_eq_true rfl) ?_
  refine z_aload_0 (pc := 10) E dX4_handOut_10 ?_
  refine z_get (pc := 11) E dX4_handOut_11 fiX4_36 (ok0 (by omega)) rfl rfl ?_
  refine z_iload_1 (pc := 14) E dX4_handOut_14 ?_
  refine z_vvf (pc := 15) E (m_X2_clear _ _ _ hs) rfl rfl kX2_clear mlX4_86 dX4_handOut_15 (ok15 (by omega)) rfl rfl rfl (Nat.le_of_ble_eq_true rfl) rfl (by decide) (by decide) ⟨by omega, by omega⟩ ?_
  refine z_aload_0 (pc := 18) E dX4_handOut_18 ?_
  refine z_aload_0 (pc := 19) E dX4_handOut_19 ?_
  refine z_get (pc := 20) E dX4_handOut_20 fiX4_23 (ok0 (by omega)) rfl rfl ?_
  refine z_iload_1 (pc := 23) E dX4_handOut_23 ?_
  refine z_aald (t0 := 4) (pc := 24) E dX4_handOut_24 (ok18 (by omega)) rfl rfl rfl (by omega) (by omega) rfl ?_
  refine z_get (pc := 25) E dX4_handOut_25 fiX4_89 (ok2 (by omega) (by omega)) rfl rfl ?_
  refine z_top (y := nI i) (by rw [clrM_k (by decide)]; simp [mset, ho]) ?_
  refine z_iconst (v := 1) (pc := 28) E dX4_handOut_28 (by decide) ?_
  refine z_vvf (pc := 29) E (m_X4_changeTrust _ _ _ _ _ hs hc h10 hi) rfl rfl kX4_changeTrust mlX4_92 dX4_handOut_29 (ok0 (by omega)) rfl rfl rfl (Nat.le_of_ble_eq_true rfl) rfl (by decide) (by decide) ⟨by omega, by omega⟩ ?_
  exact z_vret (pc := 32) E dX4_handOut_32 rfl

set_option maxRecDepth 100000 in
set_option maxHeartbeats 4000000 in
theorem m_X4_addCustomer (M : Mem) (s : Nat) (cN : Nat) (x : Int32) (hs : s < 2) (hc : M 0 s 0 3 = nI cN) (h10 : cN < 10) : CI yX4_addCustomer cX4_addCustomer 3 (some .int) 1 0 0 (fun G => [.ref (ad G 0 s 0), .int x]) M (fun r M' => r = nI cN ∧ M' = mset (mset (mset M 1 s cN 0 x) 1 s cN 1 5) 0 s 0 3 (nI (cN + 1))) := by
  refine CI.mk (own := RX4) (by decide +kernel) rfl (fun _ => rfl) (fun _ => Nat.le_of_ble_eq_true rfl) (lv0 := fun G => [some (.ref (ad G 0 s 0)), some (.int x), none]) (fun _ => rfl) (fun X G E => ?_)
  refine z_aload_0 (pc := 0) E dX4_addCustomer_0 ?_
  refine z_get (pc := 1) E dX4_addCustomer_1 fiX4_43 (ok0 (by omega)) rfl rfl ?_
  rw [hc]
  refine z_istore_2 (pc := 4) E dX4_addCustomer_4 rfl ?_
  refine z_aload_0 (pc := 5) E dX4_addCustomer_5 ?_
  refine z_get (pc := 6) E dX4_addCustomer_6 fiX4_17 (ok0 (by omega)) rfl rfl ?_
  refine z_iload_2 (pc := 9) E dX4_addCustomer_9 ?_
  refine z_aald (t0 := 2) (pc := 10) E dX4_addCustomer_10 (ok17 (by omega)) rfl rfl rfl (by omega) (by omega) rfl ?_
  refine z_iload_1 (pc := 11) E dX4_addCustomer_11 ?_
  refine z_vvf (pc := 12) E (m_X1_begin _ _ _ _ hs (by omega)) rfl rfl kX1_begin mlX4_53 dX4_addCustomer_12 (ok1 (by omega) (by omega)) rfl rfl rfl (Nat.le_of_ble_eq_true rfl) rfl (by decide) (by decide) ⟨by omega, by omega⟩ ?_
  refine z_aload_0 (pc := 15) E dX4_addCustomer_15 ?_
  refine z_dup (pc := 16) E dX4_addCustomer_16 rfl ?_
  refine z_get (pc := 17) E dX4_addCustomer_17 fiX4_43 (ok0 (by omega)) rfl rfl ?_
  refine z_iconst (v := 1) (pc := 20) E dX4_addCustomer_20 (by decide) ?_
  refine z_iadd (pc := 21) E dX4_addCustomer_21 ?_
  refine z_put (pc := 22) E dX4_addCustomer_22 fiX4_43 fpX4_3 (ok0 (by omega)) rfl rfl (Nat.le_of_ble_eq_true rfl) ?_
  refine z_iload_2 (pc := 25) E dX4_addCustomer_25 ?_
  exact z_iret (pc := 26) E dX4_addCustomer_26 ⟨rfl, by rw [← nI_1, ← hc]; rfl⟩

set_option maxRecDepth 100000 in
set_option maxHeartbeats 4000000 in
theorem m_X4_addTicket (M : Mem) (s i cN n h q : Nat) (k v w : Int32) (hs : s < 2) (hn : M 0 s 0 4 = nI n) (h40 : n < 40) (hi : i < 10) (hh : h < 3) (hq : q < 10 * (h + 1)) (hsp : spotF M s w 3 0 = nI (100 * h + q)) : CI yX4_addTicket cX4_addTicket 7 (some .int) 3 0 0 (fun G => [.ref (ad G 0 s 0), .int (nI i), .int k, .int v, .int w]) M (fun r M' => r = nI n ∧ M' = addM M s i n h q k v w) := by
  refine CI.mk (own := RX4) (by decide +kernel) rfl (fun _ => rfl) (fun _ => Nat.le_of_ble_eq_true rfl) (lv0 := fun G => [some (.ref (ad G 0 s 0)), some (.int (nI i)), some (.int k), some (.int v), some (.int w), none, none]) (fun _ => rfl) (fun X G E => ?_)
  refine z_aload_0 (pc := 0) E dX4_addTicket_0 ?_
  refine z_get (pc := 1) E dX4_addTicket_1 fiX4_50 (ok0 (by omega)) rfl rfl ?_
  rw [hn]
  refine z_istore_5 (pc := 4) E dX4_addTicket_4 rfl ?_
  refine z_aload_0 (pc := 6) E dX4_addTicket_6 ?_
  refine z_get (pc := 7) E dX4_addTicket_7 fiX4_17 (ok0 (by omega)) rfl rfl ?_
  refine z_iload_1 (pc := 10) E dX4_addTicket_10 ?_
  refine z_aald (t0 := 2) (pc := 11) E dX4_addTicket_11 (ok17 (by omega)) rfl rfl rfl (by omega) (by omega) rfl ?_
  refine z_iload_3 (pc := 12) E dX4_addTicket_12 ?_
  refine z_ivp (pc := 13) E (m_X1_loanFor _ _ _ _ hs (by omega)) rfl rfl kX1_loanFor mlX4_57 dX4_addTicket_13 (ok1 (by omega) (by omega)) rfl rfl rfl (Nat.le_of_ble_eq_true rfl) rfl (by decide) (by decide) ⟨by omega, by omega⟩ ?_
  refine z_istore_6 (pc := 16) E dX4_addTicket_16 rfl ?_
  refine z_aload_0 (pc := 18) E dX4_addTicket_18 ?_
  refine z_get (pc := 19) E dX4_addTicket_19 fiX4_23 (ok0 (by omega)) rfl rfl ?_
  refine z_iload_5 (pc := 22) E dX4_addTicket_22 ?_
  refine z_aald (t0 := 4) (pc := 24) E dX4_addTicket_24 (ok18 (by omega)) rfl rfl rfl (by omega) (by omega) rfl ?_
  refine z_iload_1 (pc := 25) E dX4_addTicket_25 ?_
  refine z_iload_2 (pc := 26) E dX4_addTicket_26 ?_
  refine z_iload_3 (pc := 27) E dX4_addTicket_27 ?_
  refine z_iload_4 (pc := 28) E dX4_addTicket_28 ?_
  refine z_vvf (pc := 30) E (m_X5_describe _ _ _ _ _ _ _ hs (by omega)) rfl rfl kX5_describe mlX4_61 dX4_addTicket_30 (ok2 (by omega) (by omega)) rfl rfl rfl (Nat.le_of_ble_eq_true rfl) rfl (by decide) (by decide) ⟨by omega, by omega⟩ ?_
  refine z_aload_0 (pc := 33) E dX4_addTicket_33 ?_
  refine z_get (pc := 34) E dX4_addTicket_34 fiX4_23 (ok0 (by omega)) rfl rfl ?_
  refine z_iload_5 (pc := 37) E dX4_addTicket_37 ?_
  refine z_aald (t0 := 4) (pc := 39) E dX4_addTicket_39 (ok18 (by omega)) rfl rfl rfl (by omega) (by omega) rfl ?_
  refine z_iload_6 (pc := 40) E dX4_addTicket_40 ?_
  refine z_aload_0 (pc := 42) E dX4_addTicket_42 ?_
  refine z_get (pc := 43) E dX4_addTicket_43 fiX4_65 (ok0 (by omega)) rfl rfl ?_
  refine z_vvf (pc := 46) E (m_X5_lend _ _ _ _ _ hs (by omega)) rfl rfl kX5_lend mlX4_68 dX4_addTicket_46 (ok2 (by omega) (by omega)) rfl rfl rfl (Nat.le_of_ble_eq_true rfl) rfl (by decide) (by decide) ⟨by omega, by omega⟩ ?_
  refine z_aload_0 (pc := 49) E dX4_addTicket_49 ?_
  refine z_get (pc := 50) E dX4_addTicket_50 fiX4_36 (ok0 (by omega)) rfl rfl ?_
  refine z_iload_5 (pc := 53) E dX4_addTicket_53 ?_
  refine z_iload_4 (pc := 55) E dX4_addTicket_55 ?_
  refine z_vvf (pc := 57) E (m_X2_lay _ _ h q _ _ hs hh hq (by rw [spotF_k (B := M) (by rfl)]; exact hsp)) rfl rfl kX2_lay mlX4_72 dX4_addTicket_57 (ok15 (by omega)) rfl rfl rfl (Nat.le_of_ble_eq_true rfl) rfl (by decide) (by decide) ⟨by omega, by omega⟩ ?_
  refine z_aload_0 (pc := 60) E dX4_addTicket_60 ?_
  refine z_dup (pc := 61) E dX4_addTicket_61 rfl ?_
  refine z_get (pc := 62) E dX4_addTicket_62 fiX4_11 (ok0 (by omega)) rfl rfl ?_
  refine z_iload_6 (pc := 65) E dX4_addTicket_65 ?_
  refine z_isub (pc := 67) E dX4_addTicket_67 ?_
  refine z_put (pc := 68) E dX4_addTicket_68 fiX4_11 fpX4_1 (ok0 (by omega)) rfl rfl (Nat.le_of_ble_eq_true rfl) ?_
  refine z_aload_0 (pc := 71) E dX4_addTicket_71 ?_
  refine z_get (pc := 72) E dX4_addTicket_72 fiX4_17 (ok0 (by omega)) rfl rfl ?_
  refine z_iload_1 (pc := 75) E dX4_addTicket_75 ?_
  refine z_aald (t0 := 2) (pc := 76) E dX4_addTicket_76 (ok17 (by omega)) rfl rfl rfl (by omega) (by omega) rfl ?_
  refine z_dup (pc := 77) E dX4_addTicket_77 rfl ?_
  refine z_get (pc := 78) E dX4_addTicket_78 fiX4_75 (ok1 (by omega) (by omega)) rfl rfl ?_
  refine z_iload_6 (pc := 81) E dX4_addTicket_81 ?_
  refine z_iadd (pc := 83) E dX4_addTicket_83 ?_
  refine z_put (pc := 84) E dX4_addTicket_84 fiX4_75 fpX1_0 (ok1 (by omega) (by omega)) rfl rfl (Nat.le_of_ble_eq_true rfl) ?_
  refine z_aload_0 (pc := 87) E dX4_addTicket_87 ?_
  refine z_dup (pc := 88) E dX4_addTicket_88 rfl ?_
  refine z_get (pc := 89) E dX4_addTicket_89 fiX4_50 (ok0 (by omega)) rfl rfl ?_
  refine z_top (y := nI n) (by rw [mset_k (by decide), mset_s (by decide)]; exact hn.symm) ?_
  refine z_iconst (v := 1) (pc := 92) E dX4_addTicket_92 (by decide) ?_
  refine z_iadd (pc := 93) E dX4_addTicket_93 ?_
  refine z_put (pc := 94) E dX4_addTicket_94 fiX4_50 fpX4_4 (ok0 (by omega)) rfl rfl (Nat.le_of_ble_eq_true rfl) ?_
  refine z_iload_5 (pc := 97) E dX4_addTicket_97 ?_
  exact z_iret (pc := 99) E dX4_addTicket_99 ⟨rfl, by unfold addM; rw [← nI_1]; rfl⟩

set_option maxRecDepth 100000 in
set_option maxHeartbeats 4000000 in
theorem m_X4_ageTickets (M : Mem) (s n : Nat) (cN : Nat) (hs : s < 2) (hn : M 0 s 0 4 = nI n) (h40 : n ≤ 40) (hc : M 0 s 0 3 = nI cN) (h10 : cN ≤ 10) (how : ∀ t, t < n → ∃ i, i < cN ∧ M 2 s t 0 = nI i) : CV yX4_ageTickets cX4_ageTickets 3 none 3 0 0 (fun G => [.ref (ad G 0 s 0)]) M (fun M' => M' = ageN M s n) := by
  refine CV.mk (own := RX4) (by decide +kernel) rfl (fun _ => rfl) (fun _ => Nat.le_of_ble_eq_true rfl) (lv0 := fun G => [some (.ref (ad G 0 s 0)), none, none]) (fun _ => rfl) (fun X G E => ?_)
  have L : ∀ (k : Nat) (t : Nat) (v2 : Option Value), t + k = n → Z X G (0, 0) (QV X G (fun M' => M' = ageN M s n) 0 0) 2 [some (.ref (ad G 0 s 0)), some (.int (nI t)), v2] [] (ageN M s t) 0 0 := by
    intro k
    induction k with
    | zero =>
      intro t v2 ht
      obtain rfl : t = n := by omega
      refine z_iload_1 (pc := 2) E dX4_ageTickets_2 ?_
      refine z_aload_0 (pc := 3) E dX4_ageTickets_3 ?_
      refine z_get (pc := 4) E dX4_ageTickets_4 fiX4_50 (ok0 (by omega)) rfl rfl ?_
      refine z_icmp_ge (pc := 7) (tgt := 70) E dX4_ageTickets_7 (by decide) (fun h7 => ?_) (fun h7 => absurd h7 (fun z => z (ct_ge ((congrFun (congrFun (congrFun (ageN_k (by decide) (by decide) _) _) _) _).trans hn) (by omega) (by omega))))
      exact z_vret (pc := 70) E dX4_ageTickets_70 rfl
    | succ k ih =>
      intro t v2 ht
      refine z_iload_1 (pc := 2) E dX4_ageTickets_2 ?_
      refine z_aload_0 (pc := 3) E dX4_ageTickets_3 ?_
      refine z_get (pc := 4) E dX4_ageTickets_4 fiX4_50 (ok0 (by omega)) rfl rfl ?_
      refine z_icmp_ge (pc := 7) (tgt := 70) E dX4_ageTickets_7 (by decide) (fun h7 => absurd h7 (ct_lt ((congrFun (congrFun (congrFun (ageN_k (by decide) (by decide) _) _) _) _).trans hn) (by omega) (by omega))) (fun h7 => ?_)
      refine z_aload_0 (pc := 10) E dX4_ageTickets_10 ?_
      refine z_get (pc := 11) E dX4_ageTickets_11 fiX4_23 (ok0 (by omega)) rfl rfl ?_
      refine z_iload_1 (pc := 14) E dX4_ageTickets_14 ?_
      refine z_aald (t0 := 4) (pc := 15) E dX4_ageTickets_15 (ok18 (by omega)) rfl rfl rfl (by omega) (by omega) rfl ?_
      refine z_astore_2 (pc := 16) E dX4_ageTickets_16 rfl ?_
      refine z_aload_2 (pc := 17) E dX4_ageTickets_17 ?_
      refine z_get (pc := 18) E dX4_ageTickets_18 fiX4_83 (ok2 (by omega) (by omega)) rfl rfl ?_
      refine z_iconst (v := 2) (pc := 21) E dX4_ageTickets_21 (by decide) ?_
      refine z_icmp_ne (pc := 22) (tgt := 32) E dX4_ageTickets_22 (by decide) (fun h22 => ?_) (fun h22 => ?_)
      · refine z_aload_2 (pc := 32) E dX4_ageTickets_32 ?_
        refine z_get (pc := 33) E dX4_ageTickets_33 fiX4_83 (ok2 (by omega) (by omega)) rfl rfl ?_
        refine z_if_ne (pc := 36) (tgt := 64) E dX4_ageTickets_36 (by decide) (fun h36 => ?_) (fun h36 => ?_)
        · refine z_iinc_1 (pc := 64) E dX4_ageTickets_64 (nI_1 t) rfl ?_
          refine z_goto (pc := 67) (tgt := 2) E dX4_ageTickets_67 (by decide) ?_
          first | exact z_mem (age_c h22) (ih (t + 1) _ (by omega)) | exact z_mem (age_n1 h22 (fun z => h36 z.1)) (ih (t + 1) _ (by omega)) | exact z_mem (age_n1 h22 (fun z => Int32.not_le.mpr z.2 h47)) (ih (t + 1) _ (by omega)) | exact z_mem (age_y h36 (Int32.not_le.mp h47) hio2 (by omega)) (ih (t + 1) _ (by omega)) | exact z_mem (age_y (Decidable.not_not.mp h36) (Int32.not_le.mp h47) hio2 (by omega)) (ih (t + 1) _ (by omega))
        · refine z_aload_2 (pc := 39) E dX4_ageTickets_39 ?_
          refine z_get (pc := 40) E dX4_ageTickets_40 fiX4_113 (ok2 (by omega) (by omega)) rfl rfl ?_
          refine z_aload_0 (pc := 43) E dX4_ageTickets_43 ?_
          refine z_get (pc := 44) E dX4_ageTickets_44 fiX4_65 (ok0 (by omega)) rfl rfl ?_
          refine z_icmp_ge (pc := 47) (tgt := 64) E dX4_ageTickets_47 (by decide) (fun h47 => ?_) (fun h47 => ?_)
          · refine z_iinc_1 (pc := 64) E dX4_ageTickets_64 (nI_1 t) rfl ?_
            refine z_goto (pc := 67) (tgt := 2) E dX4_ageTickets_67 (by decide) ?_
            first | exact z_mem (age_c h22) (ih (t + 1) _ (by omega)) | exact z_mem (age_n1 h22 (fun z => h36 z.1)) (ih (t + 1) _ (by omega)) | exact z_mem (age_n1 h22 (fun z => Int32.not_le.mpr z.2 h47)) (ih (t + 1) _ (by omega)) | exact z_mem (age_y h36 (Int32.not_le.mp h47) hio2 (by omega)) (ih (t + 1) _ (by omega)) | exact z_mem (age_y (Decidable.not_not.mp h36) (Int32.not_le.mp h47) hio2 (by omega)) (ih (t + 1) _ (by omega))
          · refine z_aload_2 (pc := 50) E dX4_ageTickets_50 ?_
            refine z_vvf (pc := 51) E (m_X5_offer _ _ _ hs (by omega)) rfl rfl kX5_offer mlX4_116 dX4_ageTickets_51 (ok2 (by omega) (by omega)) rfl rfl rfl (Nat.le_of_ble_eq_true rfl) rfl (by decide) (by decide) ⟨by omega, by omega⟩ ?_
            refine z_aload_0 (pc := 54) E dX4_ageTickets_54 ?_
            refine z_aload_2 (pc := 55) E dX4_ageTickets_55 ?_
            refine z_get (pc := 56) E dX4_ageTickets_56 fiX4_89 (ok2 (by omega) (by omega)) rfl rfl ?_
            obtain ⟨i, hi, hio⟩ := how t (by omega)
            have hio2 : ageN M s t 2 s t 0 = nI i := by rw [ageN_f (by decide) (by decide)]; exact hio
            refine z_top (y := nI i) (by simp [mset, hio2]) ?_
            refine z_bipush (v := -2) (pc := 59) E dX4_ageTickets_59 (by decide) ?_
            refine z_vvf (pc := 61) E (m_X4_changeTrust _ _ i cN _ hs (by rw [mset_k (by decide), mset_k (by decide), ageN_k (by decide) (by decide)]; exact hc) h10 hi) rfl rfl kX4_changeTrust mlX4_92 dX4_ageTickets_61 (ok0 (by omega)) rfl rfl rfl (Nat.le_of_ble_eq_true rfl) rfl (by decide) (by decide) ⟨by omega, by omega⟩ ?_
            refine z_iinc_1 (pc := 64) E dX4_ageTickets_64 (nI_1 t) rfl ?_
            refine z_goto (pc := 67) (tgt := 2) E dX4_ageTickets_67 (by decide) ?_
            first | exact z_mem (age_c h22) (ih (t + 1) _ (by omega)) | exact z_mem (age_n1 h22 (fun z => h36 z.1)) (ih (t + 1) _ (by omega)) | exact z_mem (age_n1 h22 (fun z => Int32.not_le.mpr z.2 h47)) (ih (t + 1) _ (by omega)) | exact z_mem (age_y h36 (Int32.not_le.mp h47) hio2 (by omega)) (ih (t + 1) _ (by omega)) | exact z_mem (age_y (Decidable.not_not.mp h36) (Int32.not_le.mp h47) hio2 (by omega)) (ih (t + 1) _ (by omega))
      · refine z_aload_2 (pc := 25) E dX4_ageTickets_25 ?_
        refine z_vvf (pc := 26) E (m_X5_cheapen _ _ _ hs (by omega)) rfl rfl kX5_cheapen mlX4_110 dX4_ageTickets_26 (ok2 (by omega) (by omega)) rfl rfl rfl (Nat.le_of_ble_eq_true rfl) rfl (by decide) (by decide) ⟨by omega, by omega⟩ ?_
        refine z_goto (pc := 29) (tgt := 64) E dX4_ageTickets_29 (by decide) ?_
        refine z_iinc_1 (pc := 64) E dX4_ageTickets_64 (nI_1 t) rfl ?_
        refine z_goto (pc := 67) (tgt := 2) E dX4_ageTickets_67 (by decide) ?_
        first | exact z_mem (age_c h22) (ih (t + 1) _ (by omega)) | exact z_mem (age_n1 h22 (fun z => h36 z.1)) (ih (t + 1) _ (by omega)) | exact z_mem (age_n1 h22 (fun z => Int32.not_le.mpr z.2 h47)) (ih (t + 1) _ (by omega)) | exact z_mem (age_y h36 (Int32.not_le.mp h47) hio2 (by omega)) (ih (t + 1) _ (by omega)) | exact z_mem (age_y (Decidable.not_not.mp h36) (Int32.not_le.mp h47) hio2 (by omega)) (ih (t + 1) _ (by omega))
  refine z_iconst (v := 0) (pc := 0) E dX4_ageTickets_0 (by decide) ?_
  refine z_istore_1 (pc := 1) E dX4_ageTickets_1 rfl ?_
  exact L n 0 _ (by omega)

set_option maxRecDepth 100000 in
set_option maxHeartbeats 4000000 in
theorem m_X4_sellToBuyer (M : Mem) (s n : Nat) (w : Nat) (hs : s < 2) (hn : M 0 s 0 4 = nI n) (h40 : n ≤ 40) (hw : w < 7) : CI yX4_sellToBuyer cX4_sellToBuyer 3 (some .boolean) 2 0 0 (fun G => [.ref (ad G 0 s 0), .ref (ad G 3 s w)]) M (fun r M' => r = (sellR M s n w).1 ∧ M' = (sellR M s n w).2) := by
  refine CI.mk (own := RX4) (by decide +kernel) rfl (fun _ => rfl) (fun _ => Nat.le_of_ble_eq_true rfl) (lv0 := fun G => [some (.ref (ad G 0 s 0)), some (.ref (ad G 3 s w)), none]) (fun _ => rfl) (fun X G E => ?_)
  refine z_aload_0 (pc := 0) E dX4_sellToBuyer_0 ?_
  refine z_aload_1 (pc := 1) E dX4_sellToBuyer_1 ?_
  refine z_ivp (pc := 2) E (m_X4_dearestFor _ _ _ _ hs hn h40 hw) rfl rfl kX4_dearestFor mlX4_119 dX4_sellToBuyer_2 (ok0 (by omega)) rfl rfl rfl (Nat.le_of_ble_eq_true rfl) rfl (by decide) (by decide) ⟨by omega, by omega⟩ ?_
  refine z_istore_2 (pc := 5) E dX4_sellToBuyer_5 rfl ?_
  refine z_iload_2 (pc := 6) E dX4_sellToBuyer_6 ?_
  refine z_iconst (v := -1) (pc := 7) E dX4_sellToBuyer_7 (by decide) ?_
  refine z_icmp_ne (pc := 8) (tgt := 13) E dX4_sellToBuyer_8 (by decide) (fun h8 => ?_) (fun h8 => ?_)
  · obtain ⟨t, -, ht, he⟩ := dear_rng.resolve_left h8
    rw [he]
    refine z_aload_0 (pc := 13) E dX4_sellToBuyer_13 ?_
    refine z_get (pc := 14) E dX4_sellToBuyer_14 fiX4_23 (ok0 (by omega)) rfl rfl ?_
    refine z_iload_2 (pc := 17) E dX4_sellToBuyer_17 ?_
    refine z_aald (t0 := 4) (pc := 18) E dX4_sellToBuyer_18 (ok18 (by omega)) rfl rfl rfl (by omega) (by omega) rfl ?_
    refine z_iconst (v := 3) (pc := 19) E dX4_sellToBuyer_19 (by decide) ?_
    refine z_put (pc := 20) E dX4_sellToBuyer_20 fiX4_83 fpX5_7 (ok2 (by omega) (by omega)) rfl rfl (Nat.le_of_ble_eq_true rfl) ?_
    refine z_aload_0 (pc := 23) E dX4_sellToBuyer_23 ?_
    refine z_dup (pc := 24) E dX4_sellToBuyer_24 rfl ?_
    refine z_get (pc := 25) E dX4_sellToBuyer_25 fiX4_11 (ok0 (by omega)) rfl rfl ?_
    refine z_aload_0 (pc := 28) E dX4_sellToBuyer_28 ?_
    refine z_get (pc := 29) E dX4_sellToBuyer_29 fiX4_23 (ok0 (by omega)) rfl rfl ?_
    refine z_iload_2 (pc := 32) E dX4_sellToBuyer_32 ?_
    refine z_aald (t0 := 4) (pc := 33) E dX4_sellToBuyer_33 (ok18 (by omega)) rfl rfl rfl (by omega) (by omega) rfl ?_
    refine z_get (pc := 34) E dX4_sellToBuyer_34 fiX4_123 (ok2 (by omega) (by omega)) rfl rfl ?_
    refine z_iadd (pc := 37) E dX4_sellToBuyer_37 ?_
    refine z_put (pc := 38) E dX4_sellToBuyer_38 fiX4_11 fpX4_1 (ok0 (by omega)) rfl rfl (Nat.le_of_ble_eq_true rfl) ?_
    refine z_aload_0 (pc := 41) E dX4_sellToBuyer_41 ?_
    refine z_get (pc := 42) E dX4_sellToBuyer_42 fiX4_36 (ok0 (by omega)) rfl rfl ?_
    refine z_iload_2 (pc := 45) E dX4_sellToBuyer_45 ?_
    refine z_vvf (pc := 46) E (m_X2_clear _ _ _ hs) rfl rfl kX2_clear mlX4_86 dX4_sellToBuyer_46 (ok15 (by omega)) rfl rfl rfl (Nat.le_of_ble_eq_true rfl) rfl (by decide) (by decide) ⟨by omega, by omega⟩ ?_
    refine z_iconst (v := 1) (pc := 49) E dX4_sellToBuyer_49 (by decide) ?_
    exact z_zret (pc := 50) E dX4_sellToBuyer_50 (by first | exact Or.inl rfl | exact Or.inr rfl | exact b2_01 _) ⟨by rw [sell_y he (by omega)], by rw [sell_y he (by omega)]; simp [mset]⟩
  · refine z_iconst (v := 0) (pc := 11) E dX4_sellToBuyer_11 (by decide) ?_
    exact z_zret (pc := 12) E dX4_sellToBuyer_12 (by first | exact Or.inl rfl | exact Or.inr rfl | exact b2_01 _) ⟨by first | rw [sell_n h8] | rw [sell_n (Decidable.not_not.mp h8)], by first | rw [sell_n h8] | rw [sell_n (Decidable.not_not.mp h8)]⟩

theorem goN_st0 {X : PX} {G : GT} {Q : State → Prop} {M : Mem} {s n d k0 D : Nat} {a0 : Option Value} (hdk : d + k0 < 2 ^ 31) (hd : M 0 s 0 0 = nI d) (h : (sellR (ageN (goN M s n k0).2 s n) s n ((d + k0) % 7)).1 = 0) (k : Z X G (0, 0) Q 4 [a0, some (.int (nI D)), some (.int (goN M s n (k0 + 1)).1), some (.int (nI (k0 + 1)))] [] (goN M s n (k0 + 1)).2 0 0) :
    Z X G (0, 0) Q 4 [a0, some (.int (nI D)), some (.int (goN M s n k0).1), some (.int (nI (k0 + 1)))] [] (mset (sellR (ageN (goN M s n k0).2 s n) s n ((d + k0) % 7)).2 0 s 0 0 ((sellR (ageN (goN M s n k0).2 s n) s n ((d + k0) % 7)).2 0 s 0 0 + 1)) 0 0 := by
  have e0 : ((goN M s n k0).2 0 s 0 0).toNatClampNeg = d + k0 := by rw [goN_d hd, nI_clamp hdk]
  have e1 : (goN M s n (k0 + 1)).1 = (goN M s n k0).1 := by
    show (goN M s n k0).1 + (sellR _ s n (((goN M s n k0).2 0 s 0 0).toNatClampNeg % 7)).1 = _
    rw [e0]
    rw [h]; exact Int32.add_zero _
  have e2 : (goN M s n (k0 + 1)).2 = mset (sellR (ageN (goN M s n k0).2 s n) s n ((d + k0) % 7)).2 0 s 0 0 ((sellR (ageN (goN M s n k0).2 s n) s n ((d + k0) % 7)).2 0 s 0 0 + 1) := by
    show mset (sellR _ s n (((goN M s n k0).2 0 s 0 0).toNatClampNeg % 7)).2 0 s 0 0 _ = _
    rw [e0, sell_0 (by decide), ageN_k (by decide) (by decide)]
  rw [e1, e2] at k
  exact k

theorem goN_st1 {X : PX} {G : GT} {Q : State → Prop} {M : Mem} {s n d k0 D : Nat} {a0 : Option Value} (hdk : d + k0 < 2 ^ 31) (hd : M 0 s 0 0 = nI d) (h : ¬ (sellR (ageN (goN M s n k0).2 s n) s n ((d + k0) % 7)).1 = 0) (k : Z X G (0, 0) Q 4 [a0, some (.int (nI D)), some (.int (goN M s n (k0 + 1)).1), some (.int (nI (k0 + 1)))] [] (goN M s n (k0 + 1)).2 0 0) :
    Z X G (0, 0) Q 4 [a0, some (.int (nI D)), some (.int ((goN M s n k0).1 + Int32.ofInt 1)), some (.int (nI (k0 + 1)))] [] (mset (sellR (ageN (goN M s n k0).2 s n) s n ((d + k0) % 7)).2 0 s 0 0 ((sellR (ageN (goN M s n k0).2 s n) s n ((d + k0) % 7)).2 0 s 0 0 + 1)) 0 0 := by
  have e0 : ((goN M s n k0).2 0 s 0 0).toNatClampNeg = d + k0 := by rw [goN_d hd, nI_clamp hdk]
  have e1 : (goN M s n (k0 + 1)).1 = ((goN M s n k0).1 + Int32.ofInt 1) := by
    show (goN M s n k0).1 + (sellR _ s n (((goN M s n k0).2 0 s 0 0).toNatClampNeg % 7)).1 = _
    rw [e0]
    rw [sell_01.resolve_left h]; rfl
  have e2 : (goN M s n (k0 + 1)).2 = mset (sellR (ageN (goN M s n k0).2 s n) s n ((d + k0) % 7)).2 0 s 0 0 ((sellR (ageN (goN M s n k0).2 s n) s n ((d + k0) % 7)).2 0 s 0 0 + 1) := by
    show mset (sellR _ s n (((goN M s n k0).2 0 s 0 0).toNatClampNeg % 7)).2 0 s 0 0 _ = _
    rw [e0, sell_0 (by decide), ageN_k (by decide) (by decide)]
  rw [e1, e2] at k
  exact k

set_option maxRecDepth 100000 in
set_option maxHeartbeats 4000000 in
theorem m_X4_goOn (M : Mem) (s n cN d D : Nat) (hs : s < 2) (hn : M 0 s 0 4 = nI n) (h40 : n ≤ 40) (hc : M 0 s 0 3 = nI cN) (h10 : cN ≤ 10) (how : ∀ t, t < n → ∃ i, i < cN ∧ M 2 s t 0 = nI i) (hd : M 0 s 0 0 = nI d) (hdD : d + D < 2 ^ 31) (hD : D ≤ 200) : CI yX4_goOn cX4_goOn 4 (some .int) 4 0 0 (fun G => [.ref (ad G 0 s 0), .int (nI D)]) M (fun r M' => r = (goN M s n D).1 ∧ M' = (goN M s n D).2) := by
  refine CI.mk (own := RX4) (by decide +kernel) rfl (fun _ => rfl) (fun _ => Nat.le_of_ble_eq_true rfl) (lv0 := fun G => [some (.ref (ad G 0 s 0)), some (.int (nI D)), none, none]) (fun _ => rfl) (fun X G E => ?_)
  have L : ∀ (k : Nat) (k0 : Nat), k0 + k = D → Z X G (0, 0) (QI X G (fun r M' => r = (goN M s n D).1 ∧ M' = (goN M s n D).2) 0 0) 4 [some (.ref (ad G 0 s 0)), some (.int (nI D)), some (.int (goN M s n k0).1), some (.int (nI k0))] [] ((goN M s n k0).2) 0 0 := by
    intro k
    induction k with
    | zero =>
      intro k0 ht
      obtain rfl : k0 = D := by omega
      refine z_iload_3 (pc := 4) E dX4_goOn_4 ?_
      refine z_iload_1 (pc := 5) E dX4_goOn_5 ?_
      refine z_icmp_ge (pc := 6) (tgt := 53) E dX4_goOn_6 (by decide) (fun h6 => ?_) (fun h6 => absurd h6 (fun z => z (ct_ge rfl (by omega) (by omega))))
      refine z_iload_2 (pc := 53) E dX4_goOn_53 ?_
      exact z_iret (pc := 54) E dX4_goOn_54 ⟨rfl, rfl⟩
    | succ k ih =>
      intro k0 ht
      refine z_iload_3 (pc := 4) E dX4_goOn_4 ?_
      refine z_iload_1 (pc := 5) E dX4_goOn_5 ?_
      refine z_icmp_ge (pc := 6) (tgt := 53) E dX4_goOn_6 (by decide) (fun h6 => absurd h6 (ct_lt rfl (by omega) (by omega))) (fun h6 => ?_)
      refine z_aload_0 (pc := 9) E dX4_goOn_9 ?_
      refine z_vvf (pc := 10) E (m_X4_ageTickets _ _ n cN hs ((goN_0 (by decide) (by decide) k0).trans hn) h40 ((goN_0 (by decide) (by decide) k0).trans hc) h10 (fun t ht2 => by rw [goN_f (by decide) (by decide)]; exact how t ht2)) rfl rfl kX4_ageTickets mlX4_97 dX4_goOn_10 (ok0 (by omega)) rfl rfl rfl (Nat.le_of_ble_eq_true rfl) rfl (by decide) (by decide) ⟨by omega, by omega⟩ ?_
      refine z_aload_0 (pc := 13) E dX4_goOn_13 ?_
      refine z_aload_0 (pc := 14) E dX4_goOn_14 ?_
      refine z_get (pc := 15) E dX4_goOn_15 fiX4_29 (ok0 (by omega)) rfl rfl ?_
      refine z_aload_0 (pc := 18) E dX4_goOn_18 ?_
      refine z_get (pc := 19) E dX4_goOn_19 fiX4_65 (ok0 (by omega)) rfl rfl ?_
      have hdy : ageN (goN M s n k0).2 s n 0 s 0 0 = nI (d + k0) := by rw [ageN_k (by decide) (by decide)]; exact goN_d hd k0
      refine z_top (y := nI (d + k0)) hdy.symm ?_
      refine z_bipush (v := 7) (pc := 22) E dX4_goOn_22 (by decide) ?_
      refine z_isp (pc := 24) E (m_J9_floorMod_7cf53 _ (d + k0) (by omega)) rfl rfl kJ9_floorMod_7cf53 mlX4_100 dX4_goOn_24 rfl (Nat.le_of_ble_eq_true rfl) rfl (by decide) (by decide) ⟨by omega, by omega⟩ ?_
      refine z_aald (t0 := 1) (pc := 27) E dX4_goOn_27 (ok19 (by omega)) rfl rfl rfl (Nat.mod_lt _ (by decide)) (by omega) rfl ?_
      refine z_ivf (pc := 28) E (m_X4_sellToBuyer _ _ n _ hs (by rw [ageN_k (by decide) (by decide)]; exact (goN_0 (by decide) (by decide) k0).trans hn) h40 (Nat.mod_lt _ (by decide))) rfl rfl kX4_sellToBuyer mlX4_106 dX4_goOn_28 (ok0 (by omega)) rfl rfl rfl (Nat.le_of_ble_eq_true rfl) rfl (by decide) (by decide) ⟨by omega, by omega⟩ ?_
      refine z_if_eq (pc := 31) (tgt := 37) E dX4_goOn_31 (by decide) (fun h31 => ?_) (fun h31 => ?_)
      · refine z_aload_0 (pc := 37) E dX4_goOn_37 ?_
        refine z_dup (pc := 38) E dX4_goOn_38 rfl ?_
        refine z_get (pc := 39) E dX4_goOn_39 fiX4_65 (ok0 (by omega)) rfl rfl ?_
        refine z_iconst (v := 1) (pc := 42) E dX4_goOn_42 (by decide) ?_
        refine z_iadd (pc := 43) E dX4_goOn_43 ?_
        refine z_put (pc := 44) E dX4_goOn_44 fiX4_65 fpX4_0 (ok0 (by omega)) rfl rfl (Nat.le_of_ble_eq_true rfl) ?_
        refine z_iinc_3 (pc := 47) E dX4_goOn_47 (nI_1 k0) rfl ?_
        refine z_goto (pc := 50) (tgt := 4) E dX4_goOn_50 (by decide) ?_
        first | exact goN_st0 (by omega) hd h31 (ih (k0 + 1) (by omega)) | exact goN_st1 (by omega) hd h31 (ih (k0 + 1) (by omega))
      · refine z_iinc_2 (pc := 34) E dX4_goOn_34 rfl rfl ?_
        refine z_aload_0 (pc := 37) E dX4_goOn_37 ?_
        refine z_dup (pc := 38) E dX4_goOn_38 rfl ?_
        refine z_get (pc := 39) E dX4_goOn_39 fiX4_65 (ok0 (by omega)) rfl rfl ?_
        refine z_iconst (v := 1) (pc := 42) E dX4_goOn_42 (by decide) ?_
        refine z_iadd (pc := 43) E dX4_goOn_43 ?_
        refine z_put (pc := 44) E dX4_goOn_44 fiX4_65 fpX4_0 (ok0 (by omega)) rfl rfl (Nat.le_of_ble_eq_true rfl) ?_
        refine z_iinc_3 (pc := 47) E dX4_goOn_47 (nI_1 k0) rfl ?_
        refine z_goto (pc := 50) (tgt := 4) E dX4_goOn_50 (by decide) ?_
        first | exact goN_st0 (by omega) hd h31 (ih (k0 + 1) (by omega)) | exact goN_st1 (by omega) hd h31 (ih (k0 + 1) (by omega))
  refine z_iconst (v := 0) (pc := 0) E dX4_goOn_0 (by decide) ?_
  refine z_istore_2 (pc := 1) E dX4_goOn_1 rfl ?_
  refine z_iconst (v := 0) (pc := 2) E dX4_goOn_2 (by decide) ?_
  refine z_istore_3 (pc := 3) E dX4_goOn_3 rfl ?_
  exact L D 0 (by omega)

set_option maxRecDepth 100000 in
set_option maxHeartbeats 4000000 in
theorem m_X4_copyFrom (M : Mem) (s s2 n cN : Nat) (hs : s < 2) (hs2 : s2 < 2) (hne : ¬ s2 = s) (hn : M 0 s2 0 4 = nI n) (h40 : n ≤ 40) (hc : M 0 s2 0 3 = nI cN) (h10 : cN ≤ 10) : CV yX4_copyFrom cX4_copyFrom 3 none 3 0 0 (fun G => [.ref (ad G 0 s 0), .ref (ad G 0 s2 0)]) M (fun M' => M' = shopC M s s2 cN n) := by
  refine CV.mk (own := RX4) (by decide +kernel) rfl (fun _ => rfl) (fun _ => Nat.le_of_ble_eq_true rfl) (lv0 := fun G => [some (.ref (ad G 0 s 0)), some (.ref (ad G 0 s2 0)), none]) (fun _ => rfl) (fun X G E => ?_)
  have SC : scaK M s s2 = mset (mset (mset (mset (mset M 0 s 0 0 (M 0 s2 0 0)) 0 s 0 1 (M 0 s2 0 1)) 0 s 0 2 (M 0 s2 0 2)) 0 s 0 3 (M 0 s2 0 3)) 0 s 0 4 (M 0 s2 0 4) := by
    simp only [mset_r, rset_cell, rset_rset]
    refine ((cpK_s M 0 s s2 0 5).trans ?_)
    rw [cpK_0]
    exact congrArg (rset M 0 s 0) (upd5 _ _).symm
  have hn : scaK M s s2 0 s 0 4 = nI n := by
    refine (if_pos ⟨rfl, rfl, Nat.zero_lt_one, by decide⟩).trans hn
  have hc : scaK M s s2 0 s 0 3 = nI cN := by
    refine (if_pos ⟨rfl, rfl, Nat.zero_lt_one, by decide⟩).trans hc
  have L3 : ∀ (k : Nat) (i : Nat), i + k = 7 → Z X G (0, 0) (QV X G (fun M' => M' = shopC M s s2 cN n) 0 0) 104 [some (.ref (ad G 0 s 0)), some (.ref (ad G 0 s2 0)), some (.int (nI i))] [] ((buyK (cpK (cpK (scaK M s s2) 1 s s2 cN 2) 2 s s2 n 10) s s2 i)) 0 0 := by
    intro k
    induction k with
    | zero =>
      intro i ht
      obtain rfl : i = 7 := by omega
      refine z_iload_2 (pc := 104) E dX4_copyFrom_104 ?_
      refine z_bipush (v := 7) (pc := 105) E dX4_copyFrom_105 (by decide) ?_
      refine z_icmp_ge (pc := 107) (tgt := 143) E dX4_copyFrom_107 (by decide) (fun h107 => ?_) (fun h107 => absurd h107 (fun z => z (ct_ge (n := 7) rfl (by omega) (by omega))))
      refine z_aload_0 (pc := 143) E dX4_copyFrom_143 ?_
      refine z_get (pc := 144) E dX4_copyFrom_144 fiX4_36 (ok0 (by omega)) rfl rfl ?_
      refine z_aload_1 (pc := 147) E dX4_copyFrom_147 ?_
      refine z_get (pc := 148) E dX4_copyFrom_148 fiX4_36 (ok0 (by omega)) rfl rfl ?_
      refine z_vvf (pc := 151) E (m_X2_copyFrom _ _ _ hs hs2 hne) rfl rfl kX2_copyFrom mlX4_194 dX4_copyFrom_151 (ok15 (by omega)) rfl rfl rfl (Nat.le_of_ble_eq_true rfl) rfl (by decide) (by decide) ⟨by omega, by omega⟩ ?_
      exact z_vret (pc := 154) E dX4_copyFrom_154 rfl
    | succ k ih =>
      intro i ht
      refine z_iload_2 (pc := 104) E dX4_copyFrom_104 ?_
      refine z_bipush (v := 7) (pc := 105) E dX4_copyFrom_105 (by decide) ?_
      refine z_icmp_ge (pc := 107) (tgt := 143) E dX4_copyFrom_107 (by decide) (fun h107 => absurd h107 (ct_lt (n := 7) rfl (by omega) (by omega))) (fun h107 => ?_)
      refine z_aload_0 (pc := 110) E dX4_copyFrom_110 ?_
      refine z_get (pc := 111) E dX4_copyFrom_111 fiX4_29 (ok0 (by omega)) rfl rfl ?_
      refine z_iload_2 (pc := 114) E dX4_copyFrom_114 ?_
      refine z_aald (t0 := 1) (pc := 115) E dX4_copyFrom_115 (ok19 (by omega)) rfl rfl rfl (by omega) (by omega) rfl ?_
      refine z_aload_1 (pc := 116) E dX4_copyFrom_116 ?_
      refine z_get (pc := 117) E dX4_copyFrom_117 fiX4_29 (ok0 (by omega)) rfl rfl ?_
      refine z_iload_2 (pc := 120) E dX4_copyFrom_120 ?_
      refine z_aald (t0 := 1) (pc := 121) E dX4_copyFrom_121 (ok19 (by omega)) rfl rfl rfl (by omega) (by omega) rfl ?_
      refine z_get (pc := 122) E dX4_copyFrom_122 fiX4_187 (ok3 (by omega) (by omega)) rfl rfl ?_
      refine z_aload_1 (pc := 125) E dX4_copyFrom_125 ?_
      refine z_get (pc := 126) E dX4_copyFrom_126 fiX4_29 (ok0 (by omega)) rfl rfl ?_
      refine z_iload_2 (pc := 129) E dX4_copyFrom_129 ?_
      refine z_aald (t0 := 1) (pc := 130) E dX4_copyFrom_130 (ok19 (by omega)) rfl rfl rfl (by omega) (by omega) rfl ?_
      refine z_get (pc := 131) E dX4_copyFrom_131 fiX4_188 (ok3 (by omega) (by omega)) rfl rfl ?_
      refine z_vvf (pc := 134) E (m_X0_want _ _ _ _ _ hs (by omega)) rfl rfl kX0_want mlX4_191 dX4_copyFrom_134 (ok3 (by omega) (by omega)) rfl rfl rfl (Nat.le_of_ble_eq_true rfl) rfl (by decide) (by decide) ⟨by omega, by omega⟩ ?_
      refine z_iinc_2 (pc := 137) E dX4_copyFrom_137 (nI_1 i) rfl ?_
      refine z_goto (pc := 140) (tgt := 104) E dX4_copyFrom_140 (by decide) ?_
      exact z_mem (by rw [buyK_o _ hne, mset_r, mset_r, rset_cell, rset_rset, buyK_n, upd2]; exact buyK_s _ _ _ _) (ih (i + 1) (by omega))
  have L2 : ∀ (k : Nat) (t : Nat), t + k = n → Z X G (0, 0) (QV X G (fun M' => M' = shopC M s s2 cN n) 0 0) 73 [some (.ref (ad G 0 s 0)), some (.ref (ad G 0 s2 0)), some (.int (nI t))] [] ((cpK (cpK (scaK M s s2) 1 s s2 cN 2) 2 s s2 t 10)) 0 0 := by
    intro k
    induction k with
    | zero =>
      intro t ht
      obtain rfl : t = n := by omega
      refine z_iload_2 (pc := 73) E dX4_copyFrom_73 ?_
      refine z_aload_0 (pc := 74) E dX4_copyFrom_74 ?_
      refine z_get (pc := 75) E dX4_copyFrom_75 fiX4_50 (ok0 (by omega)) rfl rfl ?_
      refine z_icmp_ge (pc := 78) (tgt := 102) E dX4_copyFrom_78 (by decide) (fun h78 => ?_) (fun h78 => absurd h78 (fun z => z (ct_ge ((congrFun (congrFun (congrFun ((cpK_k _ (by decide)).trans (cpK_k _ (by decide))) _) _) _).trans hn) (by omega) (by omega))))
      refine z_iconst (v := 0) (pc := 102) E dX4_copyFrom_102 (by decide) ?_
      refine z_istore_2 (pc := 103) E dX4_copyFrom_103 rfl ?_
      exact z_mem (buyK_0 _ _ _) (L3 7 0 (by omega))
    | succ k ih =>
      intro t ht
      refine z_iload_2 (pc := 73) E dX4_copyFrom_73 ?_
      refine z_aload_0 (pc := 74) E dX4_copyFrom_74 ?_
      refine z_get (pc := 75) E dX4_copyFrom_75 fiX4_50 (ok0 (by omega)) rfl rfl ?_
      refine z_icmp_ge (pc := 78) (tgt := 102) E dX4_copyFrom_78 (by decide) (fun h78 => absurd h78 (ct_lt ((congrFun (congrFun (congrFun ((cpK_k _ (by decide)).trans (cpK_k _ (by decide))) _) _) _).trans hn) (by omega) (by omega))) (fun h78 => ?_)
      refine z_aload_0 (pc := 81) E dX4_copyFrom_81 ?_
      refine z_get (pc := 82) E dX4_copyFrom_82 fiX4_23 (ok0 (by omega)) rfl rfl ?_
      refine z_iload_2 (pc := 85) E dX4_copyFrom_85 ?_
      refine z_aald (t0 := 4) (pc := 86) E dX4_copyFrom_86 (ok18 (by omega)) rfl rfl rfl (by omega) (by omega) rfl ?_
      refine z_aload_1 (pc := 87) E dX4_copyFrom_87 ?_
      refine z_get (pc := 88) E dX4_copyFrom_88 fiX4_23 (ok0 (by omega)) rfl rfl ?_
      refine z_iload_2 (pc := 91) E dX4_copyFrom_91 ?_
      refine z_aald (t0 := 4) (pc := 92) E dX4_copyFrom_92 (ok18 (by omega)) rfl rfl rfl (by omega) (by omega) rfl ?_
      refine z_vvf (pc := 93) E (m_X5_copyFrom _ _ _ _ _ hs (by omega) hs2 (by omega) hne) rfl rfl kX5_copyFrom mlX4_184 dX4_copyFrom_93 (ok2 (by omega) (by omega)) rfl rfl rfl (Nat.le_of_ble_eq_true rfl) rfl (by decide) (by decide) ⟨by omega, by omega⟩ ?_
      refine z_iinc_2 (pc := 96) E dX4_copyFrom_96 (nI_1 t) rfl ?_
      refine z_goto (pc := 99) (tgt := 73) E dX4_copyFrom_99 (by decide) ?_
      exact z_mem (by rw [cpK_o _ hne, cpK_n]; exact cpK_s _ _ _ _ _ _) (ih (t + 1) (by omega))
  have L1 : ∀ (k : Nat) (i : Nat), i + k = cN → Z X G (0, 0) (QV X G (fun M' => M' = shopC M s s2 cN n) 0 0) 42 [some (.ref (ad G 0 s 0)), some (.ref (ad G 0 s2 0)), some (.int (nI i))] [] ((cpK (scaK M s s2) 1 s s2 i 2)) 0 0 := by
    intro k
    induction k with
    | zero =>
      intro i ht
      obtain rfl : i = cN := by omega
      refine z_iload_2 (pc := 42) E dX4_copyFrom_42 ?_
      refine z_aload_0 (pc := 43) E dX4_copyFrom_43 ?_
      refine z_get (pc := 44) E dX4_copyFrom_44 fiX4_43 (ok0 (by omega)) rfl rfl ?_
      refine z_icmp_ge (pc := 47) (tgt := 71) E dX4_copyFrom_47 (by decide) (fun h47 => ?_) (fun h47 => absurd h47 (fun z => z (ct_ge ((congrFun (congrFun (congrFun (cpK_k _ (by decide)) _) _) _).trans hc) (by omega) (by omega))))
      refine z_iconst (v := 0) (pc := 71) E dX4_copyFrom_71 (by decide) ?_
      refine z_istore_2 (pc := 72) E dX4_copyFrom_72 rfl ?_
      exact z_mem (cpK_0 _ _ _ _ _) (L2 n 0 (by omega))
    | succ k ih =>
      intro i ht
      refine z_iload_2 (pc := 42) E dX4_copyFrom_42 ?_
      refine z_aload_0 (pc := 43) E dX4_copyFrom_43 ?_
      refine z_get (pc := 44) E dX4_copyFrom_44 fiX4_43 (ok0 (by omega)) rfl rfl ?_
      refine z_icmp_ge (pc := 47) (tgt := 71) E dX4_copyFrom_47 (by decide) (fun h47 => absurd h47 (ct_lt ((congrFun (congrFun (congrFun (cpK_k _ (by decide)) _) _) _).trans hc) (by omega) (by omega))) (fun h47 => ?_)
      refine z_aload_0 (pc := 50) E dX4_copyFrom_50 ?_
      refine z_get (pc := 51) E dX4_copyFrom_51 fiX4_17 (ok0 (by omega)) rfl rfl ?_
      refine z_iload_2 (pc := 54) E dX4_copyFrom_54 ?_
      refine z_aald (t0 := 2) (pc := 55) E dX4_copyFrom_55 (ok17 (by omega)) rfl rfl rfl (by omega) (by omega) rfl ?_
      refine z_aload_1 (pc := 56) E dX4_copyFrom_56 ?_
      refine z_get (pc := 57) E dX4_copyFrom_57 fiX4_17 (ok0 (by omega)) rfl rfl ?_
      refine z_iload_2 (pc := 60) E dX4_copyFrom_60 ?_
      refine z_aald (t0 := 2) (pc := 61) E dX4_copyFrom_61 (ok17 (by omega)) rfl rfl rfl (by omega) (by omega) rfl ?_
      refine z_vvf (pc := 62) E (m_X1_copyFrom _ _ _ _ _ hs (by omega) hs2 (by omega) hne) rfl rfl kX1_copyFrom mlX4_180 dX4_copyFrom_62 (ok1 (by omega) (by omega)) rfl rfl rfl (Nat.le_of_ble_eq_true rfl) rfl (by decide) (by decide) ⟨by omega, by omega⟩ ?_
      refine z_iinc_2 (pc := 65) E dX4_copyFrom_65 (nI_1 i) rfl ?_
      refine z_goto (pc := 68) (tgt := 42) E dX4_copyFrom_68 (by decide) ?_
      exact z_mem (by rw [cpK_o _ hne, mset_r, mset_r, rset_cell, rset_rset, cpK_n, upd2]; refine (cpK_s _ _ _ _ _ _).trans (rset_congr (fun j => ?_)); match j with | 0 => rfl | 1 => rfl | j + 2 => rfl) (ih (i + 1) (by omega))
  refine z_aload_0 (pc := 0) E dX4_copyFrom_0 ?_
  refine z_aload_1 (pc := 1) E dX4_copyFrom_1 ?_
  refine z_get (pc := 2) E dX4_copyFrom_2 fiX4_65 (ok0 (by omega)) rfl rfl ?_
  refine z_put (pc := 5) E dX4_copyFrom_5 fiX4_65 fpX4_0 (ok0 (by omega)) rfl rfl (Nat.le_of_ble_eq_true rfl) ?_
  refine z_aload_0 (pc := 8) E dX4_copyFrom_8 ?_
  refine z_aload_1 (pc := 9) E dX4_copyFrom_9 ?_
  refine z_get (pc := 10) E dX4_copyFrom_10 fiX4_11 (ok0 (by omega)) rfl rfl ?_
  refine z_put (pc := 13) E dX4_copyFrom_13 fiX4_11 fpX4_1 (ok0 (by omega)) rfl rfl (Nat.le_of_ble_eq_true rfl) ?_
  refine z_aload_0 (pc := 16) E dX4_copyFrom_16 ?_
  refine z_aload_1 (pc := 17) E dX4_copyFrom_17 ?_
  refine z_get (pc := 18) E dX4_copyFrom_18 fiX4_80 (ok0 (by omega)) rfl rfl ?_
  refine z_put (pc := 21) E dX4_copyFrom_21 fiX4_80 fpX4_2 (ok0 (by omega)) rfl rfl (Nat.le_of_ble_eq_true rfl) ?_
  refine z_aload_0 (pc := 24) E dX4_copyFrom_24 ?_
  refine z_aload_1 (pc := 25) E dX4_copyFrom_25 ?_
  refine z_get (pc := 26) E dX4_copyFrom_26 fiX4_43 (ok0 (by omega)) rfl rfl ?_
  refine z_put (pc := 29) E dX4_copyFrom_29 fiX4_43 fpX4_3 (ok0 (by omega)) rfl rfl (Nat.le_of_ble_eq_true rfl) ?_
  refine z_aload_0 (pc := 32) E dX4_copyFrom_32 ?_
  refine z_aload_1 (pc := 33) E dX4_copyFrom_33 ?_
  refine z_get (pc := 34) E dX4_copyFrom_34 fiX4_50 (ok0 (by omega)) rfl rfl ?_
  refine z_put (pc := 37) E dX4_copyFrom_37 fiX4_50 fpX4_4 (ok0 (by omega)) rfl rfl (Nat.le_of_ble_eq_true rfl) ?_
  refine z_iconst (v := 0) (pc := 40) E dX4_copyFrom_40 (by decide) ?_
  refine z_istore_2 (pc := 41) E dX4_copyFrom_41 rfl ?_
  exact z_mem (SC.trans (by simp only [mset_sh hne])) (z_mem (cpK_0 _ _ _ _ _) (L1 cN 0 (by omega)))

