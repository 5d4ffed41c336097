set_option maxRecDepth 100000 in
set_option maxHeartbeats 4000000 in
theorem m_X4_isHeldBy (M : Mem) (s : Nat) (t : Nat) (c : Int32) (hs : s < 2) (ht : t < 40) : CI yX4_isHeldBy cX4_isHeldBy 3 (some .boolean) 0 0 0 (fun G => [.ref (ad G 0 s 0), .int (nI t), .int c]) M (fun r M' => r = b2 (M 2 s t 7 = 0 ∧ M 2 s t 0 = c) ∧ M' = M) := by
  refine CI.mk (own := RX4) (by decide +kernel) rfl (fun _ => rfl) (fun _ => Nat.le_of_ble_eq_true rfl) (lv0 := fun G => [some (.ref (ad G 0 s 0)), some (.int (nI t)), some (.int c)]) (fun _ => rfl) (fun X G E => ?_)
  refine z_aload_0 (pc := 0) E dX4_isHeldBy_0 ?_
  refine z_get (pc := 1) E dX4_isHeldBy_1 fiX4_23 (ok0 (by omega)) rfl rfl ?_
  refine z_iload_1 (pc := 4) E dX4_isHeldBy_4 ?_
  refine z_aald (t0 := 4) (pc := 5) E dX4_isHeldBy_5 (ok18 (by omega)) rfl rfl rfl (by omega) (by omega) rfl ?_
  refine z_get (pc := 6) E dX4_isHeldBy_6 fiX4_83 (ok2 (by omega) (by omega)) rfl rfl ?_
  refine z_if_ne (pc := 9) (tgt := 29) E dX4_isHeldBy_9 (by decide) (fun h9 => ?_) (fun h9 => ?_)
  · refine z_iconst (v := 0) (pc := 29) E dX4_isHeldBy_29 (by decide) ?_
    exact z_zret (pc := 30) E dX4_isHeldBy_30 (by first | exact Or.inl rfl | exact Or.inr rfl | exact b2_01 _) ⟨by first | exact (b2_t ⟨h9, h22⟩).symm | exact (b2_f (fun z => h22 z.2)).symm | exact (b2_f (fun z => h9 z.1)).symm, rfl⟩
  · refine z_aload_0 (pc := 12) E dX4_isHeldBy_12 ?_
    refine z_get (pc := 13) E dX4_isHeldBy_13 fiX4_23 (ok0 (by omega)) rfl rfl ?_
    refine z_iload_1 (pc := 16) E dX4_isHeldBy_16 ?_
    refine z_aald (t0 := 4) (pc := 17) E dX4_isHeldBy_17 (ok18 (by omega)) rfl rfl rfl (by omega) (by omega) rfl ?_
    refine z_get (pc := 18) E dX4_isHeldBy_18 fiX4_89 (ok2 (by omega) (by omega)) rfl rfl ?_
    refine z_iload_2 (pc := 21) E dX4_isHeldBy_21 ?_
    refine z_icmp_ne (pc := 22) (tgt := 29) E dX4_isHeldBy_22 (by decide) (fun h22 => ?_) (fun h22 => ?_)
    · refine z_iconst (v := 0) (pc := 29) E dX4_isHeldBy_29 (by decide) ?_
      exact z_zret (pc := 30) E dX4_isHeldBy_30 (by first | exact Or.inl rfl | exact Or.inr rfl | exact b2_01 _) ⟨by first | exact (b2_t ⟨h9, h22⟩).symm | exact (b2_f (fun z => h22 z.2)).symm | exact (b2_f (fun z => h9 z.1)).symm, rfl⟩
    · refine z_iconst (v := 1) (pc := 25) E dX4_isHeldBy_25 (by decide) ?_
      refine z_goto (pc := 26) (tgt := 30) E dX4_isHeldBy_26 (by decide) ?_
      exact z_zret (pc := 30) E dX4_isHeldBy_30 (by first | exact Or.inl rfl | exact Or.inr rfl | exact b2_01 _) ⟨by first | exact (b2_t ⟨h9, h22⟩).symm | exact (b2_f (fun z => h22 z.2)).symm | exact (b2_f (fun z => h9 z.1)).symm, rfl⟩

set_option maxRecDepth 100000 in
set_option maxHeartbeats 4000000 in
theorem m_X4_ticketsIn (M : Mem) (s n : Nat) (x : Int32) (hs : s < 2) (hn : M 0 s 0 4 = nI n) (h40 : n ≤ 40) : CI yX4_ticketsIn cX4_ticketsIn 4 (some .int) 0 0 0 (fun G => [.ref (ad G 0 s 0), .int x]) M (fun r M' => r = stN M s n x ∧ M' = M) := by
  refine CI.mk (own := RX4) (by decide +kernel) rfl (fun _ => rfl) (fun _ => Nat.le_of_ble_eq_true rfl) (lv0 := fun G => [some (.ref (ad G 0 s 0)), some (.int x), none, none]) (fun _ => rfl) (fun X G E => ?_)
  have L : ∀ (k : Nat) (t : Nat), t + k = n → Z X G (0, 0) (QI X G (fun r M' => r = stN M s n x ∧ M' = M) 0 0) 4 [some (.ref (ad G 0 s 0)), some (.int x), some (.int (fsum t (fun t => b2 (M 2 s t 7 = x)))), some (.int (nI t))] [] (M) 0 0 := by
    intro k
    induction k with
    | zero =>
      intro t ht
      obtain rfl : t = n := by omega
      refine z_iload_3 (pc := 4) E dX4_ticketsIn_4 ?_
      refine z_aload_0 (pc := 5) E dX4_ticketsIn_5 ?_
      refine z_get (pc := 6) E dX4_ticketsIn_6 fiX4_50 (ok0 (by omega)) rfl rfl ?_
      refine z_icmp_ge (pc := 9) (tgt := 34) E dX4_ticketsIn_9 (by decide) (fun h9 => ?_) (fun h9 => absurd h9 (fun z => z (ct_ge hn (by omega) (by omega))))
      refine z_iload_2 (pc := 34) E dX4_ticketsIn_34 ?_
      exact z_iret (pc := 35) E dX4_ticketsIn_35 ⟨rfl, rfl⟩
    | succ k ih =>
      intro t ht
      refine z_iload_3 (pc := 4) E dX4_ticketsIn_4 ?_
      refine z_aload_0 (pc := 5) E dX4_ticketsIn_5 ?_
      refine z_get (pc := 6) E dX4_ticketsIn_6 fiX4_50 (ok0 (by omega)) rfl rfl ?_
      refine z_icmp_ge (pc := 9) (tgt := 34) E dX4_ticketsIn_9 (by decide) (fun h9 => absurd h9 (ct_lt hn (by omega) (by omega))) (fun h9 => ?_)
      refine z_aload_0 (pc := 12) E dX4_ticketsIn_12 ?_
      refine z_get (pc := 13) E dX4_ticketsIn_13 fiX4_23 (ok0 (by omega)) rfl rfl ?_
      refine z_iload_3 (pc := 16) E dX4_ticketsIn_16 ?_
      refine z_aald (t0 := 4) (pc := 17) E dX4_ticketsIn_17 (ok18 (by omega)) rfl rfl rfl (by omega) (by omega) rfl ?_
      refine z_get (pc := 18) E dX4_ticketsIn_18 fiX4_83 (ok2 (by omega) (by omega)) rfl rfl ?_
      refine z_iload_1 (pc := 21) E dX4_ticketsIn_21 ?_
      refine z_icmp_ne (pc := 22) (tgt := 28) E dX4_ticketsIn_22 (by decide) (fun h22 => ?_) (fun h22 => ?_)
      · refine z_iinc_3 (pc := 28) E dX4_ticketsIn_28 (nI_1 t) rfl ?_
        refine z_goto (pc := 31) (tgt := 4) E dX4_ticketsIn_31 (by decide) ?_
        first | exact ih (t + 1) (by omega) | exact (show fsum (t + 1) (fun t => b2 (M 2 s t 7 = x)) = fsum t (fun t => b2 (M 2 s t 7 = x)) from by show fsum t (fun t => b2 (M 2 s t 7 = x)) + b2 _ = _; rw [b2_f (fun z => h22 z)]; exact Int32.add_zero _) ▸ ih (t + 1) (by omega)
      · refine z_iinc_2 (pc := 25) E dX4_ticketsIn_25 (show fsum t (fun t => b2 (M 2 s t 7 = x)) + Int32.ofInt 1 = fsum (t + 1) (fun t => b2 (M 2 s t 7 = x)) from by show _ = fsum t (fun t => b2 (M 2 s t 7 = x)) + b2 _; rw [b2_t h22]; rfl) rfl ?_
        refine z_iinc_3 (pc := 28) E dX4_ticketsIn_28 (nI_1 t) rfl ?_
        refine z_goto (pc := 31) (tgt := 4) E dX4_ticketsIn_31 (by decide) ?_
        first | exact ih (t + 1) (by omega) | exact (show fsum (t + 1) (fun t => b2 (M 2 s t 7 = x)) = fsum t (fun t => b2 (M 2 s t 7 = x)) from by show fsum t (fun t => b2 (M 2 s t 7 = x)) + b2 _ = _; rw [b2_f (fun z => h22 z)]; exact Int32.add_zero _) ▸ ih (t + 1) (by omega)
  refine z_iconst (v := 0) (pc := 0) E dX4_ticketsIn_0 (by decide) ?_
  refine z_istore_2 (pc := 1) E dX4_ticketsIn_1 rfl ?_
  refine z_iconst (v := 0) (pc := 2) E dX4_ticketsIn_2 (by decide) ?_
  refine z_istore_3 (pc := 3) E dX4_ticketsIn_3 rfl ?_
  exact L n 0 (by omega)

set_option maxRecDepth 100000 in
set_option maxHeartbeats 4000000 in
theorem m_X4_ticketsOf (M : Mem) (s n : Nat) (c x : Int32) (hs : s < 2) (hn : M 0 s 0 4 = nI n) (h40 : n ≤ 40) : CI yX4_ticketsOf cX4_ticketsOf 5 (some .int) 0 0 0 (fun G => [.ref (ad G 0 s 0), .int c, .int x]) M (fun r M' => r = ofN M s n c x ∧ M' = M) := by
  refine CI.mk (own := RX4) (by decide +kernel) rfl (fun _ => rfl) (fun _ => Nat.le_of_ble_eq_true rfl) (lv0 := fun G => [some (.ref (ad G 0 s 0)), some (.int c), some (.int x), none, none]) (fun _ => rfl) (fun X G E => ?_)
  have L : ∀ (k : Nat) (t : Nat), t + k = n → Z X G (0, 0) (QI X G (fun r M' => r = ofN M s n c x ∧ M' = M) 0 0) 5 [some (.ref (ad G 0 s 0)), some (.int c), some (.int x), some (.int (fsum t (fun t => b2 (M 2 s t 0 = c ∧ M 2 s t 7 = x)))), some (.int (nI t))] [] (M) 0 0 := by
    intro k
    induction k with
    | zero =>
      intro t ht
      obtain rfl : t = n := by omega
      refine z_iload_4 (pc := 5) E dX4_ticketsOf_5 ?_
      refine z_aload_0 (pc := 7) E dX4_ticketsOf_7 ?_
      refine z_get (pc := 8) E dX4_ticketsOf_8 fiX4_50 (ok0 (by omega)) rfl rfl ?_
      refine z_icmp_ge (pc := 11) (tgt := 51) E dX4_ticketsOf_11 (by decide) (fun h11 => ?_) (fun h11 => absurd h11 (fun z => z (ct_ge hn (by omega) (by omega))))
      refine z_iload_3 (pc := 51) E dX4_ticketsOf_51 ?_
      exact z_iret (pc := 52) E dX4_ticketsOf_52 ⟨rfl, rfl⟩
    | succ k ih =>
      intro t ht
      refine z_iload_4 (pc := 5) E dX4_ticketsOf_5 ?_
      refine z_aload_0 (pc := 7) E dX4_ticketsOf_7 ?_
      refine z_get (pc := 8) E dX4_ticketsOf_8 fiX4_50 (ok0 (by omega)) rfl rfl ?_
      refine z_icmp_ge (pc := 11) (tgt := 51) E dX4_ticketsOf_11 (by decide) (fun h11 => absurd h11 (ct_lt hn (by omega) (by omega))) (fun h11 => ?_)
      refine z_aload_0 (pc := 14) E dX4_ticketsOf_14 ?_
      refine z_get (pc := 15) E dX4_ticketsOf_15 fiX4_23 (ok0 (by omega)) rfl rfl ?_
      refine z_iload_4 (pc := 18) E dX4_ticketsOf_18 ?_
      refine z_aald (t0 := 4) (pc := 20) E dX4_ticketsOf_20 (ok18 (by omega)) rfl rfl rfl (by omega) (by omega) rfl ?_
      refine z_get (pc := 21) E dX4_ticketsOf_21 fiX4_89 (ok2 (by omega) (by omega)) rfl rfl ?_
      refine z_iload_1 (pc := 24) E dX4_ticketsOf_24 ?_
      refine z_icmp_ne (pc := 25) (tgt := 45) E dX4_ticketsOf_25 (by decide) (fun h25 => ?_) (fun h25 => ?_)
      · refine z_iinc_4 (pc := 45) E dX4_ticketsOf_45 (nI_1 t) rfl ?_
        refine z_goto (pc := 48) (tgt := 5) E dX4_ticketsOf_48 (by decide) ?_
        first | exact ih (t + 1) (by omega) | exact (show fsum (t + 1) (fun t => b2 (M 2 s t 0 = c ∧ M 2 s t 7 = x)) = fsum t (fun t => b2 (M 2 s t 0 = c ∧ M 2 s t 7 = x)) from by show fsum t (fun t => b2 (M 2 s t 0 = c ∧ M 2 s t 7 = x)) + b2 _ = _; rw [b2_f (fun z => h25 z.1)]; exact Int32.add_zero _) ▸ ih (t + 1) (by omega) | exact (show fsum (t + 1) (fun t => b2 (M 2 s t 0 = c ∧ M 2 s t 7 = x)) = fsum t (fun t => b2 (M 2 s t 0 = c ∧ M 2 s t 7 = x)) from by show fsum t (fun t => b2 (M 2 s t 0 = c ∧ M 2 s t 7 = x)) + b2 _ = _; rw [b2_f (fun z => h39 z.2)]; exact Int32.add_zero _) ▸ ih (t + 1) (by omega)
      · refine z_aload_0 (pc := 28) E dX4_ticketsOf_28 ?_
        refine z_get (pc := 29) E dX4_ticketsOf_29 fiX4_23 (ok0 (by omega)) rfl rfl ?_
        refine z_iload_4 (pc := 32) E dX4_ticketsOf_32 ?_
        refine z_aald (t0 := 4) (pc := 34) E dX4_ticketsOf_34 (ok18 (by omega)) rfl rfl rfl (by omega) (by omega) rfl ?_
        refine z_get (pc := 35) E dX4_ticketsOf_35 fiX4_83 (ok2 (by omega) (by omega)) rfl rfl ?_
        refine z_iload_2 (pc := 38) E dX4_ticketsOf_38 ?_
        refine z_icmp_ne (pc := 39) (tgt := 45) E dX4_ticketsOf_39 (by decide) (fun h39 => ?_) (fun h39 => ?_)
        · refine z_iinc_4 (pc := 45) E dX4_ticketsOf_45 (nI_1 t) rfl ?_
          refine z_goto (pc := 48) (tgt := 5) E dX4_ticketsOf_48 (by decide) ?_
          first | exact ih (t + 1) (by omega) | exact (show fsum (t + 1) (fun t => b2 (M 2 s t 0 = c ∧ M 2 s t 7 = x)) = fsum t (fun t => b2 (M 2 s t 0 = c ∧ M 2 s t 7 = x)) from by show fsum t (fun t => b2 (M 2 s t 0 = c ∧ M 2 s t 7 = x)) + b2 _ = _; rw [b2_f (fun z => h25 z.1)]; exact Int32.add_zero _) ▸ ih (t + 1) (by omega) | exact (show fsum (t + 1) (fun t => b2 (M 2 s t 0 = c ∧ M 2 s t 7 = x)) = fsum t (fun t => b2 (M 2 s t 0 = c ∧ M 2 s t 7 = x)) from by show fsum t (fun t => b2 (M 2 s t 0 = c ∧ M 2 s t 7 = x)) + b2 _ = _; rw [b2_f (fun z => h39 z.2)]; exact Int32.add_zero _) ▸ ih (t + 1) (by omega)
        · refine z_iinc_3 (pc := 42) E dX4_ticketsOf_42 (show fsum t (fun t => b2 (M 2 s t 0 = c ∧ M 2 s t 7 = x)) + Int32.ofInt 1 = fsum (t + 1) (fun t => b2 (M 2 s t 0 = c ∧ M 2 s t 7 = x)) from by show _ = fsum t (fun t => b2 (M 2 s t 0 = c ∧ M 2 s t 7 = x)) + b2 _; rw [b2_t ⟨h25, h39⟩]; rfl) rfl ?_
          refine z_iinc_4 (pc := 45) E dX4_ticketsOf_45 (nI_1 t) rfl ?_
          refine z_goto (pc := 48) (tgt := 5) E dX4_ticketsOf_48 (by decide) ?_
          first | exact ih (t + 1) (by omega) | exact (show fsum (t + 1) (fun t => b2 (M 2 s t 0 = c ∧ M 2 s t 7 = x)) = fsum t (fun t => b2 (M 2 s t 0 = c ∧ M 2 s t 7 = x)) from by show fsum t (fun t => b2 (M 2 s t 0 = c ∧ M 2 s t 7 = x)) + b2 _ = _; rw [b2_f (fun z => h25 z.1)]; exact Int32.add_zero _) ▸ ih (t + 1) (by omega) | exact (show fsum (t + 1) (fun t => b2 (M 2 s t 0 = c ∧ M 2 s t 7 = x)) = fsum t (fun t => b2 (M 2 s t 0 = c ∧ M 2 s t 7 = x)) from by show fsum t (fun t => b2 (M 2 s t 0 = c ∧ M 2 s t 7 = x)) + b2 _ = _; rw [b2_f (fun z => h39 z.2)]; exact Int32.add_zero _) ▸ ih (t + 1) (by omega)
  refine z_iconst (v := 0) (pc := 0) E dX4_ticketsOf_0 (by decide) ?_
  refine z_istore_3 (pc := 1) E dX4_ticketsOf_1 rfl ?_
  refine z_iconst (v := 0) (pc := 2) E dX4_ticketsOf_2 (by decide) ?_
  refine z_istore_4 (pc := 3) E dX4_ticketsOf_3 rfl ?_
  exact L n 0 (by omega)

set_option maxRecDepth 100000 in
set_option maxHeartbeats 4000000 in
theorem m_X4_debtOf (M : Mem) (s n : Nat) (c : Int32) (hs : s < 2) (hn : M 0 s 0 4 = nI n) (h40 : n ≤ 40) : CI yX4_debtOf cX4_debtOf 4 (some .int) 3 0 0 (fun G => [.ref (ad G 0 s 0), .int c]) M (fun r M' => r = debtN M s n c ∧ M' = M) := by
  refine CI.mk (own := RX4) (by decide +kernel) rfl (fun _ => rfl) (fun _ => Nat.le_of_ble_eq_true rfl) (lv0 := fun G => [some (.ref (ad G 0 s 0)), some (.int c), none, none]) (fun _ => rfl) (fun X G E => ?_)
  have L : ∀ (k : Nat) (t : Nat), t + k = n → Z X G (0, 0) (QI X G (fun r M' => r = debtN M s n c ∧ M' = M) 0 0) 4 [some (.ref (ad G 0 s 0)), some (.int c), some (.int (fsum t (fun t => if M 2 s t 0 = c then debtV M s t (M 0 s 0 0) else 0))), some (.int (nI t))] [] (M) 0 0 := by
    intro k
    induction k with
    | zero =>
      intro t ht
      obtain rfl : t = n := by omega
      refine z_iload_3 (pc := 4) E dX4_debtOf_4 ?_
      refine z_aload_0 (pc := 5) E dX4_debtOf_5 ?_
      refine z_get (pc := 6) E dX4_debtOf_6 fiX4_50 (ok0 (by omega)) rfl rfl ?_
      refine z_icmp_ge (pc := 9) (tgt := 47) E dX4_debtOf_9 (by decide) (fun h9 => ?_) (fun h9 => absurd h9 (fun z => z (ct_ge hn (by omega) (by omega))))
      refine z_iload_2 (pc := 47) E dX4_debtOf_47 ?_
      exact z_iret (pc := 48) E dX4_debtOf_48 ⟨rfl, rfl⟩
    | succ k ih =>
      intro t ht
      refine z_iload_3 (pc := 4) E dX4_debtOf_4 ?_
      refine z_aload_0 (pc := 5) E dX4_debtOf_5 ?_
      refine z_get (pc := 6) E dX4_debtOf_6 fiX4_50 (ok0 (by omega)) rfl rfl ?_
      refine z_icmp_ge (pc := 9) (tgt := 47) E dX4_debtOf_9 (by decide) (fun h9 => absurd h9 (ct_lt hn (by omega) (by omega))) (fun h9 => ?_)
      refine z_aload_0 (pc := 12) E dX4_debtOf_12 ?_
      refine z_get (pc := 13) E dX4_debtOf_13 fiX4_23 (ok0 (by omega)) rfl rfl ?_
      refine z_iload_3 (pc := 16) E dX4_debtOf_16 ?_
      refine z_aald (t0 := 4) (pc := 17) E dX4_debtOf_17 (ok18 (by omega)) rfl rfl rfl (by omega) (by omega) rfl ?_
      refine z_get (pc := 18) E dX4_debtOf_18 fiX4_89 (ok2 (by omega) (by omega)) rfl rfl ?_
      refine z_iload_1 (pc := 21) E dX4_debtOf_21 ?_
      refine z_icmp_ne (pc := 22) (tgt := 41) E dX4_debtOf_22 (by decide) (fun h22 => ?_) (fun h22 => ?_)
      · refine z_iinc_3 (pc := 41) E dX4_debtOf_41 (nI_1 t) rfl ?_
        refine z_goto (pc := 44) (tgt := 4) E dX4_debtOf_44 (by decide) ?_
        first | exact (show fsum (t + 1) (fun t => if M 2 s t 0 = c then debtV M s t (M 0 s 0 0) else 0) = fsum t (fun t => if M 2 s t 0 = c then debtV M s t (M 0 s 0 0) else 0) + _ from by show fsum t (fun t => if M 2 s t 0 = c then debtV M s t (M 0 s 0 0) else 0) + (if _ then _ else _) = _; rw [if_pos h22]) ▸ ih (t + 1) (by omega) | exact (show fsum (t + 1) (fun t => if M 2 s t 0 = c then debtV M s t (M 0 s 0 0) else 0) = fsum t (fun t => if M 2 s t 0 = c then debtV M s t (M 0 s 0 0) else 0) from by show fsum t (fun t => if M 2 s t 0 = c then debtV M s t (M 0 s 0 0) else 0) + (if _ then _ else _) = _; rw [if_neg (fun z => h22 z)]; exact Int32.add_zero _) ▸ ih (t + 1) (by omega)
      · refine z_iload_2 (pc := 25) E dX4_debtOf_25 ?_
        refine z_aload_0 (pc := 26) E dX4_debtOf_26 ?_
        refine z_get (pc := 27) E dX4_debtOf_27 fiX4_23 (ok0 (by omega)) rfl rfl ?_
        refine z_iload_3 (pc := 30) E dX4_debtOf_30 ?_
        refine z_aald (t0 := 4) (pc := 31) E dX4_debtOf_31 (ok18 (by omega)) rfl rfl rfl (by omega) (by omega) rfl ?_
        refine z_aload_0 (pc := 32) E dX4_debtOf_32 ?_
        refine z_get (pc := 33) E dX4_debtOf_33 fiX4_65 (ok0 (by omega)) rfl rfl ?_
        refine z_ivp (pc := 36) E (m_X5_debt _ _ _ _ hs (by omega)) rfl rfl kX5_debt mlX4_130 dX4_debtOf_36 (ok2 (by omega) (by omega)) rfl rfl rfl (Nat.le_of_ble_eq_true rfl) rfl (by decide) (by decide) ⟨by omega, by omega⟩ ?_
        refine z_iadd (pc := 39) E dX4_debtOf_39 ?_
        refine z_istore_2 (pc := 40) E dX4_debtOf_40 rfl ?_
        refine z_iinc_3 (pc := 41) E dX4_debtOf_41 (nI_1 t) rfl ?_
        refine z_goto (pc := 44) (tgt := 4) E dX4_debtOf_44 (by decide) ?_
        first | exact (show fsum (t + 1) (fun t => if M 2 s t 0 = c then debtV M s t (M 0 s 0 0) else 0) = fsum t (fun t => if M 2 s t 0 = c then debtV M s t (M 0 s 0 0) else 0) + _ from by show fsum t (fun t => if M 2 s t 0 = c then debtV M s t (M 0 s 0 0) else 0) + (if _ then _ else _) = _; rw [if_pos h22]) ▸ ih (t + 1) (by omega) | exact (show fsum (t + 1) (fun t => if M 2 s t 0 = c then debtV M s t (M 0 s 0 0) else 0) = fsum t (fun t => if M 2 s t 0 = c then debtV M s t (M 0 s 0 0) else 0) from by show fsum t (fun t => if M 2 s t 0 = c then debtV M s t (M 0 s 0 0) else 0) + (if _ then _ else _) = _; rw [if_neg (fun z => h22 z)]; exact Int32.add_zero _) ▸ ih (t + 1) (by omega)
  refine z_iconst (v := 0) (pc := 0) E dX4_debtOf_0 (by decide) ?_
  refine z_istore_2 (pc := 1) E dX4_debtOf_1 rfl ?_
  refine z_iconst (v := 0) (pc := 2) E dX4_debtOf_2 (by decide) ?_
  refine z_istore_3 (pc := 3) E dX4_debtOf_3 rfl ?_
  exact L n 0 (by omega)

set_option maxRecDepth 100000 in
set_option maxHeartbeats 4000000 in
theorem m_X4_loansHeld (M : Mem) (s n : Nat) (hs : s < 2) (hn : M 0 s 0 4 = nI n) (h40 : n ≤ 40) : CI yX4_loansHeld cX4_loansHeld 3 (some .int) 0 0 0 (fun G => [.ref (ad G 0 s 0)]) M (fun r M' => r = loanN M s n ∧ M' = M) := by
  refine CI.mk (own := RX4) (by decide +kernel) rfl (fun _ => rfl) (fun _ => Nat.le_of_ble_eq_true rfl) (lv0 := fun G => [some (.ref (ad G 0 s 0)), none, none]) (fun _ => rfl) (fun X G E => ?_)
  have L : ∀ (k : Nat) (t : Nat), t + k = n → Z X G (0, 0) (QI X G (fun r M' => r = loanN M s n ∧ M' = M) 0 0) 4 [some (.ref (ad G 0 s 0)), some (.int (fsum t (fun t => if M 2 s t 7 = 0 then M 2 s t 4 else 0))), some (.int (nI t))] [] (M) 0 0 := by
    intro k
    induction k with
    | zero =>
      intro t ht
      obtain rfl : t = n := by omega
      refine z_iload_2 (pc := 4) E dX4_loansHeld_4 ?_
      refine z_aload_0 (pc := 5) E dX4_loansHeld_5 ?_
      refine z_get (pc := 6) E dX4_loansHeld_6 fiX4_50 (ok0 (by omega)) rfl rfl ?_
      refine z_icmp_ge (pc := 9) (tgt := 42) E dX4_loansHeld_9 (by decide) (fun h9 => ?_) (fun h9 => absurd h9 (fun z => z (ct_ge hn (by omega) (by omega))))
      refine z_iload_1 (pc := 42) E dX4_loansHeld_42 ?_
      exact z_iret (pc := 43) E dX4_loansHeld_43 ⟨rfl, rfl⟩
    | succ k ih =>
      intro t ht
      refine z_iload_2 (pc := 4) E dX4_loansHeld_4 ?_
      refine z_aload_0 (pc := 5) E dX4_loansHeld_5 ?_
      refine z_get (pc := 6) E dX4_loansHeld_6 fiX4_50 (ok0 (by omega)) rfl rfl ?_
      refine z_icmp_ge (pc := 9) (tgt := 42) E dX4_loansHeld_9 (by decide) (fun h9 => absurd h9 (ct_lt hn (by omega) (by omega))) (fun h9 => ?_)
      refine z_aload_0 (pc := 12) E dX4_loansHeld_12 ?_
      refine z_get (pc := 13) E dX4_loansHeld_13 fiX4_23 (ok0 (by omega)) rfl rfl ?_
      refine z_iload_2 (pc := 16) E dX4_loansHeld_16 ?_
      refine z_aald (t0 := 4) (pc := 17) E dX4_loansHeld_17 (ok18 (by omega)) rfl rfl rfl (by omega) (by omega) rfl ?_
      refine z_get (pc := 18) E dX4_loansHeld_18 fiX4_83 (ok2 (by omega) (by omega)) rfl rfl ?_
      refine z_if_ne (pc := 21) (tgt := 36) E dX4_loansHeld_21 (by decide) (fun h21 => ?_) (fun h21 => ?_)
      · refine z_iinc_2 (pc := 36) E dX4_loansHeld_36 (nI_1 t) rfl ?_
        refine z_goto (pc := 39) (tgt := 4) E dX4_loansHeld_39 (by decide) ?_
        first | exact (show fsum (t + 1) (fun t => if M 2 s t 7 = 0 then M 2 s t 4 else 0) = fsum t (fun t => if M 2 s t 7 = 0 then M 2 s t 4 else 0) + _ from by show fsum t (fun t => if M 2 s t 7 = 0 then M 2 s t 4 else 0) + (if _ then _ else _) = _; rw [if_pos h21]) ▸ ih (t + 1) (by omega) | exact (show fsum (t + 1) (fun t => if M 2 s t 7 = 0 then M 2 s t 4 else 0) = fsum t (fun t => if M 2 s t 7 = 0 then M 2 s t 4 else 0) from by show fsum t (fun t => if M 2 s t 7 = 0 then M 2 s t 4 else 0) + (if _ then _ else _) = _; rw [if_neg (fun z => h21 z)]; exact Int32.add_zero _) ▸ ih (t + 1) (by omega)
      · refine z_iload_1 (pc := 24) E dX4_loansHeld_24 ?_
        refine z_aload_0 (pc := 25) E dX4_loansHeld_25 ?_
        refine z_get (pc := 26) E dX4_loansHeld_26 fiX4_23 (ok0 (by omega)) rfl rfl ?_
        refine z_iload_2 (pc := 29) E dX4_loansHeld_29 ?_
        refine z_aald (t0 := 4) (pc := 30) E dX4_loansHeld_30 (ok18 (by omega)) rfl rfl rfl (by omega) (by omega) rfl ?_
        refine z_get (pc := 31) E dX4_loansHeld_31 fiX4_143 (ok2 (by omega) (by omega)) rfl rfl ?_
        refine z_iadd (pc := 34) E dX4_loansHeld_34 ?_
        refine z_istore_1 (pc := 35) E dX4_loansHeld_35 rfl ?_
        refine z_iinc_2 (pc := 36) E dX4_loansHeld_36 (nI_1 t) rfl ?_
        refine z_goto (pc := 39) (tgt := 4) E dX4_loansHeld_39 (by decide) ?_
        first | exact (show fsum (t + 1) (fun t => if M 2 s t 7 = 0 then M 2 s t 4 else 0) = fsum t (fun t => if M 2 s t 7 = 0 then M 2 s t 4 else 0) + _ from by show fsum t (fun t => if M 2 s t 7 = 0 then M 2 s t 4 else 0) + (if _ then _ else _) = _; rw [if_pos h21]) ▸ ih (t + 1) (by omega) | exact (show fsum (t + 1) (fun t => if M 2 s t 7 = 0 then M 2 s t 4 else 0) = fsum t (fun t => if M 2 s t 7 = 0 then M 2 s t 4 else 0) from by show fsum t (fun t => if M 2 s t 7 = 0 then M 2 s t 4 else 0) + (if _ then _ else _) = _; rw [if_neg (fun z => h21 z)]; exact Int32.add_zero _) ▸ ih (t + 1) (by omega)
  refine z_iconst (v := 0) (pc := 0) E dX4_loansHeld_0 (by decide) ?_
  refine z_istore_1 (pc := 1) E dX4_loansHeld_1 rfl ?_
  refine z_iconst (v := 0) (pc := 2) E dX4_loansHeld_2 (by decide) ?_
  refine z_istore_2 (pc := 3) E dX4_loansHeld_3 rfl ?_
  exact L n 0 (by omega)

set_option maxRecDepth 100000 in
set_option maxHeartbeats 4000000 in
theorem m_X4_canPay (M : Mem) (s : Nat) (i cN : Nat) (x : Int32) (hs : s < 2) (hc : M 0 s 0 3 = nI cN) (h10 : cN ≤ 10) (hi : i < cN) : CI yX4_canPay cX4_canPay 3 (some .boolean) 2 0 0 (fun G => [.ref (ad G 0 s 0), .int (nI i), .int x]) M (fun r M' => r = b2 (x ≤ M 1 s i 0) ∧ M' = M) := by
  refine CI.mk (own := RX4) (by decide +kernel) rfl (fun _ => rfl) (fun _ => Nat.le_of_ble_eq_true rfl) (lv0 := fun G => [some (.ref (ad G 0 s 0)), some (.int (nI i)), some (.int x)]) (fun _ => rfl) (fun X G E => ?_)
  refine z_aload_0 (pc := 0) E dX4_canPay_0 ?_
  refine z_iload_1 (pc := 1) E dX4_canPay_1 ?_
  refine z_ivp (pc := 2) E (m_X4_hasCustomer _ _ _ hs) rfl rfl kX4_hasCustomer mlX4_76 dX4_canPay_2 (ok0 (by omega)) rfl rfl rfl (Nat.le_of_ble_eq_true rfl) rfl (by decide) (by decide) ⟨by omega, by omega⟩ ?_
  rw [hc, b2_t (in_of_ix rfl hi (by omega))]
  refine z_if_eq (pc := 5) (tgt := 25) E dX4_canPay_5 (by decide) (fun h5 => absurd h5 (by decide)) (fun h5 => ?_)
  refine z_aload_0 (pc := 8) E dX4_canPay_8 ?_
  refine z_get (pc := 9) E dX4_canPay_9 fiX4_17 (ok0 (by omega)) rfl rfl ?_
  refine z_iload_1 (pc := 12) E dX4_canPay_12 ?_
  refine z_aald (t0 := 2) (pc := 13) E dX4_canPay_13 (ok17 (by omega)) rfl rfl rfl (by omega) (by omega) rfl ?_
  refine z_get (pc := 14) E dX4_canPay_14 fiX4_75 (ok1 (by omega) (by omega)) rfl rfl ?_
  refine z_iload_2 (pc := 17) E dX4_canPay_17 ?_
  refine z_icmp_lt (pc := 18) (tgt := 25) E dX4_canPay_18 (by decide) (fun h18 => ?_) (fun h18 => ?_)
  · refine z_iconst (v := 0) (pc := 25) E dX4_canPay_25 (by decide) ?_
    exact z_zret (pc := 26) E dX4_canPay_26 (by first | exact Or.inl rfl | exact Or.inr rfl | exact b2_01 _) ⟨by first | exact (b2_t (Int32.not_lt.mp h18)).symm | exact (b2_f (fun z => Int32.not_le.mpr h18 z)).symm, rfl⟩
  · refine z_iconst (v := 1) (pc := 21) E dX4_canPay_21 (by decide) ?_
    refine z_goto (pc := 22) (tgt := 26) E dX4_canPay_22 (by decide) ?_
    exact z_zret (pc := 26) E dX4_canPay_26 (by first | exact Or.inl rfl | exact Or.inr rfl | exact b2_01 _) ⟨by first | exact (b2_t (Int32.not_lt.mp h18)).symm | exact (b2_f (fun z => Int32.not_le.mpr h18 z)).symm, rfl⟩

set_option maxRecDepth 100000 in
set_option maxHeartbeats 4000000 in
theorem m_X4_dearestFor (M : Mem) (s n : Nat) (w : Nat) (hs : s < 2) (hn : M 0 s 0 4 = nI n) (h40 : n ≤ 40) (hw : w < 7) : CI yX4_dearestFor cX4_dearestFor 5 (some .int) 1 0 0 (fun G => [.ref (ad G 0 s 0), .ref (ad G 3 s w)]) M (fun r M' => r = dearF M s w n 0 (-1) (-1) ∧ M' = M) := by
  refine CI.mk (own := RX4) (by decide +kernel) rfl (fun _ => rfl) (fun _ => Nat.le_of_ble_eq_true rfl) (lv0 := fun G => [some (.ref (ad G 0 s 0)), some (.ref (ad G 3 s w)), none, none, none]) (fun _ => rfl) (fun X G E => ?_)
  have L : ∀ (k : Nat) (t : Nat) (d g : Int32), t + k = n → dearF M s w n 0 (-1) (-1) = dearF M s w k t d g → Z X G (0, 0) (QI X G (fun r M' => r = dearF M s w n 0 (-1) (-1) ∧ M' = M) 0 0) 7 [some (.ref (ad G 0 s 0)), some (.ref (ad G 3 s w)), some (.int d), some (.int g), some (.int (nI t))] [] (M) 0 0 := by
    intro k
    induction k with
    | zero =>
      intro t d g ht hE
      refine z_iload_4 (pc := 7) E dX4_dearestFor_7 ?_
      refine z_aload_0 (pc := 9) E dX4_dearestFor_9 ?_
      refine z_get (pc := 10) E dX4_dearestFor_10 fiX4_50 (ok0 (by omega)) rfl rfl ?_
      refine z_icmp_ge (pc := 13) (tgt := 64) E dX4_dearestFor_13 (by decide) (fun h13 => ?_) (fun h13 => absurd h13 (fun z => z (ct_ge hn (by omega) (by omega))))
      refine z_iload_2 (pc := 64) E dX4_dearestFor_64 ?_
      exact z_iret (pc := 65) E dX4_dearestFor_65 ⟨hE.symm, rfl⟩
    | succ k ih =>
      intro t d g ht hE
      refine z_iload_4 (pc := 7) E dX4_dearestFor_7 ?_
      refine z_aload_0 (pc := 9) E dX4_dearestFor_9 ?_
      refine z_get (pc := 10) E dX4_dearestFor_10 fiX4_50 (ok0 (by omega)) rfl rfl ?_
      refine z_icmp_ge (pc := 13) (tgt := 64) E dX4_dearestFor_13 (by decide) (fun h13 => absurd h13 (ct_lt hn (by omega) (by omega))) (fun h13 => ?_)
      refine z_aload_1 (pc := 16) E dX4_dearestFor_16 ?_
      refine z_aload_0 (pc := 17) E dX4_dearestFor_17 ?_
      refine z_get (pc := 18) E dX4_dearestFor_18 fiX4_23 (ok0 (by omega)) rfl rfl ?_
      refine z_iload_4 (pc := 21) E dX4_dearestFor_21 ?_
      refine z_aald (t0 := 4) (pc := 23) E dX4_dearestFor_23 (ok18 (by omega)) rfl rfl rfl (by omega) (by omega) rfl ?_
      refine z_ivp (pc := 24) E (m_X0_takes _ _ _ _ hs hw (by omega)) rfl rfl kX0_takes mlX4_126 dX4_dearestFor_24 (ok3 (by omega) (by omega)) rfl rfl rfl (Nat.le_of_ble_eq_true rfl) rfl (by decide) (by decide) ⟨by omega, by omega⟩ ?_
      refine z_if_eq (pc := 27) (tgt := 58) E dX4_dearestFor_27 (by decide) (fun h27 => ?_) (fun h27 => ?_)
      · refine z_iinc_4 (pc := 58) E dX4_dearestFor_58 (nI_1 t) rfl ?_
        refine z_goto (pc := 61) (tgt := 7) E dX4_dearestFor_61 (by decide) ?_
        first | exact ih (t + 1) _ _ (by omega) (hE.trans (dear_y (b2_n0 h27) h41)) | exact ih (t + 1) _ _ (by omega) (hE.trans (dear_n (fun z => z.2 h41))) | exact ih (t + 1) _ _ (by omega) (hE.trans (dear_n (fun z => b2_e0 h27 z.1)))
      · refine z_aload_0 (pc := 30) E dX4_dearestFor_30 ?_
        refine z_get (pc := 31) E dX4_dearestFor_31 fiX4_23 (ok0 (by omega)) rfl rfl ?_
        refine z_iload_4 (pc := 34) E dX4_dearestFor_34 ?_
        refine z_aald (t0 := 4) (pc := 36) E dX4_dearestFor_36 (ok18 (by omega)) rfl rfl rfl (by omega) (by omega) rfl ?_
        refine z_get (pc := 37) E dX4_dearestFor_37 fiX4_123 (ok2 (by omega) (by omega)) rfl rfl ?_
        refine z_iload_3 (pc := 40) E dX4_dearestFor_40 ?_
        refine z_icmp_le (pc := 41) (tgt := 58) E dX4_dearestFor_41 (by decide) (fun h41 => ?_) (fun h41 => ?_)
        · refine z_iinc_4 (pc := 58) E dX4_dearestFor_58 (nI_1 t) rfl ?_
          refine z_goto (pc := 61) (tgt := 7) E dX4_dearestFor_61 (by decide) ?_
          first | exact ih (t + 1) _ _ (by omega) (hE.trans (dear_y (b2_n0 h27) h41)) | exact ih (t + 1) _ _ (by omega) (hE.trans (dear_n (fun z => z.2 h41))) | exact ih (t + 1) _ _ (by omega) (hE.trans (dear_n (fun z => b2_e0 h27 z.1)))
        · refine z_iload_4 (pc := 44) E dX4_dearestFor_44 ?_
          refine z_istore_2 (pc := 46) E dX4_dearestFor_46 rfl ?_
          refine z_aload_0 (pc := 47) E dX4_dearestFor_47 ?_
          refine z_get (pc := 48) E dX4_dearestFor_48 fiX4_23 (ok0 (by omega)) rfl rfl ?_
          refine z_iload_4 (pc := 51) E dX4_dearestFor_51 ?_
          refine z_aald (t0 := 4) (pc := 53) E dX4_dearestFor_53 (ok18 (by omega)) rfl rfl rfl (by omega) (by omega) rfl ?_
          refine z_get (pc := 54) E dX4_dearestFor_54 fiX4_123 (ok2 (by omega) (by omega)) rfl rfl ?_
          refine z_istore_3 (pc := 57) E dX4_dearestFor_57 rfl ?_
          refine z_iinc_4 (pc := 58) E dX4_dearestFor_58 (nI_1 t) rfl ?_
          refine z_goto (pc := 61) (tgt := 7) E dX4_dearestFor_61 (by decide) ?_
          first | exact ih (t + 1) _ _ (by omega) (hE.trans (dear_y (b2_n0 h27) h41)) | exact ih (t + 1) _ _ (by omega) (hE.trans (dear_n (fun z => z.2 h41))) | exact ih (t + 1) _ _ (by omega) (hE.trans (dear_n (fun z => b2_e0 h27 z.1)))
  refine z_iconst (v := -1) (pc := 0) E dX4_dearestFor_0 (by decide) ?_
  refine z_istore_2 (pc := 1) E dX4_dearestFor_1 rfl ?_
  refine z_iconst (v := -1) (pc := 2) E dX4_dearestFor_2 (by decide) ?_
  refine z_istore_3 (pc := 3) E dX4_dearestFor_3 rfl ?_
  refine z_iconst (v := 0) (pc := 4) E dX4_dearestFor_4 (by decide) ?_
  refine z_istore_4 (pc := 5) E dX4_dearestFor_5 rfl ?_
  exact L n 0 _ _ (by omega) rfl

set_option maxRecDepth 100000 in
set_option maxHeartbeats 4000000 in
theorem m_X4_bestFor (M : Mem) (s n : Nat) (i cN : Nat) (hs : s < 2) (hn : M 0 s 0 4 = nI n) (h40 : n ≤ 40) (hc : M 0 s 0 3 = nI cN) (h10 : cN ≤ 10) (hi : i < cN) : CI yX4_bestFor cX4_bestFor 7 (some .int) 3 0 0 (fun G => [.ref (ad G 0 s 0), .int (nI i)]) M (fun r M' => r = bestF M s i (M 0 s 0 0) n 0 (-1) 0 ∧ M' = M) := by
  refine CI.mk (own := RX4) (by decide +kernel) rfl (fun _ => rfl) (fun _ => Nat.le_of_ble_eq_true rfl) (lv0 := fun G => [some (.ref (ad G 0 s 0)), some (.int (nI i)), none, none, none, none, none]) (fun _ => rfl) (fun X G E => ?_)
  have L : ∀ (k : Nat) (t : Nat) (b g : Int32) (v5 v6 : Option Value), t + k = n → bestF M s i (M 0 s 0 0) n 0 (-1) 0 = bestF M s i (M 0 s 0 0) k t b g → Z X G (0, 0) (QI X G (fun r M' => r = bestF M s i (M 0 s 0 0) n 0 (-1) 0 ∧ M' = M) 0 0) 7 [some (.ref (ad G 0 s 0)), some (.int (nI i)), some (.int b), some (.int g), some (.int (nI t)), v5, v6] [] (M) 0 0 := by
    intro k
    induction k with
    | zero =>
      intro t b g v5 v6 ht hE
      refine z_iload_4 (pc := 7) E dX4_bestFor_7 ?_
      refine z_aload_0 (pc := 9) E dX4_bestFor_9 ?_
      refine z_get (pc := 10) E dX4_bestFor_10 fiX4_50 (ok0 (by omega)) rfl rfl ?_
      refine z_icmp_ge (pc := 13) (tgt := 90) E dX4_bestFor_13 (by decide) (fun h13 => ?_) (fun h13 => absurd h13 (fun z => z (ct_ge hn (by omega) (by omega))))
      refine z_iload_2 (pc := 90) E dX4_bestFor_90 ?_
      exact z_iret (pc := 91) E dX4_bestFor_91 ⟨hE.symm, rfl⟩
    | succ k ih =>
      intro t b g v5 v6 ht hE
      refine z_iload_4 (pc := 7) E dX4_bestFor_7 ?_
      refine z_aload_0 (pc := 9) E dX4_bestFor_9 ?_
      refine z_get (pc := 10) E dX4_bestFor_10 fiX4_50 (ok0 (by omega)) rfl rfl ?_
      refine z_icmp_ge (pc := 13) (tgt := 90) E dX4_bestFor_13 (by decide) (fun h13 => absurd h13 (ct_lt hn (by omega) (by omega))) (fun h13 => ?_)
      refine z_aload_0 (pc := 16) E dX4_bestFor_16 ?_
      refine z_get (pc := 17) E dX4_bestFor_17 fiX4_23 (ok0 (by omega)) rfl rfl ?_
      refine z_iload_4 (pc := 20) E dX4_bestFor_20 ?_
      refine z_aald (t0 := 4) (pc := 22) E dX4_bestFor_22 (ok18 (by omega)) rfl rfl rfl (by omega) (by omega) rfl ?_
      refine z_aload_0 (pc := 23) E dX4_bestFor_23 ?_
      refine z_get (pc := 24) E dX4_bestFor_24 fiX4_65 (ok0 (by omega)) rfl rfl ?_
      refine z_ivp (pc := 27) E (m_X5_debt _ _ _ _ hs (by omega)) rfl rfl kX5_debt mlX4_130 dX4_bestFor_27 (ok2 (by omega) (by omega)) rfl rfl rfl (Nat.le_of_ble_eq_true rfl) rfl (by decide) (by decide) ⟨by omega, by omega⟩ ?_
      refine z_istore_5 (pc := 30) E dX4_bestFor_30 rfl ?_
      refine z_aload_0 (pc := 32) E dX4_bestFor_32 ?_
      refine z_get (pc := 33) E dX4_bestFor_33 fiX4_23 (ok0 (by omega)) rfl rfl ?_
      refine z_iload_4 (pc := 36) E dX4_bestFor_36 ?_
      refine z_aald (t0 := 4) (pc := 38) E dX4_bestFor_38 (ok18 (by omega)) rfl rfl rfl (by omega) (by omega) rfl ?_
      refine z_get (pc := 39) E dX4_bestFor_39 fiX4_133 (ok2 (by omega) (by omega)) rfl rfl ?_
      refine z_iload_5 (pc := 42) E dX4_bestFor_42 ?_
      refine z_isub (pc := 44) E dX4_bestFor_44 ?_
      refine z_istore_6 (pc := 45) E dX4_bestFor_45 rfl ?_
      refine z_aload_0 (pc := 47) E dX4_bestFor_47 ?_
      refine z_iload_4 (pc := 48) E dX4_bestFor_48 ?_
      refine z_iload_1 (pc := 50) E dX4_bestFor_50 ?_
      refine z_ivp (pc := 51) E (m_X4_isHeldBy _ _ _ _ hs (by omega)) rfl rfl kX4_isHeldBy mlX4_136 dX4_bestFor_51 (ok0 (by omega)) rfl rfl rfl (Nat.le_of_ble_eq_true rfl) rfl (by decide) (by decide) ⟨by omega, by omega⟩ ?_
      refine z_if_eq (pc := 54) (tgt := 84) E dX4_bestFor_54 (by decide) (fun h54 => ?_) (fun h54 => ?_)
      · refine z_iinc_4 (pc := 84) E dX4_bestFor_84 (nI_1 t) rfl ?_
        refine z_goto (pc := 87) (tgt := 7) E dX4_bestFor_87 (by decide) ?_
        first | exact ih (t + 1) _ _ _ _ (by omega) (hE.trans (best_y (b2_n0 h54) (b2_n0 h64) (Or.inl h69))) | exact ih (t + 1) _ _ _ _ (by omega) (hE.trans (best_y (b2_n0 h54) (b2_n0 h64) (Or.inr h75))) | exact ih (t + 1) _ _ _ _ (by omega) (hE.trans (best_n (fun z => z.2.elim h69 (fun q => q h75)))) | exact ih (t + 1) _ _ _ _ (by omega) (hE.trans (best_n (fun z => b2_e0 h64 z.1.2))) | exact ih (t + 1) _ _ _ _ (by omega) (hE.trans (best_n (fun z => b2_e0 h54 z.1.1)))
      · refine z_aload_0 (pc := 57) E dX4_bestFor_57 ?_
        refine z_iload_1 (pc := 58) E dX4_bestFor_58 ?_
        refine z_iload_5 (pc := 59) E dX4_bestFor_59 ?_
        refine z_ivp (pc := 61) E (m_X4_canPay _ _ _ _ _ hs hc h10 hi) rfl rfl kX4_canPay mlX4_140 dX4_bestFor_61 (ok0 (by omega)) rfl rfl rfl (Nat.le_of_ble_eq_true rfl) rfl (by decide) (by decide) ⟨by omega, by omega⟩ ?_
        refine z_if_eq (pc := 64) (tgt := 84) E dX4_bestFor_64 (by decide) (fun h64 => ?_) (fun h64 => ?_)
        · refine z_iinc_4 (pc := 84) E dX4_bestFor_84 (nI_1 t) rfl ?_
          refine z_goto (pc := 87) (tgt := 7) E dX4_bestFor_87 (by decide) ?_
          first | exact ih (t + 1) _ _ _ _ (by omega) (hE.trans (best_y (b2_n0 h54) (b2_n0 h64) (Or.inl h69))) | exact ih (t + 1) _ _ _ _ (by omega) (hE.trans (best_y (b2_n0 h54) (b2_n0 h64) (Or.inr h75))) | exact ih (t + 1) _ _ _ _ (by omega) (hE.trans (best_n (fun z => z.2.elim h69 (fun q => q h75)))) | exact ih (t + 1) _ _ _ _ (by omega) (hE.trans (best_n (fun z => b2_e0 h64 z.1.2))) | exact ih (t + 1) _ _ _ _ (by omega) (hE.trans (best_n (fun z => b2_e0 h54 z.1.1)))
        · refine z_iload_2 (pc := 67) E dX4_bestFor_67 ?_
          refine z_iconst (v := -1) (pc := 68) E dX4_bestFor_68 (by decide) ?_
          refine z_icmp_eq (pc := 69) (tgt := 78) E dX4_bestFor_69 (by decide) (fun h69 => ?_) (fun h69 => ?_)
          · refine z_iload_4 (pc := 78) E dX4_bestFor_78 ?_
            refine z_istore_2 (pc := 80) E dX4_bestFor_80 rfl ?_
            refine z_iload_6 (pc := 81) E dX4_bestFor_81 ?_
            refine z_istore_3 (pc := 83) E dX4_bestFor_83 rfl ?_
            refine z_iinc_4 (pc := 84) E dX4_bestFor_84 (nI_1 t) rfl ?_
            refine z_goto (pc := 87) (tgt := 7) E dX4_bestFor_87 (by decide) ?_
            first | exact ih (t + 1) _ _ _ _ (by omega) (hE.trans (best_y (b2_n0 h54) (b2_n0 h64) (Or.inl h69))) | exact ih (t + 1) _ _ _ _ (by omega) (hE.trans (best_y (b2_n0 h54) (b2_n0 h64) (Or.inr h75))) | exact ih (t + 1) _ _ _ _ (by omega) (hE.trans (best_n (fun z => z.2.elim h69 (fun q => q h75)))) | exact ih (t + 1) _ _ _ _ (by omega) (hE.trans (best_n (fun z => b2_e0 h64 z.1.2))) | exact ih (t + 1) _ _ _ _ (by omega) (hE.trans (best_n (fun z => b2_e0 h54 z.1.1)))
          · refine z_iload_6 (pc := 72) E dX4_bestFor_72 ?_
            refine z_iload_3 (pc := 74) E dX4_bestFor_74 ?_
            refine z_icmp_le (pc := 75) (tgt := 84) E dX4_bestFor_75 (by decide) (fun h75 => ?_) (fun h75 => ?_)
            · refine z_iinc_4 (pc := 84) E dX4_bestFor_84 (nI_1 t) rfl ?_
              refine z_goto (pc := 87) (tgt := 7) E dX4_bestFor_87 (by decide) ?_
              first | exact ih (t + 1) _ _ _ _ (by omega) (hE.trans (best_y (b2_n0 h54) (b2_n0 h64) (Or.inl h69))) | exact ih (t + 1) _ _ _ _ (by omega) (hE.trans (best_y (b2_n0 h54) (b2_n0 h64) (Or.inr h75))) | exact ih (t + 1) _ _ _ _ (by omega) (hE.trans (best_n (fun z => z.2.elim h69 (fun q => q h75)))) | exact ih (t + 1) _ _ _ _ (by omega) (hE.trans (best_n (fun z => b2_e0 h64 z.1.2))) | exact ih (t + 1) _ _ _ _ (by omega) (hE.trans (best_n (fun z => b2_e0 h54 z.1.1)))
            · refine z_iload_4 (pc := 78) E dX4_bestFor_78 ?_
              refine z_istore_2 (pc := 80) E dX4_bestFor_80 rfl ?_
              refine z_iload_6 (pc := 81) E dX4_bestFor_81 ?_
              refine z_istore_3 (pc := 83) E dX4_bestFor_83 rfl ?_
              refine z_iinc_4 (pc := 84) E dX4_bestFor_84 (nI_1 t) rfl ?_
              refine z_goto (pc := 87) (tgt := 7) E dX4_bestFor_87 (by decide) ?_
              first | exact ih (t + 1) _ _ _ _ (by omega) (hE.trans (best_y (b2_n0 h54) (b2_n0 h64) (Or.inl h69))) | exact ih (t + 1) _ _ _ _ (by omega) (hE.trans (best_y (b2_n0 h54) (b2_n0 h64) (Or.inr h75))) | exact ih (t + 1) _ _ _ _ (by omega) (hE.trans (best_n (fun z => z.2.elim h69 (fun q => q h75)))) | exact ih (t + 1) _ _ _ _ (by omega) (hE.trans (best_n (fun z => b2_e0 h64 z.1.2))) | exact ih (t + 1) _ _ _ _ (by omega) (hE.trans (best_n (fun z => b2_e0 h54 z.1.1)))
  refine z_iconst (v := -1) (pc := 0) E dX4_bestFor_0 (by decide) ?_
  refine z_istore_2 (pc := 1) E dX4_bestFor_1 rfl ?_
  refine z_iconst (v := 0) (pc := 2) E dX4_bestFor_2 (by decide) ?_
  refine z_istore_3 (pc := 3) E dX4_bestFor_3 rfl ?_
  refine z_iconst (v := 0) (pc := 4) E dX4_bestFor_4 (by decide) ?_
  refine z_istore_4 (pc := 5) E dX4_bestFor_5 rfl ?_
  exact L n 0 _ _ _ _ (by omega) rfl

set_option maxRecDepth 100000 in
set_option maxHeartbeats 4000000 in
theorem m_X4_putPrices (M : Mem) (s n : Nat) (hs : s < 2) (hn : M 0 s 0 4 = nI n) (h40 : n ≤ 40) : CI yX4_putPrices cX4_putPrices 4 (some .int) 0 0 0 (fun G => [.ref (ad G 0 s 0), .ref (ad G 5 0 0)]) M (fun r M' => r = nI (putP (fun t => decide (M 2 s t 7 = 2)) (fun t => M 2 s t 8) (M 5 0 0) n).1 ∧ M' = rset M 5 0 0 (putP (fun t => decide (M 2 s t 7 = 2)) (fun t => M 2 s t 8) (M 5 0 0) n).2) := by
  refine CI.mk (own := RX4) (by decide +kernel) rfl (fun _ => rfl) (fun _ => Nat.le_of_ble_eq_true rfl) (lv0 := fun G => [some (.ref (ad G 0 s 0)), some (.ref (ad G 5 0 0)), none, none]) (fun _ => rfl) (fun X G E => ?_)
  have L : ∀ (k : Nat) (t : Nat), t + k = n → Z X G (0, 0) (QI X G (fun r M' => r = nI (putP (fun t => decide (M 2 s t 7 = 2)) (fun t => M 2 s t 8) (M 5 0 0) n).1 ∧ M' = rset M 5 0 0 (putP (fun t => decide (M 2 s t 7 = 2)) (fun t => M 2 s t 8) (M 5 0 0) n).2) 0 0) 4 [some (.ref (ad G 0 s 0)), some (.ref (ad G 5 0 0)), some (.int (nI (putP (fun t => decide (M 2 s t 7 = 2)) (fun t => M 2 s t 8) (M 5 0 0) t).1)), some (.int (nI t))] [] (rset M 5 0 0 (putP (fun t => decide (M 2 s t 7 = 2)) (fun t => M 2 s t 8) (M 5 0 0) t).2) 0 0 := by
    intro k
    induction k with
    | zero =>
      intro t ht
      obtain rfl : t = n := by omega
      refine z_iload_3 (pc := 4) E dX4_putPrices_4 ?_
      refine z_aload_0 (pc := 5) E dX4_putPrices_5 ?_
      refine z_get (pc := 6) E dX4_putPrices_6 fiX4_50 (ok0 (by omega)) rfl rfl ?_
      refine z_icmp_ge (pc := 9) (tgt := 52) E dX4_putPrices_9 (by decide) (fun h9 => ?_) (fun h9 => absurd h9 (fun z => z (ct_ge hn (by omega) (by omega))))
      refine z_iload_2 (pc := 52) E dX4_putPrices_52 ?_
      exact z_iret (pc := 53) E dX4_putPrices_53 ⟨rfl, rfl⟩
    | succ k ih =>
      intro t ht
      refine z_iload_3 (pc := 4) E dX4_putPrices_4 ?_
      refine z_aload_0 (pc := 5) E dX4_putPrices_5 ?_
      refine z_get (pc := 6) E dX4_putPrices_6 fiX4_50 (ok0 (by omega)) rfl rfl ?_
      refine z_icmp_ge (pc := 9) (tgt := 52) E dX4_putPrices_9 (by decide) (fun h9 => absurd h9 (ct_lt hn (by omega) (by omega))) (fun h9 => ?_)
      refine z_aload_0 (pc := 12) E dX4_putPrices_12 ?_
      refine z_get (pc := 13) E dX4_putPrices_13 fiX4_23 (ok0 (by omega)) rfl rfl ?_
      refine z_iload_3 (pc := 16) E dX4_putPrices_16 ?_
      refine z_aald (t0 := 4) (pc := 17) E dX4_putPrices_17 (ok18 (by omega)) rfl rfl rfl (by omega) (by omega) rfl ?_
      refine z_get (pc := 18) E dX4_putPrices_18 fiX4_83 (ok2 (by omega) (by omega)) rfl rfl ?_
      refine z_iconst (v := 2) (pc := 21) E dX4_putPrices_21 (by decide) ?_
      refine z_icmp_ne (pc := 22) (tgt := 46) E dX4_putPrices_22 (by decide) (fun h22 => ?_) (fun h22 => ?_)
      · refine z_iinc_3 (pc := 46) E dX4_putPrices_46 (nI_1 t) rfl ?_
        refine z_goto (pc := 49) (tgt := 4) E dX4_putPrices_49 (by decide) ?_
        first | exact z_mem (by rw [mset_rset, putP_y (decide_eq_true h22)]; rfl) ((show nI (putP (fun t => decide (M 2 s t 7 = 2)) (fun t => M 2 s t 8) (M 5 0 0) (t + 1)).1 = nI ((putP (fun t => decide (M 2 s t 7 = 2)) (fun t => M 2 s t 8) (M 5 0 0) t).1 + 1) from by rw [putP_y (decide_eq_true h22)]) ▸ ih (t + 1) (by omega)) | exact (show (putP (fun t => decide (M 2 s t 7 = 2)) (fun t => M 2 s t 8) (M 5 0 0) (t + 1)) = (putP (fun t => decide (M 2 s t 7 = 2)) (fun t => M 2 s t 8) (M 5 0 0) t) from putP_n (fun z => h22 (of_decide_eq_true z))) ▸ ih (t + 1) (by omega)
      · refine z_iload_2 (pc := 25) E dX4_putPrices_25 ?_
        refine z_aload_1 (pc := 26) E dX4_putPrices_26 ?_
        refine z_alen (t0 := 0) (pc := 27) E dX4_putPrices_27 ok5 rfl rfl rfl ?_
        refine z_icmp_ge (pc := 28) (tgt := 46) E dX4_putPrices_28 (by decide) (fun h28 => absurd h28 (ct_lt rfl (Nat.lt_of_le_of_lt (putP_le (fun t => decide (M 2 s t 7 = 2)) (fun t => M 2 s t 8) (M 5 0 0) t) (by omega)) (by omega))) (fun h28 => ?_)
        refine z_aload_1 (pc := 31) E dX4_putPrices_31 ?_
        refine z_iload_2 (pc := 32) E dX4_putPrices_32 ?_
        refine z_aload_0 (pc := 33) E dX4_putPrices_33 ?_
        refine z_get (pc := 34) E dX4_putPrices_34 fiX4_23 (ok0 (by omega)) rfl rfl ?_
        refine z_iload_3 (pc := 37) E dX4_putPrices_37 ?_
        refine z_aald (t0 := 4) (pc := 38) E dX4_putPrices_38 (ok18 (by omega)) rfl rfl rfl (by omega) (by omega) rfl ?_
        refine z_get (pc := 39) E dX4_putPrices_39 fiX4_123 (ok2 (by omega) (by omega)) rfl rfl ?_
        refine z_iast (pc := 42) E dX4_putPrices_42 ok5 (fun _ => rfl) rfl (Nat.lt_of_le_of_lt (putP_le (fun t => decide (M 2 s t 7 = 2)) (fun t => M 2 s t 8) (M 5 0 0) t) (by omega)) (by omega) ?_
        refine z_iinc_2 (pc := 43) E dX4_putPrices_43 (nI_1 _) rfl ?_
        refine z_iinc_3 (pc := 46) E dX4_putPrices_46 (nI_1 t) rfl ?_
        refine z_goto (pc := 49) (tgt := 4) E dX4_putPrices_49 (by decide) ?_
        first | exact z_mem (by rw [mset_rset, putP_y (decide_eq_true h22)]; rfl) ((show nI (putP (fun t => decide (M 2 s t 7 = 2)) (fun t => M 2 s t 8) (M 5 0 0) (t + 1)).1 = nI ((putP (fun t => decide (M 2 s t 7 = 2)) (fun t => M 2 s t 8) (M 5 0 0) t).1 + 1) from by rw [putP_y (decide_eq_true h22)]) ▸ ih (t + 1) (by omega)) | exact (show (putP (fun t => decide (M 2 s t 7 = 2)) (fun t => M 2 s t 8) (M 5 0 0) (t + 1)) = (putP (fun t => decide (M 2 s t 7 = 2)) (fun t => M 2 s t 8) (M 5 0 0) t) from putP_n (fun z => h22 (of_decide_eq_true z))) ▸ ih (t + 1) (by omega)
  refine z_iconst (v := 0) (pc := 0) E dX4_putPrices_0 (by decide) ?_
  refine z_istore_2 (pc := 1) E dX4_putPrices_1 rfl ?_
  refine z_iconst (v := 0) (pc := 2) E dX4_putPrices_2 (by decide) ?_
  refine z_istore_3 (pc := 3) E dX4_putPrices_3 rfl ?_
  exact z_mem (rset_self _ _ _ _) (L n 0 (by omega))

set_option maxRecDepth 100000 in
set_option maxHeartbeats 4000000 in
theorem m_X4_putDebts (M : Mem) (s n : Nat) (c : Int32) (hs : s < 2) (hn : M 0 s 0 4 = nI n) (h40 : n ≤ 40) : CI yX4_putDebts cX4_putDebts 5 (some .int) 3 0 0 (fun G => [.ref (ad G 0 s 0), .int c, .ref (ad G 5 0 0)]) M (fun r M' => r = nI (putP (fun t => decide (M 2 s t 7 = 0 ∧ M 2 s t 0 = c)) (fun t => debtV M s t (M 0 s 0 0)) (M 5 0 0) n).1 ∧ M' = rset M 5 0 0 (putP (fun t => decide (M 2 s t 7 = 0 ∧ M 2 s t 0 = c)) (fun t => debtV M s t (M 0 s 0 0)) (M 5 0 0) n).2) := by
  refine CI.mk (own := RX4) (by decide +kernel) rfl (fun _ => rfl) (fun _ => Nat.le_of_ble_eq_true rfl) (lv0 := fun G => [some (.ref (ad G 0 s 0)), some (.int c), some (.ref (ad G 5 0 0)), none, none]) (fun _ => rfl) (fun X G E => ?_)
  have L : ∀ (k : Nat) (t : Nat), t + k = n → Z X G (0, 0) (QI X G (fun r M' => r = nI (putP (fun t => decide (M 2 s t 7 = 0 ∧ M 2 s t 0 = c)) (fun t => debtV M s t (M 0 s 0 0)) (M 5 0 0) n).1 ∧ M' = rset M 5 0 0 (putP (fun t => decide (M 2 s t 7 = 0 ∧ M 2 s t 0 = c)) (fun t => debtV M s t (M 0 s 0 0)) (M 5 0 0) n).2) 0 0) 5 [some (.ref (ad G 0 s 0)), some (.int c), some (.ref (ad G 5 0 0)), some (.int (nI (putP (fun t => decide (M 2 s t 7 = 0 ∧ M 2 s t 0 = c)) (fun t => debtV M s t (M 0 s 0 0)) (M 5 0 0) t).1)), some (.int (nI t))] [] (rset M 5 0 0 (putP (fun t => decide (M 2 s t 7 = 0 ∧ M 2 s t 0 = c)) (fun t => debtV M s t (M 0 s 0 0)) (M 5 0 0) t).2) 0 0 := by
    intro k
    induction k with
    | zero =>
      intro t ht
      obtain rfl : t = n := by omega
      refine z_iload_4 (pc := 5) E dX4_putDebts_5 ?_
      refine z_aload_0 (pc := 7) E dX4_putDebts_7 ?_
      refine z_get (pc := 8) E dX4_putDebts_8 fiX4_50 (ok0 (by omega)) rfl rfl ?_
      refine z_icmp_ge (pc := 11) (tgt := 56) E dX4_putDebts_11 (by decide) (fun h11 => ?_) (fun h11 => absurd h11 (fun z => z (ct_ge hn (by omega) (by omega))))
      refine z_iload_3 (pc := 56) E dX4_putDebts_56 ?_
      exact z_iret (pc := 57) E dX4_putDebts_57 ⟨rfl, rfl⟩
    | succ k ih =>
      intro t ht
      refine z_iload_4 (pc := 5) E dX4_putDebts_5 ?_
      refine z_aload_0 (pc := 7) E dX4_putDebts_7 ?_
      refine z_get (pc := 8) E dX4_putDebts_8 fiX4_50 (ok0 (by omega)) rfl rfl ?_
      refine z_icmp_ge (pc := 11) (tgt := 56) E dX4_putDebts_11 (by decide) (fun h11 => absurd h11 (ct_lt hn (by omega) (by omega))) (fun h11 => ?_)
      refine z_aload_0 (pc := 14) E dX4_putDebts_14 ?_
      refine z_iload_4 (pc := 15) E dX4_putDebts_15 ?_
      refine z_iload_1 (pc := 17) E dX4_putDebts_17 ?_
      refine z_ivp (pc := 18) E (m_X4_isHeldBy _ _ _ _ hs (by omega)) rfl rfl kX4_isHeldBy mlX4_136 dX4_putDebts_18 (ok0 (by omega)) rfl rfl rfl (Nat.le_of_ble_eq_true rfl) rfl (by decide) (by decide) ⟨by omega, by omega⟩ ?_
      refine z_if_eq (pc := 21) (tgt := 50) E dX4_putDebts_21 (by decide) (fun h21 => ?_) (fun h21 => ?_)
      · refine z_iinc_4 (pc := 50) E dX4_putDebts_50 (nI_1 t) rfl ?_
        refine z_goto (pc := 53) (tgt := 5) E dX4_putDebts_53 (by decide) ?_
        first | exact z_mem (by rw [mset_rset, putP_y (decide_eq_true (b2_n0 h21))]; rfl) ((show nI (putP (fun t => decide (M 2 s t 7 = 0 ∧ M 2 s t 0 = c)) (fun t => debtV M s t (M 0 s 0 0)) (M 5 0 0) (t + 1)).1 = nI ((putP (fun t => decide (M 2 s t 7 = 0 ∧ M 2 s t 0 = c)) (fun t => debtV M s t (M 0 s 0 0)) (M 5 0 0) t).1 + 1) from by rw [putP_y (decide_eq_true (b2_n0 h21))]) ▸ ih (t + 1) (by omega)) | exact (show (putP (fun t => decide (M 2 s t 7 = 0 ∧ M 2 s t 0 = c)) (fun t => debtV M s t (M 0 s 0 0)) (M 5 0 0) (t + 1)) = (putP (fun t => decide (M 2 s t 7 = 0 ∧ M 2 s t 0 = c)) (fun t => debtV M s t (M 0 s 0 0)) (M 5 0 0) t) from putP_n (fun z => b2_e0 h21 (of_decide_eq_true z))) ▸ ih (t + 1) (by omega)
      · refine z_iload_3 (pc := 24) E dX4_putDebts_24 ?_
        refine z_aload_2 (pc := 25) E dX4_putDebts_25 ?_
        refine z_alen (t0 := 0) (pc := 26) E dX4_putDebts_26 ok5 rfl rfl rfl ?_
        refine z_icmp_ge (pc := 27) (tgt := 50) E dX4_putDebts_27 (by decide) (fun h27 => absurd h27 (ct_lt rfl (Nat.lt_of_le_of_lt (putP_le (fun t => decide (M 2 s t 7 = 0 ∧ M 2 s t 0 = c)) (fun t => debtV M s t (M 0 s 0 0)) (M 5 0 0) t) (by omega)) (by omega))) (fun h27 => ?_)
        refine z_aload_2 (pc := 30) E dX4_putDebts_30 ?_
        refine z_iload_3 (pc := 31) E dX4_putDebts_31 ?_
        refine z_aload_0 (pc := 32) E dX4_putDebts_32 ?_
        refine z_get (pc := 33) E dX4_putDebts_33 fiX4_23 (ok0 (by omega)) rfl rfl ?_
        refine z_iload_4 (pc := 36) E dX4_putDebts_36 ?_
        refine z_aald (t0 := 4) (pc := 38) E dX4_putDebts_38 (ok18 (by omega)) rfl rfl rfl (by omega) (by omega) rfl ?_
        refine z_aload_0 (pc := 39) E dX4_putDebts_39 ?_
        refine z_get (pc := 40) E dX4_putDebts_40 fiX4_65 (ok0 (by omega)) rfl rfl ?_
        refine z_ivp (pc := 43) E (m_X5_debt _ _ _ _ hs (by omega)) rfl rfl kX5_debt mlX4_130 dX4_putDebts_43 (ok2 (by omega) (by omega)) rfl rfl rfl (Nat.le_of_ble_eq_true rfl) rfl (by decide) (by decide) ⟨by omega, by omega⟩ ?_
        refine z_iast (pc := 46) E dX4_putDebts_46 ok5 (fun _ => rfl) rfl (Nat.lt_of_le_of_lt (putP_le (fun t => decide (M 2 s t 7 = 0 ∧ M 2 s t 0 = c)) (fun t => debtV M s t (M 0 s 0 0)) (M 5 0 0) t) (by omega)) (by omega) ?_
        refine z_iinc_3 (pc := 47) E dX4_putDebts_47 (nI_1 _) rfl ?_
        refine z_iinc_4 (pc := 50) E dX4_putDebts_50 (nI_1 t) rfl ?_
        refine z_goto (pc := 53) (tgt := 5) E dX4_putDebts_53 (by decide) ?_
        first | exact z_mem (by rw [mset_rset, putP_y (decide_eq_true (b2_n0 h21))]; rfl) ((show nI (putP (fun t => decide (M 2 s t 7 = 0 ∧ M 2 s t 0 = c)) (fun t => debtV M s t (M 0 s 0 0)) (M 5 0 0) (t + 1)).1 = nI ((putP (fun t => decide (M 2 s t 7 = 0 ∧ M 2 s t 0 = c)) (fun t => debtV M s t (M 0 s 0 0)) (M 5 0 0) t).1 + 1) from by rw [putP_y (decide_eq_true (b2_n0 h21))]) ▸ ih (t + 1) (by omega)) | exact (show (putP (fun t => decide (M 2 s t 7 = 0 ∧ M 2 s t 0 = c)) (fun t => debtV M s t (M 0 s 0 0)) (M 5 0 0) (t + 1)) = (putP (fun t => decide (M 2 s t 7 = 0 ∧ M 2 s t 0 = c)) (fun t => debtV M s t (M 0 s 0 0)) (M 5 0 0) t) from putP_n (fun z => b2_e0 h21 (of_decide_eq_true z))) ▸ ih (t + 1) (by omega)
  refine z_iconst (v := 0) (pc := 0) E dX4_putDebts_0 (by decide) ?_
  refine z_istore_3 (pc := 1) E dX4_putDebts_1 rfl ?_
  refine z_iconst (v := 0) (pc := 2) E dX4_putDebts_2 (by decide) ?_
  refine z_istore_4 (pc := 3) E dX4_putDebts_3 rfl ?_
  exact z_mem (rset_self _ _ _ _) (L n 0 (by omega))

set_option maxRecDepth 100000 in
set_option maxHeartbeats 4000000 in
theorem m_X4_tellCount_0 (M : Mem) (s n : Nat) (hs : s < 2) (hn : M 0 s 0 4 = nI n) (h40 : n ≤ 40) : CI yX4_tellCount cX4_tellCount 2 (some .int) 2 0 0 (fun G => [.ref (ad G 0 s 0), .int (nI 0)]) M (fun r M' => r = cntV M s n 0 ∧ M' = M) := by
  refine CI.mk (own := RX4) (by decide +kernel) rfl (fun _ => rfl) (fun _ => Nat.le_of_ble_eq_true rfl) (lv0 := fun G => [some (.ref (ad G 0 s 0)), some (.int (nI 0))]) (fun _ => rfl) (fun X G E => ?_)
  refine z_iload_1 (pc := 0) E dX4_tellCount_0 ?_
  refine z_tswIn (pc := 1) (tgt := 56) (off := 55) E dX4_tellCount_1 (by decide) (by decide) (by decide) (by decide) ?_
  refine z_aload_0 (pc := 56) E dX4_tellCount_56 ?_
  refine z_get (pc := 57) E dX4_tellCount_57 fiX4_65 (ok0 (by omega)) rfl rfl ?_
  exact z_iret (pc := 60) E dX4_tellCount_60 ⟨rfl, rfl⟩

set_option maxRecDepth 100000 in
set_option maxHeartbeats 4000000 in
theorem m_X4_tellCount_1 (M : Mem) (s n : Nat) (hs : s < 2) (hn : M 0 s 0 4 = nI n) (h40 : n ≤ 40) : CI yX4_tellCount cX4_tellCount 2 (some .int) 2 0 0 (fun G => [.ref (ad G 0 s 0), .int (nI 1)]) M (fun r M' => r = cntV M s n 1 ∧ M' = M) := by
  refine CI.mk (own := RX4) (by decide +kernel) rfl (fun _ => rfl) (fun _ => Nat.le_of_ble_eq_true rfl) (lv0 := fun G => [some (.ref (ad G 0 s 0)), some (.int (nI 1))]) (fun _ => rfl) (fun X G E => ?_)
  refine z_iload_1 (pc := 0) E dX4_tellCount_0 ?_
  refine z_tswIn (pc := 1) (tgt := 61) (off := 60) E dX4_tellCount_1 (by decide) (by decide) (by decide) (by decide) ?_
  refine z_aload_0 (pc := 61) E dX4_tellCount_61 ?_
  refine z_get (pc := 62) E dX4_tellCount_62 fiX4_11 (ok0 (by omega)) rfl rfl ?_
  exact z_iret (pc := 65) E dX4_tellCount_65 ⟨rfl, rfl⟩

set_option maxRecDepth 100000 in
set_option maxHeartbeats 4000000 in
theorem m_X4_tellCount_2 (M : Mem) (s n : Nat) (hs : s < 2) (hn : M 0 s 0 4 = nI n) (h40 : n ≤ 40) : CI yX4_tellCount cX4_tellCount 2 (some .int) 2 0 0 (fun G => [.ref (ad G 0 s 0), .int (nI 2)]) M (fun r M' => r = cntV M s n 2 ∧ M' = M) := by
  refine CI.mk (own := RX4) (by decide +kernel) rfl (fun _ => rfl) (fun _ => Nat.le_of_ble_eq_true rfl) (lv0 := fun G => [some (.ref (ad G 0 s 0)), some (.int (nI 2))]) (fun _ => rfl) (fun X G E => ?_)
  refine z_iload_1 (pc := 0) E dX4_tellCount_0 ?_
  refine z_tswIn (pc := 1) (tgt := 66) (off := 65) E dX4_tellCount_1 (by decide) (by decide) (by decide) (by decide) ?_
  refine z_aload_0 (pc := 66) E dX4_tellCount_66 ?_
  refine z_get (pc := 67) E dX4_tellCount_67 fiX4_43 (ok0 (by omega)) rfl rfl ?_
  exact z_iret (pc := 70) E dX4_tellCount_70 ⟨rfl, rfl⟩

set_option maxRecDepth 100000 in
set_option maxHeartbeats 4000000 in
theorem m_X4_tellCount_3 (M : Mem) (s n : Nat) (hs : s < 2) (hn : M 0 s 0 4 = nI n) (h40 : n ≤ 40) : CI yX4_tellCount cX4_tellCount 2 (some .int) 2 0 0 (fun G => [.ref (ad G 0 s 0), .int (nI 3)]) M (fun r M' => r = cntV M s n 3 ∧ M' = M) := by
  refine CI.mk (own := RX4) (by decide +kernel) rfl (fun _ => rfl) (fun _ => Nat.le_of_ble_eq_true rfl) (lv0 := fun G => [some (.ref (ad G 0 s 0)), some (.int (nI 3))]) (fun _ => rfl) (fun X G E => ?_)
  refine z_iload_1 (pc := 0) E dX4_tellCount_0 ?_
  refine z_tswIn (pc := 1) (tgt := 71) (off := 70) E dX4_tellCount_1 (by decide) (by decide) (by decide) (by decide) ?_
  refine z_aload_0 (pc := 71) E dX4_tellCount_71 ?_
  refine z_get (pc := 72) E dX4_tellCount_72 fiX4_50 (ok0 (by omega)) rfl rfl ?_
  exact z_iret (pc := 75) E dX4_tellCount_75 ⟨rfl, rfl⟩

set_option maxRecDepth 100000 in
set_option maxHeartbeats 4000000 in
theorem m_X4_tellCount_4 (M : Mem) (s n : Nat) (hs : s < 2) (hn : M 0 s 0 4 = nI n) (h40 : n ≤ 40) : CI yX4_tellCount cX4_tellCount 2 (some .int) 2 0 0 (fun G => [.ref (ad G 0 s 0), .int (nI 4)]) M (fun r M' => r = cntV M s n 4 ∧ M' = M) := by
  refine CI.mk (own := RX4) (by decide +kernel) rfl (fun _ => rfl) (fun _ => Nat.le_of_ble_eq_true rfl) (lv0 := fun G => [some (.ref (ad G 0 s 0)), some (.int (nI 4))]) (fun _ => rfl) (fun X G E => ?_)
  refine z_iload_1 (pc := 0) E dX4_tellCount_0 ?_
  refine z_tswIn (pc := 1) (tgt := 76) (off := 75) E dX4_tellCount_1 (by decide) (by decide) (by decide) (by decide) ?_
  refine z_aload_0 (pc := 76) E dX4_tellCount_76 ?_
  refine z_iconst (v := 0) (pc := 77) E dX4_tellCount_77 (by decide) ?_
  refine z_ivp (pc := 78) E (m_X4_ticketsIn _ _ _ _ hs hn h40) rfl rfl kX4_ticketsIn mlX4_146 dX4_tellCount_78 (ok0 (by omega)) rfl rfl rfl (Nat.le_of_ble_eq_true rfl) rfl (by decide) (by decide) ⟨by omega, by omega⟩ ?_
  exact z_iret (pc := 81) E dX4_tellCount_81 ⟨rfl, rfl⟩

set_option maxRecDepth 100000 in
set_option maxHeartbeats 4000000 in
theorem m_X4_tellCount_5 (M : Mem) (s n : Nat) (hs : s < 2) (hn : M 0 s 0 4 = nI n) (h40 : n ≤ 40) : CI yX4_tellCount cX4_tellCount 2 (some .int) 2 0 0 (fun G => [.ref (ad G 0 s 0), .int (nI 5)]) M (fun r M' => r = cntV M s n 5 ∧ M' = M) := by
  refine CI.mk (own := RX4) (by decide +kernel) rfl (fun _ => rfl) (fun _ => Nat.le_of_ble_eq_true rfl) (lv0 := fun G => [some (.ref (ad G 0 s 0)), some (.int (nI 5))]) (fun _ => rfl) (fun X G E => ?_)
  refine z_iload_1 (pc := 0) E dX4_tellCount_0 ?_
  refine z_tswIn (pc := 1) (tgt := 82) (off := 81) E dX4_tellCount_1 (by decide) (by decide) (by decide) (by decide) ?_
  refine z_aload_0 (pc := 82) E dX4_tellCount_82 ?_
  refine z_iconst (v := 1) (pc := 83) E dX4_tellCount_83 (by decide) ?_
  refine z_ivp (pc := 84) E (m_X4_ticketsIn _ _ _ _ hs hn h40) rfl rfl kX4_ticketsIn mlX4_146 dX4_tellCount_84 (ok0 (by omega)) rfl rfl rfl (Nat.le_of_ble_eq_true rfl) rfl (by decide) (by decide) ⟨by omega, by omega⟩ ?_
  exact z_iret (pc := 87) E dX4_tellCount_87 ⟨rfl, rfl⟩

set_option maxRecDepth 100000 in
set_option maxHeartbeats 4000000 in
theorem m_X4_tellCount_6 (M : Mem) (s n : Nat) (hs : s < 2) (hn : M 0 s 0 4 = nI n) (h40 : n ≤ 40) : CI yX4_tellCount cX4_tellCount 2 (some .int) 2 0 0 (fun G => [.ref (ad G 0 s 0), .int (nI 6)]) M (fun r M' => r = cntV M s n 6 ∧ M' = M) := by
  refine CI.mk (own := RX4) (by decide +kernel) rfl (fun _ => rfl) (fun _ => Nat.le_of_ble_eq_true rfl) (lv0 := fun G => [some (.ref (ad G 0 s 0)), some (.int (nI 6))]) (fun _ => rfl) (fun X G E => ?_)
  refine z_iload_1 (pc := 0) E dX4_tellCount_0 ?_
  refine z_tswIn (pc := 1) (tgt := 88) (off := 87) E dX4_tellCount_1 (by decide) (by decide) (by decide) (by decide) ?_
  refine z_aload_0 (pc := 88) E dX4_tellCount_88 ?_
  refine z_iconst (v := 2) (pc := 89) E dX4_tellCount_89 (by decide) ?_
  refine z_ivp (pc := 90) E (m_X4_ticketsIn _ _ _ _ hs hn h40) rfl rfl kX4_ticketsIn mlX4_146 dX4_tellCount_90 (ok0 (by omega)) rfl rfl rfl (Nat.le_of_ble_eq_true rfl) rfl (by decide) (by decide) ⟨by omega, by omega⟩ ?_
  exact z_iret (pc := 93) E dX4_tellCount_93 ⟨rfl, rfl⟩

set_option maxRecDepth 100000 in
set_option maxHeartbeats 4000000 in
theorem m_X4_tellCount_7 (M : Mem) (s n : Nat) (hs : s < 2) (hn : M 0 s 0 4 = nI n) (h40 : n ≤ 40) : CI yX4_tellCount cX4_tellCount 2 (some .int) 2 0 0 (fun G => [.ref (ad G 0 s 0), .int (nI 7)]) M (fun r M' => r = cntV M s n 7 ∧ M' = M) := by
  refine CI.mk (own := RX4) (by decide +kernel) rfl (fun _ => rfl) (fun _ => Nat.le_of_ble_eq_true rfl) (lv0 := fun G => [some (.ref (ad G 0 s 0)), some (.int (nI 7))]) (fun _ => rfl) (fun X G E => ?_)
  refine z_iload_1 (pc := 0) E dX4_tellCount_0 ?_
  refine z_tswIn (pc := 1) (tgt := 94) (off := 93) E dX4_tellCount_1 (by decide) (by decide) (by decide) (by decide) ?_
  refine z_aload_0 (pc := 94) E dX4_tellCount_94 ?_
  refine z_iconst (v := 3) (pc := 95) E dX4_tellCount_95 (by decide) ?_
  refine z_ivp (pc := 96) E (m_X4_ticketsIn _ _ _ _ hs hn h40) rfl rfl kX4_ticketsIn mlX4_146 dX4_tellCount_96 (ok0 (by omega)) rfl rfl rfl (Nat.le_of_ble_eq_true rfl) rfl (by decide) (by decide) ⟨by omega, by omega⟩ ?_
  exact z_iret (pc := 99) E dX4_tellCount_99 ⟨rfl, rfl⟩

set_option maxRecDepth 100000 in
set_option maxHeartbeats 4000000 in
theorem m_X4_tellCount_8 (M : Mem) (s n : Nat) (hs : s < 2) (hn : M 0 s 0 4 = nI n) (h40 : n ≤ 40) : CI yX4_tellCount cX4_tellCount 2 (some .int) 2 0 0 (fun G => [.ref (ad G 0 s 0), .int (nI 8)]) M (fun r M' => r = cntV M s n 8 ∧ M' = M) := by
  refine CI.mk (own := RX4) (by decide +kernel) rfl (fun _ => rfl) (fun _ => Nat.le_of_ble_eq_true rfl) (lv0 := fun G => [some (.ref (ad G 0 s 0)), some (.int (nI 8))]) (fun _ => rfl) (fun X G E => ?_)
  refine z_iload_1 (pc := 0) E dX4_tellCount_0 ?_
  refine z_tswIn (pc := 1) (tgt := 100) (off := 99) E dX4_tellCount_1 (by decide) (by decide) (by decide) (by decide) ?_
  refine z_aload_0 (pc := 100) E dX4_tellCount_100 ?_
  refine z_get (pc := 101) E dX4_tellCount_101 fiX4_36 (ok0 (by omega)) rfl rfl ?_
  refine z_ivp (pc := 104) E (m_X2_taken _ _ hs) rfl rfl kX2_taken mlX4_149 dX4_tellCount_104 (ok15 (by omega)) rfl rfl rfl (Nat.le_of_ble_eq_true rfl) rfl (by decide) (by decide) ⟨by omega, by omega⟩ ?_
  exact z_iret (pc := 107) E dX4_tellCount_107 ⟨rfl, rfl⟩

set_option maxRecDepth 100000 in
set_option maxHeartbeats 4000000 in
theorem m_X4_tellCount_9 (M : Mem) (s n : Nat) (hs : s < 2) (hn : M 0 s 0 4 = nI n) (h40 : n ≤ 40) : CI yX4_tellCount cX4_tellCount 2 (some .int) 2 0 0 (fun G => [.ref (ad G 0 s 0), .int (nI 9)]) M (fun r M' => r = cntV M s n 9 ∧ M' = M) := by
  refine CI.mk (own := RX4) (by decide +kernel) rfl (fun _ => rfl) (fun _ => Nat.le_of_ble_eq_true rfl) (lv0 := fun G => [some (.ref (ad G 0 s 0)), some (.int (nI 9))]) (fun _ => rfl) (fun X G E => ?_)
  refine z_iload_1 (pc := 0) E dX4_tellCount_0 ?_
  refine z_tswIn (pc := 1) (tgt := 108) (off := 107) E dX4_tellCount_1 (by decide) (by decide) (by decide) (by decide) ?_
  refine z_aload_0 (pc := 108) E dX4_tellCount_108 ?_
  refine z_ivp (pc := 109) E (m_X4_loansHeld _ _ _ hs hn h40) rfl rfl kX4_loansHeld mlX4_153 dX4_tellCount_109 (ok0 (by omega)) rfl rfl rfl (Nat.le_of_ble_eq_true rfl) rfl (by decide) (by decide) ⟨by omega, by omega⟩ ?_
  exact z_iret (pc := 112) E dX4_tellCount_112 ⟨rfl, rfl⟩

set_option maxRecDepth 100000 in
set_option maxHeartbeats 4000000 in
theorem m_X4_tellCount_10 (M : Mem) (s n : Nat) (hs : s < 2) (hn : M 0 s 0 4 = nI n) (h40 : n ≤ 40) : CI yX4_tellCount cX4_tellCount 2 (some .int) 2 0 0 (fun G => [.ref (ad G 0 s 0), .int (nI 10)]) M (fun r M' => r = cntV M s n 10 ∧ M' = M) := by
  refine CI.mk (own := RX4) (by decide +kernel) rfl (fun _ => rfl) (fun _ => Nat.le_of_ble_eq_true rfl) (lv0 := fun G => [some (.ref (ad G 0 s 0)), some (.int (nI 10))]) (fun _ => rfl) (fun X G E => ?_)
  refine z_iload_1 (pc := 0) E dX4_tellCount_0 ?_
  refine z_tswOut (pc := 1) (tgt := 113) E dX4_tellCount_1 (by decide) (by decide) ?_
  refine z_aload_0 (pc := 113) E dX4_tellCount_113 ?_
  refine z_get (pc := 114) E dX4_tellCount_114 fiX4_80 (ok0 (by omega)) rfl rfl ?_
  exact z_iret (pc := 117) E dX4_tellCount_117 ⟨rfl, rfl⟩

theorem m_X4_tellCount (M : Mem) (s n : Nat) (w : Nat) (hs : s < 2) (hn : M 0 s 0 4 = nI n) (h40 : n ≤ 40) (hw : w < 11) : CI yX4_tellCount cX4_tellCount 2 (some .int) 2 0 0 (fun G => [.ref (ad G 0 s 0), .int (nI w)]) M (fun r M' => r = cntV M s n w ∧ M' = M) :=
  match w, hw with
  | 0, _ => m_X4_tellCount_0 M s n hs hn h40
  | 1, _ => m_X4_tellCount_1 M s n hs hn h40
  | 2, _ => m_X4_tellCount_2 M s n hs hn h40
  | 3, _ => m_X4_tellCount_3 M s n hs hn h40
  | 4, _ => m_X4_tellCount_4 M s n hs hn h40
  | 5, _ => m_X4_tellCount_5 M s n hs hn h40
  | 6, _ => m_X4_tellCount_6 M s n hs hn h40
  | 7, _ => m_X4_tellCount_7 M s n hs hn h40
  | 8, _ => m_X4_tellCount_8 M s n hs hn h40
  | 9, _ => m_X4_tellCount_9 M s n hs hn h40
  | 10, _ => m_X4_tellCount_10 M s n hs hn h40
  | w + 11, h => absurd h (by omega)

set_option maxRecDepth 100000 in
set_option maxHeartbeats 4000000 in
theorem m_X4_tellCustomer_0 (M : Mem) (s n : Nat) (i : Nat) (hs : s < 2) (hn : M 0 s 0 4 = nI n) (h40 : n ≤ 40) (hi : i < 10) : CI yX4_tellCustomer cX4_tellCustomer 3 (some .int) 4 0 0 (fun G => [.ref (ad G 0 s 0), .int (nI i), .int (nI 0)]) M (fun r M' => r = custV M s n i 0 ∧ M' = M) := by
  refine CI.mk (own := RX4) (by decide +kernel) rfl (fun _ => rfl) (fun _ => Nat.le_of_ble_eq_true rfl) (lv0 := fun G => [some (.ref (ad G 0 s 0)), some (.int (nI i)), some (.int (nI 0))]) (fun _ => rfl) (fun X G E => ?_)
  refine z_iload_2 (pc := 0) E dX4_tellCustomer_0 ?_
  refine z_tswIn (pc := 1) (tgt := 32) (off := 31) E dX4_tellCustomer_1 (by decide) (by decide) (by decide) (by decide) ?_
  refine z_aload_0 (pc := 32) E dX4_tellCustomer_32 ?_
  refine z_get (pc := 33) E dX4_tellCustomer_33 fiX4_17 (ok0 (by omega)) rfl rfl ?_
  refine z_iload_1 (pc := 36) E dX4_tellCustomer_36 ?_
  refine z_aald (t0 := 2) (pc := 37) E dX4_tellCustomer_37 (ok17 (by omega)) rfl rfl rfl (by omega) (by omega) rfl ?_
  refine z_get (pc := 38) E dX4_tellCustomer_38 fiX4_75 (ok1 (by omega) (by omega)) rfl rfl ?_
  exact z_iret (pc := 41) E dX4_tellCustomer_41 ⟨rfl, rfl⟩

set_option maxRecDepth 100000 in
set_option maxHeartbeats 4000000 in
theorem m_X4_tellCustomer_1 (M : Mem) (s n : Nat) (i : Nat) (hs : s < 2) (hn : M 0 s 0 4 = nI n) (h40 : n ≤ 40) (hi : i < 10) : CI yX4_tellCustomer cX4_tellCustomer 3 (some .int) 4 0 0 (fun G => [.ref (ad G 0 s 0), .int (nI i), .int (nI 1)]) M (fun r M' => r = custV M s n i 1 ∧ M' = M) := by
  refine CI.mk (own := RX4) (by decide +kernel) rfl (fun _ => rfl) (fun _ => Nat.le_of_ble_eq_true rfl) (lv0 := fun G => [some (.ref (ad G 0 s 0)), some (.int (nI i)), some (.int (nI 1))]) (fun _ => rfl) (fun X G E => ?_)
  refine z_iload_2 (pc := 0) E dX4_tellCustomer_0 ?_
  refine z_tswIn (pc := 1) (tgt := 42) (off := 41) E dX4_tellCustomer_1 (by decide) (by decide) (by decide) (by decide) ?_
  refine z_aload_0 (pc := 42) E dX4_tellCustomer_42 ?_
  refine z_get (pc := 43) E dX4_tellCustomer_43 fiX4_17 (ok0 (by omega)) rfl rfl ?_
  refine z_iload_1 (pc := 46) E dX4_tellCustomer_46 ?_
  refine z_aald (t0 := 2) (pc := 47) E dX4_tellCustomer_47 (ok17 (by omega)) rfl rfl rfl (by omega) (by omega) rfl ?_
  refine z_get (pc := 48) E dX4_tellCustomer_48 fiX4_156 (ok1 (by omega) (by omega)) rfl rfl ?_
  exact z_iret (pc := 51) E dX4_tellCustomer_51 ⟨rfl, rfl⟩

set_option maxRecDepth 100000 in
set_option maxHeartbeats 4000000 in
theorem m_X4_tellCustomer_2 (M : Mem) (s n : Nat) (i : Nat) (hs : s < 2) (hn : M 0 s 0 4 = nI n) (h40 : n ≤ 40) (hi : i < 10) : CI yX4_tellCustomer cX4_tellCustomer 3 (some .int) 4 0 0 (fun G => [.ref (ad G 0 s 0), .int (nI i), .int (nI 2)]) M (fun r M' => r = custV M s n i 2 ∧ M' = M) := by
  refine CI.mk (own := RX4) (by decide +kernel) rfl (fun _ => rfl) (fun _ => Nat.le_of_ble_eq_true rfl) (lv0 := fun G => [some (.ref (ad G 0 s 0)), some (.int (nI i)), some (.int (nI 2))]) (fun _ => rfl) (fun X G E => ?_)
  refine z_iload_2 (pc := 0) E dX4_tellCustomer_0 ?_
  refine z_tswIn (pc := 1) (tgt := 52) (off := 51) E dX4_tellCustomer_1 (by decide) (by decide) (by decide) (by decide) ?_
  refine z_aload_0 (pc := 52) E dX4_tellCustomer_52 ?_
  refine z_iload_1 (pc := 53) E dX4_tellCustomer_53 ?_
  refine z_iconst (v := 0) (pc := 54) E dX4_tellCustomer_54 (by decide) ?_
  refine z_ivp (pc := 55) E (m_X4_ticketsOf _ _ _ _ _ hs hn h40) rfl rfl kX4_ticketsOf mlX4_159 dX4_tellCustomer_55 (ok0 (by omega)) rfl rfl rfl (Nat.le_of_ble_eq_true rfl) rfl (by decide) (by decide) ⟨by omega, by omega⟩ ?_
  exact z_iret (pc := 58) E dX4_tellCustomer_58 ⟨rfl, rfl⟩

set_option maxRecDepth 100000 in
set_option maxHeartbeats 4000000 in
theorem m_X4_tellCustomer_3 (M : Mem) (s n : Nat) (i : Nat) (hs : s < 2) (hn : M 0 s 0 4 = nI n) (h40 : n ≤ 40) (hi : i < 10) : CI yX4_tellCustomer cX4_tellCustomer 3 (some .int) 4 0 0 (fun G => [.ref (ad G 0 s 0), .int (nI i), .int (nI 3)]) M (fun r M' => r = custV M s n i 3 ∧ M' = M) := by
  refine CI.mk (own := RX4) (by decide +kernel) rfl (fun _ => rfl) (fun _ => Nat.le_of_ble_eq_true rfl) (lv0 := fun G => [some (.ref (ad G 0 s 0)), some (.int (nI i)), some (.int (nI 3))]) (fun _ => rfl) (fun X G E => ?_)
  refine z_iload_2 (pc := 0) E dX4_tellCustomer_0 ?_
  refine z_tswIn (pc := 1) (tgt := 59) (off := 58) E dX4_tellCustomer_1 (by decide) (by decide) (by decide) (by decide) ?_
  refine z_aload_0 (pc := 59) E dX4_tellCustomer_59 ?_
  refine z_iload_1 (pc := 60) E dX4_tellCustomer_60 ?_
  refine z_ivp (pc := 61) E (m_X4_debtOf _ _ _ _ hs hn h40) rfl rfl kX4_debtOf mlX4_162 dX4_tellCustomer_61 (ok0 (by omega)) rfl rfl rfl (Nat.le_of_ble_eq_true rfl) rfl (by decide) (by decide) ⟨by omega, by omega⟩ ?_
  exact z_iret (pc := 64) E dX4_tellCustomer_64 ⟨rfl, rfl⟩

set_option maxRecDepth 100000 in
set_option maxHeartbeats 4000000 in
theorem m_X4_tellCustomer_4 (M : Mem) (s n : Nat) (i : Nat) (hs : s < 2) (hn : M 0 s 0 4 = nI n) (h40 : n ≤ 40) (hi : i < 10) : CI yX4_tellCustomer cX4_tellCustomer 3 (some .int) 4 0 0 (fun G => [.ref (ad G 0 s 0), .int (nI i), .int (nI 4)]) M (fun r M' => r = custV M s n i 4 ∧ M' = M) := by
  refine CI.mk (own := RX4) (by decide +kernel) rfl (fun _ => rfl) (fun _ => Nat.le_of_ble_eq_true rfl) (lv0 := fun G => [some (.ref (ad G 0 s 0)), some (.int (nI i)), some (.int (nI 4))]) (fun _ => rfl) (fun X G E => ?_)
  refine z_iload_2 (pc := 0) E dX4_tellCustomer_0 ?_
  refine z_tswOut (pc := 1) (tgt := 65) E dX4_tellCustomer_1 (by decide) (by decide) ?_
  refine z_aload_0 (pc := 65) E dX4_tellCustomer_65 ?_
  refine z_iload_1 (pc := 66) E dX4_tellCustomer_66 ?_
  refine z_iconst (v := 1) (pc := 67) E dX4_tellCustomer_67 (by decide) ?_
  refine z_ivp (pc := 68) E (m_X4_ticketsOf _ _ _ _ _ hs hn h40) rfl rfl kX4_ticketsOf mlX4_159 dX4_tellCustomer_68 (ok0 (by omega)) rfl rfl rfl (Nat.le_of_ble_eq_true rfl) rfl (by decide) (by decide) ⟨by omega, by omega⟩ ?_
  exact z_iret (pc := 71) E dX4_tellCustomer_71 ⟨rfl, rfl⟩

theorem m_X4_tellCustomer (M : Mem) (s n : Nat) (i w : Nat) (hs : s < 2) (hn : M 0 s 0 4 = nI n) (h40 : n ≤ 40) (hi : i < 10) (hw : w < 5) : CI yX4_tellCustomer cX4_tellCustomer 3 (some .int) 4 0 0 (fun G => [.ref (ad G 0 s 0), .int (nI i), .int (nI w)]) M (fun r M' => r = custV M s n i w ∧ M' = M) :=
  match w, hw with
  | 0, _ => m_X4_tellCustomer_0 M s n i hs hn h40 hi
  | 1, _ => m_X4_tellCustomer_1 M s n i hs hn h40 hi
  | 2, _ => m_X4_tellCustomer_2 M s n i hs hn h40 hi
  | 3, _ => m_X4_tellCustomer_3 M s n i hs hn h40 hi
  | 4, _ => m_X4_tellCustomer_4 M s n i hs hn h40 hi
  | w + 5, h => absurd h (by omega)

set_option maxRecDepth 100000 in
set_option maxHeartbeats 4000000 in
theorem m_X4_tellTicket_0 (M : Mem) (s : Nat) (t : Nat) (hs : s < 2) (ht : t < 40) : CI yX4_tellTicket cX4_tellTicket 4 (some .int) 2 0 0 (fun G => [.ref (ad G 0 s 0), .int (nI t), .int (nI 0)]) M (fun r M' => r = tickV M s t 0 ∧ M' = M) := by
  refine CI.mk (own := RX4) (by decide +kernel) rfl (fun _ => rfl) (fun _ => Nat.le_of_ble_eq_true rfl) (lv0 := fun G => [some (.ref (ad G 0 s 0)), some (.int (nI t)), some (.int (nI 0)), none]) (fun _ => rfl) (fun X G E => ?_)
  refine z_aload_0 (pc := 0) E dX4_tellTicket_0 ?_
  refine z_get (pc := 1) E dX4_tellTicket_1 fiX4_23 (ok0 (by omega)) rfl rfl ?_
  refine z_iload_1 (pc := 4) E dX4_tellTicket_4 ?_
  refine z_aald (t0 := 4) (pc := 5) E dX4_tellTicket_5 (ok18 (by omega)) rfl rfl rfl (by omega) (by omega) rfl ?_
  refine z_astore_3 (pc := 6) E dX4_tellTicket_6 rfl ?_
  refine z_iload_2 (pc := 7) E dX4_tellTicket_7 ?_
  refine z_tswIn (pc := 8) (tgt := 64) (off := 56) E dX4_tellTicket_8 (by decide) (by decide) (by decide) (by decide) ?_
  refine z_aload_3 (pc := 64) E dX4_tellTicket_64 ?_
  refine z_get (pc := 65) E dX4_tellTicket_65 fiX4_89 (ok2 (by omega) (by omega)) rfl rfl ?_
  exact z_iret (pc := 68) E dX4_tellTicket_68 ⟨rfl, rfl⟩

set_option maxRecDepth 100000 in
set_option maxHeartbeats 4000000 in
theorem m_X4_tellTicket_1 (M : Mem) (s : Nat) (t : Nat) (hs : s < 2) (ht : t < 40) : CI yX4_tellTicket cX4_tellTicket 4 (some .int) 2 0 0 (fun G => [.ref (ad G 0 s 0), .int (nI t), .int (nI 1)]) M (fun r M' => r = tickV M s t 1 ∧ M' = M) := by
  refine CI.mk (own := RX4) (by decide +kernel) rfl (fun _ => rfl) (fun _ => Nat.le_of_ble_eq_true rfl) (lv0 := fun G => [some (.ref (ad G 0 s 0)), some (.int (nI t)), some (.int (nI 1)), none]) (fun _ => rfl) (fun X G E => ?_)
  refine z_aload_0 (pc := 0) E dX4_tellTicket_0 ?_
  refine z_get (pc := 1) E dX4_tellTicket_1 fiX4_23 (ok0 (by omega)) rfl rfl ?_
  refine z_iload_1 (pc := 4) E dX4_tellTicket_4 ?_
  refine z_aald (t0 := 4) (pc := 5) E dX4_tellTicket_5 (ok18 (by omega)) rfl rfl rfl (by omega) (by omega) rfl ?_
  refine z_astore_3 (pc := 6) E dX4_tellTicket_6 rfl ?_
  refine z_iload_2 (pc := 7) E dX4_tellTicket_7 ?_
  refine z_tswIn (pc := 8) (tgt := 69) (off := 61) E dX4_tellTicket_8 (by decide) (by decide) (by decide) (by decide) ?_
  refine z_aload_3 (pc := 69) E dX4_tellTicket_69 ?_
  refine z_get (pc := 70) E dX4_tellTicket_70 fiX4_165 (ok2 (by omega) (by omega)) rfl rfl ?_
  exact z_iret (pc := 73) E dX4_tellTicket_73 ⟨rfl, rfl⟩

set_option maxRecDepth 100000 in
set_option maxHeartbeats 4000000 in
theorem m_X4_tellTicket_2 (M : Mem) (s : Nat) (t : Nat) (hs : s < 2) (ht : t < 40) : CI yX4_tellTicket cX4_tellTicket 4 (some .int) 2 0 0 (fun G => [.ref (ad G 0 s 0), .int (nI t), .int (nI 2)]) M (fun r M' => r = tickV M s t 2 ∧ M' = M) := by
  refine CI.mk (own := RX4) (by decide +kernel) rfl (fun _ => rfl) (fun _ => Nat.le_of_ble_eq_true rfl) (lv0 := fun G => [some (.ref (ad G 0 s 0)), some (.int (nI t)), some (.int (nI 2)), none]) (fun _ => rfl) (fun X G E => ?_)
  refine z_aload_0 (pc := 0) E dX4_tellTicket_0 ?_
  refine z_get (pc := 1) E dX4_tellTicket_1 fiX4_23 (ok0 (by omega)) rfl rfl ?_
  refine z_iload_1 (pc := 4) E dX4_tellTicket_4 ?_
  refine z_aald (t0 := 4) (pc := 5) E dX4_tellTicket_5 (ok18 (by omega)) rfl rfl rfl (by omega) (by omega) rfl ?_
  refine z_astore_3 (pc := 6) E dX4_tellTicket_6 rfl ?_
  refine z_iload_2 (pc := 7) E dX4_tellTicket_7 ?_
  refine z_tswIn (pc := 8) (tgt := 74) (off := 66) E dX4_tellTicket_8 (by decide) (by decide) (by decide) (by decide) ?_
  refine z_aload_3 (pc := 74) E dX4_tellTicket_74 ?_
  refine z_get (pc := 75) E dX4_tellTicket_75 fiX4_133 (ok2 (by omega) (by omega)) rfl rfl ?_
  exact z_iret (pc := 78) E dX4_tellTicket_78 ⟨rfl, rfl⟩

set_option maxRecDepth 100000 in
set_option maxHeartbeats 4000000 in
theorem m_X4_tellTicket_3 (M : Mem) (s : Nat) (t : Nat) (hs : s < 2) (ht : t < 40) : CI yX4_tellTicket cX4_tellTicket 4 (some .int) 2 0 0 (fun G => [.ref (ad G 0 s 0), .int (nI t), .int (nI 3)]) M (fun r M' => r = tickV M s t 3 ∧ M' = M) := by
  refine CI.mk (own := RX4) (by decide +kernel) rfl (fun _ => rfl) (fun _ => Nat.le_of_ble_eq_true rfl) (lv0 := fun G => [some (.ref (ad G 0 s 0)), some (.int (nI t)), some (.int (nI 3)), none]) (fun _ => rfl) (fun X G E => ?_)
  refine z_aload_0 (pc := 0) E dX4_tellTicket_0 ?_
  refine z_get (pc := 1) E dX4_tellTicket_1 fiX4_23 (ok0 (by omega)) rfl rfl ?_
  refine z_iload_1 (pc := 4) E dX4_tellTicket_4 ?_
  refine z_aald (t0 := 4) (pc := 5) E dX4_tellTicket_5 (ok18 (by omega)) rfl rfl rfl (by omega) (by omega) rfl ?_
  refine z_astore_3 (pc := 6) E dX4_tellTicket_6 rfl ?_
  refine z_iload_2 (pc := 7) E dX4_tellTicket_7 ?_
  refine z_tswIn (pc := 8) (tgt := 79) (off := 71) E dX4_tellTicket_8 (by decide) (by decide) (by decide) (by decide) ?_
  refine z_aload_3 (pc := 79) E dX4_tellTicket_79 ?_
  refine z_get (pc := 80) E dX4_tellTicket_80 fiX4_168 (ok2 (by omega) (by omega)) rfl rfl ?_
  exact z_iret (pc := 83) E dX4_tellTicket_83 ⟨rfl, rfl⟩

set_option maxRecDepth 100000 in
set_option maxHeartbeats 4000000 in
theorem m_X4_tellTicket_4 (M : Mem) (s : Nat) (t : Nat) (hs : s < 2) (ht : t < 40) : CI yX4_tellTicket cX4_tellTicket 4 (some .int) 2 0 0 (fun G => [.ref (ad G 0 s 0), .int (nI t), .int (nI 4)]) M (fun r M' => r = tickV M s t 4 ∧ M' = M) := by
  refine CI.mk (own := RX4) (by decide +kernel) rfl (fun _ => rfl) (fun _ => Nat.le_of_ble_eq_true rfl) (lv0 := fun G => [some (.ref (ad G 0 s 0)), some (.int (nI t)), some (.int (nI 4)), none]) (fun _ => rfl) (fun X G E => ?_)
  refine z_aload_0 (pc := 0) E dX4_tellTicket_0 ?_
  refine z_get (pc := 1) E dX4_tellTicket_1 fiX4_23 (ok0 (by omega)) rfl rfl ?_
  refine z_iload_1 (pc := 4) E dX4_tellTicket_4 ?_
  refine z_aald (t0 := 4) (pc := 5) E dX4_tellTicket_5 (ok18 (by omega)) rfl rfl rfl (by omega) (by omega) rfl ?_
  refine z_astore_3 (pc := 6) E dX4_tellTicket_6 rfl ?_
  refine z_iload_2 (pc := 7) E dX4_tellTicket_7 ?_
  refine z_tswIn (pc := 8) (tgt := 84) (off := 76) E dX4_tellTicket_8 (by decide) (by decide) (by decide) (by decide) ?_
  refine z_aload_3 (pc := 84) E dX4_tellTicket_84 ?_
  refine z_get (pc := 85) E dX4_tellTicket_85 fiX4_143 (ok2 (by omega) (by omega)) rfl rfl ?_
  exact z_iret (pc := 88) E dX4_tellTicket_88 ⟨rfl, rfl⟩

set_option maxRecDepth 100000 in
set_option maxHeartbeats 4000000 in
theorem m_X4_tellTicket_5 (M : Mem) (s : Nat) (t : Nat) (hs : s < 2) (ht : t < 40) : CI yX4_tellTicket cX4_tellTicket 4 (some .int) 2 0 0 (fun G => [.ref (ad G 0 s 0), .int (nI t), .int (nI 5)]) M (fun r M' => r = tickV M s t 5 ∧ M' = M) := by
  refine CI.mk (own := RX4) (by decide +kernel) rfl (fun _ => rfl) (fun _ => Nat.le_of_ble_eq_true rfl) (lv0 := fun G => [some (.ref (ad G 0 s 0)), some (.int (nI t)), some (.int (nI 5)), none]) (fun _ => rfl) (fun X G E => ?_)
  refine z_aload_0 (pc := 0) E dX4_tellTicket_0 ?_
  refine z_get (pc := 1) E dX4_tellTicket_1 fiX4_23 (ok0 (by omega)) rfl rfl ?_
  refine z_iload_1 (pc := 4) E dX4_tellTicket_4 ?_
  refine z_aald (t0 := 4) (pc := 5) E dX4_tellTicket_5 (ok18 (by omega)) rfl rfl rfl (by omega) (by omega) rfl ?_
  refine z_astore_3 (pc := 6) E dX4_tellTicket_6 rfl ?_
  refine z_iload_2 (pc := 7) E dX4_tellTicket_7 ?_
  refine z_tswIn (pc := 8) (tgt := 89) (off := 81) E dX4_tellTicket_8 (by decide) (by decide) (by decide) (by decide) ?_
  refine z_aload_3 (pc := 89) E dX4_tellTicket_89 ?_
  refine z_get (pc := 90) E dX4_tellTicket_90 fiX4_113 (ok2 (by omega) (by omega)) rfl rfl ?_
  exact z_iret (pc := 93) E dX4_tellTicket_93 ⟨rfl, rfl⟩

set_option maxRecDepth 100000 in
set_option maxHeartbeats 4000000 in
theorem m_X4_tellTicket_6 (M : Mem) (s : Nat) (t : Nat) (hs : s < 2) (ht : t < 40) : CI yX4_tellTicket cX4_tellTicket 4 (some .int) 2 0 0 (fun G => [.ref (ad G 0 s 0), .int (nI t), .int (nI 6)]) M (fun r M' => r = tickV M s t 6 ∧ M' = M) := by
  refine CI.mk (own := RX4) (by decide +kernel) rfl (fun _ => rfl) (fun _ => Nat.le_of_ble_eq_true rfl) (lv0 := fun G => [some (.ref (ad G 0 s 0)), some (.int (nI t)), some (.int (nI 6)), none]) (fun _ => rfl) (fun X G E => ?_)
  refine z_aload_0 (pc := 0) E dX4_tellTicket_0 ?_
  refine z_get (pc := 1) E dX4_tellTicket_1 fiX4_23 (ok0 (by omega)) rfl rfl ?_
  refine z_iload_1 (pc := 4) E dX4_tellTicket_4 ?_
  refine z_aald (t0 := 4) (pc := 5) E dX4_tellTicket_5 (ok18 (by omega)) rfl rfl rfl (by omega) (by omega) rfl ?_
  refine z_astore_3 (pc := 6) E dX4_tellTicket_6 rfl ?_
  refine z_iload_2 (pc := 7) E dX4_tellTicket_7 ?_
  refine z_tswIn (pc := 8) (tgt := 94) (off := 86) E dX4_tellTicket_8 (by decide) (by decide) (by decide) (by decide) ?_
  refine z_aload_3 (pc := 94) E dX4_tellTicket_94 ?_
  refine z_get (pc := 95) E dX4_tellTicket_95 fiX4_83 (ok2 (by omega) (by omega)) rfl rfl ?_
  exact z_iret (pc := 98) E dX4_tellTicket_98 ⟨rfl, rfl⟩

set_option maxRecDepth 100000 in
set_option maxHeartbeats 4000000 in
theorem m_X4_tellTicket_7 (M : Mem) (s : Nat) (t : Nat) (hs : s < 2) (ht : t < 40) : CI yX4_tellTicket cX4_tellTicket 4 (some .int) 2 0 0 (fun G => [.ref (ad G 0 s 0), .int (nI t), .int (nI 7)]) M (fun r M' => r = tickV M s t 7 ∧ M' = M) := by
  refine CI.mk (own := RX4) (by decide +kernel) rfl (fun _ => rfl) (fun _ => Nat.le_of_ble_eq_true rfl) (lv0 := fun G => [some (.ref (ad G 0 s 0)), some (.int (nI t)), some (.int (nI 7)), none]) (fun _ => rfl) (fun X G E => ?_)
  refine z_aload_0 (pc := 0) E dX4_tellTicket_0 ?_
  refine z_get (pc := 1) E dX4_tellTicket_1 fiX4_23 (ok0 (by omega)) rfl rfl ?_
  refine z_iload_1 (pc := 4) E dX4_tellTicket_4 ?_
  refine z_aald (t0 := 4) (pc := 5) E dX4_tellTicket_5 (ok18 (by omega)) rfl rfl rfl (by omega) (by omega) rfl ?_
  refine z_astore_3 (pc := 6) E dX4_tellTicket_6 rfl ?_
  refine z_iload_2 (pc := 7) E dX4_tellTicket_7 ?_
  refine z_tswIn (pc := 8) (tgt := 99) (off := 91) E dX4_tellTicket_8 (by decide) (by decide) (by decide) (by decide) ?_
  refine z_aload_0 (pc := 99) E dX4_tellTicket_99 ?_
  refine z_get (pc := 100) E dX4_tellTicket_100 fiX4_36 (ok0 (by omega)) rfl rfl ?_
  refine z_iload_1 (pc := 103) E dX4_tellTicket_103 ?_
  refine z_ivp (pc := 104) E (m_X2_shelfOf _ _ _ hs) rfl rfl kX2_shelfOf mlX4_171 dX4_tellTicket_104 (ok15 (by omega)) rfl rfl rfl (Nat.le_of_ble_eq_true rfl) rfl (by decide) (by decide) ⟨by omega, by omega⟩ ?_
  exact z_iret (pc := 107) E dX4_tellTicket_107 ⟨rfl, rfl⟩

set_option maxRecDepth 100000 in
set_option maxHeartbeats 4000000 in
theorem m_X4_tellTicket_8 (M : Mem) (s : Nat) (t : Nat) (hs : s < 2) (ht : t < 40) : CI yX4_tellTicket cX4_tellTicket 4 (some .int) 2 0 0 (fun G => [.ref (ad G 0 s 0), .int (nI t), .int (nI 8)]) M (fun r M' => r = tickV M s t 8 ∧ M' = M) := by
  refine CI.mk (own := RX4) (by decide +kernel) rfl (fun _ => rfl) (fun _ => Nat.le_of_ble_eq_true rfl) (lv0 := fun G => [some (.ref (ad G 0 s 0)), some (.int (nI t)), some (.int (nI 8)), none]) (fun _ => rfl) (fun X G E => ?_)
  refine z_aload_0 (pc := 0) E dX4_tellTicket_0 ?_
  refine z_get (pc := 1) E dX4_tellTicket_1 fiX4_23 (ok0 (by omega)) rfl rfl ?_
  refine z_iload_1 (pc := 4) E dX4_tellTicket_4 ?_
  refine z_aald (t0 := 4) (pc := 5) E dX4_tellTicket_5 (ok18 (by omega)) rfl rfl rfl (by omega) (by omega) rfl ?_
  refine z_astore_3 (pc := 6) E dX4_tellTicket_6 rfl ?_
  refine z_iload_2 (pc := 7) E dX4_tellTicket_7 ?_
  refine z_tswIn (pc := 8) (tgt := 108) (off := 100) E dX4_tellTicket_8 (by decide) (by decide) (by decide) (by decide) ?_
  refine z_aload_0 (pc := 108) E dX4_tellTicket_108 ?_
  refine z_get (pc := 109) E dX4_tellTicket_109 fiX4_36 (ok0 (by omega)) rfl rfl ?_
  refine z_iload_1 (pc := 112) E dX4_tellTicket_112 ?_
  refine z_ivp (pc := 113) E (m_X2_leftmostOf _ _ _ hs) rfl rfl kX2_leftmostOf mlX4_174 dX4_tellTicket_113 (ok15 (by omega)) rfl rfl rfl (Nat.le_of_ble_eq_true rfl) rfl (by decide) (by decide) ⟨by omega, by omega⟩ ?_
  exact z_iret (pc := 116) E dX4_tellTicket_116 ⟨rfl, rfl⟩

set_option maxRecDepth 100000 in
set_option maxHeartbeats 4000000 in
theorem m_X4_tellTicket_9 (M : Mem) (s : Nat) (t : Nat) (hs : s < 2) (ht : t < 40) : CI yX4_tellTicket cX4_tellTicket 4 (some .int) 2 0 0 (fun G => [.ref (ad G 0 s 0), .int (nI t), .int (nI 9)]) M (fun r M' => r = tickV M s t 9 ∧ M' = M) := by
  refine CI.mk (own := RX4) (by decide +kernel) rfl (fun _ => rfl) (fun _ => Nat.le_of_ble_eq_true rfl) (lv0 := fun G => [some (.ref (ad G 0 s 0)), some (.int (nI t)), some (.int (nI 9)), none]) (fun _ => rfl) (fun X G E => ?_)
  refine z_aload_0 (pc := 0) E dX4_tellTicket_0 ?_
  refine z_get (pc := 1) E dX4_tellTicket_1 fiX4_23 (ok0 (by omega)) rfl rfl ?_
  refine z_iload_1 (pc := 4) E dX4_tellTicket_4 ?_
  refine z_aald (t0 := 4) (pc := 5) E dX4_tellTicket_5 (ok18 (by omega)) rfl rfl rfl (by omega) (by omega) rfl ?_
  refine z_astore_3 (pc := 6) E dX4_tellTicket_6 rfl ?_
  refine z_iload_2 (pc := 7) E dX4_tellTicket_7 ?_
  refine z_tswIn (pc := 8) (tgt := 117) (off := 109) E dX4_tellTicket_8 (by decide) (by decide) (by decide) (by decide) ?_
  refine z_aload_3 (pc := 117) E dX4_tellTicket_117 ?_
  refine z_get (pc := 118) E dX4_tellTicket_118 fiX4_123 (ok2 (by omega) (by omega)) rfl rfl ?_
  exact z_iret (pc := 121) E dX4_tellTicket_121 ⟨rfl, rfl⟩

set_option maxRecDepth 100000 in
set_option maxHeartbeats 4000000 in
theorem m_X4_tellTicket_10 (M : Mem) (s : Nat) (t : Nat) (hs : s < 2) (ht : t < 40) : CI yX4_tellTicket cX4_tellTicket 4 (some .int) 2 0 0 (fun G => [.ref (ad G 0 s 0), .int (nI t), .int (nI 10)]) M (fun r M' => r = tickV M s t 10 ∧ M' = M) := by
  refine CI.mk (own := RX4) (by decide +kernel) rfl (fun _ => rfl) (fun _ => Nat.le_of_ble_eq_true rfl) (lv0 := fun G => [some (.ref (ad G 0 s 0)), some (.int (nI t)), some (.int (nI 10)), none]) (fun _ => rfl) (fun X G E => ?_)
  refine z_aload_0 (pc := 0) E dX4_tellTicket_0 ?_
  refine z_get (pc := 1) E dX4_tellTicket_1 fiX4_23 (ok0 (by omega)) rfl rfl ?_
  refine z_iload_1 (pc := 4) E dX4_tellTicket_4 ?_
  refine z_aald (t0 := 4) (pc := 5) E dX4_tellTicket_5 (ok18 (by omega)) rfl rfl rfl (by omega) (by omega) rfl ?_
  refine z_astore_3 (pc := 6) E dX4_tellTicket_6 rfl ?_
  refine z_iload_2 (pc := 7) E dX4_tellTicket_7 ?_
  refine z_tswOut (pc := 8) (tgt := 122) E dX4_tellTicket_8 (by decide) (by decide) ?_
  refine z_aload_3 (pc := 122) E dX4_tellTicket_122 ?_
  refine z_get (pc := 123) E dX4_tellTicket_123 fiX4_177 (ok2 (by omega) (by omega)) rfl rfl ?_
  exact z_iret (pc := 126) E dX4_tellTicket_126 ⟨rfl, rfl⟩

theorem m_X4_tellTicket (M : Mem) (s : Nat) (t w : Nat) (hs : s < 2) (ht : t < 40) (hw : w < 11) : CI yX4_tellTicket cX4_tellTicket 4 (some .int) 2 0 0 (fun G => [.ref (ad G 0 s 0), .int (nI t), .int (nI w)]) M (fun r M' => r = tickV M s t w ∧ M' = M) :=
  match w, hw with
  | 0, _ => m_X4_tellTicket_0 M s t hs ht
  | 1, _ => m_X4_tellTicket_1 M s t hs ht
  | 2, _ => m_X4_tellTicket_2 M s t hs ht
  | 3, _ => m_X4_tellTicket_3 M s t hs ht
  | 4, _ => m_X4_tellTicket_4 M s t hs ht
  | 5, _ => m_X4_tellTicket_5 M s t hs ht
  | 6, _ => m_X4_tellTicket_6 M s t hs ht
  | 7, _ => m_X4_tellTicket_7 M s t hs ht
  | 8, _ => m_X4_tellTicket_8 M s t hs ht
  | 9, _ => m_X4_tellTicket_9 M s t hs ht
  | 10, _ => m_X4_tellTicket_10 M s t hs ht
  | w + 11, h => absurd h (by omega)

