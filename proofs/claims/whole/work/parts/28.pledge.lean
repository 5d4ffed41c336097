/-! gaps -/
theorem ix_n {x m : Int32} {n : Nat} (h : 1 ≤ x ∧ x ≤ m) (hm : nI n = m) (hn : n ≤ 1000) : ∃ D : Nat, 1 ≤ D ∧ D ≤ n ∧ x = nI D := by
  subst hm
  have h1 := Int32.le_iff_toInt_le.mp h.1
  have h2 := Int32.le_iff_toInt_le.mp h.2
  have e1 : (1 : Int32).toInt = 1 := rfl
  rw [e1] at h1
  rw [nI_toInt (n31 hn)] at h2
  refine ⟨x.toInt.toNat, by omega, by omega, ?_⟩
  have h3 : x.toInt = (nI x.toInt.toNat).toInt := by rw [nI_toInt (by omega)]; omega
  exact Int32.toInt_inj.mp h3
theorem sub_a1 (a w : Int32) : a - w + 1 = a + 1 - w := by
  rw [Int32.sub_eq_add_neg, Int32.sub_eq_add_neg, Int32.add_assoc, Int32.add_comm (-w) 1, Int32.add_assoc]
theorem gap_rng {p : Nat → Int32} {W : Nat} (hW : 1 ≤ W) (hW2 : W ≤ 100) : ∀ (n k F : Nat), F ≤ k → F < W → k + n ≤ 200 → (∀ j, k - F ≤ j → j < k → p j = -1) →
    (∀ b, b ≤ 500 → gapB p (nI W) b n k (nI F) = -1) ∨ ∃ q, k ≤ q + F ∧ q + W ≤ k + n ∧ (∀ j, j < W → p (q + j) = -1) ∧ ∀ b, b ≤ 500 → gapB p (nI W) b n k (nI F) = nI (b + q)
  | 0, _, _, _, _, _, _ => Or.inl (fun _ _ => rfl)
  | n + 1, k, F, hk, hF, hn, hp => by
    by_cases e : p k = -1
    · have ef : ∀ b, gapB p (nI W) b (n + 1) k (nI F) = if nI (F + 1) = nI W then nI (b + k) - nI W + 1 else gapB p (nI W) b n (k + 1) (nI (F + 1)) := fun b => by
        show (if (if p k = -1 then nI F + 1 else 0) = nI W then _ else gapB p (nI W) b n (k + 1) (if p k = -1 then nI F + 1 else 0)) = _
        rw [if_pos e, nI_1]
      have hp2 : ∀ j, k + 1 - (F + 1) ≤ j → j < k + 1 → p j = -1 := fun j h1 h2 => by
        rcases Nat.lt_or_ge j k with h | h
        · exact hp j (by omega) h
        · have : j = k := by omega
          rw [this]; exact e
      by_cases g : F + 1 = W
      · subst g
        refine Or.inr ⟨k - F, by omega, by omega, fun j hj => hp2 _ (by omega) (by omega), fun b hb => ?_⟩
        rw [ef, if_pos rfl, sub_a1, nI_1, pk_sub (by omega)]
        congr 1
        omega
      · have g2 : ¬ nI (F + 1) = nI W := fun z => g (nI_inj (by omega) (by omega) z)
        rcases gap_rng (p := p) hW hW2 n (k + 1) (F + 1) (by omega) (by omega) (by omega) hp2 with h | ⟨q, h1, h2, h3, h4⟩
        · exact Or.inl (fun b hb => by rw [ef, if_neg g2]; exact h b hb)
        · exact Or.inr ⟨q, by omega, by omega, h3, fun b hb => by rw [ef, if_neg g2]; exact h4 b hb⟩
    · have ef : ∀ b, gapB p (nI W) b (n + 1) k (nI F) = gapB p (nI W) b n (k + 1) (nI 0) := fun b => by
        show (if (if p k = -1 then nI F + 1 else 0) = nI W then _ else gapB p (nI W) b n (k + 1) (if p k = -1 then nI F + 1 else 0)) = _
        rw [if_neg e, if_neg (show ¬ (0 : Int32) = nI W from fun z => absurd (nI_inj (a := 0) (by omega) (by omega) z) (by omega))]
        rfl
      rcases gap_rng (p := p) hW hW2 n (k + 1) 0 (by omega) (by omega) (by omega) (fun j h1 h2 => by omega) with h | ⟨q, h1, h2, h3, h4⟩
      · exact Or.inl (fun b hb => by rw [ef]; exact h b hb)
      · exact Or.inr ⟨q, by omega, by omega, h3, fun b hb => by rw [ef]; exact h4 b hb⟩
/-- the gap of a shelf: none, or whole on it and free -/
theorem gap_of (p : Nat → Int32) {W n : Nat} (hW : 1 ≤ W) (hW2 : W ≤ 100) (hn : n ≤ 200) : (∀ b, b ≤ 500 → gapB p (nI W) b n 0 0 = -1) ∨ ∃ q, q + W ≤ n ∧ (∀ j, j < W → p (q + j) = -1) ∧ ∀ b, b ≤ 500 → gapB p (nI W) b n 0 0 = nI (b + q) := by
  rcases gap_rng (p := p) hW hW2 n 0 0 (Nat.le_refl 0) (by omega) (by omega) (fun j _ h => by omega) with h | ⟨q, h1, h2, h3, h4⟩
  · exact Or.inl h
  · exact Or.inr ⟨q, by omega, h3, h4⟩
theorem spot_of (M : Mem) (s : Nat) {W : Nat} (hW : 1 ≤ W) (hW2 : W ≤ 100) : ∀ n i, i + n = 3 →
    (spotF M s (nI W) n i = -1 ∧ ∀ j, i ≤ j → j < 3 → gapS M s j (nI W) = -1) ∨ ∃ h q, i ≤ h ∧ h < 3 ∧ q + W ≤ 10 * (h + 1) ∧ (∀ j, j < W → M 4 s h (q + j) = -1) ∧ (∀ j, i ≤ j → j < h → gapS M s j (nI W) = -1) ∧ gapS M s h (nI W) = nI q ∧ spotF M s (nI W) n i = nI (100 * h + q)
  | 0, i, h => Or.inl ⟨rfl, fun j h1 h2 => by omega⟩
  | n + 1, i, h => by
    have e : spotF M s (nI W) (n + 1) i = if gapS M s i (nI W) = -1 then spotF M s (nI W) n (i + 1) else 100 * nI i + gapS M s i (nI W) := rfl
    rcases gap_of (M 4 s i) hW hW2 (n := 10 * (i + 1)) (by omega) with g | ⟨q, g1, g2, g3⟩
    · have g0 : gapS M s i (nI W) = -1 := g 0 (by omega)
      rw [if_pos g0] at e
      rcases spot_of M s hW hW2 n (i + 1) (by omega) with ⟨a, b⟩ | ⟨h9, q, a1, a2, a3, a4, a5, a6, a7⟩
      · refine Or.inl ⟨e.trans a, fun j h1 h2 => ?_⟩
        rcases Nat.lt_or_ge i j with x | x
        · exact b j x h2
        · have : j = i := by omega
          rw [this]; exact g0
      · refine Or.inr ⟨h9, q, by omega, a2, a3, a4, fun j h1 h2 => ?_, a6, e.trans a7⟩
        rcases Nat.lt_or_ge i j with x | x
        · exact a5 j x h2
        · have : j = i := by omega
          rw [this]; exact g0
    · have g0 : gapS M s i (nI W) = nI q := (g3 0 (by omega)).trans (by rw [Nat.zero_add])
      rw [if_neg (by rw [g0]; exact nI_m1 (by omega))] at e
      refine Or.inr ⟨i, q, Nat.le_refl i, by omega, g1, g2, fun j h1 h2 => by omega, g0, e.trans ?_⟩
      rw [g0, show (100 : Int32) = nI 100 from rfl, pk_mul, nI_add]
theorem spot_rng (M : Mem) (s : Nat) {W : Nat} (hW : 1 ≤ W) (hW2 : W ≤ 100) : spotF M s (nI W) 3 0 = -1 ∨ ∃ h q, h < 3 ∧ q + W ≤ 10 * (h + 1) ∧ spotF M s (nI W) 3 0 = nI (100 * h + q) := by
  rcases spot_of M s hW hW2 3 0 rfl with h | ⟨h, q, _, a2, a3, _, _, _, a7⟩
  · exact Or.inl h.1
  · exact Or.inr ⟨h, q, a2, a3, a7⟩

def pledgeK (M : Mem) (c k v w : Int32) : Nat := if 0 ≤ c ∧ c ≤ M 0 0 0 3 - 1 then if (0 ≤ k ∧ k ≤ 4) ∧ (1 ≤ v ∧ v ≤ 500) ∧ (1 ≤ w ∧ w ≤ 10) then if ¬ (40 ≤ M 0 0 0 4) then if ¬ (M 0 0 0 1 < loanV (M 1 0 c.toNatClampNeg 1) v) then if ¬ (spotF M 0 w 3 0 = -1) then 0 else 3 else 3 else 3 else 2 else 1

set_option maxRecDepth 100000 in
set_option maxHeartbeats 4000000 in
theorem m_X6_pledge (M : Mem) (n cN : Nat) (c k v w : Int32) (hn : M 0 0 0 4 = nI n) (h40 : n ≤ 40) (hc : M 0 0 0 3 = nI cN) (h10 : cN ≤ 10) : XI yX6_pledge cX6_pledge 5 (some .int) 7 5 30 (fun G => [.ref (ad G 14 0 0), .int c, .int k, .int v, .int w]) M (fun r M' => pledgeK M c k v w = 0 ∧ ∃ i W h q, i < cN ∧ 1 ≤ W ∧ W ≤ 10 ∧ h < 3 ∧ q + W ≤ 10 * (h + 1) ∧ n < 40 ∧ c = nI i ∧ w = nI W ∧ spotF M 0 w 3 0 = nI (100 * h + q) ∧ r = nI n ∧ M' = addM M 0 i n h q k v w) (fun Ex M' => M' = M ∧ ((Ex = IOB ∧ pledgeK M c k v w = 1) ∨ (Ex = IAE ∧ pledgeK M c k v w = 2) ∨ (Ex = ISE ∧ pledgeK M c k v w = 3))) := by
  refine XI.mk (own := RX6) (by decide +kernel) rfl (fun _ => rfl) (fun _ => Nat.le_of_ble_eq_true rfl) (lv0 := fun G => [some (.ref (ad G 14 0 0)), some (.int c), some (.int k), some (.int v), some (.int w)]) (fun _ => rfl) (fun X G E hX => ?_)
  refine z_aload_0 (pc := 0) E dX6_pledge_0 ?_
  refine z_get (pc := 1) E dX6_pledge_1 fiX6_10 ok14 rfl rfl ?_
  refine z_iload_1 (pc := 4) E dX6_pledge_4 ?_
  refine z_ivp (pc := 5) E (m_X4_hasCustomer _ _ _ (by decide)) rfl rfl kX4_hasCustomer mlX6_42 dX6_pledge_5 (ok0 (by omega)) rfl rfl rfl (Nat.le_of_ble_eq_true rfl) rfl (by decide) (by decide) ⟨by omega, by omega⟩ ?_
  refine z_chkI (pc := 8) E hX (m_X6_checkIndex _ _) rfl rfl kX6_checkIndex mlX6_46 dX6_pledge_8 rfl (by decide) rfl (Nat.le_of_ble_eq_true rfl) (by decide) ⟨by omega, by omega⟩ (fun Ex M9 hx => ⟨hx.2.2, Or.inl ⟨hx.1, by unfold pledgeK; rw [if_neg (b2_e0 hx.2.1)]⟩⟩) (fun h8 => ?_)
  obtain ⟨i, hi, rfl⟩ := ix_of (hc_rw hc (b2_n0 h8)) (by omega)
  refine z_iload_2 (pc := 11) E dX6_pledge_11 ?_
  refine z_iconst (v := 0) (pc := 12) E dX6_pledge_12 (by decide) ?_
  refine z_iconst (v := 4) (pc := 13) E dX6_pledge_13 (by decide) ?_
  refine z_isp (pc := 14) E (m_X6_isWithin _ _ _ _) rfl rfl kX6_isWithin mlX6_23 dX6_pledge_14 rfl (Nat.le_of_ble_eq_true rfl) rfl (by decide) (by decide) ⟨by omega, by omega⟩ ?_
  refine z_if_eq (pc := 17) (tgt := 46) E dX6_pledge_17 (by decide) (fun h17 => ?_) (fun h17 => ?_)
  · refine z_iconst (v := 0) (pc := 46) E dX6_pledge_46 (by decide) ?_
    exact z_chkI (pc := 47) E hX (m_X6_checkArgument _ _) rfl rfl kX6_checkArgument mlX6_27 dX6_pledge_47 rfl (by decide) rfl (Nat.le_of_ble_eq_true rfl) (by decide) ⟨by omega, by omega⟩ (fun Ex M9 hx => ⟨hx.2.2, Or.inr (Or.inl ⟨hx.1, by unfold pledgeK; rw [nI_clamp (n31 (show i ≤ 1000 by omega)), if_pos (b2_n0 h8), if_neg (fun z => (b2_e0 h17) z.1)]⟩)⟩) (fun hq => absurd rfl hq)
  · refine z_iload_3 (pc := 20) E dX6_pledge_20 ?_
    refine z_iconst (v := 1) (pc := 21) E dX6_pledge_21 (by decide) ?_
    refine z_sipush (v := 500) (pc := 22) E dX6_pledge_22 (by decide) ?_
    refine z_isp (pc := 25) E (m_X6_isWithin _ _ _ _) rfl rfl kX6_isWithin mlX6_23 dX6_pledge_25 rfl (Nat.le_of_ble_eq_true rfl) rfl (by decide) (by decide) ⟨by omega, by omega⟩ ?_
    refine z_if_eq (pc := 28) (tgt := 46) E dX6_pledge_28 (by decide) (fun h28 => ?_) (fun h28 => ?_)
    · refine z_iconst (v := 0) (pc := 46) E dX6_pledge_46 (by decide) ?_
      exact z_chkI (pc := 47) E hX (m_X6_checkArgument _ _) rfl rfl kX6_checkArgument mlX6_27 dX6_pledge_47 rfl (by decide) rfl (Nat.le_of_ble_eq_true rfl) (by decide) ⟨by omega, by omega⟩ (fun Ex M9 hx => ⟨hx.2.2, Or.inr (Or.inl ⟨hx.1, by unfold pledgeK; rw [nI_clamp (n31 (show i ≤ 1000 by omega)), if_pos (b2_n0 h8), if_neg (fun z => (b2_e0 h28) z.2.1)]⟩)⟩) (fun hq => absurd rfl hq)
    · refine z_iload_4 (pc := 31) E dX6_pledge_31 ?_
      refine z_iconst (v := 1) (pc := 33) E dX6_pledge_33 (by decide) ?_
      refine z_bipush (v := 10) (pc := 34) E dX6_pledge_34 (by decide) ?_
      refine z_isp (pc := 36) E (m_X6_isWithin _ _ _ _) rfl rfl kX6_isWithin mlX6_23 dX6_pledge_36 rfl (Nat.le_of_ble_eq_true rfl) rfl (by decide) (by decide) ⟨by omega, by omega⟩ ?_
      refine z_if_eq (pc := 39) (tgt := 46) E dX6_pledge_39 (by decide) (fun h39 => ?_) (fun h39 => ?_)
      · refine z_iconst (v := 0) (pc := 46) E dX6_pledge_46 (by decide) ?_
        exact z_chkI (pc := 47) E hX (m_X6_checkArgument _ _) rfl rfl kX6_checkArgument mlX6_27 dX6_pledge_47 rfl (by decide) rfl (Nat.le_of_ble_eq_true rfl) (by decide) ⟨by omega, by omega⟩ (fun Ex M9 hx => ⟨hx.2.2, Or.inr (Or.inl ⟨hx.1, by unfold pledgeK; rw [nI_clamp (n31 (show i ≤ 1000 by omega)), if_pos (b2_n0 h8), if_neg (fun z => (b2_e0 h39) z.2.2)]⟩)⟩) (fun hq => absurd rfl hq)
      · refine z_iconst (v := 1) (pc := 42) E dX6_pledge_42 (by decide) ?_
        refine z_goto (pc := 43) (tgt := 47) E dX6_pledge_43 (by decide) ?_
        refine z_chkI (pc := 47) E hX (m_X6_checkArgument _ _) rfl rfl kX6_checkArgument mlX6_27 dX6_pledge_47 rfl (by decide) rfl (Nat.le_of_ble_eq_true rfl) (by decide) ⟨by omega, by omega⟩ (fun Ex M9 hx => absurd hx.2.1 (by decide)) (fun _ => ?_)
        refine z_aload_0 (pc := 50) E dX6_pledge_50 ?_
        refine z_get (pc := 51) E dX6_pledge_51 fiX6_10 ok14 rfl rfl ?_
        refine z_get (pc := 54) E dX6_pledge_54 fiX6_75 (ok0 (by omega)) rfl rfl ?_
        refine z_bipush (v := 40) (pc := 57) E dX6_pledge_57 (by decide) ?_
        refine z_icmp_ge (pc := 59) (tgt := 66) E dX6_pledge_59 (by decide) (fun h59 => ?_) (fun h59 => ?_)
        · refine z_iconst (v := 0) (pc := 66) E dX6_pledge_66 (by decide) ?_
          exact z_chkI (pc := 67) E hX (m_X6_checkState _ _) rfl rfl kX6_checkState mlX6_35 dX6_pledge_67 rfl (by decide) rfl (Nat.le_of_ble_eq_true rfl) (by decide) ⟨by omega, by omega⟩ (fun Ex M9 hx => ⟨hx.2.2, Or.inr (Or.inr (⟨hx.1, by unfold pledgeK; rw [nI_clamp (n31 (show i ≤ 1000 by omega)), if_pos (b2_n0 h8), if_pos (⟨(b2_n0 h17), (b2_n0 h28), (b2_n0 h39)⟩ : _ ∧ _), if_neg (not_not_intro h59)]⟩))⟩) (fun hq => absurd rfl hq)
        · refine z_iconst (v := 1) (pc := 62) E dX6_pledge_62 (by decide) ?_
          refine z_goto (pc := 63) (tgt := 67) E dX6_pledge_63 (by decide) ?_
          refine z_chkI (pc := 67) E hX (m_X6_checkState _ _) rfl rfl kX6_checkState mlX6_35 dX6_pledge_67 rfl (by decide) rfl (Nat.le_of_ble_eq_true rfl) (by decide) ⟨by omega, by omega⟩ (fun Ex M9 hx => absurd hx.2.1 (by decide)) (fun _ => ?_)
          refine z_aload_0 (pc := 70) E dX6_pledge_70 ?_
          refine z_get (pc := 71) E dX6_pledge_71 fiX6_10 ok14 rfl rfl ?_
          refine z_get (pc := 74) E dX6_pledge_74 fiX6_78 (ok0 (by omega)) rfl rfl ?_
          refine z_aload_0 (pc := 77) E dX6_pledge_77 ?_
          refine z_get (pc := 78) E dX6_pledge_78 fiX6_10 ok14 rfl rfl ?_
          refine z_get (pc := 81) E dX6_pledge_81 fiX6_49 (ok0 (by omega)) rfl rfl ?_
          refine z_iload_1 (pc := 84) E dX6_pledge_84 ?_
          refine z_aald (t0 := 2) (pc := 85) E dX6_pledge_85 (ok17 (by omega)) rfl rfl rfl (by omega) (by omega) rfl ?_
          refine z_iload_3 (pc := 86) E dX6_pledge_86 ?_
          refine z_ivp (pc := 87) E (m_X1_loanFor _ _ _ _ (by decide) (by omega)) rfl rfl kX1_loanFor mlX6_79 dX6_pledge_87 (ok1 (by omega) (by omega)) rfl rfl rfl (Nat.le_of_ble_eq_true rfl) rfl (by decide) (by decide) ⟨by omega, by omega⟩ ?_
          refine z_icmp_lt (pc := 90) (tgt := 97) E dX6_pledge_90 (by decide) (fun h90 => ?_) (fun h90 => ?_)
          · refine z_iconst (v := 0) (pc := 97) E dX6_pledge_97 (by decide) ?_
            exact z_chkI (pc := 98) E hX (m_X6_checkState _ _) rfl rfl kX6_checkState mlX6_35 dX6_pledge_98 rfl (by decide) rfl (Nat.le_of_ble_eq_true rfl) (by decide) ⟨by omega, by omega⟩ (fun Ex M9 hx => ⟨hx.2.2, Or.inr (Or.inr (⟨hx.1, by unfold pledgeK; rw [nI_clamp (n31 (show i ≤ 1000 by omega)), if_pos (b2_n0 h8), if_pos (⟨(b2_n0 h17), (b2_n0 h28), (b2_n0 h39)⟩ : _ ∧ _), if_pos h59, if_neg (not_not_intro h90)]⟩))⟩) (fun hq => absurd rfl hq)
          · refine z_iconst (v := 1) (pc := 93) E dX6_pledge_93 (by decide) ?_
            refine z_goto (pc := 94) (tgt := 98) E dX6_pledge_94 (by decide) ?_
            refine z_chkI (pc := 98) E hX (m_X6_checkState _ _) rfl rfl kX6_checkState mlX6_35 dX6_pledge_98 rfl (by decide) rfl (Nat.le_of_ble_eq_true rfl) (by decide) ⟨by omega, by omega⟩ (fun Ex M9 hx => absurd hx.2.1 (by decide)) (fun _ => ?_)
            refine z_aload_0 (pc := 101) E dX6_pledge_101 ?_
            refine z_get (pc := 102) E dX6_pledge_102 fiX6_10 ok14 rfl rfl ?_
            refine z_get (pc := 105) E dX6_pledge_105 fiX6_82 (ok0 (by omega)) rfl rfl ?_
            refine z_iload_4 (pc := 108) E dX6_pledge_108 ?_
            refine z_ivp (pc := 110) E (m_X2_spotFor _ _ _ (by decide)) rfl rfl kX2_spotFor mlX6_86 dX6_pledge_110 (ok15 (by omega)) rfl rfl rfl (Nat.le_of_ble_eq_true rfl) rfl (by decide) (by decide) ⟨by omega, by omega⟩ ?_
            refine z_iconst (v := -1) (pc := 113) E dX6_pledge_113 (by decide) ?_
            refine z_icmp_eq (pc := 114) (tgt := 121) E dX6_pledge_114 (by decide) (fun h114 => ?_) (fun h114 => ?_)
            · refine z_iconst (v := 0) (pc := 121) E dX6_pledge_121 (by decide) ?_
              exact z_chkI (pc := 122) E hX (m_X6_checkState _ _) rfl rfl kX6_checkState mlX6_35 dX6_pledge_122 rfl (by decide) rfl (Nat.le_of_ble_eq_true rfl) (by decide) ⟨by omega, by omega⟩ (fun Ex M9 hx => ⟨hx.2.2, Or.inr (Or.inr (⟨hx.1, by unfold pledgeK; rw [nI_clamp (n31 (show i ≤ 1000 by omega)), if_pos (b2_n0 h8), if_pos (⟨(b2_n0 h17), (b2_n0 h28), (b2_n0 h39)⟩ : _ ∧ _), if_pos h59, if_pos h90, if_neg (not_not_intro h114)]⟩))⟩) (fun hq => absurd rfl hq)
            · refine z_iconst (v := 1) (pc := 117) E dX6_pledge_117 (by decide) ?_
              refine z_goto (pc := 118) (tgt := 122) E dX6_pledge_118 (by decide) ?_
              refine z_chkI (pc := 122) E hX (m_X6_checkState _ _) rfl rfl kX6_checkState mlX6_35 dX6_pledge_122 rfl (by decide) rfl (Nat.le_of_ble_eq_true rfl) (by decide) ⟨by omega, by omega⟩ (fun Ex M9 hx => absurd hx.2.1 (by decide)) (fun _ => ?_)
              have h9 : n < 40 := ct_of (n := 40) hn h59 (by omega)
              obtain ⟨W, hW1, hW, rfl⟩ := ix_n (n := 10) (b2_n0 h39) rfl (by decide)
              obtain ⟨h, q, hh, hq, hsp⟩ := (spot_rng M 0 hW1 (by omega)).resolve_left h114
              refine z_aload_0 (pc := 125) E dX6_pledge_125 ?_
              refine z_get (pc := 126) E dX6_pledge_126 fiX6_10 ok14 rfl rfl ?_
              refine z_iload_1 (pc := 129) E dX6_pledge_129 ?_
              refine z_iload_2 (pc := 130) E dX6_pledge_130 ?_
              refine z_iload_3 (pc := 131) E dX6_pledge_131 ?_
              refine z_iload_4 (pc := 132) E dX6_pledge_132 ?_
              refine z_ivf (pc := 134) E (m_X4_addTicket _ _ i cN n h q _ _ _ (by decide) hn h9 (by omega) hh (by omega) hsp) rfl rfl kX4_addTicket mlX6_91 dX6_pledge_134 (ok0 (by omega)) rfl rfl rfl (Nat.le_of_ble_eq_true rfl) rfl (by decide) (by decide) ⟨by omega, by omega⟩ ?_
              exact z_xiret (pc := 137) E dX6_pledge_137 (by omega) (by omega) ⟨by unfold pledgeK; rw [nI_clamp (n31 (show i ≤ 1000 by omega)), if_pos (b2_n0 h8), if_pos (⟨(b2_n0 h17), (b2_n0 h28), (b2_n0 h39)⟩ : _ ∧ _), if_pos h59, if_pos h90, if_pos h114], i, W, h, q, hi, hW1, hW, hh, hq, h9, rfl, rfl, hsp, rfl, rfl⟩

