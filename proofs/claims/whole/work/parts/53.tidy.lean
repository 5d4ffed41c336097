/-! the reference: tidy. What it does, told by what holds at its end -/
def TidR : Nat → Nat → Nat → Int32 → Mem → (Int32 → Mem → Prop) → Prop
  | 0, _, _, m, M, P => P m M
  | c + 1, k, nx, m, M, P => (M 10 0 0 k = -1 ∧ TidR c (k + 1) nx m M P) ∨ ∃ t W, t < 40 ∧ W ≤ 10 ∧ M 10 0 0 k = nI t ∧ oc M 0 t 3 = nI W ∧
      ((¬ oc M 0 t 7 = nI k ∧ TidR c (k + 1) nx m M P) ∨ (oc M 0 t 7 = nI k ∧ nx + W ≤ 60 ∧
        ((nx < k ∧ TidR c (k + 1) (nx + W) (m + 1) (mlayM (takeM M 0 t) 0 t nx W) P) ∨ (¬ nx < k ∧ TidR c (k + 1) (nx + W) m M P))))
def TidA : Nat → Nat → Int32 → Mem → (Int32 → Mem → Prop) → Prop
  | 0, _, m, M, P => P m M
  | c + 1, i, m, M, P => TidR (10 * (i + 1)) (frN i) (frN i) m M (fun m' M' => TidA c (i + 1) m' M' P)
theorem oc_take {M : Mem} {s t t' j : Nat} (hj : j < 11) (h7 : ¬ j = 7) : oc (takeM M s t) s t' j = oc M s t' j := by
  show mset (rset M 10 s 0 (clrF (M 10 s 0) (nI t) 60)) 9 s 0 (11 * t + 7) (-1) 9 s 0 (11 * t' + j) = _
  rw [mset_s (by omega), rset_k (by decide)]
theorem oc_lay {M : Mem} {s t t' j a W : Nat} (hj : j < 11) (h7 : ¬ j = 7) : oc (mlayM M s t a W) s t' j = oc M s t' j := by
  show rset (mset M 9 s 0 (11 * t + 7) (nI a)) 10 s 0 (layN (M 10 s 0) (nI t) a W) 9 s 0 (11 * t' + j) = _
  rw [rset_k (by decide), mset_s (by omega)]

set_option maxRecDepth 100000 in
set_option maxHeartbeats 4000000 in
theorem mtid_in {X : PX} {G : GT} {P : Int32 → Mem → Prop} (E : EF X G cX8_tidy 6 RX8 (some .int) 2 0 0) {i : Nat} (hi : i < 3) (P1 : Int32 → Mem → Prop) (hK : ∀ (m : Int32) (M : Mem) (v3 v4 v5 : Option Value), c2 v3 = false → c2 v4 = false → P1 m M → Z X G (0, 0) (QI X G P 0 0) 123 [some (.ref (ad G 11 0 0)), some (.int m), some (.int (nI i)), v3, v4, v5] [] M 0 0) : ∀ (c k nx : Nat) (m : Int32) (M : Mem) (v5 : Option Value), k + c = frN (i + 1) → nx ≤ 60 → TidR c k nx m M P1 → Z X G (0, 0) (QI X G P 0 0) 27 [some (.ref (ad G 11 0 0)), some (.int m), some (.int (nI i)), some (.int (nI nx)), some (.int (nI k)), v5] [] M 0 0 := by
  have hf2 := frN_le hi
  intro c
  induction c with
  | zero =>
    intro k nx m M v5 hk hx hR
    refine z_iload_4 (pc := 27) E dX8_tidy_27 ?_
    refine z_from8 (pc := 29) E dX8_tidy_29 flX8_93 ?_
    refine z_iload_2 (pc := 32) E dX8_tidy_32 ?_
    refine z_iconst (v := 1) (pc := 33) E dX8_tidy_33 (by decide) ?_
    refine z_iadd (pc := 34) E dX8_tidy_34 ?_
    refine z_tald (pc := 35) E dX8_tidy_35 (nI_1 i) (by omega) ?_
    rw [fromN (i + 1)]
    refine z_icmp_ge (pc := 36) (tgt := 123) E dX8_tidy_36 (by decide) (fun h36 => ?_) (fun h36 => absurd h36 (fun z => z (nI_le (by omega) (n31 (by omega)))))
    exact hK _ _ _ _ _ rfl rfl hR
  | succ c ih =>
    intro k nx m M v5 hk hx hR
    rcases hR with ⟨h1, hR⟩ | ⟨t, W, ht, hW, h1, h3, hR⟩
    · refine z_iload_4 (pc := 27) E dX8_tidy_27 ?_
      refine z_from8 (pc := 29) E dX8_tidy_29 flX8_93 ?_
      refine z_iload_2 (pc := 32) E dX8_tidy_32 ?_
      refine z_iconst (v := 1) (pc := 33) E dX8_tidy_33 (by decide) ?_
      refine z_iadd (pc := 34) E dX8_tidy_34 ?_
      refine z_tald (pc := 35) E dX8_tidy_35 (nI_1 i) (by omega) ?_
      rw [fromN (i + 1)]
      refine z_icmp_ge (pc := 36) (tgt := 123) E dX8_tidy_36 (by decide) (fun h36 => absurd h36 (nI_ge (by omega) (n31 (by omega)))) (fun h36 => ?_)
      refine z_aload_0 (pc := 39) E dX8_tidy_39 ?_
      refine z_get (pc := 40) E dX8_tidy_40 fiX8_21 ok11 rfl rfl ?_
      refine z_getN (pc := 43) E dX8_tidy_43 fiX8_125 (ok6 (by omega)) rfl rfl ?_
      refine z_iload_4 (pc := 46) E dX8_tidy_46 ?_
      refine z_iald (pc := 48) E dX8_tidy_48 (ok10 (by omega)) rfl rfl (by omega) (by omega) ?_
      refine z_istore_5 (pc := 49) E dX8_tidy_49 rfl ?_
      refine z_iload_5 (pc := 51) E dX8_tidy_51 ?_
      refine z_iconst (v := -1) (pc := 53) E dX8_tidy_53 (by decide) ?_
      refine z_icmp_eq (pc := 54) (tgt := 117) E dX8_tidy_54 (by decide) (fun h54 => ?_) (fun h54 => absurd h54 (fun z => z h1))
      refine z_iinc_4 (pc := 117) E dX8_tidy_117 (nI_1 k) rfl ?_
      refine z_goto (pc := 120) (tgt := 27) E dX8_tidy_120 (by decide) ?_
      exact ih (k + 1) nx m M _ (by omega) hx hR
    · rcases hR with ⟨h7, hR⟩ | ⟨h7, h60, hR⟩
      · refine z_iload_4 (pc := 27) E dX8_tidy_27 ?_
        refine z_from8 (pc := 29) E dX8_tidy_29 flX8_93 ?_
        refine z_iload_2 (pc := 32) E dX8_tidy_32 ?_
        refine z_iconst (v := 1) (pc := 33) E dX8_tidy_33 (by decide) ?_
        refine z_iadd (pc := 34) E dX8_tidy_34 ?_
        refine z_tald (pc := 35) E dX8_tidy_35 (nI_1 i) (by omega) ?_
        rw [fromN (i + 1)]
        refine z_icmp_ge (pc := 36) (tgt := 123) E dX8_tidy_36 (by decide) (fun h36 => absurd h36 (nI_ge (by omega) (n31 (by omega)))) (fun h36 => ?_)
        refine z_aload_0 (pc := 39) E dX8_tidy_39 ?_
        refine z_get (pc := 40) E dX8_tidy_40 fiX8_21 ok11 rfl rfl ?_
        refine z_getN (pc := 43) E dX8_tidy_43 fiX8_125 (ok6 (by omega)) rfl rfl ?_
        refine z_iload_4 (pc := 46) E dX8_tidy_46 ?_
        refine z_iald (pc := 48) E dX8_tidy_48 (ok10 (by omega)) rfl rfl (by omega) (by omega) ?_
        rw [h1]
        refine z_istore_5 (pc := 49) E dX8_tidy_49 rfl ?_
        refine z_iload_5 (pc := 51) E dX8_tidy_51 ?_
        refine z_iconst (v := -1) (pc := 53) E dX8_tidy_53 (by decide) ?_
        refine z_icmp_eq (pc := 54) (tgt := 117) E dX8_tidy_54 (by decide) (fun h54 => absurd h54 (nI_m1 (by omega))) (fun h54 => ?_)
        refine z_aload_0 (pc := 57) E dX8_tidy_57 ?_
        refine z_get (pc := 58) E dX8_tidy_58 fiX8_21 ok11 rfl rfl ?_
        refine z_iload_5 (pc := 61) E dX8_tidy_61 ?_
        refine z_bipush (v := 7) (pc := 63) E dX8_tidy_63 (by decide) ?_
        refine z_ivp (pc := 65) E (m_X7_get _ 0 t 7 (by decide) ht (by decide)) rfl rfl kX7_get mlX8_56 dX8_tidy_65 (ok6 (by omega)) rfl rfl rfl (Nat.le_of_ble_eq_true rfl) rfl (by decide) (by decide) ⟨by omega, by omega⟩ ?_
        refine z_iload_4 (pc := 68) E dX8_tidy_68 ?_
        refine z_icmp_eq (pc := 70) (tgt := 76) E dX8_tidy_70 (by decide) (fun h70 => absurd h70 h7) (fun h70 => ?_)
        refine z_goto (pc := 73) (tgt := 117) E dX8_tidy_73 (by decide) ?_
        refine z_iinc_4 (pc := 117) E dX8_tidy_117 (nI_1 k) rfl ?_
        refine z_goto (pc := 120) (tgt := 27) E dX8_tidy_120 (by decide) ?_
        exact ih (k + 1) nx m M _ (by omega) hx hR
      · rcases hR with ⟨hlt, hR⟩ | ⟨hlt, hR⟩
        · refine z_iload_4 (pc := 27) E dX8_tidy_27 ?_
          refine z_from8 (pc := 29) E dX8_tidy_29 flX8_93 ?_
          refine z_iload_2 (pc := 32) E dX8_tidy_32 ?_
          refine z_iconst (v := 1) (pc := 33) E dX8_tidy_33 (by decide) ?_
          refine z_iadd (pc := 34) E dX8_tidy_34 ?_
          refine z_tald (pc := 35) E dX8_tidy_35 (nI_1 i) (by omega) ?_
          rw [fromN (i + 1)]
          refine z_icmp_ge (pc := 36) (tgt := 123) E dX8_tidy_36 (by decide) (fun h36 => absurd h36 (nI_ge (by omega) (n31 (by omega)))) (fun h36 => ?_)
          refine z_aload_0 (pc := 39) E dX8_tidy_39 ?_
          refine z_get (pc := 40) E dX8_tidy_40 fiX8_21 ok11 rfl rfl ?_
          refine z_getN (pc := 43) E dX8_tidy_43 fiX8_125 (ok6 (by omega)) rfl rfl ?_
          refine z_iload_4 (pc := 46) E dX8_tidy_46 ?_
          refine z_iald (pc := 48) E dX8_tidy_48 (ok10 (by omega)) rfl rfl (by omega) (by omega) ?_
          rw [h1]
          refine z_istore_5 (pc := 49) E dX8_tidy_49 rfl ?_
          refine z_iload_5 (pc := 51) E dX8_tidy_51 ?_
          refine z_iconst (v := -1) (pc := 53) E dX8_tidy_53 (by decide) ?_
          refine z_icmp_eq (pc := 54) (tgt := 117) E dX8_tidy_54 (by decide) (fun h54 => absurd h54 (nI_m1 (by omega))) (fun h54 => ?_)
          refine z_aload_0 (pc := 57) E dX8_tidy_57 ?_
          refine z_get (pc := 58) E dX8_tidy_58 fiX8_21 ok11 rfl rfl ?_
          refine z_iload_5 (pc := 61) E dX8_tidy_61 ?_
          refine z_bipush (v := 7) (pc := 63) E dX8_tidy_63 (by decide) ?_
          refine z_ivp (pc := 65) E (m_X7_get _ 0 t 7 (by decide) ht (by decide)) rfl rfl kX7_get mlX8_56 dX8_tidy_65 (ok6 (by omega)) rfl rfl rfl (Nat.le_of_ble_eq_true rfl) rfl (by decide) (by decide) ⟨by omega, by omega⟩ ?_
          refine z_iload_4 (pc := 68) E dX8_tidy_68 ?_
          refine z_icmp_eq (pc := 70) (tgt := 76) E dX8_tidy_70 (by decide) (fun h70 => ?_) (fun h70 => absurd h70 (fun z => z h7))
          refine z_iload_3 (pc := 76) E dX8_tidy_76 ?_
          refine z_iload_4 (pc := 77) E dX8_tidy_77 ?_
          refine z_icmp_ge (pc := 79) (tgt := 104) E dX8_tidy_79 (by decide) (fun h79 => absurd h79 (nI_ge hlt (n31 (by omega)))) (fun h79 => ?_)
          refine z_aload_0 (pc := 82) E dX8_tidy_82 ?_
          refine z_get (pc := 83) E dX8_tidy_83 fiX8_21 ok11 rfl rfl ?_
          refine z_iload_5 (pc := 86) E dX8_tidy_86 ?_
          refine z_vvf (pc := 88) E (m_X7_take _ 0 t (by decide) ht) rfl rfl kX7_take mlX8_118 dX8_tidy_88 (ok6 (by omega)) rfl rfl rfl (Nat.le_of_ble_eq_true rfl) rfl (by decide) (by decide) ⟨by omega, by omega⟩ ?_
          refine z_aload_0 (pc := 91) E dX8_tidy_91 ?_
          refine z_get (pc := 92) E dX8_tidy_92 fiX8_21 ok11 rfl rfl ?_
          refine z_iload_5 (pc := 95) E dX8_tidy_95 ?_
          refine z_iload_3 (pc := 97) E dX8_tidy_97 ?_
          refine z_vvf (pc := 98) E (m_X7_lay _ 0 t nx W (by decide) ht ((oc_take (by decide) (by decide)).trans h3) h60) rfl rfl kX7_lay mlX8_89 dX8_tidy_98 (ok6 (by omega)) rfl rfl rfl (Nat.le_of_ble_eq_true rfl) rfl (by decide) (by decide) ⟨by omega, by omega⟩ ?_
          refine z_iinc_1 (pc := 101) E dX8_tidy_101 rfl rfl ?_
          refine z_iload_3 (pc := 104) E dX8_tidy_104 ?_
          refine z_aload_0 (pc := 105) E dX8_tidy_105 ?_
          refine z_get (pc := 106) E dX8_tidy_106 fiX8_21 ok11 rfl rfl ?_
          refine z_iload_5 (pc := 109) E dX8_tidy_109 ?_
          refine z_iconst (v := 3) (pc := 111) E dX8_tidy_111 (by decide) ?_
          refine z_ivp (pc := 112) E (m_X7_get _ 0 t 3 (by decide) ht (by decide)) rfl rfl kX7_get mlX8_56 dX8_tidy_112 (ok6 (by omega)) rfl rfl rfl (Nat.le_of_ble_eq_true rfl) rfl (by decide) (by decide) ⟨by omega, by omega⟩ ?_
          refine z_top (y := nI W) ((oc_lay (by decide) (by decide)).trans ((oc_take (by decide) (by decide)).trans h3)).symm ?_
          refine z_iadd (pc := 115) E dX8_tidy_115 ?_
          rw [nI_add]
          refine z_istore_3 (pc := 116) E dX8_tidy_116 rfl ?_
          refine z_iinc_4 (pc := 117) E dX8_tidy_117 (nI_1 k) rfl ?_
          refine z_goto (pc := 120) (tgt := 27) E dX8_tidy_120 (by decide) ?_
          exact ih (k + 1) (nx + W) (m + 1) _ _ (by omega) h60 hR
        · refine z_iload_4 (pc := 27) E dX8_tidy_27 ?_
          refine z_from8 (pc := 29) E dX8_tidy_29 flX8_93 ?_
          refine z_iload_2 (pc := 32) E dX8_tidy_32 ?_
          refine z_iconst (v := 1) (pc := 33) E dX8_tidy_33 (by decide) ?_
          refine z_iadd (pc := 34) E dX8_tidy_34 ?_
          refine z_tald (pc := 35) E dX8_tidy_35 (nI_1 i) (by omega) ?_
          rw [fromN (i + 1)]
          refine z_icmp_ge (pc := 36) (tgt := 123) E dX8_tidy_36 (by decide) (fun h36 => absurd h36 (nI_ge (by omega) (n31 (by omega)))) (fun h36 => ?_)
          refine z_aload_0 (pc := 39) E dX8_tidy_39 ?_
          refine z_get (pc := 40) E dX8_tidy_40 fiX8_21 ok11 rfl rfl ?_
          refine z_getN (pc := 43) E dX8_tidy_43 fiX8_125 (ok6 (by omega)) rfl rfl ?_
          refine z_iload_4 (pc := 46) E dX8_tidy_46 ?_
          refine z_iald (pc := 48) E dX8_tidy_48 (ok10 (by omega)) rfl rfl (by omega) (by omega) ?_
          rw [h1]
          refine z_istore_5 (pc := 49) E dX8_tidy_49 rfl ?_
          refine z_iload_5 (pc := 51) E dX8_tidy_51 ?_
          refine z_iconst (v := -1) (pc := 53) E dX8_tidy_53 (by decide) ?_
          refine z_icmp_eq (pc := 54) (tgt := 117) E dX8_tidy_54 (by decide) (fun h54 => absurd h54 (nI_m1 (by omega))) (fun h54 => ?_)
          refine z_aload_0 (pc := 57) E dX8_tidy_57 ?_
          refine z_get (pc := 58) E dX8_tidy_58 fiX8_21 ok11 rfl rfl ?_
          refine z_iload_5 (pc := 61) E dX8_tidy_61 ?_
          refine z_bipush (v := 7) (pc := 63) E dX8_tidy_63 (by decide) ?_
          refine z_ivp (pc := 65) E (m_X7_get _ 0 t 7 (by decide) ht (by decide)) rfl rfl kX7_get mlX8_56 dX8_tidy_65 (ok6 (by omega)) rfl rfl rfl (Nat.le_of_ble_eq_true rfl) rfl (by decide) (by decide) ⟨by omega, by omega⟩ ?_
          refine z_iload_4 (pc := 68) E dX8_tidy_68 ?_
          refine z_icmp_eq (pc := 70) (tgt := 76) E dX8_tidy_70 (by decide) (fun h70 => ?_) (fun h70 => absurd h70 (fun z => z h7))
          refine z_iload_3 (pc := 76) E dX8_tidy_76 ?_
          refine z_iload_4 (pc := 77) E dX8_tidy_77 ?_
          refine z_icmp_ge (pc := 79) (tgt := 104) E dX8_tidy_79 (by decide) (fun h79 => ?_) (fun h79 => absurd h79 (fun z => z (nI_le (by omega) (n31 (by omega)))))
          refine z_iload_3 (pc := 104) E dX8_tidy_104 ?_
          refine z_aload_0 (pc := 105) E dX8_tidy_105 ?_
          refine z_get (pc := 106) E dX8_tidy_106 fiX8_21 ok11 rfl rfl ?_
          refine z_iload_5 (pc := 109) E dX8_tidy_109 ?_
          refine z_iconst (v := 3) (pc := 111) E dX8_tidy_111 (by decide) ?_
          refine z_ivp (pc := 112) E (m_X7_get _ 0 t 3 (by decide) ht (by decide)) rfl rfl kX7_get mlX8_56 dX8_tidy_112 (ok6 (by omega)) rfl rfl rfl (Nat.le_of_ble_eq_true rfl) rfl (by decide) (by decide) ⟨by omega, by omega⟩ ?_
          refine z_top (y := nI W) h3.symm ?_
          refine z_iadd (pc := 115) E dX8_tidy_115 ?_
          rw [nI_add]
          refine z_istore_3 (pc := 116) E dX8_tidy_116 rfl ?_
          refine z_iinc_4 (pc := 117) E dX8_tidy_117 (nI_1 k) rfl ?_
          refine z_goto (pc := 120) (tgt := 27) E dX8_tidy_120 (by decide) ?_
          exact ih (k + 1) (nx + W) m _ _ (by omega) h60 hR

set_option maxRecDepth 100000 in
set_option maxHeartbeats 4000000 in
theorem mtid_out {X : PX} {G : GT} {P : Int32 → Mem → Prop} (E : EF X G cX8_tidy 6 RX8 (some .int) 2 0 0) : ∀ (c i : Nat) (m : Int32) (M : Mem) (v3 v4 v5 : Option Value), c2 v3 = false → c2 v4 = false → i + c = 3 → TidA c i m M P → Z X G (0, 0) (QI X G P 0 0) 9 [some (.ref (ad G 11 0 0)), some (.int m), some (.int (nI i)), v3, v4, v5] [] M 0 0 := by
  intro c
  induction c with
  | zero =>
    intro i m M v3 v4 v5 hv3 hv4 hi hA
    obtain rfl : i = 3 := by omega
    refine z_iload_2 (pc := 9) E dX8_tidy_9 ?_
    refine z_iconst (v := 3) (pc := 10) E dX8_tidy_10 (by decide) ?_
    refine z_icmp_ge (pc := 11) (tgt := 129) E dX8_tidy_11 (by decide) (fun h11 => ?_) (fun h11 => absurd h11 (fun z => z (Int32.le_refl _)))
    refine z_iload_1 (pc := 129) E dX8_tidy_129 ?_
    exact z_iret (pc := 130) E dX8_tidy_130 hA
  | succ c ih =>
    intro i m M v3 v4 v5 hv3 hv4 hi hA
    have hf := frN_s (i := i) (by omega)
    have hf2 := frN_le (i := i) (by omega)
    refine z_iload_2 (pc := 9) E dX8_tidy_9 ?_
    refine z_iconst (v := 3) (pc := 10) E dX8_tidy_10 (by decide) ?_
    refine z_icmp_ge (pc := 11) (tgt := 129) E dX8_tidy_11 (by decide) (fun h11 => absurd h11 (nI_ge (b := 3) (by omega) (by decide))) (fun h11 => ?_)
    refine z_from8 (pc := 14) E dX8_tidy_14 flX8_93 ?_
    refine z_iload_2 (pc := 17) E dX8_tidy_17 ?_
    refine z_tald (pc := 18) E dX8_tidy_18 rfl (by omega) ?_
    rw [fromN i]
    refine z_istore_3 (pc := 19) E dX8_tidy_19 rfl ?_
    refine z_from8 (pc := 20) E dX8_tidy_20 flX8_93 ?_
    refine z_iload_2 (pc := 23) E dX8_tidy_23 ?_
    refine z_tald (pc := 24) E dX8_tidy_24 rfl (by omega) ?_
    rw [fromN i]
    refine z_istore_4 (pc := 25) E dX8_tidy_25 rfl ?_
    refine mtid_in E (by omega) (fun m' M' => TidA c (i + 1) m' M' P) (fun m1 M1 v3 v4 v5 hv3 hv4 h9 => ?_) (10 * (i + 1)) (frN i) (frN i) m M _ (by omega) (by omega) hA
    refine z_iinc_2 (pc := 123) E dX8_tidy_123 (nI_1 i) rfl ?_
    refine z_goto (pc := 126) (tgt := 9) E dX8_tidy_126 (by decide) ?_
    exact ih (i + 1) m1 M1 _ _ _ hv3 hv4 (by omega) h9

set_option maxRecDepth 100000 in
set_option maxHeartbeats 4000000 in
theorem m_X8_tidy (M : Mem) (P : Int32 → Mem → Prop) (hA : TidA 3 0 0 (mset M 11 0 0 0 0) P) : CI yX8_tidy cX8_tidy 6 (some .int) 2 0 0 (fun G => [.ref (ad G 11 0 0)]) M (P) := by
  refine CI.mk (own := RX8) (by decide +kernel) rfl (fun _ => rfl) (fun _ => Nat.le_of_ble_eq_true rfl) (lv0 := fun G => [some (.ref (ad G 11 0 0)), none, none, none, none, none]) (fun _ => rfl) (fun X G E => ?_)
  refine z_aload_0 (pc := 0) E dX8_tidy_0 ?_
  refine z_iconst (v := 0) (pc := 1) E dX8_tidy_1 (by decide) ?_
  refine z_put (pc := 2) E dX8_tidy_2 fiX8_28 fpX8_0 ok11 rfl rfl (Nat.le_of_ble_eq_true rfl) ?_
  refine z_iconst (v := 0) (pc := 5) E dX8_tidy_5 (by decide) ?_
  refine z_istore_1 (pc := 6) E dX8_tidy_6 rfl ?_
  refine z_iconst (v := 0) (pc := 7) E dX8_tidy_7 (by decide) ?_
  refine z_istore_2 (pc := 8) E dX8_tidy_8 rfl ?_
  exact mtid_out E 3 0 0 _ _ _ _ rfl rfl rfl hA

