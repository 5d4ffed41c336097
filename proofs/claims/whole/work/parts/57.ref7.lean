/-! the reference: foresee, of what it does not tell -/

set_option maxRecDepth 100000 in
set_option maxHeartbeats 4000000 in
theorem m_X8_foresee_x (M : Mem) (x w : Int32) (hw : ¬ (0 ≤ w ∧ w ≤ 2)) : CI yX8_foresee cX8_foresee 5 (some .int) 4 0 0 (fun G => [.ref (ad G 11 0 0), .int x, .int w]) M (fun r M' => (mforeseeK x w = 0 ∧ False) ∨ (¬ mforeseeK x w = 0 ∧ M' = mset M 11 0 0 0 (nI (mforeseeK x w)))) := by
  refine CI.mk (own := RX8) (by decide +kernel) rfl (fun _ => rfl) (fun _ => Nat.le_of_ble_eq_true rfl) (lv0 := fun G => [some (.ref (ad G 11 0 0)), some (.int x), some (.int w), none, none]) (fun _ => rfl) (fun X G E => ?_)
  refine z_aload_0 (pc := 0) E dX8_foresee_0 ?_
  refine z_iconst (v := 0) (pc := 1) E dX8_foresee_1 (by decide) ?_
  refine z_put (pc := 2) E dX8_foresee_2 fiX8_28 fpX8_0 ok11 rfl rfl (Nat.le_of_ble_eq_true rfl) ?_
  refine z_iload_1 (pc := 5) E dX8_foresee_5 ?_
  refine z_iconst (v := 1) (pc := 6) E dX8_foresee_6 (by decide) ?_
  refine z_sipush (v := 200) (pc := 7) E dX8_foresee_7 (by decide) ?_
  refine z_isp (pc := 10) E (m_X8_isIn _ _ _ _) rfl rfl kX8_isIn mlX8_35 dX8_foresee_10 rfl (Nat.le_of_ble_eq_true rfl) rfl (by decide) (by decide) ⟨by omega, by omega⟩ ?_
  refine z_if_ne (pc := 13) (tgt := 22) E dX8_foresee_13 (by decide) (fun h13 => ?_) (fun h13 => ?_)
  · have g13 : 1 ≤ x ∧ x ≤ 200 := b2_n0 h13
    refine z_iload_2 (pc := 22) E dX8_foresee_22 ?_
    refine z_iconst (v := 0) (pc := 23) E dX8_foresee_23 (by decide) ?_
    refine z_iconst (v := 2) (pc := 24) E dX8_foresee_24 (by decide) ?_
    refine z_isp (pc := 25) E (m_X8_isIn _ _ _ _) rfl rfl kX8_isIn mlX8_35 dX8_foresee_25 rfl (Nat.le_of_ble_eq_true rfl) rfl (by decide) (by decide) ⟨by omega, by omega⟩ ?_
    refine z_if_ne (pc := 28) (tgt := 37) E dX8_foresee_28 (by decide) (fun h28 => ?_) (fun h28 => ?_)
    · have g28 : 0 ≤ w ∧ w ≤ 2 := b2_n0 h28
      exact absurd g28 hw
    · have g28 : ¬ (0 ≤ w ∧ w ≤ 2) := b2_e0 h28
      refine z_aload_0 (pc := 31) E dX8_foresee_31 ?_
      refine z_iconst (v := 2) (pc := 32) E dX8_foresee_32 (by decide) ?_
      refine z_ivf (pc := 33) E (m_X8_no _ _) rfl rfl kX8_no mlX8_42 dX8_foresee_33 ok11 rfl rfl rfl (Nat.le_of_ble_eq_true rfl) rfl (by decide) (by decide) ⟨by omega, by omega⟩ ?_
      exact z_iret (pc := 36) E dX8_foresee_36 (Or.inr (mfail (e := 2) (by unfold mforeseeK; rw [if_pos g13, if_neg g28]) (by decide) rfl))
  · have g13 : ¬ (1 ≤ x ∧ x ≤ 200) := b2_e0 h13
    refine z_aload_0 (pc := 16) E dX8_foresee_16 ?_
    refine z_iconst (v := 1) (pc := 17) E dX8_foresee_17 (by decide) ?_
    refine z_ivf (pc := 18) E (m_X8_no _ _) rfl rfl kX8_no mlX8_42 dX8_foresee_18 ok11 rfl rfl rfl (Nat.le_of_ble_eq_true rfl) rfl (by decide) (by decide) ⟨by omega, by omega⟩ ?_
    exact z_iret (pc := 21) E dX8_foresee_21 (Or.inr (mfail (e := 1) (by unfold mforeseeK; rw [if_neg g13]) (by decide) rfl))

