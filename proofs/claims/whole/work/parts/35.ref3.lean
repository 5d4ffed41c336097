/-! the reference: count, digest, fetched, foresee, pledge -/
theorem m22_of {M : Mem} {k : Nat} (h : ¬ k = 22) {f : Nat → Int32} : rset M 22 0 0 f k = M k := rset_k h

set_option maxRecDepth 100000 in
set_option maxHeartbeats 4000000 in
theorem m_X8_counted (M : Mem) (n w : Nat) (hn : M 6 0 0 2 = nI n) (h40 : n ≤ 40) (hw : w < 11) : CI yX8_counted cX8_counted 5 (some .int) 2 1 11 (fun G => [.ref (ad G 11 0 0), .int (nI w)]) M (fun r M' => r = mcntV M n w ∧ M' = M) := by
  refine CI.mk (own := RX8) (by decide +kernel) rfl (fun _ => rfl) (fun _ => Nat.le_of_ble_eq_true rfl) (lv0 := fun G => [some (.ref (ad G 11 0 0)), some (.int (nI w)), none, none, none]) (fun _ => rfl) (fun X G E => ?_)
  have L2 : ∀ (k : Nat) (t : Nat), t + k = n → Z X G (0, 0) (QI X G (fun r M' => r = mcntV M n w ∧ M' = M) 1 11) 45 [some (.ref (ad G 11 0 0)), some (.int (nI w)), some (.int (fsum 60 (fun k => b2 (¬ M 10 0 0 k = -1)))), some (.int (fsum t (fun t => if oc M 0 t 6 = 0 then oc M 0 t 4 else 0))), some (.int (nI t))] [] (M) 0 0 := by
    intro k
    induction k with
    | zero =>
      intro t ht
      obtain rfl : t = n := by omega
      refine z_iload_4 (pc := 45) E dX8_counted_45 ?_
      refine z_aload_0 (pc := 47) E dX8_counted_47 ?_
      refine z_get (pc := 48) E dX8_counted_48 fiX8_21 ok11 rfl rfl ?_
      refine z_getN (pc := 51) E dX8_counted_51 fiX8_39 (ok6 (by omega)) rfl rfl ?_
      refine z_icmp_ge (pc := 54) (tgt := 94) E dX8_counted_54 (by decide) (fun h54 => ?_) (fun h54 => absurd h54 (fun z => z (ct_ge hn (by omega) (by omega))))
      refine z_bipush (v := 11) (pc := 94) E dX8_counted_94 (by decide) ?_
      refine z_newi (n := 11) (pc := 96) E dX8_counted_96 rfl (by decide) (by omega) (by omega) (fun a ha => ?_)
      refine z_dup (pc := 98) E dX8_counted_98 rfl ?_
      refine z_iconst (v := 0) (pc := 99) E dX8_counted_99 (by decide) ?_
      refine z_aload_0 (pc := 100) E dX8_counted_100 ?_
      refine z_get (pc := 101) E dX8_counted_101 fiX8_21 ok11 rfl rfl ?_
      refine z_getN (pc := 104) E dX8_counted_104 fiX8_77 (ok6 (by omega)) rfl rfl ?_
      refine z_ttast (pc := 107) E ha dX8_counted_107 (show (0 : Int32) = nI 0 from rfl) (by decide) (by decide) ?_
      refine z_dup (pc := 108) E dX8_counted_108 rfl ?_
      refine z_iconst (v := 1) (pc := 109) E dX8_counted_109 (by decide) ?_
      refine z_aload_0 (pc := 110) E dX8_counted_110 ?_
      refine z_get (pc := 111) E dX8_counted_111 fiX8_21 ok11 rfl rfl ?_
      refine z_getN (pc := 114) E dX8_counted_114 fiX8_74 (ok6 (by omega)) rfl rfl ?_
      refine z_ttast (pc := 117) E ha dX8_counted_117 (show (1 : Int32) = nI 1 from rfl) (by decide) (by decide) ?_
      refine z_dup (pc := 118) E dX8_counted_118 rfl ?_
      refine z_iconst (v := 2) (pc := 119) E dX8_counted_119 (by decide) ?_
      refine z_aload_0 (pc := 120) E dX8_counted_120 ?_
      refine z_get (pc := 121) E dX8_counted_121 fiX8_32 ok11 rfl rfl ?_
      refine z_ttast (pc := 124) E ha dX8_counted_124 (show (2 : Int32) = nI 2 from rfl) (by decide) (by decide) ?_
      refine z_dup (pc := 125) E dX8_counted_125 rfl ?_
      refine z_iconst (v := 3) (pc := 126) E dX8_counted_126 (by decide) ?_
      refine z_aload_0 (pc := 127) E dX8_counted_127 ?_
      refine z_get (pc := 128) E dX8_counted_128 fiX8_21 ok11 rfl rfl ?_
      refine z_getN (pc := 131) E dX8_counted_131 fiX8_39 (ok6 (by omega)) rfl rfl ?_
      refine z_ttast (pc := 134) E ha dX8_counted_134 (show (3 : Int32) = nI 3 from rfl) (by decide) (by decide) ?_
      refine z_dup (pc := 135) E dX8_counted_135 rfl ?_
      refine z_iconst (v := 4) (pc := 136) E dX8_counted_136 (by decide) ?_
      refine z_aload_0 (pc := 137) E dX8_counted_137 ?_
      refine z_get (pc := 138) E dX8_counted_138 fiX8_21 ok11 rfl rfl ?_
      refine z_iconst (v := 0) (pc := 141) E dX8_counted_141 (by decide) ?_
      refine z_ivp (pc := 142) E (m_X7_how _ 0 t _ (by decide) hn h40) rfl rfl kX7_how mlX8_132 dX8_counted_142 (ok6 (by omega)) rfl rfl rfl (Nat.le_of_ble_eq_true rfl) rfl (by decide) (by decide) ⟨by omega, by omega⟩ ?_
      refine z_ttast (pc := 145) E ha dX8_counted_145 (show (4 : Int32) = nI 4 from rfl) (by decide) (by decide) ?_
      refine z_dup (pc := 146) E dX8_counted_146 rfl ?_
      refine z_iconst (v := 5) (pc := 147) E dX8_counted_147 (by decide) ?_
      refine z_aload_0 (pc := 148) E dX8_counted_148 ?_
      refine z_get (pc := 149) E dX8_counted_149 fiX8_21 ok11 rfl rfl ?_
      refine z_iconst (v := 1) (pc := 152) E dX8_counted_152 (by decide) ?_
      refine z_ivp (pc := 153) E (m_X7_how _ 0 t _ (by decide) hn h40) rfl rfl kX7_how mlX8_132 dX8_counted_153 (ok6 (by omega)) rfl rfl rfl (Nat.le_of_ble_eq_true rfl) rfl (by decide) (by decide) ⟨by omega, by omega⟩ ?_
      refine z_ttast (pc := 156) E ha dX8_counted_156 (show (5 : Int32) = nI 5 from rfl) (by decide) (by decide) ?_
      refine z_dup (pc := 157) E dX8_counted_157 rfl ?_
      refine z_bipush (v := 6) (pc := 158) E dX8_counted_158 (by decide) ?_
      refine z_aload_0 (pc := 160) E dX8_counted_160 ?_
      refine z_get (pc := 161) E dX8_counted_161 fiX8_21 ok11 rfl rfl ?_
      refine z_iconst (v := 2) (pc := 164) E dX8_counted_164 (by decide) ?_
      refine z_ivp (pc := 165) E (m_X7_how _ 0 t _ (by decide) hn h40) rfl rfl kX7_how mlX8_132 dX8_counted_165 (ok6 (by omega)) rfl rfl rfl (Nat.le_of_ble_eq_true rfl) rfl (by decide) (by decide) ⟨by omega, by omega⟩ ?_
      refine z_ttast (pc := 168) E ha dX8_counted_168 (show (6 : Int32) = nI 6 from rfl) (by decide) (by decide) ?_
      refine z_dup (pc := 169) E dX8_counted_169 rfl ?_
      refine z_bipush (v := 7) (pc := 170) E dX8_counted_170 (by decide) ?_
      refine z_aload_0 (pc := 172) E dX8_counted_172 ?_
      refine z_get (pc := 173) E dX8_counted_173 fiX8_21 ok11 rfl rfl ?_
      refine z_iconst (v := 3) (pc := 176) E dX8_counted_176 (by decide) ?_
      refine z_ivp (pc := 177) E (m_X7_how _ 0 t _ (by decide) hn h40) rfl rfl kX7_how mlX8_132 dX8_counted_177 (ok6 (by omega)) rfl rfl rfl (Nat.le_of_ble_eq_true rfl) rfl (by decide) (by decide) ⟨by omega, by omega⟩ ?_
      refine z_ttast (pc := 180) E ha dX8_counted_180 (show (7 : Int32) = nI 7 from rfl) (by decide) (by decide) ?_
      refine z_dup (pc := 181) E dX8_counted_181 rfl ?_
      refine z_bipush (v := 8) (pc := 182) E dX8_counted_182 (by decide) ?_
      refine z_iload_2 (pc := 184) E dX8_counted_184 ?_
      refine z_ttast (pc := 185) E ha dX8_counted_185 (show (8 : Int32) = nI 8 from rfl) (by decide) (by decide) ?_
      refine z_dup (pc := 186) E dX8_counted_186 rfl ?_
      refine z_bipush (v := 9) (pc := 187) E dX8_counted_187 (by decide) ?_
      refine z_iload_3 (pc := 189) E dX8_counted_189 ?_
      refine z_ttast (pc := 190) E ha dX8_counted_190 (show (9 : Int32) = nI 9 from rfl) (by decide) (by decide) ?_
      refine z_dup (pc := 191) E dX8_counted_191 rfl ?_
      refine z_bipush (v := 10) (pc := 192) E dX8_counted_192 (by decide) ?_
      refine z_aload_0 (pc := 194) E dX8_counted_194 ?_
      refine z_get (pc := 195) E dX8_counted_195 fiX8_21 ok11 rfl rfl ?_
      refine z_getN (pc := 198) E dX8_counted_198 fiX8_105 (ok6 (by omega)) rfl rfl ?_
      refine z_ttast (pc := 201) E ha dX8_counted_201 (show (10 : Int32) = nI 10 from rfl) (by decide) (by decide) ?_
      refine z_astore_4 (pc := 202) E dX8_counted_202 rfl ?_
      refine z_aload_4 (pc := 204) E dX8_counted_204 ?_
      refine z_iload_1 (pc := 206) E dX8_counted_206 ?_
      refine z_ttald (pc := 207) E dX8_counted_207 rfl hw (by decide) ?_
      refine z_m22 M (fun k s i hk => ?_) ?_
      · have hk2 : ¬ k = 22 := by omega
        rw [mset_k hk2, mset_k hk2, mset_k hk2, mset_k hk2, mset_k hk2, mset_k hk2, mset_k hk2, mset_k hk2, mset_k hk2, mset_k hk2, mset_k hk2, m22_of hk2]
      exact z_iret (pc := 208) E dX8_counted_208 ⟨match w, hw with | 0, _ => rfl | 1, _ => rfl | 2, _ => rfl | 3, _ => rfl | 4, _ => rfl | 5, _ => rfl | 6, _ => rfl | 7, _ => rfl | 8, _ => rfl | 9, _ => rfl | 10, _ => rfl, rfl⟩
    | succ k ih =>
      intro t ht
      refine z_iload_4 (pc := 45) E dX8_counted_45 ?_
      refine z_aload_0 (pc := 47) E dX8_counted_47 ?_
      refine z_get (pc := 48) E dX8_counted_48 fiX8_21 ok11 rfl rfl ?_
      refine z_getN (pc := 51) E dX8_counted_51 fiX8_39 (ok6 (by omega)) rfl rfl ?_
      refine z_icmp_ge (pc := 54) (tgt := 94) E dX8_counted_54 (by decide) (fun h54 => absurd h54 (ct_lt hn (by omega) (by omega))) (fun h54 => ?_)
      refine z_iload_3 (pc := 57) E dX8_counted_57 ?_
      refine z_aload_0 (pc := 58) E dX8_counted_58 ?_
      refine z_get (pc := 59) E dX8_counted_59 fiX8_21 ok11 rfl rfl ?_
      refine z_iload_4 (pc := 62) E dX8_counted_62 ?_
      refine z_bipush (v := 6) (pc := 64) E dX8_counted_64 (by decide) ?_
      refine z_ivp (pc := 66) E (m_X7_get _ 0 t 6 (by decide) (by omega) (by decide)) rfl rfl kX7_get mlX8_56 dX8_counted_66 (ok6 (by omega)) rfl rfl rfl (Nat.le_of_ble_eq_true rfl) rfl (by decide) (by decide) ⟨by omega, by omega⟩ ?_
      refine z_if_ne (pc := 69) (tgt := 85) E dX8_counted_69 (by decide) (fun h69 => ?_) (fun h69 => ?_)
      · refine z_iconst (v := 0) (pc := 85) E dX8_counted_85 (by decide) ?_
        refine z_iadd (pc := 86) E dX8_counted_86 ?_
        refine z_istore_3 (pc := 87) E dX8_counted_87 rfl ?_
        refine z_iinc_4 (pc := 88) E dX8_counted_88 (nI_1 t) rfl ?_
        refine z_goto (pc := 91) (tgt := 45) E dX8_counted_91 (by decide) ?_
        first | rw [fs_y (f := (fun t => if oc M 0 t 6 = 0 then oc M 0 t 4 else 0)) (if_pos h69)] | rw [fs_y (f := (fun t => if oc M 0 t 6 = 0 then oc M 0 t 4 else 0)) (if_neg h69)]
        exact ih (t + 1) (by omega)
      · refine z_aload_0 (pc := 72) E dX8_counted_72 ?_
        refine z_get (pc := 73) E dX8_counted_73 fiX8_21 ok11 rfl rfl ?_
        refine z_iload_4 (pc := 76) E dX8_counted_76 ?_
        refine z_iconst (v := 4) (pc := 78) E dX8_counted_78 (by decide) ?_
        refine z_ivp (pc := 79) E (m_X7_get _ 0 t 4 (by decide) (by omega) (by decide)) rfl rfl kX7_get mlX8_56 dX8_counted_79 (ok6 (by omega)) rfl rfl rfl (Nat.le_of_ble_eq_true rfl) rfl (by decide) (by decide) ⟨by omega, by omega⟩ ?_
        refine z_goto (pc := 82) (tgt := 86) E dX8_counted_82 (by decide) ?_
        refine z_iadd (pc := 86) E dX8_counted_86 ?_
        refine z_istore_3 (pc := 87) E dX8_counted_87 rfl ?_
        refine z_iinc_4 (pc := 88) E dX8_counted_88 (nI_1 t) rfl ?_
        refine z_goto (pc := 91) (tgt := 45) E dX8_counted_91 (by decide) ?_
        first | rw [fs_y (f := (fun t => if oc M 0 t 6 = 0 then oc M 0 t 4 else 0)) (if_pos h69)] | rw [fs_y (f := (fun t => if oc M 0 t 6 = 0 then oc M 0 t 4 else 0)) (if_neg h69)]
        exact ih (t + 1) (by omega)
  have L1 : ∀ (k : Nat) (j : Nat), j + k = 60 → Z X G (0, 0) (QI X G (fun r M' => r = mcntV M n w ∧ M' = M) 1 11) 7 [some (.ref (ad G 11 0 0)), some (.int (nI w)), some (.int (fsum j (fun k => b2 (¬ M 10 0 0 k = -1)))), some (.int 0), some (.int (nI j))] [] (M) 0 0 := by
    intro k
    induction k with
    | zero =>
      intro j hj
      obtain rfl : j = 60 := by omega
      refine z_iload_4 (pc := 7) E dX8_counted_7 ?_
      refine z_bipush (v := 60) (pc := 9) E dX8_counted_9 (by decide) ?_
      refine z_icmp_ge (pc := 11) (tgt := 42) E dX8_counted_11 (by decide) (fun h11 => ?_) (fun h11 => absurd h11 (fun z => z (ct_ge (n := 60) rfl (by omega) (by omega))))
      refine z_iconst (v := 0) (pc := 42) E dX8_counted_42 (by decide) ?_
      refine z_istore_4 (pc := 43) E dX8_counted_43 rfl ?_
      exact L2 n 0 (by omega)
    | succ k ih =>
      intro j hj
      refine z_iload_4 (pc := 7) E dX8_counted_7 ?_
      refine z_bipush (v := 60) (pc := 9) E dX8_counted_9 (by decide) ?_
      refine z_icmp_ge (pc := 11) (tgt := 42) E dX8_counted_11 (by decide) (fun h11 => absurd h11 (ct_lt (n := 60) rfl (by omega) (by omega))) (fun h11 => ?_)
      refine z_iload_2 (pc := 14) E dX8_counted_14 ?_
      refine z_aload_0 (pc := 15) E dX8_counted_15 ?_
      refine z_get (pc := 16) E dX8_counted_16 fiX8_21 ok11 rfl rfl ?_
      refine z_getN (pc := 19) E dX8_counted_19 fiX8_125 (ok6 (by omega)) rfl rfl ?_
      refine z_iload_4 (pc := 22) E dX8_counted_22 ?_
      refine z_iald (pc := 24) E dX8_counted_24 (ok10 (by omega)) rfl rfl (by omega) (by omega) ?_
      refine z_iconst (v := -1) (pc := 25) E dX8_counted_25 (by decide) ?_
      refine z_icmp_ne (pc := 26) (tgt := 33) E dX8_counted_26 (by decide) (fun h26 => ?_) (fun h26 => ?_)
      · refine z_iconst (v := 1) (pc := 33) E dX8_counted_33 (by decide) ?_
        refine z_iadd (pc := 34) E dX8_counted_34 ?_
        refine z_istore_2 (pc := 35) E dX8_counted_35 rfl ?_
        refine z_iinc_4 (pc := 36) E dX8_counted_36 (nI_1 j) rfl ?_
        refine z_goto (pc := 39) (tgt := 7) E dX8_counted_39 (by decide) ?_
        first | rw [fs_y (f := (fun k => b2 (¬ M 10 0 0 k = -1))) (b2_t h26)] | rw [fs_y (f := (fun k => b2 (¬ M 10 0 0 k = -1))) (b2_f (fun z => z h26))]
        exact ih (j + 1) (by omega)
      · refine z_iconst (v := 0) (pc := 29) E dX8_counted_29 (by decide) ?_
        refine z_goto (pc := 30) (tgt := 34) E dX8_counted_30 (by decide) ?_
        refine z_iadd (pc := 34) E dX8_counted_34 ?_
        refine z_istore_2 (pc := 35) E dX8_counted_35 rfl ?_
        refine z_iinc_4 (pc := 36) E dX8_counted_36 (nI_1 j) rfl ?_
        refine z_goto (pc := 39) (tgt := 7) E dX8_counted_39 (by decide) ?_
        first | rw [fs_y (f := (fun k => b2 (¬ M 10 0 0 k = -1))) (b2_t h26)] | rw [fs_y (f := (fun k => b2 (¬ M 10 0 0 k = -1))) (b2_f (fun z => z h26))]
        exact ih (j + 1) (by omega)
  refine z_iconst (v := 0) (pc := 0) E dX8_counted_0 (by decide) ?_
  refine z_istore_2 (pc := 1) E dX8_counted_1 rfl ?_
  refine z_iconst (v := 0) (pc := 2) E dX8_counted_2 (by decide) ?_
  refine z_istore_3 (pc := 3) E dX8_counted_3 rfl ?_
  refine z_iconst (v := 0) (pc := 4) E dX8_counted_4 (by decide) ?_
  refine z_istore_4 (pc := 5) E dX8_counted_5 rfl ?_
  exact L1 60 0 (by omega)

theorem mcntV_t (M : Mem) (n : Nat) : ∀ w, w < 11 → mcntV (mset M 11 0 0 0 0) n w = mcntV M n w
  | 0, _ => rfl
  | 1, _ => rfl
  | 2, _ => rfl
  | 3, _ => rfl
  | 4, _ => rfl
  | 5, _ => rfl
  | 6, _ => rfl
  | 7, _ => rfl
  | 8, _ => rfl
  | 9, _ => rfl
  | 10, _ => rfl

def mcountK (w : Int32) : Nat := if 0 ≤ w ∧ w ≤ 10 then 0 else 1

set_option maxRecDepth 100000 in
set_option maxHeartbeats 4000000 in
theorem m_X8_count (M : Mem) (n : Nat) (w : Int32) (hn : M 6 0 0 2 = nI n) (h40 : n ≤ 40) : CI yX8_count cX8_count 2 (some .int) 3 1 11 (fun G => [.ref (ad G 11 0 0), .int w]) M (fun r M' => (mcountK w = 0 ∧ ∃ j, j < 11 ∧ w = nI j ∧ r = mcntV M n j ∧ M' = (mset M 11 0 0 0 0)) ∨ (¬ mcountK w = 0 ∧ M' = mset M 11 0 0 0 (nI (mcountK w)))) := by
  refine CI.mk (own := RX8) (by decide +kernel) rfl (fun _ => rfl) (fun _ => Nat.le_of_ble_eq_true rfl) (lv0 := fun G => [some (.ref (ad G 11 0 0)), some (.int w)]) (fun _ => rfl) (fun X G E => ?_)
  refine z_aload_0 (pc := 0) E dX8_count_0 ?_
  refine z_iconst (v := 0) (pc := 1) E dX8_count_1 (by decide) ?_
  refine z_put (pc := 2) E dX8_count_2 fiX8_28 fpX8_0 ok11 rfl rfl (Nat.le_of_ble_eq_true rfl) ?_
  refine z_iload_1 (pc := 5) E dX8_count_5 ?_
  refine z_iconst (v := 0) (pc := 6) E dX8_count_6 (by decide) ?_
  refine z_bipush (v := 10) (pc := 7) E dX8_count_7 (by decide) ?_
  refine z_isp (pc := 9) E (m_X8_isIn _ _ _ _) rfl rfl kX8_isIn mlX8_35 dX8_count_9 rfl (Nat.le_of_ble_eq_true rfl) rfl (by decide) (by decide) ⟨by omega, by omega⟩ ?_
  refine z_if_eq (pc := 12) (tgt := 23) E dX8_count_12 (by decide) (fun h12 => ?_) (fun h12 => ?_)
  · have g12 : ¬ (0 ≤ w ∧ w ≤ 10) := b2_e0 h12
    refine z_aload_0 (pc := 23) E dX8_count_23 ?_
    refine z_iconst (v := 1) (pc := 24) E dX8_count_24 (by decide) ?_
    refine z_ivf (pc := 25) E (m_X8_no _ _) rfl rfl kX8_no mlX8_42 dX8_count_25 ok11 rfl rfl rfl (Nat.le_of_ble_eq_true rfl) rfl (by decide) (by decide) ⟨by omega, by omega⟩ ?_
    refine z_widen (c1 := 1) (s1 := 11) (by omega) (by omega) ?_
    exact z_iret (pc := 28) E dX8_count_28 (Or.inr (mfail (e := 1) (by unfold mcountK; rw [if_neg g12]) (by decide) rfl))
  · have g12 : 0 ≤ w ∧ w ≤ 10 := b2_n0 h12
    obtain ⟨j, hj, rfl⟩ := ix_c (n := 11) g12 (by decide) (by decide)
    refine z_aload_0 (pc := 15) E dX8_count_15 ?_
    refine z_iload_1 (pc := 16) E dX8_count_16 ?_
    refine z_iv (pc := 17) E (m_X8_counted _ n _ hn h40 hj) rfl rfl kX8_counted mlX8_135 dX8_count_17 ok11 rfl rfl rfl (Nat.le_of_ble_eq_true rfl) rfl (by decide) (by decide) ⟨by omega, by omega⟩ (fun _ _ _ => Or.inl rfl) (fun r17 M17 hM17 => ?_)
    obtain ⟨rfl, rfl⟩ := hM17
    refine z_goto (pc := 20) (tgt := 28) E dX8_count_20 (by decide) ?_
    refine z_widen (c1 := 1) (s1 := 11) (by omega) (by omega) ?_
    exact z_iret (pc := 28) E dX8_count_28 (Or.inl ⟨by unfold mcountK; rw [if_pos g12], j, hj, rfl, mcntV_t _ _ _ hj, rfl⟩)

def mfetV (M : Mem) (n : Nat) : UInt64 := if nI n - howN M 0 n 0 = 0 then 0 else FP.ddiv (FP.i2d (howN M 0 n 1)) (FP.i2d (nI n - howN M 0 n 0))
theorem how2 (M : Mem) (s : Nat) : ∀ n, ∃ a e : Nat, a + e ≤ n ∧ howN M s n 1 = nI a ∧ howN M s n 0 = nI e
  | 0 => ⟨0, 0, Nat.le_refl 0, rfl, rfl⟩
  | n + 1 => by
    obtain ⟨a, e, h, h1, h0⟩ := how2 M s n
    have e_ : ∀ x, howN M s (n + 1) x = howN M s n x + b2 (oc M s n 6 = x) := fun x => rfl
    by_cases g1 : oc M s n 6 = 1
    · refine ⟨a + 1, e, by omega, ?_, ?_⟩
      · rw [e_, h1, b2_t g1]; exact nI_1 a
      · rw [e_, h0, b2_f (fun z => absurd (g1.symm.trans z) (by decide))]; exact Int32.add_zero _
    · by_cases g0 : oc M s n 6 = 0
      · refine ⟨a, e + 1, by omega, ?_, ?_⟩
        · rw [e_, h1, b2_f g1]; exact Int32.add_zero _
        · rw [e_, h0, b2_t g0]; exact nI_1 e
      · refine ⟨a, e, by omega, ?_, ?_⟩
        · rw [e_, h1, b2_f g1]; exact Int32.add_zero _
        · rw [e_, h0, b2_f g0]; exact Int32.add_zero _
theorem mfet_nn {M : Mem} {n : Nat} (h40 : n ≤ 40) (h : ¬ nI n - howN M 0 n 0 = 0) : vf_n64 (FP.ddiv (FP.i2d (howN M 0 n 1)) (FP.i2d (nI n - howN M 0 n 0))) := by
  obtain ⟨a, e, h0, h1, h2⟩ := how2 M 0 n
  rw [h2, pk_sub (by omega)] at h
  rw [h1, h2, pk_sub (by omega)]
  refine dv_nn a (by omega) (n - e) (by omega) (Nat.one_le_iff_ne_zero.mpr (fun z => h ?_))
  rw [z]
  exact nI_0

set_option maxRecDepth 100000 in
set_option maxHeartbeats 4000000 in
theorem m_X8_fetched (M : Mem) (n : Nat) (hn : M 6 0 0 2 = nI n) (h40 : n ≤ 40) : CD yX8_fetched cX8_fetched 2 (some .double) 3 0 0 (fun G => [.ref (ad G 11 0 0)]) M (fun r M' => r = mfetV M n ∧ M' = (mset M 11 0 0 0 0)) := by
  refine CD.mk (own := RX8) (by decide +kernel) rfl (fun _ => rfl) (fun _ => Nat.le_of_ble_eq_true rfl) (lv0 := fun G => [some (.ref (ad G 11 0 0)), none]) (fun _ => rfl) (fun X G E => ?_)
  refine z_aload_0 (pc := 0) E dX8_fetched_0 ?_
  refine z_iconst (v := 0) (pc := 1) E dX8_fetched_1 (by decide) ?_
  refine z_put (pc := 2) E dX8_fetched_2 fiX8_28 fpX8_0 ok11 rfl rfl (Nat.le_of_ble_eq_true rfl) ?_
  refine z_aload_0 (pc := 5) E dX8_fetched_5 ?_
  refine z_get (pc := 6) E dX8_fetched_6 fiX8_21 ok11 rfl rfl ?_
  refine z_getN (pc := 9) E dX8_fetched_9 fiX8_39 (ok6 (by omega)) rfl rfl ?_
  refine z_top (y := nI n) hn.symm ?_
  refine z_aload_0 (pc := 12) E dX8_fetched_12 ?_
  refine z_get (pc := 13) E dX8_fetched_13 fiX8_21 ok11 rfl rfl ?_
  refine z_iconst (v := 0) (pc := 16) E dX8_fetched_16 (by decide) ?_
  refine z_ivp (pc := 17) E (m_X7_how _ 0 n _ (by decide) hn h40) rfl rfl kX7_how mlX8_132 dX8_fetched_17 (ok6 (by omega)) rfl rfl rfl (Nat.le_of_ble_eq_true rfl) rfl (by decide) (by decide) ⟨by omega, by omega⟩ ?_
  refine z_isub (pc := 20) E dX8_fetched_20 ?_
  refine z_istore_1 (pc := 21) E dX8_fetched_21 rfl ?_
  refine z_iload_1 (pc := 22) E dX8_fetched_22 ?_
  refine z_if_ne (pc := 23) (tgt := 30) E dX8_fetched_23 (by decide) (fun h23 => ?_) (fun h23 => ?_)
  · refine z_aload_0 (pc := 30) E dX8_fetched_30 ?_
    refine z_get (pc := 31) E dX8_fetched_31 fiX8_21 ok11 rfl rfl ?_
    refine z_iconst (v := 1) (pc := 34) E dX8_fetched_34 (by decide) ?_
    refine z_ivp (pc := 35) E (m_X7_how _ 0 n _ (by decide) hn h40) rfl rfl kX7_how mlX8_132 dX8_fetched_35 (ok6 (by omega)) rfl rfl rfl (Nat.le_of_ble_eq_true rfl) rfl (by decide) (by decide) ⟨by omega, by omega⟩ ?_
    refine z_i2d (pc := 38) E dX8_fetched_38 ?_
    refine z_iload_1 (pc := 39) E dX8_fetched_39 ?_
    refine z_i2d (pc := 40) E dX8_fetched_40 ?_
    refine z_ddiv (pc := 41) E dX8_fetched_41 (mfet_nn (M := (mset M 11 0 0 0 0)) h40 h23) ?_
    exact z_dret (pc := 42) E dX8_fetched_42 ⟨by first | exact (if_neg h23).symm | exact (if_pos (Decidable.not_not.mp h23)).symm | exact (if_pos h23).symm, rfl⟩
  · refine z_dconst (pc := 26) E dX8_fetched_26 ?_
    refine z_goto (pc := 27) (tgt := 42) E dX8_fetched_27 (by decide) ?_
    exact z_dret (pc := 42) E dX8_fetched_42 ⟨by first | exact (if_neg h23).symm | exact (if_pos (Decidable.not_not.mp h23)).symm | exact (if_pos h23).symm, rfl⟩

theorem becM_6 {M : Mem} {j : Nat} (hj : j < 4) : becM M 1 0 6 1 0 j = M 6 0 0 j := by
  unfold becM
  rw [rset_k (by decide), rset_k (by decide), rset_k (by decide), rset_k (by decide)]
  exact if_pos ⟨rfl, rfl, Nat.zero_lt_one, hj⟩
theorem becM_9 {M : Mem} {t j : Nat} (ht : t < 40) (hj : j < 11) : oc (becM M 1 0) 1 t j = oc M 0 t j := by
  show becM M 1 0 9 1 0 (11 * t + j) = M 9 0 0 (11 * t + j)
  unfold becM
  rw [rset_k (by decide), rset_cell]
  unfold va_cpy
  rw [if_pos (by omega)]
  congr 1
  omega
/-- what the reference foresees -/
def mforeV (B : Mem) (n D w : Nat) : Int32 := match w with
  | 0 => (mgoN B 1 n D).2 6 1 0 1
  | 1 => (mgoN B 1 n D).1
  | _ => howN (mgoN B 1 n D).2 1 n 2

set_option maxRecDepth 100000 in
set_option maxHeartbeats 4000000 in
theorem mfore_loop {X : PX} {G : GT} {M : Mem} {n d D : Nat} {x2 : Int32} {Q : State → Prop} (E : EF X G cX8_foresee 5 RX8 (some .int) 4 0 0) (hn : M 6 1 0 2 = nI n) (h40 : n ≤ 40) (hd : M 6 1 0 0 = nI d) (h30 : d < 2 ^ 30) (hD : D ≤ 200) (how : ∀ t, t < n → ∃ i, i < 10 ∧ oc M 1 t 0 = nI i) (kk : Z X G (0, 0) Q 75 [some (.ref (ad G 11 0 0)), some (.int (nI D)), some (.int x2), some (.int (mgoN M 1 n D).1), some (.int (nI D))] [] (mgoN M 1 n D).2 0 0) : ∀ (k q : Nat), q + k = D → Z X G (0, 0) Q 53 [some (.ref (ad G 11 0 0)), some (.int (nI D)), some (.int x2), some (.int (mgoN M 1 n q).1), some (.int (nI q))] [] (mgoN M 1 n q).2 0 0 := by
  intro k
  induction k with
  | zero =>
    intro q hq
    obtain rfl : q = D := by omega
    refine z_iload_4 (pc := 53) E dX8_foresee_53 ?_
    refine z_iload_1 (pc := 55) E dX8_foresee_55 ?_
    refine z_icmp_ge (pc := 56) (tgt := 75) E dX8_foresee_56 (by decide) (fun h56 => ?_) (fun h56 => absurd h56 (fun z => z (ct_ge rfl (by omega) (by omega))))
    exact kk
  | succ k ih =>
    intro q hq
    refine z_iload_4 (pc := 53) E dX8_foresee_53 ?_
    refine z_iload_1 (pc := 55) E dX8_foresee_55 ?_
    refine z_icmp_ge (pc := 56) (tgt := 75) E dX8_foresee_56 (by decide) (fun h56 => absurd h56 (ct_lt rfl (by omega) (by omega))) (fun h56 => ?_)
    refine z_iload_3 (pc := 59) E dX8_foresee_59 ?_
    refine z_aload_0 (pc := 60) E dX8_foresee_60 ?_
    refine z_get (pc := 61) E dX8_foresee_61 fiX8_25 ok11 rfl rfl ?_
    refine z_ivf (pc := 64) E (m_X7_pass _ 1 n (d + q) (by decide) ((mgoN_6 (by decide) (by decide) q).trans hn) h40 (mgoN_d hd q) (by omega) (fun t ht => by rw [mgoN_f (by decide) (by decide) (by decide) (by decide)]; exact how t ht)) rfl rfl kX7_pass mlX8_128 dX8_foresee_64 (ok6 (by omega)) rfl rfl rfl (Nat.le_of_ble_eq_true rfl) rfl (by decide) (by decide) ⟨by omega, by omega⟩ ?_
    refine z_iadd (pc := 67) E dX8_foresee_67 ?_
    refine z_istore_3 (pc := 68) E dX8_foresee_68 rfl ?_
    refine z_iinc_4 (pc := 69) E dX8_foresee_69 (nI_1 q) rfl ?_
    refine z_goto (pc := 72) (tgt := 53) E dX8_foresee_72 (by decide) ?_
    exact ih (q + 1) (by omega)

def mforeseeK (x w : Int32) : Nat := if 1 ≤ x ∧ x ≤ 200 then if 0 ≤ w ∧ w ≤ 2 then 0 else 2 else 1

set_option maxRecDepth 100000 in
set_option maxHeartbeats 4000000 in
theorem m_X8_foresee_0 (M : Mem) (n d : Nat) (x w : Int32) (hn : M 6 0 0 2 = nI n) (h40 : n ≤ 40) (hd : M 6 0 0 0 = nI d) (h30 : d < 2 ^ 30) (how : ∀ t, t < n → ∃ i, i < 10 ∧ oc M 0 t 0 = nI i) (hw : w = nI 0) : CI yX8_foresee cX8_foresee 5 (some .int) 4 0 0 (fun G => [.ref (ad G 11 0 0), .int x, .int w]) M (fun r M' => (mforeseeK x w = 0 ∧ ∃ D, 1 ≤ D ∧ D ≤ 200 ∧ x = nI D ∧ r = mforeV (becM (mset M 11 0 0 0 0) 1 0) n D 0 ∧ M' = (mgoN (becM (mset M 11 0 0 0 0) 1 0) 1 n D).2) ∨ (¬ mforeseeK x w = 0 ∧ M' = mset M 11 0 0 0 (nI (mforeseeK x w)))) := by
  refine CI.mk (own := RX8) (by decide +kernel) rfl (fun _ => rfl) (fun _ => Nat.le_of_ble_eq_true rfl) (lv0 := fun G => [some (.ref (ad G 11 0 0)), some (.int x), some (.int w), none, none]) (fun _ => rfl) (fun X G E => ?_)
  refine z_aload_0 (pc := 0) E dX8_foresee_0 ?_
  refine z_iconst (v := 0) (pc := 1) E dX8_foresee_1 (by decide) ?_
  refine z_put (pc := 2) E dX8_foresee_2 fiX8_28 fpX8_0 ok11 rfl rfl (Nat.le_of_ble_eq_true rfl) ?_
  refine z_iload_1 (pc := 5) E dX8_foresee_5 ?_
  refine z_iconst (v := 1) (pc := 6) E dX8_foresee_6 (by decide) ?_
  refine z_sipush (v := 200) (pc := 7) E dX8_foresee_7 (by decide) ?_
  refine z_isp (pc := 10) E (m_X8_isIn _ _ _ _) rfl rfl kX8_isIn mlX8_35 dX8_foresee_10 rfl (Nat.le_of_ble_eq_true rfl) rfl (by decide) (by decide) ⟨by omega, by omega⟩ ?_
  refine z_if_ne (pc := 13) (tgt := 22) E dX8_foresee_13 (by decide) (fun h13 => ?_) (fun h13 => ?_)
  · have g13 : 1 ≤ x ∧ x ≤ 200 := b2_n0 h13
    obtain ⟨D, hD1, hD, rfl⟩ := ix_1 g13
    refine z_iload_2 (pc := 22) E dX8_foresee_22 ?_
    refine z_iconst (v := 0) (pc := 23) E dX8_foresee_23 (by decide) ?_
    refine z_iconst (v := 2) (pc := 24) E dX8_foresee_24 (by decide) ?_
    refine z_isp (pc := 25) E (m_X8_isIn _ _ _ _) rfl rfl kX8_isIn mlX8_35 dX8_foresee_25 rfl (Nat.le_of_ble_eq_true rfl) rfl (by decide) (by decide) ⟨by omega, by omega⟩ ?_
    refine z_if_ne (pc := 28) (tgt := 37) E dX8_foresee_28 (by decide) (fun h28 => ?_) (fun h28 => ?_)
    · have g28 : 0 ≤ w ∧ w ≤ 2 := b2_n0 h28
      subst hw
      refine z_aload_0 (pc := 37) E dX8_foresee_37 ?_
      refine z_get (pc := 38) E dX8_foresee_38 fiX8_25 ok11 rfl rfl ?_
      refine z_aload_0 (pc := 41) E dX8_foresee_41 ?_
      refine z_get (pc := 42) E dX8_foresee_42 fiX8_21 ok11 rfl rfl ?_
      refine z_vvf (pc := 45) E (m_X7_become _ 1 0 (by decide) (by decide) (by decide)) rfl rfl kX7_become mlX8_138 dX8_foresee_45 (ok6 (by omega)) rfl rfl rfl (Nat.le_of_ble_eq_true rfl) rfl (by decide) (by decide) ⟨by omega, by omega⟩ ?_
      refine z_iconst (v := 0) (pc := 48) E dX8_foresee_48 (by decide) ?_
      refine z_istore_3 (pc := 49) E dX8_foresee_49 rfl ?_
      refine z_iconst (v := 0) (pc := 50) E dX8_foresee_50 (by decide) ?_
      refine z_istore_4 (pc := 51) E dX8_foresee_51 rfl ?_
      refine mfore_loop (M := (becM (mset M 11 0 0 0 0) 1 0)) E ((becM_6 (by decide)).trans hn) h40 ((becM_6 (by decide)).trans hd) h30 hD (fun t ht => by rw [becM_9 (by omega) (by decide)]; exact how t ht) ?_ D 0 (by omega)
      refine z_iload_2 (pc := 75) E dX8_foresee_75 ?_
      refine z_if_ne (pc := 76) (tgt := 89) E dX8_foresee_76 (by decide) (fun h76 => absurd h76 (by decide)) (fun h76 => ?_)
      refine z_aload_0 (pc := 79) E dX8_foresee_79 ?_
      refine z_get (pc := 80) E dX8_foresee_80 fiX8_25 ok11 rfl rfl ?_
      refine z_getN (pc := 83) E dX8_foresee_83 fiX8_74 (ok6 (by omega)) rfl rfl ?_
      refine z_goto (pc := 86) (tgt := 106) E dX8_foresee_86 (by decide) ?_
      exact z_iret (pc := 106) E dX8_foresee_106 (Or.inl ⟨by unfold mforeseeK; rw [if_pos g13, if_pos g28], D, hD1, hD, rfl, rfl, rfl⟩)
    · have g28 : ¬ (0 ≤ w ∧ w ≤ 2) := b2_e0 h28
      refine z_aload_0 (pc := 31) E dX8_foresee_31 ?_
      refine z_iconst (v := 2) (pc := 32) E dX8_foresee_32 (by decide) ?_
      refine z_ivf (pc := 33) E (m_X8_no _ _) rfl rfl kX8_no mlX8_42 dX8_foresee_33 ok11 rfl rfl rfl (Nat.le_of_ble_eq_true rfl) rfl (by decide) (by decide) ⟨by omega, by omega⟩ ?_
      exact z_iret (pc := 36) E dX8_foresee_36 (Or.inr (mfail (e := 2) (by unfold mforeseeK; rw [if_pos g13, if_neg g28]) (by decide) rfl))
  · have g13 : ¬ (1 ≤ x ∧ x ≤ 200) := b2_e0 h13
    refine z_aload_0 (pc := 16) E dX8_foresee_16 ?_
    refine z_iconst (v := 1) (pc := 17) E dX8_foresee_17 (by decide) ?_
    refine z_ivf (pc := 18) E (m_X8_no _ _) rfl rfl kX8_no mlX8_42 dX8_foresee_18 ok11 rfl rfl rfl (Nat.le_of_ble_eq_true rfl) rfl (by decide) (by decide) ⟨by omega, by omega⟩ ?_
    exact z_iret (pc := 21) E dX8_foresee_21 (Or.inr (mfail (e := 1) (by unfold mforeseeK; rw [if_neg g13]) (by decide) rfl))

set_option maxRecDepth 100000 in
set_option maxHeartbeats 4000000 in
theorem m_X8_foresee_1 (M : Mem) (n d : Nat) (x w : Int32) (hn : M 6 0 0 2 = nI n) (h40 : n ≤ 40) (hd : M 6 0 0 0 = nI d) (h30 : d < 2 ^ 30) (how : ∀ t, t < n → ∃ i, i < 10 ∧ oc M 0 t 0 = nI i) (hw : w = nI 1) : CI yX8_foresee cX8_foresee 5 (some .int) 4 0 0 (fun G => [.ref (ad G 11 0 0), .int x, .int w]) M (fun r M' => (mforeseeK x w = 0 ∧ ∃ D, 1 ≤ D ∧ D ≤ 200 ∧ x = nI D ∧ r = mforeV (becM (mset M 11 0 0 0 0) 1 0) n D 1 ∧ M' = (mgoN (becM (mset M 11 0 0 0 0) 1 0) 1 n D).2) ∨ (¬ mforeseeK x w = 0 ∧ M' = mset M 11 0 0 0 (nI (mforeseeK x w)))) := by
  refine CI.mk (own := RX8) (by decide +kernel) rfl (fun _ => rfl) (fun _ => Nat.le_of_ble_eq_true rfl) (lv0 := fun G => [some (.ref (ad G 11 0 0)), some (.int x), some (.int w), none, none]) (fun _ => rfl) (fun X G E => ?_)
  refine z_aload_0 (pc := 0) E dX8_foresee_0 ?_
  refine z_iconst (v := 0) (pc := 1) E dX8_foresee_1 (by decide) ?_
  refine z_put (pc := 2) E dX8_foresee_2 fiX8_28 fpX8_0 ok11 rfl rfl (Nat.le_of_ble_eq_true rfl) ?_
  refine z_iload_1 (pc := 5) E dX8_foresee_5 ?_
  refine z_iconst (v := 1) (pc := 6) E dX8_foresee_6 (by decide) ?_
  refine z_sipush (v := 200) (pc := 7) E dX8_foresee_7 (by decide) ?_
  refine z_isp (pc := 10) E (m_X8_isIn _ _ _ _) rfl rfl kX8_isIn mlX8_35 dX8_foresee_10 rfl (Nat.le_of_ble_eq_true rfl) rfl (by decide) (by decide) ⟨by omega, by omega⟩ ?_
  refine z_if_ne (pc := 13) (tgt := 22) E dX8_foresee_13 (by decide) (fun h13 => ?_) (fun h13 => ?_)
  · have g13 : 1 ≤ x ∧ x ≤ 200 := b2_n0 h13
    obtain ⟨D, hD1, hD, rfl⟩ := ix_1 g13
    refine z_iload_2 (pc := 22) E dX8_foresee_22 ?_
    refine z_iconst (v := 0) (pc := 23) E dX8_foresee_23 (by decide) ?_
    refine z_iconst (v := 2) (pc := 24) E dX8_foresee_24 (by decide) ?_
    refine z_isp (pc := 25) E (m_X8_isIn _ _ _ _) rfl rfl kX8_isIn mlX8_35 dX8_foresee_25 rfl (Nat.le_of_ble_eq_true rfl) rfl (by decide) (by decide) ⟨by omega, by omega⟩ ?_
    refine z_if_ne (pc := 28) (tgt := 37) E dX8_foresee_28 (by decide) (fun h28 => ?_) (fun h28 => ?_)
    · have g28 : 0 ≤ w ∧ w ≤ 2 := b2_n0 h28
      subst hw
      refine z_aload_0 (pc := 37) E dX8_foresee_37 ?_
      refine z_get (pc := 38) E dX8_foresee_38 fiX8_25 ok11 rfl rfl ?_
      refine z_aload_0 (pc := 41) E dX8_foresee_41 ?_
      refine z_get (pc := 42) E dX8_foresee_42 fiX8_21 ok11 rfl rfl ?_
      refine z_vvf (pc := 45) E (m_X7_become _ 1 0 (by decide) (by decide) (by decide)) rfl rfl kX7_become mlX8_138 dX8_foresee_45 (ok6 (by omega)) rfl rfl rfl (Nat.le_of_ble_eq_true rfl) rfl (by decide) (by decide) ⟨by omega, by omega⟩ ?_
      refine z_iconst (v := 0) (pc := 48) E dX8_foresee_48 (by decide) ?_
      refine z_istore_3 (pc := 49) E dX8_foresee_49 rfl ?_
      refine z_iconst (v := 0) (pc := 50) E dX8_foresee_50 (by decide) ?_
      refine z_istore_4 (pc := 51) E dX8_foresee_51 rfl ?_
      refine mfore_loop (M := (becM (mset M 11 0 0 0 0) 1 0)) E ((becM_6 (by decide)).trans hn) h40 ((becM_6 (by decide)).trans hd) h30 hD (fun t ht => by rw [becM_9 (by omega) (by decide)]; exact how t ht) ?_ D 0 (by omega)
      refine z_iload_2 (pc := 75) E dX8_foresee_75 ?_
      refine z_if_ne (pc := 76) (tgt := 89) E dX8_foresee_76 (by decide) (fun h76 => ?_) (fun h76 => absurd h76 (by decide))
      refine z_iload_2 (pc := 89) E dX8_foresee_89 ?_
      refine z_iconst (v := 1) (pc := 90) E dX8_foresee_90 (by decide) ?_
      refine z_icmp_ne (pc := 91) (tgt := 98) E dX8_foresee_91 (by decide) (fun h91 => absurd h91 (by decide)) (fun h91 => ?_)
      refine z_iload_3 (pc := 94) E dX8_foresee_94 ?_
      refine z_goto (pc := 95) (tgt := 106) E dX8_foresee_95 (by decide) ?_
      exact z_iret (pc := 106) E dX8_foresee_106 (Or.inl ⟨by unfold mforeseeK; rw [if_pos g13, if_pos g28], D, hD1, hD, rfl, rfl, rfl⟩)
    · have g28 : ¬ (0 ≤ w ∧ w ≤ 2) := b2_e0 h28
      refine z_aload_0 (pc := 31) E dX8_foresee_31 ?_
      refine z_iconst (v := 2) (pc := 32) E dX8_foresee_32 (by decide) ?_
      refine z_ivf (pc := 33) E (m_X8_no _ _) rfl rfl kX8_no mlX8_42 dX8_foresee_33 ok11 rfl rfl rfl (Nat.le_of_ble_eq_true rfl) rfl (by decide) (by decide) ⟨by omega, by omega⟩ ?_
      exact z_iret (pc := 36) E dX8_foresee_36 (Or.inr (mfail (e := 2) (by unfold mforeseeK; rw [if_pos g13, if_neg g28]) (by decide) rfl))
  · have g13 : ¬ (1 ≤ x ∧ x ≤ 200) := b2_e0 h13
    refine z_aload_0 (pc := 16) E dX8_foresee_16 ?_
    refine z_iconst (v := 1) (pc := 17) E dX8_foresee_17 (by decide) ?_
    refine z_ivf (pc := 18) E (m_X8_no _ _) rfl rfl kX8_no mlX8_42 dX8_foresee_18 ok11 rfl rfl rfl (Nat.le_of_ble_eq_true rfl) rfl (by decide) (by decide) ⟨by omega, by omega⟩ ?_
    exact z_iret (pc := 21) E dX8_foresee_21 (Or.inr (mfail (e := 1) (by unfold mforeseeK; rw [if_neg g13]) (by decide) rfl))

set_option maxRecDepth 100000 in
set_option maxHeartbeats 4000000 in
theorem m_X8_foresee_2 (M : Mem) (n d : Nat) (x w : Int32) (hn : M 6 0 0 2 = nI n) (h40 : n ≤ 40) (hd : M 6 0 0 0 = nI d) (h30 : d < 2 ^ 30) (how : ∀ t, t < n → ∃ i, i < 10 ∧ oc M 0 t 0 = nI i) (hw : w = nI 2) : CI yX8_foresee cX8_foresee 5 (some .int) 4 0 0 (fun G => [.ref (ad G 11 0 0), .int x, .int w]) M (fun r M' => (mforeseeK x w = 0 ∧ ∃ D, 1 ≤ D ∧ D ≤ 200 ∧ x = nI D ∧ r = mforeV (becM (mset M 11 0 0 0 0) 1 0) n D 2 ∧ M' = (mgoN (becM (mset M 11 0 0 0 0) 1 0) 1 n D).2) ∨ (¬ mforeseeK x w = 0 ∧ M' = mset M 11 0 0 0 (nI (mforeseeK x w)))) := by
  refine CI.mk (own := RX8) (by decide +kernel) rfl (fun _ => rfl) (fun _ => Nat.le_of_ble_eq_true rfl) (lv0 := fun G => [some (.ref (ad G 11 0 0)), some (.int x), some (.int w), none, none]) (fun _ => rfl) (fun X G E => ?_)
  refine z_aload_0 (pc := 0) E dX8_foresee_0 ?_
  refine z_iconst (v := 0) (pc := 1) E dX8_foresee_1 (by decide) ?_
  refine z_put (pc := 2) E dX8_foresee_2 fiX8_28 fpX8_0 ok11 rfl rfl (Nat.le_of_ble_eq_true rfl) ?_
  refine z_iload_1 (pc := 5) E dX8_foresee_5 ?_
  refine z_iconst (v := 1) (pc := 6) E dX8_foresee_6 (by decide) ?_
  refine z_sipush (v := 200) (pc := 7) E dX8_foresee_7 (by decide) ?_
  refine z_isp (pc := 10) E (m_X8_isIn _ _ _ _) rfl rfl kX8_isIn mlX8_35 dX8_foresee_10 rfl (Nat.le_of_ble_eq_true rfl) rfl (by decide) (by decide) ⟨by omega, by omega⟩ ?_
  refine z_if_ne (pc := 13) (tgt := 22) E dX8_foresee_13 (by decide) (fun h13 => ?_) (fun h13 => ?_)
  · have g13 : 1 ≤ x ∧ x ≤ 200 := b2_n0 h13
    obtain ⟨D, hD1, hD, rfl⟩ := ix_1 g13
    refine z_iload_2 (pc := 22) E dX8_foresee_22 ?_
    refine z_iconst (v := 0) (pc := 23) E dX8_foresee_23 (by decide) ?_
    refine z_iconst (v := 2) (pc := 24) E dX8_foresee_24 (by decide) ?_
    refine z_isp (pc := 25) E (m_X8_isIn _ _ _ _) rfl rfl kX8_isIn mlX8_35 dX8_foresee_25 rfl (Nat.le_of_ble_eq_true rfl) rfl (by decide) (by decide) ⟨by omega, by omega⟩ ?_
    refine z_if_ne (pc := 28) (tgt := 37) E dX8_foresee_28 (by decide) (fun h28 => ?_) (fun h28 => ?_)
    · have g28 : 0 ≤ w ∧ w ≤ 2 := b2_n0 h28
      subst hw
      refine z_aload_0 (pc := 37) E dX8_foresee_37 ?_
      refine z_get (pc := 38) E dX8_foresee_38 fiX8_25 ok11 rfl rfl ?_
      refine z_aload_0 (pc := 41) E dX8_foresee_41 ?_
      refine z_get (pc := 42) E dX8_foresee_42 fiX8_21 ok11 rfl rfl ?_
      refine z_vvf (pc := 45) E (m_X7_become _ 1 0 (by decide) (by decide) (by decide)) rfl rfl kX7_become mlX8_138 dX8_foresee_45 (ok6 (by omega)) rfl rfl rfl (Nat.le_of_ble_eq_true rfl) rfl (by decide) (by decide) ⟨by omega, by omega⟩ ?_
      refine z_iconst (v := 0) (pc := 48) E dX8_foresee_48 (by decide) ?_
      refine z_istore_3 (pc := 49) E dX8_foresee_49 rfl ?_
      refine z_iconst (v := 0) (pc := 50) E dX8_foresee_50 (by decide) ?_
      refine z_istore_4 (pc := 51) E dX8_foresee_51 rfl ?_
      refine mfore_loop (M := (becM (mset M 11 0 0 0 0) 1 0)) E ((becM_6 (by decide)).trans hn) h40 ((becM_6 (by decide)).trans hd) h30 hD (fun t ht => by rw [becM_9 (by omega) (by decide)]; exact how t ht) ?_ D 0 (by omega)
      refine z_iload_2 (pc := 75) E dX8_foresee_75 ?_
      refine z_if_ne (pc := 76) (tgt := 89) E dX8_foresee_76 (by decide) (fun h76 => ?_) (fun h76 => absurd h76 (by decide))
      refine z_iload_2 (pc := 89) E dX8_foresee_89 ?_
      refine z_iconst (v := 1) (pc := 90) E dX8_foresee_90 (by decide) ?_
      refine z_icmp_ne (pc := 91) (tgt := 98) E dX8_foresee_91 (by decide) (fun h91 => ?_) (fun h91 => absurd h91 (by decide))
      refine z_aload_0 (pc := 98) E dX8_foresee_98 ?_
      refine z_get (pc := 99) E dX8_foresee_99 fiX8_25 ok11 rfl rfl ?_
      refine z_iconst (v := 2) (pc := 102) E dX8_foresee_102 (by decide) ?_
      refine z_ivp (pc := 103) E (m_X7_how _ 1 n _ (by decide) ((mgoN_6 (by decide) (by decide) _).trans ((becM_6 (by decide)).trans hn)) h40) rfl rfl kX7_how mlX8_132 dX8_foresee_103 (ok6 (by omega)) rfl rfl rfl (Nat.le_of_ble_eq_true rfl) rfl (by decide) (by decide) ⟨by omega, by omega⟩ ?_
      exact z_iret (pc := 106) E dX8_foresee_106 (Or.inl ⟨by unfold mforeseeK; rw [if_pos g13, if_pos g28], D, hD1, hD, rfl, rfl, rfl⟩)
    · have g28 : ¬ (0 ≤ w ∧ w ≤ 2) := b2_e0 h28
      refine z_aload_0 (pc := 31) E dX8_foresee_31 ?_
      refine z_iconst (v := 2) (pc := 32) E dX8_foresee_32 (by decide) ?_
      refine z_ivf (pc := 33) E (m_X8_no _ _) rfl rfl kX8_no mlX8_42 dX8_foresee_33 ok11 rfl rfl rfl (Nat.le_of_ble_eq_true rfl) rfl (by decide) (by decide) ⟨by omega, by omega⟩ ?_
      exact z_iret (pc := 36) E dX8_foresee_36 (Or.inr (mfail (e := 2) (by unfold mforeseeK; rw [if_pos g13, if_neg g28]) (by decide) rfl))
  · have g13 : ¬ (1 ≤ x ∧ x ≤ 200) := b2_e0 h13
    refine z_aload_0 (pc := 16) E dX8_foresee_16 ?_
    refine z_iconst (v := 1) (pc := 17) E dX8_foresee_17 (by decide) ?_
    refine z_ivf (pc := 18) E (m_X8_no _ _) rfl rfl kX8_no mlX8_42 dX8_foresee_18 ok11 rfl rfl rfl (Nat.le_of_ble_eq_true rfl) rfl (by decide) (by decide) ⟨by omega, by omega⟩ ?_
    exact z_iret (pc := 21) E dX8_foresee_21 (Or.inr (mfail (e := 1) (by unfold mforeseeK; rw [if_neg g13]) (by decide) rfl))

