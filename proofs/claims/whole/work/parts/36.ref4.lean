/-! the reference: pledge, digest -/
def prow (i : Nat) (k v w loan day : Int32) (q : Nat) : Nat → Int32 := upd (upd (upd (upd (upd (upd (upd (upd (upd (upd (upd (fun _ => 0) 0 (nI i)) 1 k) 2 v) 3 w) 4 loan) 5 (day + 60)) 6 0) 7 (nI q)) 8 0) 9 0) 10 day
theorem cpy_row {f g : Nat → Int32} {n j : Nat} (hj : j < 11) : va_cpy f g 0 (11 * n) 11 (11 * n + j) = f j := by
  unfold va_cpy
  rw [if_pos (by omega)]
  congr 1
  omega
theorem cpy_off {f g : Nat → Int32} {n q : Nat} (hq : q < 11 * n ∨ 11 * n + 11 ≤ q) : va_cpy f g 0 (11 * n) 11 q = g q := by
  unfold va_cpy
  rw [if_neg (by omega)]
theorem rset_kk {A B : Mem} {k s i : Nat} {f g : Nat → Int32} (hf : f = g) (h : ∀ k s i, k < 22 → A k s i = B k s i) : ∀ k' s' i', k' < 22 → rset A k s i f k' s' i' = rset B k s i g k' s' i' := fun k' s' i' hk => by
  subst hf
  unfold rset
  by_cases e : k' = k ∧ s' = s ∧ i' = i
  · rw [if_pos e, if_pos e]
  · rw [if_neg e, if_neg e]
    exact h k' s' i' hk
/-- the row of a new ticket -/
def mrowM (M : Mem) (i n q : Nat) (k v w : Int32) : Mem := rset (mset M 11 0 0 0 0) 9 0 0 (va_cpy (prow i k v w (loanV (M 8 0 0 i) v) (M 6 0 0 0) q) (M 9 0 0) 0 (11 * n) 11)
def mpledM (M : Mem) (i n q W : Nat) (k v w : Int32) : Mem := mset (mset (mset (mlayM (mrowM M i n q k v w) 0 n q W) 6 0 0 1 (M 6 0 0 1 - loanV (M 8 0 0 i) v)) 7 0 0 i (M 7 0 0 i + loanV (M 8 0 0 i) v)) 6 0 0 2 (nI (n + 1))

def mpledgeK (M : Mem) (c k v w : Int32) : Nat := if 0 ≤ c ∧ c ≤ M 11 0 0 1 - 1 then if (0 ≤ k ∧ k ≤ 4) ∧ (1 ≤ v ∧ v ≤ 500) ∧ (1 ≤ w ∧ w ≤ 10) then if (¬ (M 6 0 0 2 = 40)) ∧ (¬ (M 6 0 0 1 < loanV (M 8 0 0 c.toNatClampNeg) v)) ∧ (¬ (mgapF M 0 w 3 0 = -1)) then 0 else 3 else 2 else 1

set_option maxRecDepth 100000 in
set_option maxHeartbeats 4000000 in
theorem m_X8_pledge (M : Mem) (n cN : Nat) (c k v w : Int32) (hn : M 6 0 0 2 = nI n) (h40 : n ≤ 40) (hc : M 11 0 0 1 = nI cN) (h10 : cN ≤ 10) : CI yX8_pledge cX8_pledge 8 (some .int) 2 1 11 (fun G => [.ref (ad G 11 0 0), .int c, .int k, .int v, .int w]) M (fun r M' => (mpledgeK M c k v w = 0 ∧ ∃ i W q, i < cN ∧ 1 ≤ W ∧ W ≤ 10 ∧ q + W ≤ 60 ∧ n < 40 ∧ c = nI i ∧ w = nI W ∧ mgapF M 0 (nI W) 3 0 = nI q ∧ r = nI n ∧ M' = mpledM M i n q W k v w) ∨ (¬ mpledgeK M c k v w = 0 ∧ M' = mset M 11 0 0 0 (nI (mpledgeK M c k v w)))) := by
  refine CI.mk (own := RX8) (by decide +kernel) rfl (fun _ => rfl) (fun _ => Nat.le_of_ble_eq_true rfl) (lv0 := fun G => [some (.ref (ad G 11 0 0)), some (.int c), some (.int k), some (.int v), some (.int w), none, none, none]) (fun _ => rfl) (fun X G E => ?_)
  refine z_aload_0 (pc := 0) E dX8_pledge_0 ?_
  refine z_iconst (v := 0) (pc := 1) E dX8_pledge_1 (by decide) ?_
  refine z_put (pc := 2) E dX8_pledge_2 fiX8_28 fpX8_0 ok11 rfl rfl (Nat.le_of_ble_eq_true rfl) ?_
  refine z_aload_0 (pc := 5) E dX8_pledge_5 ?_
  refine z_iload_1 (pc := 6) E dX8_pledge_6 ?_
  refine z_ivp (pc := 7) E (m_X8_isCustomer _ _) rfl rfl kX8_isCustomer mlX8_52 dX8_pledge_7 ok11 rfl rfl rfl (Nat.le_of_ble_eq_true rfl) rfl (by decide) (by decide) ⟨by omega, by omega⟩ ?_
  refine z_if_ne (pc := 10) (tgt := 19) E dX8_pledge_10 (by decide) (fun h10 => ?_) (fun h10 => ?_)
  · have g10 : 0 ≤ c ∧ c ≤ M 11 0 0 1 - 1 := b2_n0 h10
    obtain ⟨i, hi, rfl⟩ := ix_of (hc_rw hc g10) (by omega)
    refine z_iload_2 (pc := 19) E dX8_pledge_19 ?_
    refine z_iconst (v := 0) (pc := 20) E dX8_pledge_20 (by decide) ?_
    refine z_iconst (v := 4) (pc := 21) E dX8_pledge_21 (by decide) ?_
    refine z_isp (pc := 22) E (m_X8_isIn _ _ _ _) rfl rfl kX8_isIn mlX8_35 dX8_pledge_22 rfl (Nat.le_of_ble_eq_true rfl) rfl (by decide) (by decide) ⟨by omega, by omega⟩ ?_
    refine z_if_eq (pc := 25) (tgt := 50) E dX8_pledge_25 (by decide) (fun h25 => ?_) (fun h25 => ?_)
    · have g25 : ¬ (0 ≤ k ∧ k ≤ 4) := b2_e0 h25
      refine z_aload_0 (pc := 50) E dX8_pledge_50 ?_
      refine z_iconst (v := 2) (pc := 51) E dX8_pledge_51 (by decide) ?_
      refine z_ivf (pc := 52) E (m_X8_no _ _) rfl rfl kX8_no mlX8_42 dX8_pledge_52 ok11 rfl rfl rfl (Nat.le_of_ble_eq_true rfl) rfl (by decide) (by decide) ⟨by omega, by omega⟩ ?_
      refine z_widen (c1 := 1) (s1 := 11) (by omega) (by omega) ?_
      exact z_iret (pc := 55) E dX8_pledge_55 (Or.inr (mfail (e := 2) (by unfold mpledgeK; rw [nI_clamp (n31 (show i ≤ 1000 by omega)), if_pos g10, if_neg (fun z => g25 z.1)]) (by decide) rfl))
    · have g25 : 0 ≤ k ∧ k ≤ 4 := b2_n0 h25
      refine z_iload_3 (pc := 28) E dX8_pledge_28 ?_
      refine z_iconst (v := 1) (pc := 29) E dX8_pledge_29 (by decide) ?_
      refine z_sipush (v := 500) (pc := 30) E dX8_pledge_30 (by decide) ?_
      refine z_isp (pc := 33) E (m_X8_isIn _ _ _ _) rfl rfl kX8_isIn mlX8_35 dX8_pledge_33 rfl (Nat.le_of_ble_eq_true rfl) rfl (by decide) (by decide) ⟨by omega, by omega⟩ ?_
      refine z_if_eq (pc := 36) (tgt := 50) E dX8_pledge_36 (by decide) (fun h36 => ?_) (fun h36 => ?_)
      · have g36 : ¬ (1 ≤ v ∧ v ≤ 500) := b2_e0 h36
        refine z_aload_0 (pc := 50) E dX8_pledge_50 ?_
        refine z_iconst (v := 2) (pc := 51) E dX8_pledge_51 (by decide) ?_
        refine z_ivf (pc := 52) E (m_X8_no _ _) rfl rfl kX8_no mlX8_42 dX8_pledge_52 ok11 rfl rfl rfl (Nat.le_of_ble_eq_true rfl) rfl (by decide) (by decide) ⟨by omega, by omega⟩ ?_
        refine z_widen (c1 := 1) (s1 := 11) (by omega) (by omega) ?_
        exact z_iret (pc := 55) E dX8_pledge_55 (Or.inr (mfail (e := 2) (by unfold mpledgeK; rw [nI_clamp (n31 (show i ≤ 1000 by omega)), if_pos g10, if_neg (fun z => g36 z.2.1)]) (by decide) rfl))
      · have g36 : 1 ≤ v ∧ v ≤ 500 := b2_n0 h36
        refine z_iload_4 (pc := 39) E dX8_pledge_39 ?_
        refine z_iconst (v := 1) (pc := 41) E dX8_pledge_41 (by decide) ?_
        refine z_bipush (v := 10) (pc := 42) E dX8_pledge_42 (by decide) ?_
        refine z_isp (pc := 44) E (m_X8_isIn _ _ _ _) rfl rfl kX8_isIn mlX8_35 dX8_pledge_44 rfl (Nat.le_of_ble_eq_true rfl) rfl (by decide) (by decide) ⟨by omega, by omega⟩ ?_
        refine z_if_ne (pc := 47) (tgt := 56) E dX8_pledge_47 (by decide) (fun h47 => ?_) (fun h47 => ?_)
        · have g47 : 1 ≤ w ∧ w ≤ 10 := b2_n0 h47
          obtain ⟨W, hW1, hW, rfl⟩ := ix_n (n := 10) g47 rfl (by decide)
          refine z_iconst (v := 1) (pc := 56) E dX8_pledge_56 (by decide) ?_
          refine z_iload_3 (pc := 57) E dX8_pledge_57 ?_
          refine z_bipush (v := 40) (pc := 58) E dX8_pledge_58 (by decide) ?_
          refine z_iconst (v := 4) (pc := 60) E dX8_pledge_60 (by decide) ?_
          refine z_aload_0 (pc := 61) E dX8_pledge_61 ?_
          refine z_get (pc := 62) E dX8_pledge_62 fiX8_21 ok11 rfl rfl ?_
          refine z_getN (pc := 65) E dX8_pledge_65 fiX8_49 (ok6 (by omega)) rfl rfl ?_
          refine z_iload_1 (pc := 68) E dX8_pledge_68 ?_
          refine z_iald (pc := 69) E dX8_pledge_69 (ok8 (by omega)) rfl rfl (by omega) (by omega) ?_
          refine z_imul (pc := 70) E dX8_pledge_70 ?_
          refine z_iadd (pc := 71) E dX8_pledge_71 ?_
          refine z_imul (pc := 72) E dX8_pledge_72 ?_
          refine z_bipush (v := 100) (pc := 73) E dX8_pledge_73 (by decide) ?_
          refine z_idiv (pc := 75) E dX8_pledge_75 (by decide) ?_
          refine z_max (pc := 76) E dX8_pledge_76 mlX8_66 rfl (by decide) (Nat.le_of_ble_eq_true rfl) ⟨by omega, by omega⟩ ?_
          refine z_istore_5 (pc := 79) E dX8_pledge_79 rfl ?_
          refine z_aload_0 (pc := 81) E dX8_pledge_81 ?_
          refine z_get (pc := 82) E dX8_pledge_82 fiX8_21 ok11 rfl rfl ?_
          refine z_iload_4 (pc := 85) E dX8_pledge_85 ?_
          refine z_ivp (pc := 87) E (m_X7_gap _ 0 W (by decide) hW1 (by omega)) rfl rfl kX7_gap mlX8_71 dX8_pledge_87 (ok6 (by omega)) rfl rfl rfl (Nat.le_of_ble_eq_true rfl) rfl (by decide) (by decide) ⟨by omega, by omega⟩ ?_
          rw [show mgapF (mset M 11 0 0 0 0) 0 (nI W) 3 0 = mgapF M 0 (nI W) 3 0 from mgapF_k rfl _ _ _]
          refine z_istore_6 (pc := 90) E dX8_pledge_90 rfl ?_
          refine z_aload_0 (pc := 92) E dX8_pledge_92 ?_
          refine z_get (pc := 93) E dX8_pledge_93 fiX8_21 ok11 rfl rfl ?_
          refine z_getN (pc := 96) E dX8_pledge_96 fiX8_39 (ok6 (by omega)) rfl rfl ?_
          refine z_bipush (v := 40) (pc := 99) E dX8_pledge_99 (by decide) ?_
          refine z_icmp_eq (pc := 101) (tgt := 122) E dX8_pledge_101 (by decide) (fun h101 => ?_) (fun h101 => ?_)
          · have g101 : ¬ (¬ (M 6 0 0 2 = 40)) := not_not_intro h101
            refine z_aload_0 (pc := 122) E dX8_pledge_122 ?_
            refine z_iconst (v := 3) (pc := 123) E dX8_pledge_123 (by decide) ?_
            refine z_ivf (pc := 124) E (m_X8_no _ _) rfl rfl kX8_no mlX8_42 dX8_pledge_124 ok11 rfl rfl rfl (Nat.le_of_ble_eq_true rfl) rfl (by decide) (by decide) ⟨by omega, by omega⟩ ?_
            refine z_widen (c1 := 1) (s1 := 11) (by omega) (by omega) ?_
            exact z_iret (pc := 127) E dX8_pledge_127 (Or.inr (mfail (e := 3) (by unfold mpledgeK; rw [nI_clamp (n31 (show i ≤ 1000 by omega)), if_pos g10, if_pos (⟨g25, g36, g47⟩ : _ ∧ _), if_neg (fun z => g101 z.1)]) (by decide) rfl))
          · have g101 : ¬ (M 6 0 0 2 = 40) := h101
            refine z_iload_5 (pc := 104) E dX8_pledge_104 ?_
            refine z_aload_0 (pc := 106) E dX8_pledge_106 ?_
            refine z_get (pc := 107) E dX8_pledge_107 fiX8_21 ok11 rfl rfl ?_
            refine z_getN (pc := 110) E dX8_pledge_110 fiX8_74 (ok6 (by omega)) rfl rfl ?_
            refine z_icmp_gt (pc := 113) (tgt := 122) E dX8_pledge_113 (by decide) (fun h113 => ?_) (fun h113 => ?_)
            · have g113 : ¬ (¬ (M 6 0 0 1 < loanV (M 8 0 0 i) v)) := not_not_intro h113
              refine z_aload_0 (pc := 122) E dX8_pledge_122 ?_
              refine z_iconst (v := 3) (pc := 123) E dX8_pledge_123 (by decide) ?_
              refine z_ivf (pc := 124) E (m_X8_no _ _) rfl rfl kX8_no mlX8_42 dX8_pledge_124 ok11 rfl rfl rfl (Nat.le_of_ble_eq_true rfl) rfl (by decide) (by decide) ⟨by omega, by omega⟩ ?_
              refine z_widen (c1 := 1) (s1 := 11) (by omega) (by omega) ?_
              exact z_iret (pc := 127) E dX8_pledge_127 (Or.inr (mfail (e := 3) (by unfold mpledgeK; rw [nI_clamp (n31 (show i ≤ 1000 by omega)), if_pos g10, if_pos (⟨g25, g36, g47⟩ : _ ∧ _), if_neg (fun z => g113 z.2.1)]) (by decide) rfl))
            · have g113 : ¬ (M 6 0 0 1 < loanV (M 8 0 0 i) v) := h113
              refine z_iload_6 (pc := 116) E dX8_pledge_116 ?_
              refine z_iconst (v := -1) (pc := 118) E dX8_pledge_118 (by decide) ?_
              refine z_icmp_ne (pc := 119) (tgt := 128) E dX8_pledge_119 (by decide) (fun h119 => ?_) (fun h119 => ?_)
              · have g119 : ¬ (mgapF M 0 (nI W) 3 0 = -1) := h119
                obtain ⟨q, hq, he⟩ := (mgap_rng M 0 hW1 (by omega) 3 0 rfl).resolve_left g119
                rw [he]
                have h9 : n < 40 := Nat.lt_of_le_of_ne h40 (fun z => g101 (by rw [hn, z]; rfl))
                refine z_bipush (v := 11) (pc := 128) E dX8_pledge_128 (by decide) ?_
                refine z_newi (n := 11) (pc := 130) E dX8_pledge_130 rfl (by decide) (by omega) (by omega) (fun a ha => ?_)
                refine z_dup (pc := 132) E dX8_pledge_132 rfl ?_
                refine z_iconst (v := 0) (pc := 133) E dX8_pledge_133 (by decide) ?_
                refine z_iload_1 (pc := 134) E dX8_pledge_134 ?_
                refine z_ttast (pc := 135) E ha dX8_pledge_135 (show (0 : Int32) = nI 0 from rfl) (by decide) (by decide) ?_
                refine z_dup (pc := 136) E dX8_pledge_136 rfl ?_
                refine z_iconst (v := 1) (pc := 137) E dX8_pledge_137 (by decide) ?_
                refine z_iload_2 (pc := 138) E dX8_pledge_138 ?_
                refine z_ttast (pc := 139) E ha dX8_pledge_139 (show (1 : Int32) = nI 1 from rfl) (by decide) (by decide) ?_
                refine z_dup (pc := 140) E dX8_pledge_140 rfl ?_
                refine z_iconst (v := 2) (pc := 141) E dX8_pledge_141 (by decide) ?_
                refine z_iload_3 (pc := 142) E dX8_pledge_142 ?_
                refine z_ttast (pc := 143) E ha dX8_pledge_143 (show (2 : Int32) = nI 2 from rfl) (by decide) (by decide) ?_
                refine z_dup (pc := 144) E dX8_pledge_144 rfl ?_
                refine z_iconst (v := 3) (pc := 145) E dX8_pledge_145 (by decide) ?_
                refine z_iload_4 (pc := 146) E dX8_pledge_146 ?_
                refine z_ttast (pc := 148) E ha dX8_pledge_148 (show (3 : Int32) = nI 3 from rfl) (by decide) (by decide) ?_
                refine z_dup (pc := 149) E dX8_pledge_149 rfl ?_
                refine z_iconst (v := 4) (pc := 150) E dX8_pledge_150 (by decide) ?_
                refine z_iload_5 (pc := 151) E dX8_pledge_151 ?_
                refine z_ttast (pc := 153) E ha dX8_pledge_153 (show (4 : Int32) = nI 4 from rfl) (by decide) (by decide) ?_
                refine z_dup (pc := 154) E dX8_pledge_154 rfl ?_
                refine z_iconst (v := 5) (pc := 155) E dX8_pledge_155 (by decide) ?_
                refine z_aload_0 (pc := 156) E dX8_pledge_156 ?_
                refine z_get (pc := 157) E dX8_pledge_157 fiX8_21 ok11 rfl rfl ?_
                refine z_getN (pc := 160) E dX8_pledge_160 fiX8_77 (ok6 (by omega)) rfl rfl ?_
                refine z_bipush (v := 60) (pc := 163) E dX8_pledge_163 (by decide) ?_
                refine z_iadd (pc := 165) E dX8_pledge_165 ?_
                refine z_ttast (pc := 166) E ha dX8_pledge_166 (show (5 : Int32) = nI 5 from rfl) (by decide) (by decide) ?_
                refine z_dup (pc := 167) E dX8_pledge_167 rfl ?_
                refine z_bipush (v := 6) (pc := 168) E dX8_pledge_168 (by decide) ?_
                refine z_iconst (v := 0) (pc := 170) E dX8_pledge_170 (by decide) ?_
                refine z_ttast (pc := 171) E ha dX8_pledge_171 (show (6 : Int32) = nI 6 from rfl) (by decide) (by decide) ?_
                refine z_dup (pc := 172) E dX8_pledge_172 rfl ?_
                refine z_bipush (v := 7) (pc := 173) E dX8_pledge_173 (by decide) ?_
                refine z_iload_6 (pc := 175) E dX8_pledge_175 ?_
                refine z_ttast (pc := 177) E ha dX8_pledge_177 (show (7 : Int32) = nI 7 from rfl) (by decide) (by decide) ?_
                refine z_dup (pc := 178) E dX8_pledge_178 rfl ?_
                refine z_bipush (v := 8) (pc := 179) E dX8_pledge_179 (by decide) ?_
                refine z_iconst (v := 0) (pc := 181) E dX8_pledge_181 (by decide) ?_
                refine z_ttast (pc := 182) E ha dX8_pledge_182 (show (8 : Int32) = nI 8 from rfl) (by decide) (by decide) ?_
                refine z_dup (pc := 183) E dX8_pledge_183 rfl ?_
                refine z_bipush (v := 9) (pc := 184) E dX8_pledge_184 (by decide) ?_
                refine z_iconst (v := 0) (pc := 186) E dX8_pledge_186 (by decide) ?_
                refine z_ttast (pc := 187) E ha dX8_pledge_187 (show (9 : Int32) = nI 9 from rfl) (by decide) (by decide) ?_
                refine z_dup (pc := 188) E dX8_pledge_188 rfl ?_
                refine z_bipush (v := 10) (pc := 189) E dX8_pledge_189 (by decide) ?_
                refine z_aload_0 (pc := 191) E dX8_pledge_191 ?_
                refine z_get (pc := 192) E dX8_pledge_192 fiX8_21 ok11 rfl rfl ?_
                refine z_getN (pc := 195) E dX8_pledge_195 fiX8_77 (ok6 (by omega)) rfl rfl ?_
                refine z_ttast (pc := 198) E ha dX8_pledge_198 (show (10 : Int32) = nI 10 from rfl) (by decide) (by decide) ?_
                refine z_astore_7 (pc := 199) E dX8_pledge_199 rfl ?_
                refine z_aload_7 (pc := 201) E dX8_pledge_201 ?_
                refine z_iconst (v := 0) (pc := 203) E dX8_pledge_203 (by decide) ?_
                refine z_aload_0 (pc := 204) E dX8_pledge_204 ?_
                refine z_get (pc := 205) E dX8_pledge_205 fiX8_21 ok11 rfl rfl ?_
                refine z_getN (pc := 208) E dX8_pledge_208 fiX8_80 (ok6 (by omega)) rfl rfl ?_
                refine z_bipush (v := 11) (pc := 211) E dX8_pledge_211 (by decide) ?_
                refine z_aload_0 (pc := 213) E dX8_pledge_213 ?_
                refine z_get (pc := 214) E dX8_pledge_214 fiX8_21 ok11 rfl rfl ?_
                refine z_getN (pc := 217) E dX8_pledge_217 fiX8_39 (ok6 (by omega)) rfl rfl ?_
                refine z_imul (pc := 220) E dX8_pledge_220 ?_
                refine z_top (y := nI (11 * n)) (by show nI (11 * n) = 11 * M 6 0 0 2; rw [hn, show (11 : Int32) = nI 11 from rfl, pk_mul]) ?_
                refine z_bipush (v := 11) (pc := 221) E dX8_pledge_221 (by decide) ?_
                refine z_copyT (pc := 223) (sp := 0) (dp := 11 * n) (n := 11) (n0 := 11) E ha dX8_pledge_223 mlX8_83 (ok9 (by decide)) (fun _ => rfl) (by decide) (by decide) (by omega) (by decide) (by decide) (Nat.le_of_ble_eq_true rfl) rfl (by decide) ?_
                refine z_m22 (mrowM M i n q k v (nI W)) (rset_kk ?_ (fun k s i hk => ?_)) ?_
                · rw [mset_cell, mset_cell, mset_cell, mset_cell, mset_cell, mset_cell, mset_cell, mset_cell, mset_cell, mset_cell, mset_cell, rset_cell]
                  rfl
                · have hk2 : ¬ k = 22 := by omega
                  rw [mset_k hk2, mset_k hk2, mset_k hk2, mset_k hk2, mset_k hk2, mset_k hk2, mset_k hk2, mset_k hk2, mset_k hk2, mset_k hk2, mset_k hk2, m22_of hk2]
                refine z_aload_0 (pc := 226) E dX8_pledge_226 ?_
                refine z_get (pc := 227) E dX8_pledge_227 fiX8_21 ok11 rfl rfl ?_
                refine z_aload_0 (pc := 230) E dX8_pledge_230 ?_
                refine z_get (pc := 231) E dX8_pledge_231 fiX8_21 ok11 rfl rfl ?_
                refine z_getN (pc := 234) E dX8_pledge_234 fiX8_39 (ok6 (by omega)) rfl rfl ?_
                refine z_top (y := nI n) hn.symm ?_
                refine z_iload_6 (pc := 237) E dX8_pledge_237 ?_
                refine z_vvf (pc := 239) E (m_X7_lay _ 0 n q W (by decide) h9 (show rset _ 9 0 0 _ 9 0 0 (11 * n + 3) = _ from by rw [rset_cell, cpy_row (by decide)]; rfl) hq) rfl rfl kX7_lay mlX8_89 dX8_pledge_239 (ok6 (by omega)) rfl rfl rfl (Nat.le_of_ble_eq_true rfl) rfl (by decide) (by decide) ⟨by omega, by omega⟩ ?_
                refine z_aload_0 (pc := 242) E dX8_pledge_242 ?_
                refine z_get (pc := 243) E dX8_pledge_243 fiX8_21 ok11 rfl rfl ?_
                refine z_dup (pc := 246) E dX8_pledge_246 rfl ?_
                refine z_getN (pc := 247) E dX8_pledge_247 fiX8_74 (ok6 (by omega)) rfl rfl ?_
                refine z_iload_5 (pc := 250) E dX8_pledge_250 ?_
                refine z_isub (pc := 252) E dX8_pledge_252 ?_
                refine z_putN (pc := 253) E dX8_pledge_253 fiX8_74 fpX7_1 (ok6 (by omega)) rfl rfl (Nat.le_of_ble_eq_true rfl) ?_
                refine z_aload_0 (pc := 256) E dX8_pledge_256 ?_
                refine z_get (pc := 257) E dX8_pledge_257 fiX8_21 ok11 rfl rfl ?_
                refine z_getN (pc := 260) E dX8_pledge_260 fiX8_46 (ok6 (by omega)) rfl rfl ?_
                refine z_iload_1 (pc := 263) E dX8_pledge_263 ?_
                refine z_dup2 (pc := 264) E dX8_pledge_264 rfl rfl ?_
                refine z_iald (pc := 265) E dX8_pledge_265 (ok7 (by omega)) rfl rfl (by omega) (by omega) ?_
                refine z_iload_5 (pc := 266) E dX8_pledge_266 ?_
                refine z_iadd (pc := 268) E dX8_pledge_268 ?_
                refine z_iast (pc := 269) E dX8_pledge_269 (ok7 (by omega)) (fun _ => rfl) rfl (by omega) (by omega) ?_
                refine z_aload_0 (pc := 270) E dX8_pledge_270 ?_
                refine z_get (pc := 271) E dX8_pledge_271 fiX8_21 ok11 rfl rfl ?_
                refine z_dup (pc := 274) E dX8_pledge_274 rfl ?_
                refine z_getN (pc := 275) E dX8_pledge_275 fiX8_39 (ok6 (by omega)) rfl rfl ?_
                refine z_iconst (v := 1) (pc := 278) E dX8_pledge_278 (by decide) ?_
                refine z_iadd (pc := 279) E dX8_pledge_279 ?_
                refine z_putN (pc := 280) E dX8_pledge_280 fiX8_39 fpX7_2 (ok6 (by omega)) rfl rfl (Nat.le_of_ble_eq_true rfl) ?_
                refine z_aload_0 (pc := 283) E dX8_pledge_283 ?_
                refine z_get (pc := 284) E dX8_pledge_284 fiX8_21 ok11 rfl rfl ?_
                refine z_getN (pc := 287) E dX8_pledge_287 fiX8_39 (ok6 (by omega)) rfl rfl ?_
                refine z_iconst (v := 1) (pc := 290) E dX8_pledge_290 (by decide) ?_
                refine z_isub (pc := 291) E dX8_pledge_291 ?_
                refine z_widen (c1 := 1) (s1 := 11) (by omega) (by omega) ?_
                exact z_iret (pc := 292) E dX8_pledge_292 (Or.inl ⟨by unfold mpledgeK; rw [nI_clamp (n31 (show i ≤ 1000 by omega)), if_pos g10, if_pos (⟨g25, g36, g47⟩ : _ ∧ _), if_pos (⟨g101, g113, g119⟩ : _ ∧ _)], i, W, q, hi, hW1, hW, hq, h9, rfl, rfl, he, by show M 6 0 0 2 + 1 - 1 = _; rw [hn, nI_1, nI_s1], congrArg (mset _ 6 0 0 2) (show M 6 0 0 2 + 1 = _ from by rw [hn, nI_1])⟩)
              · have g119 : ¬ (¬ (mgapF M 0 (nI W) 3 0 = -1)) := not_not_intro h119
                refine z_aload_0 (pc := 122) E dX8_pledge_122 ?_
                refine z_iconst (v := 3) (pc := 123) E dX8_pledge_123 (by decide) ?_
                refine z_ivf (pc := 124) E (m_X8_no _ _) rfl rfl kX8_no mlX8_42 dX8_pledge_124 ok11 rfl rfl rfl (Nat.le_of_ble_eq_true rfl) rfl (by decide) (by decide) ⟨by omega, by omega⟩ ?_
                refine z_widen (c1 := 1) (s1 := 11) (by omega) (by omega) ?_
                exact z_iret (pc := 127) E dX8_pledge_127 (Or.inr (mfail (e := 3) (by unfold mpledgeK; rw [nI_clamp (n31 (show i ≤ 1000 by omega)), if_pos g10, if_pos (⟨g25, g36, g47⟩ : _ ∧ _), if_neg (fun z => g119 z.2.2)]) (by decide) rfl))
        · have g47 : ¬ (1 ≤ w ∧ w ≤ 10) := b2_e0 h47
          refine z_aload_0 (pc := 50) E dX8_pledge_50 ?_
          refine z_iconst (v := 2) (pc := 51) E dX8_pledge_51 (by decide) ?_
          refine z_ivf (pc := 52) E (m_X8_no _ _) rfl rfl kX8_no mlX8_42 dX8_pledge_52 ok11 rfl rfl rfl (Nat.le_of_ble_eq_true rfl) rfl (by decide) (by decide) ⟨by omega, by omega⟩ ?_
          refine z_widen (c1 := 1) (s1 := 11) (by omega) (by omega) ?_
          exact z_iret (pc := 55) E dX8_pledge_55 (Or.inr (mfail (e := 2) (by unfold mpledgeK; rw [nI_clamp (n31 (show i ≤ 1000 by omega)), if_pos g10, if_neg (fun z => g47 z.2.2)]) (by decide) rfl))
  · have g10 : ¬ (0 ≤ c ∧ c ≤ M 11 0 0 1 - 1) := b2_e0 h10
    refine z_aload_0 (pc := 13) E dX8_pledge_13 ?_
    refine z_iconst (v := 1) (pc := 14) E dX8_pledge_14 (by decide) ?_
    refine z_ivf (pc := 15) E (m_X8_no _ _) rfl rfl kX8_no mlX8_42 dX8_pledge_15 ok11 rfl rfl rfl (Nat.le_of_ble_eq_true rfl) rfl (by decide) (by decide) ⟨by omega, by omega⟩ ?_
    refine z_widen (c1 := 1) (s1 := 11) (by omega) (by omega) ?_
    exact z_iret (pc := 18) E dX8_pledge_18 (Or.inr (mfail (e := 1) (by unfold mpledgeK; rw [if_neg g10]) (by decide) rfl))

def mdgB (M : Mem) : Nat → Int64 → Int64
  | 0, d => d
  | k + 1, d => dg (dg (mdgB M k d) (M 12 0 0 k)) (M 13 0 0 k)
def mdgC (M : Mem) (n : Nat) : Nat → Int64 → Int64
  | 0, d => d
  | k + 1, d => dgN (mcustV M n k) 5 (mdgC M n k d)
def mdgT (M : Mem) : Nat → Int64 → Int64
  | 0, d => d
  | k + 1, d => dg (dgN (mtickV M k) 11 (mdgT M k d)) (owedV M 0 k)
def mdgA (M : Mem) (n cN : Nat) : Int64 := mdgT M n (mdgC M n cN (mdgB M 7 (dgN (mcntV M n) 11 719)))

theorem gt_no {a : Int32} {n t : Nat} (ha : a = nI n) (h : t ≤ n) (hn : n ≤ 1000) : ¬ a < nI t := by
  rw [ha]
  exact Int32.not_lt.mpr (nI_le h (n31 hn))
theorem z_cs {X : PX} {G : GT} {T : Nat × Nat} {Q : State → Prop} {pc : Nat} {lv : List (Option Value)} {st : List Value} {M : Mem} {c1 s1 c2 s2 : Nat} (h1 : c1 = c2) (h2 : s1 = s2) (kk : Z X G T Q pc lv st M c1 s1) : Z X G T Q pc lv st M c2 s2 := by
  subst h1
  subst h2
  exact kk

set_option maxRecDepth 100000 in
set_option maxHeartbeats 4000000 in
theorem m_X8_digest (M : Mem) (n cN : Nat) (hn : M 6 0 0 2 = nI n) (h40 : n ≤ 40) (hc : M 11 0 0 1 = nI cN) (h10 : cN ≤ 10) (hf : ∀ t, t < n → oc M 0 t 7 = -1 ∨ ∃ q, q < 60 ∧ oc M 0 t 7 = nI q) : CL yX8_digest cX8_digest 5 (some .long) 5 11 121 (fun G => [.ref (ad G 11 0 0)]) M (fun r M' => r = mdgA (mset M 11 0 0 0 0) n cN ∧ M' = (mset M 11 0 0 0 0)) := by
  refine CL.mk (own := RX8) (by decide +kernel) rfl (fun _ => rfl) (fun _ => Nat.le_of_ble_eq_true rfl) (lv0 := fun G => [some (.ref (ad G 11 0 0)), none, none, none, none]) (fun _ => rfl) (fun X G E => ?_)
  have L4 : ∀ (k j : Nat) (v4 : Option Value), j + k = n → Z X G (0, 0) (QL X G (fun r M' => r = mdgA (mset M 11 0 0 0 0) n cN ∧ M' = (mset M 11 0 0 0 0)) 11 121) 124 [some (.ref (ad G 11 0 0)), some (.long (mdgT (mset M 11 0 0 0 0) j (mdgC (mset M 11 0 0 0 0) n cN (mdgB (mset M 11 0 0 0 0) 7 (dgN (mcntV (mset M 11 0 0 0 0) n) 11 719))))), none, some (.int (nI j)), v4] [] (mset M 11 0 0 0 0) 11 121 := by
    intro k
    induction k with
    | zero =>
      intro j v4 hj
      obtain rfl : j = n := by omega
      refine z_iload_3 (pc := 124) E dX8_digest_124 ?_
      refine z_aload_0 (pc := 125) E dX8_digest_125 ?_
      refine z_get (pc := 126) E dX8_digest_126 fiX8_21 ok11 rfl rfl ?_
      refine z_getN (pc := 129) E dX8_digest_129 fiX8_39 (ok6 (by omega)) rfl rfl ?_
      refine z_icmp_ge (pc := 132) (tgt := 188) E dX8_digest_132 (by decide) (fun h132 => ?_) (fun h132 => absurd h132 (fun z => z (ct_ge hn (by omega) (by omega))))
      refine z_lload_1 (pc := 188) E dX8_digest_188 ?_
      exact z_lret (pc := 189) E dX8_digest_189 ⟨rfl, rfl⟩
    | succ k ih =>
      intro j v4 hj
      have L5 : ∀ (m q : Nat), q + m = 11 → Z X G (0, 0) (QL X G (fun r M' => r = mdgA (mset M 11 0 0 0 0) n cN ∧ M' = (mset M 11 0 0 0 0)) 11 121) 138 [some (.ref (ad G 11 0 0)), some (.long (dgN (mtickV (mset M 11 0 0 0 0) j) q (mdgT (mset M 11 0 0 0 0) j (mdgC (mset M 11 0 0 0 0) n cN (mdgB (mset M 11 0 0 0 0) 7 (dgN (mcntV (mset M 11 0 0 0 0) n) 11 719)))))), none, some (.int (nI j)), some (.int (nI q))] [] (mset M 11 0 0 0 0) 11 121 := by
        intro m
        induction m with
        | zero =>
          intro q hq
          obtain rfl : q = 11 := by omega
          refine z_iload_4 (pc := 138) E dX8_digest_138 ?_
          refine z_bipush (v := 10) (pc := 140) E dX8_digest_140 (by decide) ?_
          refine z_icmp_gt (pc := 142) (tgt := 166) E dX8_digest_142 (by decide) (fun h142 => ?_) (fun h142 => absurd h142 (fun z => z (by decide)))
          refine z_lload_1 (pc := 166) E dX8_digest_166 ?_
          refine z_ldc2 (pc := 167) E dX8_digest_167 ckX8_144 ?_
          refine z_lmul (pc := 170) E dX8_digest_170 ?_
          refine z_aload_0 (pc := 171) E dX8_digest_171 ?_
          refine z_get (pc := 172) E dX8_digest_172 fiX8_21 ok11 rfl rfl ?_
          refine z_iload_3 (pc := 175) E dX8_digest_175 ?_
          refine z_ivp (pc := 176) E (m_X7_owed _ 0 _ (by decide) (by omega)) rfl rfl kX7_owed mlX8_60 dX8_digest_176 (ok6 (by omega)) rfl rfl rfl (Nat.le_of_ble_eq_true rfl) rfl (by decide) (by decide) ⟨by omega, by omega⟩ ?_
          refine z_i2l (pc := 179) E dX8_digest_179 ?_
          refine z_ladd (pc := 180) E dX8_digest_180 ?_
          refine z_lstore_1 (pc := 181) E dX8_digest_181 rfl ?_
          refine z_iinc_3 (pc := 182) E dX8_digest_182 (nI_1 j) rfl ?_
          refine z_goto (pc := 185) (tgt := 124) E dX8_digest_185 (by decide) ?_
          exact ih (j + 1) _ (by omega)
        | succ m ih2 =>
          intro q hq
          refine z_iload_4 (pc := 138) E dX8_digest_138 ?_
          refine z_bipush (v := 10) (pc := 140) E dX8_digest_140 (by decide) ?_
          refine z_icmp_gt (pc := 142) (tgt := 166) E dX8_digest_142 (by decide) (fun h142 => absurd h142 (gt_no (n := 10) rfl (by omega) (by omega))) (fun h142 => ?_)
          refine z_lload_1 (pc := 145) E dX8_digest_145 ?_
          refine z_ldc2 (pc := 146) E dX8_digest_146 ckX8_144 ?_
          refine z_lmul (pc := 149) E dX8_digest_149 ?_
          refine z_aload_0 (pc := 150) E dX8_digest_150 ?_
          refine z_iload_3 (pc := 151) E dX8_digest_151 ?_
          refine z_iload_4 (pc := 152) E dX8_digest_152 ?_
          refine z_ivp (pc := 154) E (m_X8_ticketTold _ _ _ (by omega) (hf j (by omega)) (by omega)) rfl rfl kX8_ticketTold mlX8_102 dX8_digest_154 ok11 rfl rfl rfl (Nat.le_of_ble_eq_true rfl) rfl (by decide) (by decide) ⟨by omega, by omega⟩ ?_
          refine z_i2l (pc := 157) E dX8_digest_157 ?_
          refine z_ladd (pc := 158) E dX8_digest_158 ?_
          refine z_lstore_1 (pc := 159) E dX8_digest_159 rfl ?_
          refine z_iinc_4 (pc := 160) E dX8_digest_160 (nI_1 q) rfl ?_
          refine z_goto (pc := 163) (tgt := 138) E dX8_digest_163 (by decide) ?_
          exact ih2 (q + 1) (by omega)
      refine z_iload_3 (pc := 124) E dX8_digest_124 ?_
      refine z_aload_0 (pc := 125) E dX8_digest_125 ?_
      refine z_get (pc := 126) E dX8_digest_126 fiX8_21 ok11 rfl rfl ?_
      refine z_getN (pc := 129) E dX8_digest_129 fiX8_39 (ok6 (by omega)) rfl rfl ?_
      refine z_icmp_ge (pc := 132) (tgt := 188) E dX8_digest_132 (by decide) (fun h132 => absurd h132 (ct_lt hn (by omega) (by omega))) (fun h132 => ?_)
      refine z_iconst (v := 0) (pc := 135) E dX8_digest_135 (by decide) ?_
      refine z_istore_4 (pc := 136) E dX8_digest_136 rfl ?_
      exact L5 11 0 (by omega)
  have L3 : ∀ (k j : Nat) (v4 : Option Value), j + k = cN → Z X G (0, 0) (QL X G (fun r M' => r = mdgA (mset M 11 0 0 0 0) n cN ∧ M' = (mset M 11 0 0 0 0)) 11 121) 78 [some (.ref (ad G 11 0 0)), some (.long (mdgC (mset M 11 0 0 0 0) n j (mdgB (mset M 11 0 0 0 0) 7 (dgN (mcntV (mset M 11 0 0 0 0) n) 11 719)))), none, some (.int (nI j)), v4] [] (mset M 11 0 0 0 0) 11 121 := by
    intro k
    induction k with
    | zero =>
      intro j v4 hj
      obtain rfl : j = cN := by omega
      refine z_iload_3 (pc := 78) E dX8_digest_78 ?_
      refine z_aload_0 (pc := 79) E dX8_digest_79 ?_
      refine z_get (pc := 80) E dX8_digest_80 fiX8_32 ok11 rfl rfl ?_
      refine z_icmp_ge (pc := 83) (tgt := 122) E dX8_digest_83 (by decide) (fun h83 => ?_) (fun h83 => absurd h83 (fun z => z (ct_ge hc (by omega) (by omega))))
      refine z_iconst (v := 0) (pc := 122) E dX8_digest_122 (by decide) ?_
      refine z_istore_3 (pc := 123) E dX8_digest_123 rfl ?_
      exact L4 n 0 _ (by omega)
    | succ k ih =>
      intro j v4 hj
      have L6 : ∀ (m q : Nat), q + m = 5 → Z X G (0, 0) (QL X G (fun r M' => r = mdgA (mset M 11 0 0 0 0) n cN ∧ M' = (mset M 11 0 0 0 0)) 11 121) 89 [some (.ref (ad G 11 0 0)), some (.long (dgN (mcustV (mset M 11 0 0 0 0) n j) q (mdgC (mset M 11 0 0 0 0) n j (mdgB (mset M 11 0 0 0 0) 7 (dgN (mcntV (mset M 11 0 0 0 0) n) 11 719))))), none, some (.int (nI j)), some (.int (nI q))] [] (mset M 11 0 0 0 0) 11 121 := by
        intro m
        induction m with
        | zero =>
          intro q hq
          obtain rfl : q = 5 := by omega
          refine z_iload_4 (pc := 89) E dX8_digest_89 ?_
          refine z_iconst (v := 4) (pc := 91) E dX8_digest_91 (by decide) ?_
          refine z_icmp_gt (pc := 92) (tgt := 116) E dX8_digest_92 (by decide) (fun h92 => ?_) (fun h92 => absurd h92 (fun z => z (by decide)))
          refine z_iinc_3 (pc := 116) E dX8_digest_116 (nI_1 j) rfl ?_
          refine z_goto (pc := 119) (tgt := 78) E dX8_digest_119 (by decide) ?_
          exact ih (j + 1) _ (by omega)
        | succ m ih2 =>
          intro q hq
          refine z_iload_4 (pc := 89) E dX8_digest_89 ?_
          refine z_iconst (v := 4) (pc := 91) E dX8_digest_91 (by decide) ?_
          refine z_icmp_gt (pc := 92) (tgt := 116) E dX8_digest_92 (by decide) (fun h92 => absurd h92 (gt_no (n := 4) rfl (by omega) (by omega))) (fun h92 => ?_)
          refine z_lload_1 (pc := 95) E dX8_digest_95 ?_
          refine z_ldc2 (pc := 96) E dX8_digest_96 ckX8_144 ?_
          refine z_lmul (pc := 99) E dX8_digest_99 ?_
          refine z_aload_0 (pc := 100) E dX8_digest_100 ?_
          refine z_iload_3 (pc := 101) E dX8_digest_101 ?_
          refine z_iload_4 (pc := 102) E dX8_digest_102 ?_
          refine z_ivp (pc := 104) E (m_X8_customerTold _ n _ _ hn h40 (by omega) (by omega)) rfl rfl kX8_customerTold mlX8_63 dX8_digest_104 ok11 rfl rfl rfl (Nat.le_of_ble_eq_true rfl) rfl (by decide) (by decide) ⟨by omega, by omega⟩ ?_
          refine z_i2l (pc := 107) E dX8_digest_107 ?_
          refine z_ladd (pc := 108) E dX8_digest_108 ?_
          refine z_lstore_1 (pc := 109) E dX8_digest_109 rfl ?_
          refine z_iinc_4 (pc := 110) E dX8_digest_110 (nI_1 q) rfl ?_
          refine z_goto (pc := 113) (tgt := 89) E dX8_digest_113 (by decide) ?_
          exact ih2 (q + 1) (by omega)
      refine z_iload_3 (pc := 78) E dX8_digest_78 ?_
      refine z_aload_0 (pc := 79) E dX8_digest_79 ?_
      refine z_get (pc := 80) E dX8_digest_80 fiX8_32 ok11 rfl rfl ?_
      refine z_icmp_ge (pc := 83) (tgt := 122) E dX8_digest_83 (by decide) (fun h83 => absurd h83 (ct_lt hc (by omega) (by omega))) (fun h83 => ?_)
      refine z_iconst (v := 0) (pc := 86) E dX8_digest_86 (by decide) ?_
      refine z_istore_4 (pc := 87) E dX8_digest_87 rfl ?_
      exact L6 5 0 (by omega)
  have L2 : ∀ (k j : Nat) (v4 : Option Value), j + k = 7 → Z X G (0, 0) (QL X G (fun r M' => r = mdgA (mset M 11 0 0 0 0) n cN ∧ M' = (mset M 11 0 0 0 0)) 11 121) 38 [some (.ref (ad G 11 0 0)), some (.long (mdgB (mset M 11 0 0 0 0) j (dgN (mcntV (mset M 11 0 0 0 0) n) 11 719))), none, some (.int (nI j)), v4] [] (mset M 11 0 0 0 0) 11 121 := by
    intro k
    induction k with
    | zero =>
      intro j v4 hj
      obtain rfl : j = 7 := by omega
      refine z_iload_3 (pc := 38) E dX8_digest_38 ?_
      refine z_bipush (v := 7) (pc := 39) E dX8_digest_39 (by decide) ?_
      refine z_icmp_ge (pc := 41) (tgt := 76) E dX8_digest_41 (by decide) (fun h41 => ?_) (fun h41 => absurd h41 (fun z => z (ct_ge (n := 7) rfl (by omega) (by omega))))
      refine z_iconst (v := 0) (pc := 76) E dX8_digest_76 (by decide) ?_
      refine z_istore_3 (pc := 77) E dX8_digest_77 rfl ?_
      exact L3 cN 0 _ (by omega)
    | succ k ih =>
      intro j v4 hj
      refine z_iload_3 (pc := 38) E dX8_digest_38 ?_
      refine z_bipush (v := 7) (pc := 39) E dX8_digest_39 (by decide) ?_
      refine z_icmp_ge (pc := 41) (tgt := 76) E dX8_digest_41 (by decide) (fun h41 => absurd h41 (ct_lt (n := 7) rfl (by omega) (by omega))) (fun h41 => ?_)
      refine z_lload_1 (pc := 44) E dX8_digest_44 ?_
      refine z_ldc2 (pc := 45) E dX8_digest_45 ckX8_144 ?_
      refine z_lmul (pc := 48) E dX8_digest_48 ?_
      refine z_aload_0 (pc := 49) E dX8_digest_49 ?_
      refine z_get (pc := 50) E dX8_digest_50 fiX8_9 ok11 rfl rfl ?_
      refine z_iload_3 (pc := 53) E dX8_digest_53 ?_
      refine z_iald (pc := 54) E dX8_digest_54 ok12 rfl rfl (by omega) (by omega) ?_
      refine z_i2l (pc := 55) E dX8_digest_55 ?_
      refine z_ladd (pc := 56) E dX8_digest_56 ?_
      refine z_ldc2 (pc := 57) E dX8_digest_57 ckX8_144 ?_
      refine z_lmul (pc := 60) E dX8_digest_60 ?_
      refine z_aload_0 (pc := 61) E dX8_digest_61 ?_
      refine z_get (pc := 62) E dX8_digest_62 fiX8_13 ok11 rfl rfl ?_
      refine z_iload_3 (pc := 65) E dX8_digest_65 ?_
      refine z_iald (pc := 66) E dX8_digest_66 ok13 rfl rfl (by omega) (by omega) ?_
      refine z_i2l (pc := 67) E dX8_digest_67 ?_
      refine z_ladd (pc := 68) E dX8_digest_68 ?_
      refine z_lstore_1 (pc := 69) E dX8_digest_69 rfl ?_
      refine z_iinc_3 (pc := 70) E dX8_digest_70 (nI_1 j) rfl ?_
      refine z_goto (pc := 73) (tgt := 38) E dX8_digest_73 (by decide) ?_
      exact ih (j + 1) _ (by omega)
  have L1 : ∀ (k j : Nat) (v4 : Option Value), j + k = 11 → Z X G (0, 0) (QL X G (fun r M' => r = mdgA (mset M 11 0 0 0 0) n cN ∧ M' = (mset M 11 0 0 0 0)) 11 121) 11 [some (.ref (ad G 11 0 0)), some (.long (dgN (mcntV (mset M 11 0 0 0 0) n) j 719)), none, some (.int (nI j)), v4] [] (mset M 11 0 0 0 0) j (11 * j) := by
    intro k
    induction k with
    | zero =>
      intro j v4 hj
      obtain rfl : j = 11 := by omega
      refine z_iload_3 (pc := 11) E dX8_digest_11 ?_
      refine z_bipush (v := 10) (pc := 12) E dX8_digest_12 (by decide) ?_
      refine z_icmp_gt (pc := 14) (tgt := 36) E dX8_digest_14 (by decide) (fun h14 => ?_) (fun h14 => absurd h14 (fun z => z (by decide)))
      refine z_iconst (v := 0) (pc := 36) E dX8_digest_36 (by decide) ?_
      refine z_istore_3 (pc := 37) E dX8_digest_37 rfl ?_
      exact L2 7 0 _ (by omega)
    | succ k ih =>
      intro j v4 hj
      refine z_iload_3 (pc := 11) E dX8_digest_11 ?_
      refine z_bipush (v := 10) (pc := 12) E dX8_digest_12 (by decide) ?_
      refine z_icmp_gt (pc := 14) (tgt := 36) E dX8_digest_14 (by decide) (fun h14 => absurd h14 (gt_no (n := 10) rfl (by omega) (by omega))) (fun h14 => ?_)
      refine z_lload_1 (pc := 17) E dX8_digest_17 ?_
      refine z_ldc2 (pc := 18) E dX8_digest_18 ckX8_144 ?_
      refine z_lmul (pc := 21) E dX8_digest_21 ?_
      refine z_aload_0 (pc := 22) E dX8_digest_22 ?_
      refine z_iload_3 (pc := 23) E dX8_digest_23 ?_
      refine z_iv (pc := 24) E (m_X8_counted _ n _ hn h40 (by omega)) rfl rfl kX8_counted mlX8_135 dX8_digest_24 ok11 rfl rfl rfl (Nat.le_of_ble_eq_true rfl) rfl (by decide) (by decide) ⟨by omega, by omega⟩ (fun _ _ _ => Or.inl rfl) (fun r24 M24 hM24 => ?_)
      obtain ⟨rfl, rfl⟩ := hM24
      refine z_i2l (pc := 27) E dX8_digest_27 ?_
      refine z_ladd (pc := 28) E dX8_digest_28 ?_
      refine z_lstore_1 (pc := 29) E dX8_digest_29 rfl ?_
      refine z_iinc_3 (pc := 30) E dX8_digest_30 (nI_1 j) rfl ?_
      refine z_goto (pc := 33) (tgt := 11) E dX8_digest_33 (by decide) ?_
      exact z_cs (by omega) (by omega) (ih (j + 1) _ (by omega))
  refine z_aload_0 (pc := 0) E dX8_digest_0 ?_
  refine z_iconst (v := 0) (pc := 1) E dX8_digest_1 (by decide) ?_
  refine z_put (pc := 2) E dX8_digest_2 fiX8_28 fpX8_0 ok11 rfl rfl (Nat.le_of_ble_eq_true rfl) ?_
  refine z_ldc2 (pc := 5) E dX8_digest_5 ckX8_142 ?_
  refine z_lstore_1 (pc := 8) E dX8_digest_8 rfl ?_
  refine z_iconst (v := 0) (pc := 9) E dX8_digest_9 (by decide) ?_
  refine z_istore_3 (pc := 10) E dX8_digest_10 rfl ?_
  exact L1 11 0 _ (by omega)

