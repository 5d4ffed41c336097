/-! the reference: renewing, fetching, days, what is told -/
section Z22
variable {X : PX} {G : GT} {T : Nat × Nat} {Q : State → Prop} {pc : Nat} {lv : List (Option Value)} {st : List Value} {M : Mem} {cells slots : Nat}
/-- what the method's own array held is forgotten -/
theorem z_m22 (M' : Mem) (h : ∀ k s i, k < 22 → M' k s i = M k s i) (kk : Z X G (0, 0) Q pc lv st M' cells slots) : Z X G T Q pc lv st M cells slots := fun ls H locs hl hP _ hS =>
  kk ls H locs hl (fun k s i ho => by rw [h k s i ho.1]; exact hP k s i ho) (Or.inl rfl) hS
end Z22
theorem fs_z {f : Nat → Int32} {n : Nat} (h : f n = 0) : fsum n f = fsum (n + 1) f := by
  show fsum n f = fsum n f + f n
  rw [h, Int32.add_zero]
def payM (M : Mem) (a : Nat) (x y : Int32) : Mem := mset (mset (mset (mset M 11 0 0 0 0) 7 0 0 a (M 7 0 0 a - x)) 6 0 0 1 (M 6 0 0 1 + x)) 6 0 0 3 (M 6 0 0 3 + y)
def mrenM (M : Mem) (i a : Nat) : Mem := mset (mset (mset (payM M a (intr (M 6 0 0 0) (oc M 0 i 10) (oc M 0 i 4)) (intr (M 6 0 0 0) (oc M 0 i 10) (oc M 0 i 4))) 9 0 0 (11 * i + 5) (M 6 0 0 0 + 60)) 9 0 0 (11 * i + 10) (M 6 0 0 0)) 9 0 0 (11 * i + 9) (oc M 0 i 9 + 1)
def mfetM (M : Mem) (i a : Nat) : Mem := mset (takeM (mset (payM M a (owedV M 0 i) (owedV M 0 i - oc M 0 i 4)) 9 0 0 (11 * i + 6) 1) 0 i) 8 0 0 a (mn 10 (M 8 0 0 a + 1))
def mcustV (M : Mem) (n i w : Nat) : Int32 := match w with
  | 0 => M 7 0 0 i
  | 1 => M 8 0 0 i
  | 2 => fsum n (fun t => b2 (oc M 0 t 0 = nI i ∧ oc M 0 t 6 = 0))
  | 3 => fsum n (fun t => if oc M 0 t 0 = nI i ∧ oc M 0 t 6 = 0 then owedV M 0 t else 0)
  | _ => fsum n (fun t => b2 (oc M 0 t 0 = nI i ∧ oc M 0 t 6 = 1))
def mtickV (M : Mem) (t w : Nat) : Int32 := match w with
  | 7 => if oc M 0 t 7 = -1 then -1 else nI (shN (oc M 0 t 7).toNatClampNeg)
  | 8 => if oc M 0 t 7 = -1 then -1 else oc M 0 t 7 - fromV (shN (oc M 0 t 7).toNatClampNeg)
  | 9 => oc M 0 t 8
  | 10 => oc M 0 t 9
  | w => oc M 0 t w
def mcntV (M : Mem) (n w : Nat) : Int32 := match w with
  | 0 => M 6 0 0 0
  | 1 => M 6 0 0 1
  | 2 => M 11 0 0 1
  | 3 => M 6 0 0 2
  | 4 => howN M 0 n 0
  | 5 => howN M 0 n 1
  | 6 => howN M 0 n 2
  | 7 => howN M 0 n 3
  | 8 => fsum 60 (fun k => b2 (¬ M 10 0 0 k = -1))
  | 9 => fsum n (fun t => if oc M 0 t 6 = 0 then oc M 0 t 4 else 0)
  | _ => M 6 0 0 3
def mbestF (M : Mem) (i : Nat) : Nat → Nat → Int32 → Int32 → Int32
  | 0, _, b, _ => b
  | k + 1, t, b, g => if (oc M 0 t 0 = nI i ∧ oc M 0 t 6 = 0 ∧ owedV M 0 t ≤ M 7 0 0 i) ∧ (b = -1 ∨ g < oc M 0 t 2 - owedV M 0 t) then mbestF M i k (t + 1) (nI t) (oc M 0 t 2 - owedV M 0 t) else mbestF M i k (t + 1) b g
theorem mbest_y {M : Mem} {i k t : Nat} {b g : Int32} (h : oc M 0 t 0 = nI i ∧ oc M 0 t 6 = 0 ∧ owedV M 0 t ≤ M 7 0 0 i) (h2 : b = -1 ∨ g < oc M 0 t 2 - owedV M 0 t) : mbestF M i (k + 1) t b g = mbestF M i k (t + 1) (nI t) (oc M 0 t 2 - owedV M 0 t) := if_pos ⟨h, h2⟩
theorem mbest_n {M : Mem} {i k t : Nat} {b g : Int32} (h : ¬ ((oc M 0 t 0 = nI i ∧ oc M 0 t 6 = 0 ∧ owedV M 0 t ≤ M 7 0 0 i) ∧ (b = -1 ∨ g < oc M 0 t 2 - owedV M 0 t))) : mbestF M i (k + 1) t b g = mbestF M i k (t + 1) b g := if_neg h

def mrenewK (M : Mem) (t : Int32) : Nat := if 0 ≤ t ∧ t ≤ M 6 0 0 2 - 1 then if (oc M 0 t.toNatClampNeg 6 = 0) ∧ (¬ (oc M 0 t.toNatClampNeg 9 = 3)) ∧ (intr (M 6 0 0 0) (oc M 0 t.toNatClampNeg 10) (oc M 0 t.toNatClampNeg 4) ≤ M 7 0 0 (oc M 0 t.toNatClampNeg 0).toNatClampNeg) then 0 else 2 else 1

set_option maxRecDepth 100000 in
set_option maxHeartbeats 4000000 in
theorem m_X8_renew (M : Mem) (n cN : Nat) (t : Int32) (hn : M 6 0 0 2 = nI n) (h40 : n ≤ 40) (hc : M 11 0 0 1 = nI cN) (h10 : cN ≤ 10) (how : ∀ t, t < n → ∃ i, i < cN ∧ oc M 0 t 0 = nI i) : CI yX8_renew cX8_renew 4 (some .int) 3 0 0 (fun G => [.ref (ad G 11 0 0), .int t]) M (fun r M' => (mrenewK M t = 0 ∧ ∃ i a, i < n ∧ a < cN ∧ t = nI i ∧ oc M 0 i 0 = nI a ∧ r = intr (M 6 0 0 0) (oc M 0 i 10) (oc M 0 i 4) ∧ M' = mrenM M i a) ∨ (¬ mrenewK M t = 0 ∧ M' = mset M 11 0 0 0 (nI (mrenewK M t)))) := by
  refine CI.mk (own := RX8) (by decide +kernel) rfl (fun _ => rfl) (fun _ => Nat.le_of_ble_eq_true rfl) (lv0 := fun G => [some (.ref (ad G 11 0 0)), some (.int t), none, none]) (fun _ => rfl) (fun X G E => ?_)
  refine z_aload_0 (pc := 0) E dX8_renew_0 ?_
  refine z_iconst (v := 0) (pc := 1) E dX8_renew_1 (by decide) ?_
  refine z_put (pc := 2) E dX8_renew_2 fiX8_28 fpX8_0 ok11 rfl rfl (Nat.le_of_ble_eq_true rfl) ?_
  refine z_aload_0 (pc := 5) E dX8_renew_5 ?_
  refine z_iload_1 (pc := 6) E dX8_renew_6 ?_
  refine z_ivp (pc := 7) E (m_X8_isTicket _ _) rfl rfl kX8_isTicket mlX8_99 dX8_renew_7 ok11 rfl rfl rfl (Nat.le_of_ble_eq_true rfl) rfl (by decide) (by decide) ⟨by omega, by omega⟩ ?_
  refine z_if_ne (pc := 10) (tgt := 19) E dX8_renew_10 (by decide) (fun h10 => ?_) (fun h10 => ?_)
  · have g10 : 0 ≤ t ∧ t ≤ M 6 0 0 2 - 1 := b2_n0 h10
    obtain ⟨i, hi, rfl⟩ := ix_of (hc_rw hn g10) (by omega)
    obtain ⟨a, ha, ho⟩ := how i hi
    refine z_aload_0 (pc := 19) E dX8_renew_19 ?_
    refine z_get (pc := 20) E dX8_renew_20 fiX8_21 ok11 rfl rfl ?_
    refine z_iload_1 (pc := 23) E dX8_renew_23 ?_
    refine z_ivp (pc := 24) E (m_X7_interestOf _ 0 _ (by decide) (by omega)) rfl rfl kX7_interestOf mlX8_108 dX8_renew_24 (ok6 (by omega)) rfl rfl rfl (Nat.le_of_ble_eq_true rfl) rfl (by decide) (by decide) ⟨by omega, by omega⟩ ?_
    refine z_istore_2 (pc := 27) E dX8_renew_27 rfl ?_
    refine z_aload_0 (pc := 28) E dX8_renew_28 ?_
    refine z_get (pc := 29) E dX8_renew_29 fiX8_21 ok11 rfl rfl ?_
    refine z_iload_1 (pc := 32) E dX8_renew_32 ?_
    refine z_iconst (v := 0) (pc := 33) E dX8_renew_33 (by decide) ?_
    refine z_ivp (pc := 34) E (m_X7_get _ 0 i 0 (by decide) (by omega) (by decide)) rfl rfl kX7_get mlX8_56 dX8_renew_34 (ok6 (by omega)) rfl rfl rfl (Nat.le_of_ble_eq_true rfl) rfl (by decide) (by decide) ⟨by omega, by omega⟩ ?_
    refine z_top (y := nI a) ho.symm ?_
    refine z_istore_3 (pc := 37) E dX8_renew_37 rfl ?_
    refine z_aload_0 (pc := 38) E dX8_renew_38 ?_
    refine z_get (pc := 39) E dX8_renew_39 fiX8_21 ok11 rfl rfl ?_
    refine z_iload_1 (pc := 42) E dX8_renew_42 ?_
    refine z_bipush (v := 6) (pc := 43) E dX8_renew_43 (by decide) ?_
    refine z_ivp (pc := 45) E (m_X7_get _ 0 i 6 (by decide) (by omega) (by decide)) rfl rfl kX7_get mlX8_56 dX8_renew_45 (ok6 (by omega)) rfl rfl rfl (Nat.le_of_ble_eq_true rfl) rfl (by decide) (by decide) ⟨by omega, by omega⟩ ?_
    refine z_if_ne (pc := 48) (tgt := 78) E dX8_renew_48 (by decide) (fun h48 => ?_) (fun h48 => ?_)
    · have g48 : ¬ (oc M 0 i 6 = 0) := h48
      refine z_aload_0 (pc := 78) E dX8_renew_78 ?_
      refine z_iconst (v := 2) (pc := 79) E dX8_renew_79 (by decide) ?_
      refine z_ivf (pc := 80) E (m_X8_no _ _) rfl rfl kX8_no mlX8_42 dX8_renew_80 ok11 rfl rfl rfl (Nat.le_of_ble_eq_true rfl) rfl (by decide) (by decide) ⟨by omega, by omega⟩ ?_
      exact z_iret (pc := 83) E dX8_renew_83 (Or.inr (mfail (e := 2) (by unfold mrenewK; rw [nI_clamp (n31 (show i ≤ 1000 by omega)), ho, nI_clamp (n31 (show a ≤ 1000 by omega)), if_pos g10, if_neg (fun z => g48 z.1)]) (by decide) rfl))
    · have g48 : oc M 0 i 6 = 0 := h48
      refine z_aload_0 (pc := 51) E dX8_renew_51 ?_
      refine z_get (pc := 52) E dX8_renew_52 fiX8_21 ok11 rfl rfl ?_
      refine z_iload_1 (pc := 55) E dX8_renew_55 ?_
      refine z_bipush (v := 9) (pc := 56) E dX8_renew_56 (by decide) ?_
      refine z_ivp (pc := 58) E (m_X7_get _ 0 i 9 (by decide) (by omega) (by decide)) rfl rfl kX7_get mlX8_56 dX8_renew_58 (ok6 (by omega)) rfl rfl rfl (Nat.le_of_ble_eq_true rfl) rfl (by decide) (by decide) ⟨by omega, by omega⟩ ?_
      refine z_iconst (v := 3) (pc := 61) E dX8_renew_61 (by decide) ?_
      refine z_icmp_eq (pc := 62) (tgt := 78) E dX8_renew_62 (by decide) (fun h62 => ?_) (fun h62 => ?_)
      · have g62 : ¬ (¬ (oc M 0 i 9 = 3)) := not_not_intro h62
        refine z_aload_0 (pc := 78) E dX8_renew_78 ?_
        refine z_iconst (v := 2) (pc := 79) E dX8_renew_79 (by decide) ?_
        refine z_ivf (pc := 80) E (m_X8_no _ _) rfl rfl kX8_no mlX8_42 dX8_renew_80 ok11 rfl rfl rfl (Nat.le_of_ble_eq_true rfl) rfl (by decide) (by decide) ⟨by omega, by omega⟩ ?_
        exact z_iret (pc := 83) E dX8_renew_83 (Or.inr (mfail (e := 2) (by unfold mrenewK; rw [nI_clamp (n31 (show i ≤ 1000 by omega)), ho, nI_clamp (n31 (show a ≤ 1000 by omega)), if_pos g10, if_neg (fun z => g62 z.2.1)]) (by decide) rfl))
      · have g62 : ¬ (oc M 0 i 9 = 3) := h62
        refine z_iload_2 (pc := 65) E dX8_renew_65 ?_
        refine z_aload_0 (pc := 66) E dX8_renew_66 ?_
        refine z_get (pc := 67) E dX8_renew_67 fiX8_21 ok11 rfl rfl ?_
        refine z_getN (pc := 70) E dX8_renew_70 fiX8_46 (ok6 (by omega)) rfl rfl ?_
        refine z_iload_3 (pc := 73) E dX8_renew_73 ?_
        refine z_iald (pc := 74) E dX8_renew_74 (ok7 (by omega)) rfl rfl (by omega) (by omega) ?_
        refine z_icmp_le (pc := 75) (tgt := 84) E dX8_renew_75 (by decide) (fun h75 => ?_) (fun h75 => ?_)
        · have g75 : intr (M 6 0 0 0) (oc M 0 i 10) (oc M 0 i 4) ≤ M 7 0 0 a := h75
          refine z_aload_0 (pc := 84) E dX8_renew_84 ?_
          refine z_iload_3 (pc := 85) E dX8_renew_85 ?_
          refine z_iload_2 (pc := 86) E dX8_renew_86 ?_
          refine z_iload_2 (pc := 87) E dX8_renew_87 ?_
          refine z_vvf (pc := 88) E (m_X8_pay _ a _ _ (by omega)) rfl rfl kX8_pay mlX8_111 dX8_renew_88 ok11 rfl rfl rfl (Nat.le_of_ble_eq_true rfl) rfl (by decide) (by decide) ⟨by omega, by omega⟩ ?_
          refine z_aload_0 (pc := 91) E dX8_renew_91 ?_
          refine z_get (pc := 92) E dX8_renew_92 fiX8_21 ok11 rfl rfl ?_
          refine z_iload_1 (pc := 95) E dX8_renew_95 ?_
          refine z_iconst (v := 5) (pc := 96) E dX8_renew_96 (by decide) ?_
          refine z_aload_0 (pc := 97) E dX8_renew_97 ?_
          refine z_get (pc := 98) E dX8_renew_98 fiX8_21 ok11 rfl rfl ?_
          refine z_getN (pc := 101) E dX8_renew_101 fiX8_77 (ok6 (by omega)) rfl rfl ?_
          refine z_bipush (v := 60) (pc := 104) E dX8_renew_104 (by decide) ?_
          refine z_iadd (pc := 106) E dX8_renew_106 ?_
          refine z_vvf (pc := 107) E (m_X7_set _ 0 i 5 _ (by decide) (by omega) (by decide)) rfl rfl kX7_set mlX8_115 dX8_renew_107 (ok6 (by omega)) rfl rfl rfl (Nat.le_of_ble_eq_true rfl) rfl (by decide) (by decide) ⟨by omega, by omega⟩ ?_
          refine z_aload_0 (pc := 110) E dX8_renew_110 ?_
          refine z_get (pc := 111) E dX8_renew_111 fiX8_21 ok11 rfl rfl ?_
          refine z_iload_1 (pc := 114) E dX8_renew_114 ?_
          refine z_bipush (v := 10) (pc := 115) E dX8_renew_115 (by decide) ?_
          refine z_aload_0 (pc := 117) E dX8_renew_117 ?_
          refine z_get (pc := 118) E dX8_renew_118 fiX8_21 ok11 rfl rfl ?_
          refine z_getN (pc := 121) E dX8_renew_121 fiX8_77 (ok6 (by omega)) rfl rfl ?_
          refine z_vvf (pc := 124) E (m_X7_set _ 0 i 10 _ (by decide) (by omega) (by decide)) rfl rfl kX7_set mlX8_115 dX8_renew_124 (ok6 (by omega)) rfl rfl rfl (Nat.le_of_ble_eq_true rfl) rfl (by decide) (by decide) ⟨by omega, by omega⟩ ?_
          refine z_aload_0 (pc := 127) E dX8_renew_127 ?_
          refine z_get (pc := 128) E dX8_renew_128 fiX8_21 ok11 rfl rfl ?_
          refine z_iload_1 (pc := 131) E dX8_renew_131 ?_
          refine z_bipush (v := 9) (pc := 132) E dX8_renew_132 (by decide) ?_
          refine z_aload_0 (pc := 134) E dX8_renew_134 ?_
          refine z_get (pc := 135) E dX8_renew_135 fiX8_21 ok11 rfl rfl ?_
          refine z_iload_1 (pc := 138) E dX8_renew_138 ?_
          refine z_bipush (v := 9) (pc := 139) E dX8_renew_139 (by decide) ?_
          refine z_ivp (pc := 141) E (m_X7_get _ 0 i 9 (by decide) (by omega) (by decide)) rfl rfl kX7_get mlX8_56 dX8_renew_141 (ok6 (by omega)) rfl rfl rfl (Nat.le_of_ble_eq_true rfl) rfl (by decide) (by decide) ⟨by omega, by omega⟩ ?_
          refine z_iconst (v := 1) (pc := 144) E dX8_renew_144 (by decide) ?_
          refine z_iadd (pc := 145) E dX8_renew_145 ?_
          refine z_vvf (pc := 146) E (m_X7_set _ 0 i 9 _ (by decide) (by omega) (by decide)) rfl rfl kX7_set mlX8_115 dX8_renew_146 (ok6 (by omega)) rfl rfl rfl (Nat.le_of_ble_eq_true rfl) rfl (by decide) (by decide) ⟨by omega, by omega⟩ ?_
          refine z_iload_2 (pc := 149) E dX8_renew_149 ?_
          exact z_iret (pc := 150) E dX8_renew_150 (Or.inl ⟨by unfold mrenewK; rw [nI_clamp (n31 (show i ≤ 1000 by omega)), ho, nI_clamp (n31 (show a ≤ 1000 by omega)), if_pos g10, if_pos (⟨g48, g62, g75⟩ : _ ∧ _)], i, a, hi, ha, rfl, ho, rfl, congrArg (mset _ 9 0 0 (11 * i + 9)) (congrArg (· + 1) ((mset_s (by omega)).trans (mset_s (by omega))))⟩)
        · have g75 : ¬ (intr (M 6 0 0 0) (oc M 0 i 10) (oc M 0 i 4) ≤ M 7 0 0 a) := h75
          refine z_aload_0 (pc := 78) E dX8_renew_78 ?_
          refine z_iconst (v := 2) (pc := 79) E dX8_renew_79 (by decide) ?_
          refine z_ivf (pc := 80) E (m_X8_no _ _) rfl rfl kX8_no mlX8_42 dX8_renew_80 ok11 rfl rfl rfl (Nat.le_of_ble_eq_true rfl) rfl (by decide) (by decide) ⟨by omega, by omega⟩ ?_
          exact z_iret (pc := 83) E dX8_renew_83 (Or.inr (mfail (e := 2) (by unfold mrenewK; rw [nI_clamp (n31 (show i ≤ 1000 by omega)), ho, nI_clamp (n31 (show a ≤ 1000 by omega)), if_pos g10, if_neg (fun z => g75 z.2.2)]) (by decide) rfl))
  · have g10 : ¬ (0 ≤ t ∧ t ≤ M 6 0 0 2 - 1) := b2_e0 h10
    refine z_aload_0 (pc := 13) E dX8_renew_13 ?_
    refine z_iconst (v := 1) (pc := 14) E dX8_renew_14 (by decide) ?_
    refine z_ivf (pc := 15) E (m_X8_no _ _) rfl rfl kX8_no mlX8_42 dX8_renew_15 ok11 rfl rfl rfl (Nat.le_of_ble_eq_true rfl) rfl (by decide) (by decide) ⟨by omega, by omega⟩ ?_
    exact z_iret (pc := 18) E dX8_renew_18 (Or.inr (mfail (e := 1) (by unfold mrenewK; rw [if_neg g10]) (by decide) rfl))

def mfetchK (M : Mem) (t : Int32) : Nat := if 0 ≤ t ∧ t ≤ M 6 0 0 2 - 1 then if (oc M 0 t.toNatClampNeg 6 = 0) ∧ (owedV M 0 t.toNatClampNeg ≤ M 7 0 0 (oc M 0 t.toNatClampNeg 0).toNatClampNeg) then 0 else 2 else 1

set_option maxRecDepth 100000 in
set_option maxHeartbeats 4000000 in
theorem m_X8_fetch (M : Mem) (n cN : Nat) (t : Int32) (hn : M 6 0 0 2 = nI n) (h40 : n ≤ 40) (hc : M 11 0 0 1 = nI cN) (h10 : cN ≤ 10) (how : ∀ t, t < n → ∃ i, i < cN ∧ oc M 0 t 0 = nI i) : CI yX8_fetch cX8_fetch 4 (some .int) 3 0 0 (fun G => [.ref (ad G 11 0 0), .int t]) M (fun r M' => (mfetchK M t = 0 ∧ ∃ i a, i < n ∧ a < cN ∧ t = nI i ∧ oc M 0 i 0 = nI a ∧ r = owedV M 0 i ∧ M' = mfetM M i a) ∨ (¬ mfetchK M t = 0 ∧ M' = mset M 11 0 0 0 (nI (mfetchK M t)))) := by
  refine CI.mk (own := RX8) (by decide +kernel) rfl (fun _ => rfl) (fun _ => Nat.le_of_ble_eq_true rfl) (lv0 := fun G => [some (.ref (ad G 11 0 0)), some (.int t), none, none]) (fun _ => rfl) (fun X G E => ?_)
  refine z_aload_0 (pc := 0) E dX8_fetch_0 ?_
  refine z_iconst (v := 0) (pc := 1) E dX8_fetch_1 (by decide) ?_
  refine z_put (pc := 2) E dX8_fetch_2 fiX8_28 fpX8_0 ok11 rfl rfl (Nat.le_of_ble_eq_true rfl) ?_
  refine z_aload_0 (pc := 5) E dX8_fetch_5 ?_
  refine z_iload_1 (pc := 6) E dX8_fetch_6 ?_
  refine z_ivp (pc := 7) E (m_X8_isTicket _ _) rfl rfl kX8_isTicket mlX8_99 dX8_fetch_7 ok11 rfl rfl rfl (Nat.le_of_ble_eq_true rfl) rfl (by decide) (by decide) ⟨by omega, by omega⟩ ?_
  refine z_if_ne (pc := 10) (tgt := 19) E dX8_fetch_10 (by decide) (fun h10 => ?_) (fun h10 => ?_)
  · have g10 : 0 ≤ t ∧ t ≤ M 6 0 0 2 - 1 := b2_n0 h10
    obtain ⟨i, hi, rfl⟩ := ix_of (hc_rw hn g10) (by omega)
    obtain ⟨a, ha, ho⟩ := how i hi
    refine z_aload_0 (pc := 19) E dX8_fetch_19 ?_
    refine z_get (pc := 20) E dX8_fetch_20 fiX8_21 ok11 rfl rfl ?_
    refine z_iload_1 (pc := 23) E dX8_fetch_23 ?_
    refine z_ivp (pc := 24) E (m_X7_owed _ 0 _ (by decide) (by omega)) rfl rfl kX7_owed mlX8_60 dX8_fetch_24 (ok6 (by omega)) rfl rfl rfl (Nat.le_of_ble_eq_true rfl) rfl (by decide) (by decide) ⟨by omega, by omega⟩ ?_
    refine z_istore_2 (pc := 27) E dX8_fetch_27 rfl ?_
    refine z_aload_0 (pc := 28) E dX8_fetch_28 ?_
    refine z_get (pc := 29) E dX8_fetch_29 fiX8_21 ok11 rfl rfl ?_
    refine z_iload_1 (pc := 32) E dX8_fetch_32 ?_
    refine z_iconst (v := 0) (pc := 33) E dX8_fetch_33 (by decide) ?_
    refine z_ivp (pc := 34) E (m_X7_get _ 0 i 0 (by decide) (by omega) (by decide)) rfl rfl kX7_get mlX8_56 dX8_fetch_34 (ok6 (by omega)) rfl rfl rfl (Nat.le_of_ble_eq_true rfl) rfl (by decide) (by decide) ⟨by omega, by omega⟩ ?_
    refine z_top (y := nI a) ho.symm ?_
    refine z_istore_3 (pc := 37) E dX8_fetch_37 rfl ?_
    refine z_aload_0 (pc := 38) E dX8_fetch_38 ?_
    refine z_get (pc := 39) E dX8_fetch_39 fiX8_21 ok11 rfl rfl ?_
    refine z_iload_1 (pc := 42) E dX8_fetch_42 ?_
    refine z_bipush (v := 6) (pc := 43) E dX8_fetch_43 (by decide) ?_
    refine z_ivp (pc := 45) E (m_X7_get _ 0 i 6 (by decide) (by omega) (by decide)) rfl rfl kX7_get mlX8_56 dX8_fetch_45 (ok6 (by omega)) rfl rfl rfl (Nat.le_of_ble_eq_true rfl) rfl (by decide) (by decide) ⟨by omega, by omega⟩ ?_
    refine z_if_ne (pc := 48) (tgt := 64) E dX8_fetch_48 (by decide) (fun h48 => ?_) (fun h48 => ?_)
    · have g48 : ¬ (oc M 0 i 6 = 0) := h48
      refine z_aload_0 (pc := 64) E dX8_fetch_64 ?_
      refine z_iconst (v := 2) (pc := 65) E dX8_fetch_65 (by decide) ?_
      refine z_ivf (pc := 66) E (m_X8_no _ _) rfl rfl kX8_no mlX8_42 dX8_fetch_66 ok11 rfl rfl rfl (Nat.le_of_ble_eq_true rfl) rfl (by decide) (by decide) ⟨by omega, by omega⟩ ?_
      exact z_iret (pc := 69) E dX8_fetch_69 (Or.inr (mfail (e := 2) (by unfold mfetchK; rw [nI_clamp (n31 (show i ≤ 1000 by omega)), ho, nI_clamp (n31 (show a ≤ 1000 by omega)), if_pos g10, if_neg (fun z => g48 z.1)]) (by decide) rfl))
    · have g48 : oc M 0 i 6 = 0 := h48
      refine z_iload_2 (pc := 51) E dX8_fetch_51 ?_
      refine z_aload_0 (pc := 52) E dX8_fetch_52 ?_
      refine z_get (pc := 53) E dX8_fetch_53 fiX8_21 ok11 rfl rfl ?_
      refine z_getN (pc := 56) E dX8_fetch_56 fiX8_46 (ok6 (by omega)) rfl rfl ?_
      refine z_iload_3 (pc := 59) E dX8_fetch_59 ?_
      refine z_iald (pc := 60) E dX8_fetch_60 (ok7 (by omega)) rfl rfl (by omega) (by omega) ?_
      refine z_icmp_le (pc := 61) (tgt := 70) E dX8_fetch_61 (by decide) (fun h61 => ?_) (fun h61 => ?_)
      · have g61 : owedV M 0 i ≤ M 7 0 0 a := h61
        refine z_aload_0 (pc := 70) E dX8_fetch_70 ?_
        refine z_iload_3 (pc := 71) E dX8_fetch_71 ?_
        refine z_iload_2 (pc := 72) E dX8_fetch_72 ?_
        refine z_iload_2 (pc := 73) E dX8_fetch_73 ?_
        refine z_aload_0 (pc := 74) E dX8_fetch_74 ?_
        refine z_get (pc := 75) E dX8_fetch_75 fiX8_21 ok11 rfl rfl ?_
        refine z_iload_1 (pc := 78) E dX8_fetch_78 ?_
        refine z_iconst (v := 4) (pc := 79) E dX8_fetch_79 (by decide) ?_
        refine z_ivp (pc := 80) E (m_X7_get _ 0 i 4 (by decide) (by omega) (by decide)) rfl rfl kX7_get mlX8_56 dX8_fetch_80 (ok6 (by omega)) rfl rfl rfl (Nat.le_of_ble_eq_true rfl) rfl (by decide) (by decide) ⟨by omega, by omega⟩ ?_
        refine z_isub (pc := 83) E dX8_fetch_83 ?_
        refine z_vvf (pc := 84) E (m_X8_pay _ a _ _ (by omega)) rfl rfl kX8_pay mlX8_111 dX8_fetch_84 ok11 rfl rfl rfl (Nat.le_of_ble_eq_true rfl) rfl (by decide) (by decide) ⟨by omega, by omega⟩ ?_
        refine z_aload_0 (pc := 87) E dX8_fetch_87 ?_
        refine z_get (pc := 88) E dX8_fetch_88 fiX8_21 ok11 rfl rfl ?_
        refine z_iload_1 (pc := 91) E dX8_fetch_91 ?_
        refine z_bipush (v := 6) (pc := 92) E dX8_fetch_92 (by decide) ?_
        refine z_iconst (v := 1) (pc := 94) E dX8_fetch_94 (by decide) ?_
        refine z_vvf (pc := 95) E (m_X7_set _ 0 i 6 _ (by decide) (by omega) (by decide)) rfl rfl kX7_set mlX8_115 dX8_fetch_95 (ok6 (by omega)) rfl rfl rfl (Nat.le_of_ble_eq_true rfl) rfl (by decide) (by decide) ⟨by omega, by omega⟩ ?_
        refine z_aload_0 (pc := 98) E dX8_fetch_98 ?_
        refine z_get (pc := 99) E dX8_fetch_99 fiX8_21 ok11 rfl rfl ?_
        refine z_iload_1 (pc := 102) E dX8_fetch_102 ?_
        refine z_vvf (pc := 103) E (m_X7_take _ 0 i (by decide) (by omega)) rfl rfl kX7_take mlX8_118 dX8_fetch_103 (ok6 (by omega)) rfl rfl rfl (Nat.le_of_ble_eq_true rfl) rfl (by decide) (by decide) ⟨by omega, by omega⟩ ?_
        refine z_aload_0 (pc := 106) E dX8_fetch_106 ?_
        refine z_get (pc := 107) E dX8_fetch_107 fiX8_21 ok11 rfl rfl ?_
        refine z_getN (pc := 110) E dX8_fetch_110 fiX8_49 (ok6 (by omega)) rfl rfl ?_
        refine z_iload_3 (pc := 113) E dX8_fetch_113 ?_
        refine z_bipush (v := 10) (pc := 114) E dX8_fetch_114 (by decide) ?_
        refine z_aload_0 (pc := 116) E dX8_fetch_116 ?_
        refine z_get (pc := 117) E dX8_fetch_117 fiX8_21 ok11 rfl rfl ?_
        refine z_getN (pc := 120) E dX8_fetch_120 fiX8_49 (ok6 (by omega)) rfl rfl ?_
        refine z_iload_3 (pc := 123) E dX8_fetch_123 ?_
        refine z_iald (pc := 124) E dX8_fetch_124 (ok8 (by omega)) rfl rfl (by omega) (by omega) ?_
        refine z_iconst (v := 1) (pc := 125) E dX8_fetch_125 (by decide) ?_
        refine z_iadd (pc := 126) E dX8_fetch_126 ?_
        refine z_min (pc := 127) E dX8_fetch_127 mlX8_122 rfl (by decide) (Nat.le_of_ble_eq_true rfl) ⟨by omega, by omega⟩ ?_
        refine z_iast (pc := 130) E dX8_fetch_130 (ok8 (by omega)) (fun _ => rfl) rfl (by omega) (by omega) ?_
        refine z_iload_2 (pc := 131) E dX8_fetch_131 ?_
        exact z_iret (pc := 132) E dX8_fetch_132 (Or.inl ⟨by unfold mfetchK; rw [nI_clamp (n31 (show i ≤ 1000 by omega)), ho, nI_clamp (n31 (show a ≤ 1000 by omega)), if_pos g10, if_pos (⟨g48, g61⟩ : _ ∧ _)], i, a, hi, ha, rfl, ho, rfl, rfl⟩)
      · have g61 : ¬ (owedV M 0 i ≤ M 7 0 0 a) := h61
        refine z_aload_0 (pc := 64) E dX8_fetch_64 ?_
        refine z_iconst (v := 2) (pc := 65) E dX8_fetch_65 (by decide) ?_
        refine z_ivf (pc := 66) E (m_X8_no _ _) rfl rfl kX8_no mlX8_42 dX8_fetch_66 ok11 rfl rfl rfl (Nat.le_of_ble_eq_true rfl) rfl (by decide) (by decide) ⟨by omega, by omega⟩ ?_
        exact z_iret (pc := 69) E dX8_fetch_69 (Or.inr (mfail (e := 2) (by unfold mfetchK; rw [nI_clamp (n31 (show i ≤ 1000 by omega)), ho, nI_clamp (n31 (show a ≤ 1000 by omega)), if_pos g10, if_neg (fun z => g61 z.2)]) (by decide) rfl))
  · have g10 : ¬ (0 ≤ t ∧ t ≤ M 6 0 0 2 - 1) := b2_e0 h10
    refine z_aload_0 (pc := 13) E dX8_fetch_13 ?_
    refine z_iconst (v := 1) (pc := 14) E dX8_fetch_14 (by decide) ?_
    refine z_ivf (pc := 15) E (m_X8_no _ _) rfl rfl kX8_no mlX8_42 dX8_fetch_15 ok11 rfl rfl rfl (Nat.le_of_ble_eq_true rfl) rfl (by decide) (by decide) ⟨by omega, by omega⟩ ?_
    exact z_iret (pc := 18) E dX8_fetch_18 (Or.inr (mfail (e := 1) (by unfold mfetchK; rw [if_neg g10]) (by decide) rfl))

def mpassK (x : Int32) : Nat := if 1 ≤ x ∧ x ≤ 200 then 0 else 1

set_option maxRecDepth 100000 in
set_option maxHeartbeats 4000000 in
theorem mpass_loop {X : PX} {G : GT} {M : Mem} {n d D : Nat} {post : Int32 → Mem → Prop} (E : EF X G cX8_pass 4 RX8 (some .int) 4 0 0) (hn : M 6 0 0 2 = nI n) (h40 : n ≤ 40) (hd : M 6 0 0 0 = nI d) (h30 : d < 2 ^ 30) (hD : D ≤ 200) (how : ∀ t, t < n → ∃ i, i < 10 ∧ oc M 0 t 0 = nI i) : ∀ (k q : Nat), q + k = D → post (mgoN M 0 n D).1 (mgoN M 0 n D).2 → Z X G (0, 0) (QI X G post 0 0) 26 [some (.ref (ad G 11 0 0)), some (.int (nI D)), some (.int (mgoN M 0 n q).1), some (.int (nI q))] [] (mgoN M 0 n q).2 0 0 := by
  intro k
  induction k with
  | zero =>
    intro q hq hE
    obtain rfl : q = D := by omega
    refine z_iload_3 (pc := 26) E dX8_pass_26 ?_
    refine z_iload_1 (pc := 27) E dX8_pass_27 ?_
    refine z_icmp_ge (pc := 28) (tgt := 47) E dX8_pass_28 (by decide) (fun h28 => ?_) (fun h28 => absurd h28 (fun z => z (ct_ge rfl (by omega) (by omega))))
    refine z_iload_2 (pc := 47) E dX8_pass_47 ?_
    exact z_iret (pc := 48) E dX8_pass_48 hE
  | succ k ih =>
    intro q hq hE
    refine z_iload_3 (pc := 26) E dX8_pass_26 ?_
    refine z_iload_1 (pc := 27) E dX8_pass_27 ?_
    refine z_icmp_ge (pc := 28) (tgt := 47) E dX8_pass_28 (by decide) (fun h28 => absurd h28 (ct_lt rfl (by omega) (by omega))) (fun h28 => ?_)
    refine z_iload_2 (pc := 31) E dX8_pass_31 ?_
    refine z_aload_0 (pc := 32) E dX8_pass_32 ?_
    refine z_get (pc := 33) E dX8_pass_33 fiX8_21 ok11 rfl rfl ?_
    refine z_ivf (pc := 36) E (m_X7_pass _ 0 n (d + q) (by decide) ((mgoN_6 (by decide) (by decide) q).trans hn) h40 (mgoN_d hd q) (by omega) (fun t ht => by rw [mgoN_f (by decide) (by decide) (by decide) (by decide)]; exact how t ht)) rfl rfl kX7_pass mlX8_128 dX8_pass_36 (ok6 (by omega)) rfl rfl rfl (Nat.le_of_ble_eq_true rfl) rfl (by decide) (by decide) ⟨by omega, by omega⟩ ?_
    refine z_iadd (pc := 39) E dX8_pass_39 ?_
    refine z_istore_2 (pc := 40) E dX8_pass_40 rfl ?_
    refine z_iinc_3 (pc := 41) E dX8_pass_41 (nI_1 q) rfl ?_
    refine z_goto (pc := 44) (tgt := 26) E dX8_pass_44 (by decide) ?_
    exact ih (q + 1) (by omega) hE

set_option maxRecDepth 100000 in
set_option maxHeartbeats 4000000 in
theorem m_X8_pass (M : Mem) (n d : Nat) (x : Int32) (hn : M 6 0 0 2 = nI n) (h40 : n ≤ 40) (hd : M 6 0 0 0 = nI d) (h30 : d < 2 ^ 30) (how : ∀ t, t < n → ∃ i, i < 10 ∧ oc M 0 t 0 = nI i) : CI yX8_pass cX8_pass 4 (some .int) 4 0 0 (fun G => [.ref (ad G 11 0 0), .int x]) M (fun r M' => (mpassK x = 0 ∧ ∃ D, 1 ≤ D ∧ D ≤ 200 ∧ x = nI D ∧ r = (mgoN (mset M 11 0 0 0 0) 0 n D).1 ∧ M' = (mgoN (mset M 11 0 0 0 0) 0 n D).2) ∨ (¬ mpassK x = 0 ∧ M' = mset M 11 0 0 0 (nI (mpassK x)))) := by
  refine CI.mk (own := RX8) (by decide +kernel) rfl (fun _ => rfl) (fun _ => Nat.le_of_ble_eq_true rfl) (lv0 := fun G => [some (.ref (ad G 11 0 0)), some (.int x), none, none]) (fun _ => rfl) (fun X G E => ?_)
  refine z_aload_0 (pc := 0) E dX8_pass_0 ?_
  refine z_iconst (v := 0) (pc := 1) E dX8_pass_1 (by decide) ?_
  refine z_put (pc := 2) E dX8_pass_2 fiX8_28 fpX8_0 ok11 rfl rfl (Nat.le_of_ble_eq_true rfl) ?_
  refine z_iload_1 (pc := 5) E dX8_pass_5 ?_
  refine z_iconst (v := 1) (pc := 6) E dX8_pass_6 (by decide) ?_
  refine z_sipush (v := 200) (pc := 7) E dX8_pass_7 (by decide) ?_
  refine z_isp (pc := 10) E (m_X8_isIn _ _ _ _) rfl rfl kX8_isIn mlX8_35 dX8_pass_10 rfl (Nat.le_of_ble_eq_true rfl) rfl (by decide) (by decide) ⟨by omega, by omega⟩ ?_
  refine z_if_ne (pc := 13) (tgt := 22) E dX8_pass_13 (by decide) (fun h13 => ?_) (fun h13 => ?_)
  · have g13 : 1 ≤ x ∧ x ≤ 200 := b2_n0 h13
    obtain ⟨D, hD1, hD, rfl⟩ := ix_1 g13
    refine z_iconst (v := 0) (pc := 22) E dX8_pass_22 (by decide) ?_
    refine z_istore_2 (pc := 23) E dX8_pass_23 rfl ?_
    refine z_iconst (v := 0) (pc := 24) E dX8_pass_24 (by decide) ?_
    refine z_istore_3 (pc := 25) E dX8_pass_25 rfl ?_
    exact mpass_loop (M := (mset M 11 0 0 0 0)) E hn h40 hd h30 hD how D 0 (by omega) (Or.inl ⟨by unfold mpassK; rw [if_pos g13], D, hD1, hD, rfl, rfl, rfl⟩)
  · have g13 : ¬ (1 ≤ x ∧ x ≤ 200) := b2_e0 h13
    refine z_aload_0 (pc := 16) E dX8_pass_16 ?_
    refine z_iconst (v := 1) (pc := 17) E dX8_pass_17 (by decide) ?_
    refine z_ivf (pc := 18) E (m_X8_no _ _) rfl rfl kX8_no mlX8_42 dX8_pass_18 ok11 rfl rfl rfl (Nat.le_of_ble_eq_true rfl) rfl (by decide) (by decide) ⟨by omega, by omega⟩ ?_
    exact z_iret (pc := 21) E dX8_pass_21 (Or.inr (mfail (e := 1) (by unfold mpassK; rw [if_neg g13]) (by decide) rfl))

set_option maxRecDepth 100000 in
set_option maxHeartbeats 4000000 in
theorem m_X8_customerTold_0 (M : Mem) (n i : Nat) (hn : M 6 0 0 2 = nI n) (h40 : n ≤ 40) (hi : i < 10) : CI yX8_customerTold cX8_customerTold 5 (some .int) 4 0 0 (fun G => [.ref (ad G 11 0 0), .int (nI i), .int (nI 0)]) M (fun r M' => r = mcustV M n i 0 ∧ M' = M) := by
  refine CI.mk (own := RX8) (by decide +kernel) rfl (fun _ => rfl) (fun _ => Nat.le_of_ble_eq_true rfl) (lv0 := fun G => [some (.ref (ad G 11 0 0)), some (.int (nI i)), some (.int (nI 0)), none, none]) (fun _ => rfl) (fun X G E => ?_)
  refine z_iload_2 (pc := 0) E dX8_customerTold_0 ?_
  refine z_iconst (v := 2) (pc := 1) E dX8_customerTold_1 (by decide) ?_
  refine z_icmp_ge (pc := 2) (tgt := 31) E dX8_customerTold_2 (by decide) (fun h2 => absurd h2 (by decide)) (fun h2 => ?_)
  refine z_iload_2 (pc := 5) E dX8_customerTold_5 ?_
  refine z_if_ne (pc := 6) (tgt := 21) E dX8_customerTold_6 (by decide) (fun h6 => absurd h6 (by decide)) (fun h6 => ?_)
  refine z_aload_0 (pc := 9) E dX8_customerTold_9 ?_
  refine z_get (pc := 10) E dX8_customerTold_10 fiX8_21 ok11 rfl rfl ?_
  refine z_getN (pc := 13) E dX8_customerTold_13 fiX8_46 (ok6 (by omega)) rfl rfl ?_
  refine z_iload_1 (pc := 16) E dX8_customerTold_16 ?_
  refine z_iald (pc := 17) E dX8_customerTold_17 (ok7 (by omega)) rfl rfl hi (by omega) ?_
  refine z_goto (pc := 18) (tgt := 30) E dX8_customerTold_18 (by decide) ?_
  exact z_iret (pc := 30) E dX8_customerTold_30 ⟨rfl, rfl⟩

set_option maxRecDepth 100000 in
set_option maxHeartbeats 4000000 in
theorem m_X8_customerTold_1 (M : Mem) (n i : Nat) (hn : M 6 0 0 2 = nI n) (h40 : n ≤ 40) (hi : i < 10) : CI yX8_customerTold cX8_customerTold 5 (some .int) 4 0 0 (fun G => [.ref (ad G 11 0 0), .int (nI i), .int (nI 1)]) M (fun r M' => r = mcustV M n i 1 ∧ M' = M) := by
  refine CI.mk (own := RX8) (by decide +kernel) rfl (fun _ => rfl) (fun _ => Nat.le_of_ble_eq_true rfl) (lv0 := fun G => [some (.ref (ad G 11 0 0)), some (.int (nI i)), some (.int (nI 1)), none, none]) (fun _ => rfl) (fun X G E => ?_)
  refine z_iload_2 (pc := 0) E dX8_customerTold_0 ?_
  refine z_iconst (v := 2) (pc := 1) E dX8_customerTold_1 (by decide) ?_
  refine z_icmp_ge (pc := 2) (tgt := 31) E dX8_customerTold_2 (by decide) (fun h2 => absurd h2 (by decide)) (fun h2 => ?_)
  refine z_iload_2 (pc := 5) E dX8_customerTold_5 ?_
  refine z_if_ne (pc := 6) (tgt := 21) E dX8_customerTold_6 (by decide) (fun h6 => ?_) (fun h6 => absurd h6 (by decide))
  refine z_aload_0 (pc := 21) E dX8_customerTold_21 ?_
  refine z_get (pc := 22) E dX8_customerTold_22 fiX8_21 ok11 rfl rfl ?_
  refine z_getN (pc := 25) E dX8_customerTold_25 fiX8_49 (ok6 (by omega)) rfl rfl ?_
  refine z_iload_1 (pc := 28) E dX8_customerTold_28 ?_
  refine z_iald (pc := 29) E dX8_customerTold_29 (ok8 (by omega)) rfl rfl hi (by omega) ?_
  exact z_iret (pc := 30) E dX8_customerTold_30 ⟨rfl, rfl⟩

set_option maxRecDepth 100000 in
set_option maxHeartbeats 4000000 in
theorem m_X8_customerTold_2 (M : Mem) (n i : Nat) (hn : M 6 0 0 2 = nI n) (h40 : n ≤ 40) (hi : i < 10) : CI yX8_customerTold cX8_customerTold 5 (some .int) 4 0 0 (fun G => [.ref (ad G 11 0 0), .int (nI i), .int (nI 2)]) M (fun r M' => r = mcustV M n i 2 ∧ M' = M) := by
  refine CI.mk (own := RX8) (by decide +kernel) rfl (fun _ => rfl) (fun _ => Nat.le_of_ble_eq_true rfl) (lv0 := fun G => [some (.ref (ad G 11 0 0)), some (.int (nI i)), some (.int (nI 2)), none, none]) (fun _ => rfl) (fun X G E => ?_)
  have L : ∀ (k : Nat) (t : Nat), t + k = n → Z X G (0, 0) (QI X G (fun r M' => r = mcustV M n i 2 ∧ M' = M) 0 0) 36 [some (.ref (ad G 11 0 0)), some (.int (nI i)), some (.int (nI 2)), some (.int (fsum t (fun t => b2 (oc M 0 t 0 = nI i ∧ oc M 0 t 6 = 0)))), some (.int (nI t))] [] (M) 0 0 := by
    intro k
    induction k with
    | zero =>
      intro t ht
      obtain rfl : t = n := by omega
      refine z_iload_4 (pc := 36) E dX8_customerTold_36 ?_
      refine z_aload_0 (pc := 38) E dX8_customerTold_38 ?_
      refine z_get (pc := 39) E dX8_customerTold_39 fiX8_21 ok11 rfl rfl ?_
      refine z_getN (pc := 42) E dX8_customerTold_42 fiX8_39 (ok6 (by omega)) rfl rfl ?_
      refine z_icmp_ge (pc := 45) (tgt := 116) E dX8_customerTold_45 (by decide) (fun h45 => ?_) (fun h45 => absurd h45 (fun z => z (ct_ge hn (by omega) (by omega))))
      refine z_iload_3 (pc := 116) E dX8_customerTold_116 ?_
      exact z_iret (pc := 117) E dX8_customerTold_117 ⟨rfl, rfl⟩
    | succ k ih =>
      intro t ht
      refine z_iload_4 (pc := 36) E dX8_customerTold_36 ?_
      refine z_aload_0 (pc := 38) E dX8_customerTold_38 ?_
      refine z_get (pc := 39) E dX8_customerTold_39 fiX8_21 ok11 rfl rfl ?_
      refine z_getN (pc := 42) E dX8_customerTold_42 fiX8_39 (ok6 (by omega)) rfl rfl ?_
      refine z_icmp_ge (pc := 45) (tgt := 116) E dX8_customerTold_45 (by decide) (fun h45 => absurd h45 (ct_lt hn (by omega) (by omega))) (fun h45 => ?_)
      refine z_aload_0 (pc := 48) E dX8_customerTold_48 ?_
      refine z_get (pc := 49) E dX8_customerTold_49 fiX8_21 ok11 rfl rfl ?_
      refine z_iload_4 (pc := 52) E dX8_customerTold_52 ?_
      refine z_iconst (v := 0) (pc := 54) E dX8_customerTold_54 (by decide) ?_
      refine z_ivp (pc := 55) E (m_X7_get _ 0 t 0 (by decide) (by omega) (by decide)) rfl rfl kX7_get mlX8_56 dX8_customerTold_55 (ok6 (by omega)) rfl rfl rfl (Nat.le_of_ble_eq_true rfl) rfl (by decide) (by decide) ⟨by omega, by omega⟩ ?_
      refine z_iload_1 (pc := 58) E dX8_customerTold_58 ?_
      refine z_icmp_ne (pc := 59) (tgt := 110) E dX8_customerTold_59 (by decide) (fun h59 => ?_) (fun h59 => ?_)
      · refine z_iinc_4 (pc := 110) E dX8_customerTold_110 (nI_1 t) rfl ?_
        refine z_goto (pc := 113) (tgt := 36) E dX8_customerTold_113 (by decide) ?_
        first | rw [fs_y (f := (fun t => b2 (oc M 0 t 0 = nI i ∧ oc M 0 t 6 = 0))) (b2_t ⟨Decidable.not_not.mp (fun z => z h59), h83⟩)] | rw [fs_z (f := (fun t => b2 (oc M 0 t 0 = nI i ∧ oc M 0 t 6 = 0))) (b2_f (fun z => h59 z.1))] | rw [fs_z (f := (fun t => b2 (oc M 0 t 0 = nI i ∧ oc M 0 t 6 = 0))) (b2_f (fun z => h83 z.2))]
        exact ih (t + 1) (by omega)
      · refine z_aload_0 (pc := 62) E dX8_customerTold_62 ?_
        refine z_get (pc := 63) E dX8_customerTold_63 fiX8_21 ok11 rfl rfl ?_
        refine z_iload_4 (pc := 66) E dX8_customerTold_66 ?_
        refine z_bipush (v := 6) (pc := 68) E dX8_customerTold_68 (by decide) ?_
        refine z_ivp (pc := 70) E (m_X7_get _ 0 t 6 (by decide) (by omega) (by decide)) rfl rfl kX7_get mlX8_56 dX8_customerTold_70 (ok6 (by omega)) rfl rfl rfl (Nat.le_of_ble_eq_true rfl) rfl (by decide) (by decide) ⟨by omega, by omega⟩ ?_
        refine z_iload_2 (pc := 73) E dX8_customerTold_73 ?_
        refine z_iconst (v := 4) (pc := 74) E dX8_customerTold_74 (by decide) ?_
        refine z_icmp_ne (pc := 75) (tgt := 82) E dX8_customerTold_75 (by decide) (fun h75 => ?_) (fun h75 => absurd h75 (by decide))
        refine z_iconst (v := 0) (pc := 82) E dX8_customerTold_82 (by decide) ?_
        refine z_icmp_eq (pc := 83) (tgt := 89) E dX8_customerTold_83 (by decide) (fun h83 => ?_) (fun h83 => ?_)
        · refine z_iload_3 (pc := 89) E dX8_customerTold_89 ?_
          refine z_iload_2 (pc := 90) E dX8_customerTold_90 ?_
          refine z_iconst (v := 3) (pc := 91) E dX8_customerTold_91 (by decide) ?_
          refine z_icmp_ne (pc := 92) (tgt := 107) E dX8_customerTold_92 (by decide) (fun h92 => ?_) (fun h92 => absurd h92 (by decide))
          refine z_iconst (v := 1) (pc := 107) E dX8_customerTold_107 (by decide) ?_
          refine z_iadd (pc := 108) E dX8_customerTold_108 ?_
          refine z_istore_3 (pc := 109) E dX8_customerTold_109 rfl ?_
          refine z_iinc_4 (pc := 110) E dX8_customerTold_110 (nI_1 t) rfl ?_
          refine z_goto (pc := 113) (tgt := 36) E dX8_customerTold_113 (by decide) ?_
          first | rw [fs_y (f := (fun t => b2 (oc M 0 t 0 = nI i ∧ oc M 0 t 6 = 0))) (b2_t ⟨Decidable.not_not.mp (fun z => z h59), h83⟩)] | rw [fs_z (f := (fun t => b2 (oc M 0 t 0 = nI i ∧ oc M 0 t 6 = 0))) (b2_f (fun z => h59 z.1))] | rw [fs_z (f := (fun t => b2 (oc M 0 t 0 = nI i ∧ oc M 0 t 6 = 0))) (b2_f (fun z => h83 z.2))]
          exact ih (t + 1) (by omega)
        · refine z_goto (pc := 86) (tgt := 110) E dX8_customerTold_86 (by decide) ?_
          refine z_iinc_4 (pc := 110) E dX8_customerTold_110 (nI_1 t) rfl ?_
          refine z_goto (pc := 113) (tgt := 36) E dX8_customerTold_113 (by decide) ?_
          first | rw [fs_y (f := (fun t => b2 (oc M 0 t 0 = nI i ∧ oc M 0 t 6 = 0))) (b2_t ⟨Decidable.not_not.mp (fun z => z h59), h83⟩)] | rw [fs_z (f := (fun t => b2 (oc M 0 t 0 = nI i ∧ oc M 0 t 6 = 0))) (b2_f (fun z => h59 z.1))] | rw [fs_z (f := (fun t => b2 (oc M 0 t 0 = nI i ∧ oc M 0 t 6 = 0))) (b2_f (fun z => h83 z.2))]
          exact ih (t + 1) (by omega)
  refine z_iload_2 (pc := 0) E dX8_customerTold_0 ?_
  refine z_iconst (v := 2) (pc := 1) E dX8_customerTold_1 (by decide) ?_
  refine z_icmp_ge (pc := 2) (tgt := 31) E dX8_customerTold_2 (by decide) (fun h2 => ?_) (fun h2 => absurd h2 (by decide))
  refine z_iconst (v := 0) (pc := 31) E dX8_customerTold_31 (by decide) ?_
  refine z_istore_3 (pc := 32) E dX8_customerTold_32 rfl ?_
  refine z_iconst (v := 0) (pc := 33) E dX8_customerTold_33 (by decide) ?_
  refine z_istore_4 (pc := 34) E dX8_customerTold_34 rfl ?_
  exact L n 0 (by omega)

set_option maxRecDepth 100000 in
set_option maxHeartbeats 4000000 in
theorem m_X8_customerTold_3 (M : Mem) (n i : Nat) (hn : M 6 0 0 2 = nI n) (h40 : n ≤ 40) (hi : i < 10) : CI yX8_customerTold cX8_customerTold 5 (some .int) 4 0 0 (fun G => [.ref (ad G 11 0 0), .int (nI i), .int (nI 3)]) M (fun r M' => r = mcustV M n i 3 ∧ M' = M) := by
  refine CI.mk (own := RX8) (by decide +kernel) rfl (fun _ => rfl) (fun _ => Nat.le_of_ble_eq_true rfl) (lv0 := fun G => [some (.ref (ad G 11 0 0)), some (.int (nI i)), some (.int (nI 3)), none, none]) (fun _ => rfl) (fun X G E => ?_)
  have L : ∀ (k : Nat) (t : Nat), t + k = n → Z X G (0, 0) (QI X G (fun r M' => r = mcustV M n i 3 ∧ M' = M) 0 0) 36 [some (.ref (ad G 11 0 0)), some (.int (nI i)), some (.int (nI 3)), some (.int (fsum t (fun t => if oc M 0 t 0 = nI i ∧ oc M 0 t 6 = 0 then owedV M 0 t else 0))), some (.int (nI t))] [] (M) 0 0 := by
    intro k
    induction k with
    | zero =>
      intro t ht
      obtain rfl : t = n := by omega
      refine z_iload_4 (pc := 36) E dX8_customerTold_36 ?_
      refine z_aload_0 (pc := 38) E dX8_customerTold_38 ?_
      refine z_get (pc := 39) E dX8_customerTold_39 fiX8_21 ok11 rfl rfl ?_
      refine z_getN (pc := 42) E dX8_customerTold_42 fiX8_39 (ok6 (by omega)) rfl rfl ?_
      refine z_icmp_ge (pc := 45) (tgt := 116) E dX8_customerTold_45 (by decide) (fun h45 => ?_) (fun h45 => absurd h45 (fun z => z (ct_ge hn (by omega) (by omega))))
      refine z_iload_3 (pc := 116) E dX8_customerTold_116 ?_
      exact z_iret (pc := 117) E dX8_customerTold_117 ⟨rfl, rfl⟩
    | succ k ih =>
      intro t ht
      refine z_iload_4 (pc := 36) E dX8_customerTold_36 ?_
      refine z_aload_0 (pc := 38) E dX8_customerTold_38 ?_
      refine z_get (pc := 39) E dX8_customerTold_39 fiX8_21 ok11 rfl rfl ?_
      refine z_getN (pc := 42) E dX8_customerTold_42 fiX8_39 (ok6 (by omega)) rfl rfl ?_
      refine z_icmp_ge (pc := 45) (tgt := 116) E dX8_customerTold_45 (by decide) (fun h45 => absurd h45 (ct_lt hn (by omega) (by omega))) (fun h45 => ?_)
      refine z_aload_0 (pc := 48) E dX8_customerTold_48 ?_
      refine z_get (pc := 49) E dX8_customerTold_49 fiX8_21 ok11 rfl rfl ?_
      refine z_iload_4 (pc := 52) E dX8_customerTold_52 ?_
      refine z_iconst (v := 0) (pc := 54) E dX8_customerTold_54 (by decide) ?_
      refine z_ivp (pc := 55) E (m_X7_get _ 0 t 0 (by decide) (by omega) (by decide)) rfl rfl kX7_get mlX8_56 dX8_customerTold_55 (ok6 (by omega)) rfl rfl rfl (Nat.le_of_ble_eq_true rfl) rfl (by decide) (by decide) ⟨by omega, by omega⟩ ?_
      refine z_iload_1 (pc := 58) E dX8_customerTold_58 ?_
      refine z_icmp_ne (pc := 59) (tgt := 110) E dX8_customerTold_59 (by decide) (fun h59 => ?_) (fun h59 => ?_)
      · refine z_iinc_4 (pc := 110) E dX8_customerTold_110 (nI_1 t) rfl ?_
        refine z_goto (pc := 113) (tgt := 36) E dX8_customerTold_113 (by decide) ?_
        first | rw [fs_y (f := (fun t => if oc M 0 t 0 = nI i ∧ oc M 0 t 6 = 0 then owedV M 0 t else 0)) (if_pos ⟨Decidable.not_not.mp (fun z => z h59), h83⟩)] | rw [fs_z (f := (fun t => if oc M 0 t 0 = nI i ∧ oc M 0 t 6 = 0 then owedV M 0 t else 0)) (if_neg (fun z => h59 z.1))] | rw [fs_z (f := (fun t => if oc M 0 t 0 = nI i ∧ oc M 0 t 6 = 0 then owedV M 0 t else 0)) (if_neg (fun z => h83 z.2))]
        exact ih (t + 1) (by omega)
      · refine z_aload_0 (pc := 62) E dX8_customerTold_62 ?_
        refine z_get (pc := 63) E dX8_customerTold_63 fiX8_21 ok11 rfl rfl ?_
        refine z_iload_4 (pc := 66) E dX8_customerTold_66 ?_
        refine z_bipush (v := 6) (pc := 68) E dX8_customerTold_68 (by decide) ?_
        refine z_ivp (pc := 70) E (m_X7_get _ 0 t 6 (by decide) (by omega) (by decide)) rfl rfl kX7_get mlX8_56 dX8_customerTold_70 (ok6 (by omega)) rfl rfl rfl (Nat.le_of_ble_eq_true rfl) rfl (by decide) (by decide) ⟨by omega, by omega⟩ ?_
        refine z_iload_2 (pc := 73) E dX8_customerTold_73 ?_
        refine z_iconst (v := 4) (pc := 74) E dX8_customerTold_74 (by decide) ?_
        refine z_icmp_ne (pc := 75) (tgt := 82) E dX8_customerTold_75 (by decide) (fun h75 => ?_) (fun h75 => absurd h75 (by decide))
        refine z_iconst (v := 0) (pc := 82) E dX8_customerTold_82 (by decide) ?_
        refine z_icmp_eq (pc := 83) (tgt := 89) E dX8_customerTold_83 (by decide) (fun h83 => ?_) (fun h83 => ?_)
        · refine z_iload_3 (pc := 89) E dX8_customerTold_89 ?_
          refine z_iload_2 (pc := 90) E dX8_customerTold_90 ?_
          refine z_iconst (v := 3) (pc := 91) E dX8_customerTold_91 (by decide) ?_
          refine z_icmp_ne (pc := 92) (tgt := 107) E dX8_customerTold_92 (by decide) (fun h92 => absurd h92 (by decide)) (fun h92 => ?_)
          refine z_aload_0 (pc := 95) E dX8_customerTold_95 ?_
          refine z_get (pc := 96) E dX8_customerTold_96 fiX8_21 ok11 rfl rfl ?_
          refine z_iload_4 (pc := 99) E dX8_customerTold_99 ?_
          refine z_ivp (pc := 101) E (m_X7_owed _ 0 _ (by decide) (by omega)) rfl rfl kX7_owed mlX8_60 dX8_customerTold_101 (ok6 (by omega)) rfl rfl rfl (Nat.le_of_ble_eq_true rfl) rfl (by decide) (by decide) ⟨by omega, by omega⟩ ?_
          refine z_goto (pc := 104) (tgt := 108) E dX8_customerTold_104 (by decide) ?_
          refine z_iadd (pc := 108) E dX8_customerTold_108 ?_
          refine z_istore_3 (pc := 109) E dX8_customerTold_109 rfl ?_
          refine z_iinc_4 (pc := 110) E dX8_customerTold_110 (nI_1 t) rfl ?_
          refine z_goto (pc := 113) (tgt := 36) E dX8_customerTold_113 (by decide) ?_
          first | rw [fs_y (f := (fun t => if oc M 0 t 0 = nI i ∧ oc M 0 t 6 = 0 then owedV M 0 t else 0)) (if_pos ⟨Decidable.not_not.mp (fun z => z h59), h83⟩)] | rw [fs_z (f := (fun t => if oc M 0 t 0 = nI i ∧ oc M 0 t 6 = 0 then owedV M 0 t else 0)) (if_neg (fun z => h59 z.1))] | rw [fs_z (f := (fun t => if oc M 0 t 0 = nI i ∧ oc M 0 t 6 = 0 then owedV M 0 t else 0)) (if_neg (fun z => h83 z.2))]
          exact ih (t + 1) (by omega)
        · refine z_goto (pc := 86) (tgt := 110) E dX8_customerTold_86 (by decide) ?_
          refine z_iinc_4 (pc := 110) E dX8_customerTold_110 (nI_1 t) rfl ?_
          refine z_goto (pc := 113) (tgt := 36) E dX8_customerTold_113 (by decide) ?_
          first | rw [fs_y (f := (fun t => if oc M 0 t 0 = nI i ∧ oc M 0 t 6 = 0 then owedV M 0 t else 0)) (if_pos ⟨Decidable.not_not.mp (fun z => z h59), h83⟩)] | rw [fs_z (f := (fun t => if oc M 0 t 0 = nI i ∧ oc M 0 t 6 = 0 then owedV M 0 t else 0)) (if_neg (fun z => h59 z.1))] | rw [fs_z (f := (fun t => if oc M 0 t 0 = nI i ∧ oc M 0 t 6 = 0 then owedV M 0 t else 0)) (if_neg (fun z => h83 z.2))]
          exact ih (t + 1) (by omega)
  refine z_iload_2 (pc := 0) E dX8_customerTold_0 ?_
  refine z_iconst (v := 2) (pc := 1) E dX8_customerTold_1 (by decide) ?_
  refine z_icmp_ge (pc := 2) (tgt := 31) E dX8_customerTold_2 (by decide) (fun h2 => ?_) (fun h2 => absurd h2 (by decide))
  refine z_iconst (v := 0) (pc := 31) E dX8_customerTold_31 (by decide) ?_
  refine z_istore_3 (pc := 32) E dX8_customerTold_32 rfl ?_
  refine z_iconst (v := 0) (pc := 33) E dX8_customerTold_33 (by decide) ?_
  refine z_istore_4 (pc := 34) E dX8_customerTold_34 rfl ?_
  exact L n 0 (by omega)

set_option maxRecDepth 100000 in
set_option maxHeartbeats 4000000 in
theorem m_X8_customerTold_4 (M : Mem) (n i : Nat) (hn : M 6 0 0 2 = nI n) (h40 : n ≤ 40) (hi : i < 10) : CI yX8_customerTold cX8_customerTold 5 (some .int) 4 0 0 (fun G => [.ref (ad G 11 0 0), .int (nI i), .int (nI 4)]) M (fun r M' => r = mcustV M n i 4 ∧ M' = M) := by
  refine CI.mk (own := RX8) (by decide +kernel) rfl (fun _ => rfl) (fun _ => Nat.le_of_ble_eq_true rfl) (lv0 := fun G => [some (.ref (ad G 11 0 0)), some (.int (nI i)), some (.int (nI 4)), none, none]) (fun _ => rfl) (fun X G E => ?_)
  have L : ∀ (k : Nat) (t : Nat), t + k = n → Z X G (0, 0) (QI X G (fun r M' => r = mcustV M n i 4 ∧ M' = M) 0 0) 36 [some (.ref (ad G 11 0 0)), some (.int (nI i)), some (.int (nI 4)), some (.int (fsum t (fun t => b2 (oc M 0 t 0 = nI i ∧ oc M 0 t 6 = 1)))), some (.int (nI t))] [] (M) 0 0 := by
    intro k
    induction k with
    | zero =>
      intro t ht
      obtain rfl : t = n := by omega
      refine z_iload_4 (pc := 36) E dX8_customerTold_36 ?_
      refine z_aload_0 (pc := 38) E dX8_customerTold_38 ?_
      refine z_get (pc := 39) E dX8_customerTold_39 fiX8_21 ok11 rfl rfl ?_
      refine z_getN (pc := 42) E dX8_customerTold_42 fiX8_39 (ok6 (by omega)) rfl rfl ?_
      refine z_icmp_ge (pc := 45) (tgt := 116) E dX8_customerTold_45 (by decide) (fun h45 => ?_) (fun h45 => absurd h45 (fun z => z (ct_ge hn (by omega) (by omega))))
      refine z_iload_3 (pc := 116) E dX8_customerTold_116 ?_
      exact z_iret (pc := 117) E dX8_customerTold_117 ⟨rfl, rfl⟩
    | succ k ih =>
      intro t ht
      refine z_iload_4 (pc := 36) E dX8_customerTold_36 ?_
      refine z_aload_0 (pc := 38) E dX8_customerTold_38 ?_
      refine z_get (pc := 39) E dX8_customerTold_39 fiX8_21 ok11 rfl rfl ?_
      refine z_getN (pc := 42) E dX8_customerTold_42 fiX8_39 (ok6 (by omega)) rfl rfl ?_
      refine z_icmp_ge (pc := 45) (tgt := 116) E dX8_customerTold_45 (by decide) (fun h45 => absurd h45 (ct_lt hn (by omega) (by omega))) (fun h45 => ?_)
      refine z_aload_0 (pc := 48) E dX8_customerTold_48 ?_
      refine z_get (pc := 49) E dX8_customerTold_49 fiX8_21 ok11 rfl rfl ?_
      refine z_iload_4 (pc := 52) E dX8_customerTold_52 ?_
      refine z_iconst (v := 0) (pc := 54) E dX8_customerTold_54 (by decide) ?_
      refine z_ivp (pc := 55) E (m_X7_get _ 0 t 0 (by decide) (by omega) (by decide)) rfl rfl kX7_get mlX8_56 dX8_customerTold_55 (ok6 (by omega)) rfl rfl rfl (Nat.le_of_ble_eq_true rfl) rfl (by decide) (by decide) ⟨by omega, by omega⟩ ?_
      refine z_iload_1 (pc := 58) E dX8_customerTold_58 ?_
      refine z_icmp_ne (pc := 59) (tgt := 110) E dX8_customerTold_59 (by decide) (fun h59 => ?_) (fun h59 => ?_)
      · refine z_iinc_4 (pc := 110) E dX8_customerTold_110 (nI_1 t) rfl ?_
        refine z_goto (pc := 113) (tgt := 36) E dX8_customerTold_113 (by decide) ?_
        first | rw [fs_y (f := (fun t => b2 (oc M 0 t 0 = nI i ∧ oc M 0 t 6 = 1))) (b2_t ⟨Decidable.not_not.mp (fun z => z h59), h83⟩)] | rw [fs_z (f := (fun t => b2 (oc M 0 t 0 = nI i ∧ oc M 0 t 6 = 1))) (b2_f (fun z => h59 z.1))] | rw [fs_z (f := (fun t => b2 (oc M 0 t 0 = nI i ∧ oc M 0 t 6 = 1))) (b2_f (fun z => h83 z.2))]
        exact ih (t + 1) (by omega)
      · refine z_aload_0 (pc := 62) E dX8_customerTold_62 ?_
        refine z_get (pc := 63) E dX8_customerTold_63 fiX8_21 ok11 rfl rfl ?_
        refine z_iload_4 (pc := 66) E dX8_customerTold_66 ?_
        refine z_bipush (v := 6) (pc := 68) E dX8_customerTold_68 (by decide) ?_
        refine z_ivp (pc := 70) E (m_X7_get _ 0 t 6 (by decide) (by omega) (by decide)) rfl rfl kX7_get mlX8_56 dX8_customerTold_70 (ok6 (by omega)) rfl rfl rfl (Nat.le_of_ble_eq_true rfl) rfl (by decide) (by decide) ⟨by omega, by omega⟩ ?_
        refine z_iload_2 (pc := 73) E dX8_customerTold_73 ?_
        refine z_iconst (v := 4) (pc := 74) E dX8_customerTold_74 (by decide) ?_
        refine z_icmp_ne (pc := 75) (tgt := 82) E dX8_customerTold_75 (by decide) (fun h75 => absurd h75 (by decide)) (fun h75 => ?_)
        refine z_iconst (v := 1) (pc := 78) E dX8_customerTold_78 (by decide) ?_
        refine z_goto (pc := 79) (tgt := 83) E dX8_customerTold_79 (by decide) ?_
        refine z_icmp_eq (pc := 83) (tgt := 89) E dX8_customerTold_83 (by decide) (fun h83 => ?_) (fun h83 => ?_)
        · refine z_iload_3 (pc := 89) E dX8_customerTold_89 ?_
          refine z_iload_2 (pc := 90) E dX8_customerTold_90 ?_
          refine z_iconst (v := 3) (pc := 91) E dX8_customerTold_91 (by decide) ?_
          refine z_icmp_ne (pc := 92) (tgt := 107) E dX8_customerTold_92 (by decide) (fun h92 => ?_) (fun h92 => absurd h92 (by decide))
          refine z_iconst (v := 1) (pc := 107) E dX8_customerTold_107 (by decide) ?_
          refine z_iadd (pc := 108) E dX8_customerTold_108 ?_
          refine z_istore_3 (pc := 109) E dX8_customerTold_109 rfl ?_
          refine z_iinc_4 (pc := 110) E dX8_customerTold_110 (nI_1 t) rfl ?_
          refine z_goto (pc := 113) (tgt := 36) E dX8_customerTold_113 (by decide) ?_
          first | rw [fs_y (f := (fun t => b2 (oc M 0 t 0 = nI i ∧ oc M 0 t 6 = 1))) (b2_t ⟨Decidable.not_not.mp (fun z => z h59), h83⟩)] | rw [fs_z (f := (fun t => b2 (oc M 0 t 0 = nI i ∧ oc M 0 t 6 = 1))) (b2_f (fun z => h59 z.1))] | rw [fs_z (f := (fun t => b2 (oc M 0 t 0 = nI i ∧ oc M 0 t 6 = 1))) (b2_f (fun z => h83 z.2))]
          exact ih (t + 1) (by omega)
        · refine z_goto (pc := 86) (tgt := 110) E dX8_customerTold_86 (by decide) ?_
          refine z_iinc_4 (pc := 110) E dX8_customerTold_110 (nI_1 t) rfl ?_
          refine z_goto (pc := 113) (tgt := 36) E dX8_customerTold_113 (by decide) ?_
          first | rw [fs_y (f := (fun t => b2 (oc M 0 t 0 = nI i ∧ oc M 0 t 6 = 1))) (b2_t ⟨Decidable.not_not.mp (fun z => z h59), h83⟩)] | rw [fs_z (f := (fun t => b2 (oc M 0 t 0 = nI i ∧ oc M 0 t 6 = 1))) (b2_f (fun z => h59 z.1))] | rw [fs_z (f := (fun t => b2 (oc M 0 t 0 = nI i ∧ oc M 0 t 6 = 1))) (b2_f (fun z => h83 z.2))]
          exact ih (t + 1) (by omega)
  refine z_iload_2 (pc := 0) E dX8_customerTold_0 ?_
  refine z_iconst (v := 2) (pc := 1) E dX8_customerTold_1 (by decide) ?_
  refine z_icmp_ge (pc := 2) (tgt := 31) E dX8_customerTold_2 (by decide) (fun h2 => ?_) (fun h2 => absurd h2 (by decide))
  refine z_iconst (v := 0) (pc := 31) E dX8_customerTold_31 (by decide) ?_
  refine z_istore_3 (pc := 32) E dX8_customerTold_32 rfl ?_
  refine z_iconst (v := 0) (pc := 33) E dX8_customerTold_33 (by decide) ?_
  refine z_istore_4 (pc := 34) E dX8_customerTold_34 rfl ?_
  exact L n 0 (by omega)

theorem m_X8_customerTold (M : Mem) (n i w : Nat) (hn : M 6 0 0 2 = nI n) (h40 : n ≤ 40) (hi : i < 10) (hw : w < 5) : CI yX8_customerTold cX8_customerTold 5 (some .int) 4 0 0 (fun G => [.ref (ad G 11 0 0), .int (nI i), .int (nI w)]) M (fun r M' => r = mcustV M n i w ∧ M' = M) :=
  match w, hw with
  | 0, _ => m_X8_customerTold_0 _ _ _ hn h40 hi
  | 1, _ => m_X8_customerTold_1 _ _ _ hn h40 hi
  | 2, _ => m_X8_customerTold_2 _ _ _ hn h40 hi
  | 3, _ => m_X8_customerTold_3 _ _ _ hn h40 hi
  | 4, _ => m_X8_customerTold_4 _ _ _ hn h40 hi

def mcustomerK (M : Mem) (c w : Int32) : Nat := if (0 ≤ c ∧ c ≤ M 11 0 0 1 - 1) ∧ (0 ≤ w ∧ w ≤ 4) then 0 else 1

theorem mcustV_t (M : Mem) (n i w : Nat) : mcustV (mset M 11 0 0 0 0) n i w = mcustV M n i w := match w with
  | 0 => rfl
  | 1 => rfl
  | 2 => rfl
  | 3 => rfl
  | _ + 4 => rfl

set_option maxRecDepth 100000 in
set_option maxHeartbeats 4000000 in
theorem m_X8_customer (M : Mem) (n cN : Nat) (c w : Int32) (hn : M 6 0 0 2 = nI n) (h40 : n ≤ 40) (hc : M 11 0 0 1 = nI cN) (h10 : cN ≤ 10) : CI yX8_customer cX8_customer 3 (some .int) 5 0 0 (fun G => [.ref (ad G 11 0 0), .int c, .int w]) M (fun r M' => (mcustomerK M c w = 0 ∧ ∃ i j, i < cN ∧ j < 5 ∧ c = nI i ∧ w = nI j ∧ r = mcustV M n i j ∧ M' = (mset M 11 0 0 0 0)) ∨ (¬ mcustomerK M c w = 0 ∧ M' = mset M 11 0 0 0 (nI (mcustomerK M c w)))) := by
  refine CI.mk (own := RX8) (by decide +kernel) rfl (fun _ => rfl) (fun _ => Nat.le_of_ble_eq_true rfl) (lv0 := fun G => [some (.ref (ad G 11 0 0)), some (.int c), some (.int w)]) (fun _ => rfl) (fun X G E => ?_)
  refine z_aload_0 (pc := 0) E dX8_customer_0 ?_
  refine z_iconst (v := 0) (pc := 1) E dX8_customer_1 (by decide) ?_
  refine z_put (pc := 2) E dX8_customer_2 fiX8_28 fpX8_0 ok11 rfl rfl (Nat.le_of_ble_eq_true rfl) ?_
  refine z_aload_0 (pc := 5) E dX8_customer_5 ?_
  refine z_iload_1 (pc := 6) E dX8_customer_6 ?_
  refine z_ivp (pc := 7) E (m_X8_isCustomer _ _) rfl rfl kX8_isCustomer mlX8_52 dX8_customer_7 ok11 rfl rfl rfl (Nat.le_of_ble_eq_true rfl) rfl (by decide) (by decide) ⟨by omega, by omega⟩ ?_
  refine z_if_eq (pc := 10) (tgt := 31) E dX8_customer_10 (by decide) (fun h10 => ?_) (fun h10 => ?_)
  · have g10 : ¬ (0 ≤ c ∧ c ≤ M 11 0 0 1 - 1) := b2_e0 h10
    refine z_aload_0 (pc := 31) E dX8_customer_31 ?_
    refine z_iconst (v := 1) (pc := 32) E dX8_customer_32 (by decide) ?_
    refine z_ivf (pc := 33) E (m_X8_no _ _) rfl rfl kX8_no mlX8_42 dX8_customer_33 ok11 rfl rfl rfl (Nat.le_of_ble_eq_true rfl) rfl (by decide) (by decide) ⟨by omega, by omega⟩ ?_
    exact z_iret (pc := 36) E dX8_customer_36 (Or.inr (mfail (e := 1) (by unfold mcustomerK; rw [if_neg (fun z => g10 z.1)]) (by decide) rfl))
  · have g10 : 0 ≤ c ∧ c ≤ M 11 0 0 1 - 1 := b2_n0 h10
    obtain ⟨i, hi, rfl⟩ := ix_of (hc_rw hc g10) (by omega)
    refine z_iload_2 (pc := 13) E dX8_customer_13 ?_
    refine z_iconst (v := 0) (pc := 14) E dX8_customer_14 (by decide) ?_
    refine z_iconst (v := 4) (pc := 15) E dX8_customer_15 (by decide) ?_
    refine z_isp (pc := 16) E (m_X8_isIn _ _ _ _) rfl rfl kX8_isIn mlX8_35 dX8_customer_16 rfl (Nat.le_of_ble_eq_true rfl) rfl (by decide) (by decide) ⟨by omega, by omega⟩ ?_
    refine z_if_eq (pc := 19) (tgt := 31) E dX8_customer_19 (by decide) (fun h19 => ?_) (fun h19 => ?_)
    · have g19 : ¬ (0 ≤ w ∧ w ≤ 4) := b2_e0 h19
      refine z_aload_0 (pc := 31) E dX8_customer_31 ?_
      refine z_iconst (v := 1) (pc := 32) E dX8_customer_32 (by decide) ?_
      refine z_ivf (pc := 33) E (m_X8_no _ _) rfl rfl kX8_no mlX8_42 dX8_customer_33 ok11 rfl rfl rfl (Nat.le_of_ble_eq_true rfl) rfl (by decide) (by decide) ⟨by omega, by omega⟩ ?_
      exact z_iret (pc := 36) E dX8_customer_36 (Or.inr (mfail (e := 1) (by unfold mcustomerK; rw [if_neg (fun z => g19 z.2)]) (by decide) rfl))
    · have g19 : 0 ≤ w ∧ w ≤ 4 := b2_n0 h19
      obtain ⟨j, hj, rfl⟩ := ix_c (n := 5) g19 (by decide) (by decide)
      refine z_aload_0 (pc := 22) E dX8_customer_22 ?_
      refine z_iload_1 (pc := 23) E dX8_customer_23 ?_
      refine z_iload_2 (pc := 24) E dX8_customer_24 ?_
      refine z_ivp (pc := 25) E (m_X8_customerTold _ n _ _ hn h40 (by omega) hj) rfl rfl kX8_customerTold mlX8_63 dX8_customer_25 ok11 rfl rfl rfl (Nat.le_of_ble_eq_true rfl) rfl (by decide) (by decide) ⟨by omega, by omega⟩ ?_
      refine z_goto (pc := 28) (tgt := 36) E dX8_customer_28 (by decide) ?_
      exact z_iret (pc := 36) E dX8_customer_36 (Or.inl ⟨by unfold mcustomerK; rw [if_pos (⟨g10, g19⟩ : _ ∧ _)], i, j, hi, hj, rfl, rfl, mcustV_t _ _ _ _, rfl⟩)

set_option maxRecDepth 100000 in
set_option maxHeartbeats 4000000 in
theorem m_X8_ticketTold_0 (M : Mem) (t : Nat) (ht : t < 40) (hf : oc M 0 t 7 = -1 ∨ ∃ q, q < 60 ∧ oc M 0 t 7 = nI q) : CI yX8_ticketTold cX8_ticketTold 4 (some .int) 3 0 0 (fun G => [.ref (ad G 11 0 0), .int (nI t), .int (nI 0)]) M (fun r M' => r = mtickV M t 0 ∧ M' = M) := by
  refine CI.mk (own := RX8) (by decide +kernel) rfl (fun _ => rfl) (fun _ => Nat.le_of_ble_eq_true rfl) (lv0 := fun G => [some (.ref (ad G 11 0 0)), some (.int (nI t)), some (.int (nI 0)), none]) (fun _ => rfl) (fun X G E => ?_)
  refine z_aload_0 (pc := 0) E dX8_ticketTold_0 ?_
  refine z_get (pc := 1) E dX8_ticketTold_1 fiX8_21 ok11 rfl rfl ?_
  refine z_iload_1 (pc := 4) E dX8_ticketTold_4 ?_
  refine z_bipush (v := 7) (pc := 5) E dX8_ticketTold_5 (by decide) ?_
  refine z_ivp (pc := 7) E (m_X7_get _ 0 t 7 (by decide) (by omega) (by decide)) rfl rfl kX7_get mlX8_56 dX8_ticketTold_7 (ok6 (by omega)) rfl rfl rfl (Nat.le_of_ble_eq_true rfl) rfl (by decide) (by decide) ⟨by omega, by omega⟩ ?_
  refine z_istore_3 (pc := 10) E dX8_ticketTold_10 rfl ?_
  refine z_iload_2 (pc := 11) E dX8_ticketTold_11 ?_
  refine z_tswOut (pc := 12) (tgt := 100) E dX8_ticketTold_12 (by decide) (by decide) ?_
  refine z_aload_0 (pc := 100) E dX8_ticketTold_100 ?_
  refine z_get (pc := 101) E dX8_ticketTold_101 fiX8_21 ok11 rfl rfl ?_
  refine z_iload_1 (pc := 104) E dX8_ticketTold_104 ?_
  refine z_iload_2 (pc := 105) E dX8_ticketTold_105 ?_
  refine z_ivp (pc := 106) E (m_X7_get _ 0 t 0 (by decide) (by omega) (by decide)) rfl rfl kX7_get mlX8_56 dX8_ticketTold_106 (ok6 (by omega)) rfl rfl rfl (Nat.le_of_ble_eq_true rfl) rfl (by decide) (by decide) ⟨by omega, by omega⟩ ?_
  exact z_iret (pc := 109) E dX8_ticketTold_109 ⟨rfl, rfl⟩

set_option maxRecDepth 100000 in
set_option maxHeartbeats 4000000 in
theorem m_X8_ticketTold_1 (M : Mem) (t : Nat) (ht : t < 40) (hf : oc M 0 t 7 = -1 ∨ ∃ q, q < 60 ∧ oc M 0 t 7 = nI q) : CI yX8_ticketTold cX8_ticketTold 4 (some .int) 3 0 0 (fun G => [.ref (ad G 11 0 0), .int (nI t), .int (nI 1)]) M (fun r M' => r = mtickV M t 1 ∧ M' = M) := by
  refine CI.mk (own := RX8) (by decide +kernel) rfl (fun _ => rfl) (fun _ => Nat.le_of_ble_eq_true rfl) (lv0 := fun G => [some (.ref (ad G 11 0 0)), some (.int (nI t)), some (.int (nI 1)), none]) (fun _ => rfl) (fun X G E => ?_)
  refine z_aload_0 (pc := 0) E dX8_ticketTold_0 ?_
  refine z_get (pc := 1) E dX8_ticketTold_1 fiX8_21 ok11 rfl rfl ?_
  refine z_iload_1 (pc := 4) E dX8_ticketTold_4 ?_
  refine z_bipush (v := 7) (pc := 5) E dX8_ticketTold_5 (by decide) ?_
  refine z_ivp (pc := 7) E (m_X7_get _ 0 t 7 (by decide) (by omega) (by decide)) rfl rfl kX7_get mlX8_56 dX8_ticketTold_7 (ok6 (by omega)) rfl rfl rfl (Nat.le_of_ble_eq_true rfl) rfl (by decide) (by decide) ⟨by omega, by omega⟩ ?_
  refine z_istore_3 (pc := 10) E dX8_ticketTold_10 rfl ?_
  refine z_iload_2 (pc := 11) E dX8_ticketTold_11 ?_
  refine z_tswOut (pc := 12) (tgt := 100) E dX8_ticketTold_12 (by decide) (by decide) ?_
  refine z_aload_0 (pc := 100) E dX8_ticketTold_100 ?_
  refine z_get (pc := 101) E dX8_ticketTold_101 fiX8_21 ok11 rfl rfl ?_
  refine z_iload_1 (pc := 104) E dX8_ticketTold_104 ?_
  refine z_iload_2 (pc := 105) E dX8_ticketTold_105 ?_
  refine z_ivp (pc := 106) E (m_X7_get _ 0 t 1 (by decide) (by omega) (by decide)) rfl rfl kX7_get mlX8_56 dX8_ticketTold_106 (ok6 (by omega)) rfl rfl rfl (Nat.le_of_ble_eq_true rfl) rfl (by decide) (by decide) ⟨by omega, by omega⟩ ?_
  exact z_iret (pc := 109) E dX8_ticketTold_109 ⟨rfl, rfl⟩

set_option maxRecDepth 100000 in
set_option maxHeartbeats 4000000 in
theorem m_X8_ticketTold_2 (M : Mem) (t : Nat) (ht : t < 40) (hf : oc M 0 t 7 = -1 ∨ ∃ q, q < 60 ∧ oc M 0 t 7 = nI q) : CI yX8_ticketTold cX8_ticketTold 4 (some .int) 3 0 0 (fun G => [.ref (ad G 11 0 0), .int (nI t), .int (nI 2)]) M (fun r M' => r = mtickV M t 2 ∧ M' = M) := by
  refine CI.mk (own := RX8) (by decide +kernel) rfl (fun _ => rfl) (fun _ => Nat.le_of_ble_eq_true rfl) (lv0 := fun G => [some (.ref (ad G 11 0 0)), some (.int (nI t)), some (.int (nI 2)), none]) (fun _ => rfl) (fun X G E => ?_)
  refine z_aload_0 (pc := 0) E dX8_ticketTold_0 ?_
  refine z_get (pc := 1) E dX8_ticketTold_1 fiX8_21 ok11 rfl rfl ?_
  refine z_iload_1 (pc := 4) E dX8_ticketTold_4 ?_
  refine z_bipush (v := 7) (pc := 5) E dX8_ticketTold_5 (by decide) ?_
  refine z_ivp (pc := 7) E (m_X7_get _ 0 t 7 (by decide) (by omega) (by decide)) rfl rfl kX7_get mlX8_56 dX8_ticketTold_7 (ok6 (by omega)) rfl rfl rfl (Nat.le_of_ble_eq_true rfl) rfl (by decide) (by decide) ⟨by omega, by omega⟩ ?_
  refine z_istore_3 (pc := 10) E dX8_ticketTold_10 rfl ?_
  refine z_iload_2 (pc := 11) E dX8_ticketTold_11 ?_
  refine z_tswOut (pc := 12) (tgt := 100) E dX8_ticketTold_12 (by decide) (by decide) ?_
  refine z_aload_0 (pc := 100) E dX8_ticketTold_100 ?_
  refine z_get (pc := 101) E dX8_ticketTold_101 fiX8_21 ok11 rfl rfl ?_
  refine z_iload_1 (pc := 104) E dX8_ticketTold_104 ?_
  refine z_iload_2 (pc := 105) E dX8_ticketTold_105 ?_
  refine z_ivp (pc := 106) E (m_X7_get _ 0 t 2 (by decide) (by omega) (by decide)) rfl rfl kX7_get mlX8_56 dX8_ticketTold_106 (ok6 (by omega)) rfl rfl rfl (Nat.le_of_ble_eq_true rfl) rfl (by decide) (by decide) ⟨by omega, by omega⟩ ?_
  exact z_iret (pc := 109) E dX8_ticketTold_109 ⟨rfl, rfl⟩

set_option maxRecDepth 100000 in
set_option maxHeartbeats 4000000 in
theorem m_X8_ticketTold_3 (M : Mem) (t : Nat) (ht : t < 40) (hf : oc M 0 t 7 = -1 ∨ ∃ q, q < 60 ∧ oc M 0 t 7 = nI q) : CI yX8_ticketTold cX8_ticketTold 4 (some .int) 3 0 0 (fun G => [.ref (ad G 11 0 0), .int (nI t), .int (nI 3)]) M (fun r M' => r = mtickV M t 3 ∧ M' = M) := by
  refine CI.mk (own := RX8) (by decide +kernel) rfl (fun _ => rfl) (fun _ => Nat.le_of_ble_eq_true rfl) (lv0 := fun G => [some (.ref (ad G 11 0 0)), some (.int (nI t)), some (.int (nI 3)), none]) (fun _ => rfl) (fun X G E => ?_)
  refine z_aload_0 (pc := 0) E dX8_ticketTold_0 ?_
  refine z_get (pc := 1) E dX8_ticketTold_1 fiX8_21 ok11 rfl rfl ?_
  refine z_iload_1 (pc := 4) E dX8_ticketTold_4 ?_
  refine z_bipush (v := 7) (pc := 5) E dX8_ticketTold_5 (by decide) ?_
  refine z_ivp (pc := 7) E (m_X7_get _ 0 t 7 (by decide) (by omega) (by decide)) rfl rfl kX7_get mlX8_56 dX8_ticketTold_7 (ok6 (by omega)) rfl rfl rfl (Nat.le_of_ble_eq_true rfl) rfl (by decide) (by decide) ⟨by omega, by omega⟩ ?_
  refine z_istore_3 (pc := 10) E dX8_ticketTold_10 rfl ?_
  refine z_iload_2 (pc := 11) E dX8_ticketTold_11 ?_
  refine z_tswOut (pc := 12) (tgt := 100) E dX8_ticketTold_12 (by decide) (by decide) ?_
  refine z_aload_0 (pc := 100) E dX8_ticketTold_100 ?_
  refine z_get (pc := 101) E dX8_ticketTold_101 fiX8_21 ok11 rfl rfl ?_
  refine z_iload_1 (pc := 104) E dX8_ticketTold_104 ?_
  refine z_iload_2 (pc := 105) E dX8_ticketTold_105 ?_
  refine z_ivp (pc := 106) E (m_X7_get _ 0 t 3 (by decide) (by omega) (by decide)) rfl rfl kX7_get mlX8_56 dX8_ticketTold_106 (ok6 (by omega)) rfl rfl rfl (Nat.le_of_ble_eq_true rfl) rfl (by decide) (by decide) ⟨by omega, by omega⟩ ?_
  exact z_iret (pc := 109) E dX8_ticketTold_109 ⟨rfl, rfl⟩

set_option maxRecDepth 100000 in
set_option maxHeartbeats 4000000 in
theorem m_X8_ticketTold_4 (M : Mem) (t : Nat) (ht : t < 40) (hf : oc M 0 t 7 = -1 ∨ ∃ q, q < 60 ∧ oc M 0 t 7 = nI q) : CI yX8_ticketTold cX8_ticketTold 4 (some .int) 3 0 0 (fun G => [.ref (ad G 11 0 0), .int (nI t), .int (nI 4)]) M (fun r M' => r = mtickV M t 4 ∧ M' = M) := by
  refine CI.mk (own := RX8) (by decide +kernel) rfl (fun _ => rfl) (fun _ => Nat.le_of_ble_eq_true rfl) (lv0 := fun G => [some (.ref (ad G 11 0 0)), some (.int (nI t)), some (.int (nI 4)), none]) (fun _ => rfl) (fun X G E => ?_)
  refine z_aload_0 (pc := 0) E dX8_ticketTold_0 ?_
  refine z_get (pc := 1) E dX8_ticketTold_1 fiX8_21 ok11 rfl rfl ?_
  refine z_iload_1 (pc := 4) E dX8_ticketTold_4 ?_
  refine z_bipush (v := 7) (pc := 5) E dX8_ticketTold_5 (by decide) ?_
  refine z_ivp (pc := 7) E (m_X7_get _ 0 t 7 (by decide) (by omega) (by decide)) rfl rfl kX7_get mlX8_56 dX8_ticketTold_7 (ok6 (by omega)) rfl rfl rfl (Nat.le_of_ble_eq_true rfl) rfl (by decide) (by decide) ⟨by omega, by omega⟩ ?_
  refine z_istore_3 (pc := 10) E dX8_ticketTold_10 rfl ?_
  refine z_iload_2 (pc := 11) E dX8_ticketTold_11 ?_
  refine z_tswOut (pc := 12) (tgt := 100) E dX8_ticketTold_12 (by decide) (by decide) ?_
  refine z_aload_0 (pc := 100) E dX8_ticketTold_100 ?_
  refine z_get (pc := 101) E dX8_ticketTold_101 fiX8_21 ok11 rfl rfl ?_
  refine z_iload_1 (pc := 104) E dX8_ticketTold_104 ?_
  refine z_iload_2 (pc := 105) E dX8_ticketTold_105 ?_
  refine z_ivp (pc := 106) E (m_X7_get _ 0 t 4 (by decide) (by omega) (by decide)) rfl rfl kX7_get mlX8_56 dX8_ticketTold_106 (ok6 (by omega)) rfl rfl rfl (Nat.le_of_ble_eq_true rfl) rfl (by decide) (by decide) ⟨by omega, by omega⟩ ?_
  exact z_iret (pc := 109) E dX8_ticketTold_109 ⟨rfl, rfl⟩

set_option maxRecDepth 100000 in
set_option maxHeartbeats 4000000 in
theorem m_X8_ticketTold_5 (M : Mem) (t : Nat) (ht : t < 40) (hf : oc M 0 t 7 = -1 ∨ ∃ q, q < 60 ∧ oc M 0 t 7 = nI q) : CI yX8_ticketTold cX8_ticketTold 4 (some .int) 3 0 0 (fun G => [.ref (ad G 11 0 0), .int (nI t), .int (nI 5)]) M (fun r M' => r = mtickV M t 5 ∧ M' = M) := by
  refine CI.mk (own := RX8) (by decide +kernel) rfl (fun _ => rfl) (fun _ => Nat.le_of_ble_eq_true rfl) (lv0 := fun G => [some (.ref (ad G 11 0 0)), some (.int (nI t)), some (.int (nI 5)), none]) (fun _ => rfl) (fun X G E => ?_)
  refine z_aload_0 (pc := 0) E dX8_ticketTold_0 ?_
  refine z_get (pc := 1) E dX8_ticketTold_1 fiX8_21 ok11 rfl rfl ?_
  refine z_iload_1 (pc := 4) E dX8_ticketTold_4 ?_
  refine z_bipush (v := 7) (pc := 5) E dX8_ticketTold_5 (by decide) ?_
  refine z_ivp (pc := 7) E (m_X7_get _ 0 t 7 (by decide) (by omega) (by decide)) rfl rfl kX7_get mlX8_56 dX8_ticketTold_7 (ok6 (by omega)) rfl rfl rfl (Nat.le_of_ble_eq_true rfl) rfl (by decide) (by decide) ⟨by omega, by omega⟩ ?_
  refine z_istore_3 (pc := 10) E dX8_ticketTold_10 rfl ?_
  refine z_iload_2 (pc := 11) E dX8_ticketTold_11 ?_
  refine z_tswOut (pc := 12) (tgt := 100) E dX8_ticketTold_12 (by decide) (by decide) ?_
  refine z_aload_0 (pc := 100) E dX8_ticketTold_100 ?_
  refine z_get (pc := 101) E dX8_ticketTold_101 fiX8_21 ok11 rfl rfl ?_
  refine z_iload_1 (pc := 104) E dX8_ticketTold_104 ?_
  refine z_iload_2 (pc := 105) E dX8_ticketTold_105 ?_
  refine z_ivp (pc := 106) E (m_X7_get _ 0 t 5 (by decide) (by omega) (by decide)) rfl rfl kX7_get mlX8_56 dX8_ticketTold_106 (ok6 (by omega)) rfl rfl rfl (Nat.le_of_ble_eq_true rfl) rfl (by decide) (by decide) ⟨by omega, by omega⟩ ?_
  exact z_iret (pc := 109) E dX8_ticketTold_109 ⟨rfl, rfl⟩

set_option maxRecDepth 100000 in
set_option maxHeartbeats 4000000 in
theorem m_X8_ticketTold_6 (M : Mem) (t : Nat) (ht : t < 40) (hf : oc M 0 t 7 = -1 ∨ ∃ q, q < 60 ∧ oc M 0 t 7 = nI q) : CI yX8_ticketTold cX8_ticketTold 4 (some .int) 3 0 0 (fun G => [.ref (ad G 11 0 0), .int (nI t), .int (nI 6)]) M (fun r M' => r = mtickV M t 6 ∧ M' = M) := by
  refine CI.mk (own := RX8) (by decide +kernel) rfl (fun _ => rfl) (fun _ => Nat.le_of_ble_eq_true rfl) (lv0 := fun G => [some (.ref (ad G 11 0 0)), some (.int (nI t)), some (.int (nI 6)), none]) (fun _ => rfl) (fun X G E => ?_)
  refine z_aload_0 (pc := 0) E dX8_ticketTold_0 ?_
  refine z_get (pc := 1) E dX8_ticketTold_1 fiX8_21 ok11 rfl rfl ?_
  refine z_iload_1 (pc := 4) E dX8_ticketTold_4 ?_
  refine z_bipush (v := 7) (pc := 5) E dX8_ticketTold_5 (by decide) ?_
  refine z_ivp (pc := 7) E (m_X7_get _ 0 t 7 (by decide) (by omega) (by decide)) rfl rfl kX7_get mlX8_56 dX8_ticketTold_7 (ok6 (by omega)) rfl rfl rfl (Nat.le_of_ble_eq_true rfl) rfl (by decide) (by decide) ⟨by omega, by omega⟩ ?_
  refine z_istore_3 (pc := 10) E dX8_ticketTold_10 rfl ?_
  refine z_iload_2 (pc := 11) E dX8_ticketTold_11 ?_
  refine z_tswOut (pc := 12) (tgt := 100) E dX8_ticketTold_12 (by decide) (by decide) ?_
  refine z_aload_0 (pc := 100) E dX8_ticketTold_100 ?_
  refine z_get (pc := 101) E dX8_ticketTold_101 fiX8_21 ok11 rfl rfl ?_
  refine z_iload_1 (pc := 104) E dX8_ticketTold_104 ?_
  refine z_iload_2 (pc := 105) E dX8_ticketTold_105 ?_
  refine z_ivp (pc := 106) E (m_X7_get _ 0 t 6 (by decide) (by omega) (by decide)) rfl rfl kX7_get mlX8_56 dX8_ticketTold_106 (ok6 (by omega)) rfl rfl rfl (Nat.le_of_ble_eq_true rfl) rfl (by decide) (by decide) ⟨by omega, by omega⟩ ?_
  exact z_iret (pc := 109) E dX8_ticketTold_109 ⟨rfl, rfl⟩

set_option maxRecDepth 100000 in
set_option maxHeartbeats 4000000 in
theorem m_X8_ticketTold_7 (M : Mem) (t : Nat) (ht : t < 40) (hf : oc M 0 t 7 = -1 ∨ ∃ q, q < 60 ∧ oc M 0 t 7 = nI q) : CI yX8_ticketTold cX8_ticketTold 4 (some .int) 3 0 0 (fun G => [.ref (ad G 11 0 0), .int (nI t), .int (nI 7)]) M (fun r M' => r = mtickV M t 7 ∧ M' = M) := by
  refine CI.mk (own := RX8) (by decide +kernel) rfl (fun _ => rfl) (fun _ => Nat.le_of_ble_eq_true rfl) (lv0 := fun G => [some (.ref (ad G 11 0 0)), some (.int (nI t)), some (.int (nI 7)), none]) (fun _ => rfl) (fun X G E => ?_)
  refine z_aload_0 (pc := 0) E dX8_ticketTold_0 ?_
  refine z_get (pc := 1) E dX8_ticketTold_1 fiX8_21 ok11 rfl rfl ?_
  refine z_iload_1 (pc := 4) E dX8_ticketTold_4 ?_
  refine z_bipush (v := 7) (pc := 5) E dX8_ticketTold_5 (by decide) ?_
  refine z_ivp (pc := 7) E (m_X7_get _ 0 t 7 (by decide) (by omega) (by decide)) rfl rfl kX7_get mlX8_56 dX8_ticketTold_7 (ok6 (by omega)) rfl rfl rfl (Nat.le_of_ble_eq_true rfl) rfl (by decide) (by decide) ⟨by omega, by omega⟩ ?_
  refine z_istore_3 (pc := 10) E dX8_ticketTold_10 rfl ?_
  refine z_iload_2 (pc := 11) E dX8_ticketTold_11 ?_
  refine z_tswIn (pc := 12) (tgt := 44) (off := 32) E dX8_ticketTold_12 (by decide) (by decide) (by decide) (by decide) ?_
  refine z_iload_3 (pc := 44) E dX8_ticketTold_44 ?_
  refine z_iconst (v := -1) (pc := 45) E dX8_ticketTold_45 (by decide) ?_
  refine z_icmp_ne (pc := 46) (tgt := 53) E dX8_ticketTold_46 (by decide) (fun h46 => ?_) (fun h46 => ?_)
  · obtain ⟨q, hq, he⟩ := hf.resolve_left h46
    rw [he]
    refine z_iload_3 (pc := 53) E dX8_ticketTold_53 ?_
    refine z_isp (pc := 54) E (m_X8_shelfOf _ q (by omega)) rfl rfl kX8_shelfOf mlX8_96 dX8_ticketTold_54 rfl (Nat.le_of_ble_eq_true rfl) rfl (by decide) (by decide) ⟨by omega, by omega⟩ ?_
    exact z_iret (pc := 57) E dX8_ticketTold_57 ⟨((if_neg h46).trans (by rw [he, nI_clamp (n31 (by omega))])).symm, rfl⟩
  · refine z_iconst (v := -1) (pc := 49) E dX8_ticketTold_49 (by decide) ?_
    refine z_goto (pc := 50) (tgt := 57) E dX8_ticketTold_50 (by decide) ?_
    exact z_iret (pc := 57) E dX8_ticketTold_57 ⟨(if_pos h46).symm, rfl⟩

set_option maxRecDepth 100000 in
set_option maxHeartbeats 4000000 in
theorem m_X8_ticketTold_8 (M : Mem) (t : Nat) (ht : t < 40) (hf : oc M 0 t 7 = -1 ∨ ∃ q, q < 60 ∧ oc M 0 t 7 = nI q) : CI yX8_ticketTold cX8_ticketTold 4 (some .int) 3 0 0 (fun G => [.ref (ad G 11 0 0), .int (nI t), .int (nI 8)]) M (fun r M' => r = mtickV M t 8 ∧ M' = M) := by
  refine CI.mk (own := RX8) (by decide +kernel) rfl (fun _ => rfl) (fun _ => Nat.le_of_ble_eq_true rfl) (lv0 := fun G => [some (.ref (ad G 11 0 0)), some (.int (nI t)), some (.int (nI 8)), none]) (fun _ => rfl) (fun X G E => ?_)
  refine z_aload_0 (pc := 0) E dX8_ticketTold_0 ?_
  refine z_get (pc := 1) E dX8_ticketTold_1 fiX8_21 ok11 rfl rfl ?_
  refine z_iload_1 (pc := 4) E dX8_ticketTold_4 ?_
  refine z_bipush (v := 7) (pc := 5) E dX8_ticketTold_5 (by decide) ?_
  refine z_ivp (pc := 7) E (m_X7_get _ 0 t 7 (by decide) (by omega) (by decide)) rfl rfl kX7_get mlX8_56 dX8_ticketTold_7 (ok6 (by omega)) rfl rfl rfl (Nat.le_of_ble_eq_true rfl) rfl (by decide) (by decide) ⟨by omega, by omega⟩ ?_
  refine z_istore_3 (pc := 10) E dX8_ticketTold_10 rfl ?_
  refine z_iload_2 (pc := 11) E dX8_ticketTold_11 ?_
  refine z_tswIn (pc := 12) (tgt := 58) (off := 46) E dX8_ticketTold_12 (by decide) (by decide) (by decide) (by decide) ?_
  refine z_iload_3 (pc := 58) E dX8_ticketTold_58 ?_
  refine z_iconst (v := -1) (pc := 59) E dX8_ticketTold_59 (by decide) ?_
  refine z_icmp_ne (pc := 60) (tgt := 67) E dX8_ticketTold_60 (by decide) (fun h60 => ?_) (fun h60 => ?_)
  · obtain ⟨q, hq, he⟩ := hf.resolve_left h60
    rw [he]
    refine z_iload_3 (pc := 67) E dX8_ticketTold_67 ?_
    refine z_from8 (pc := 68) E dX8_ticketTold_68 flX8_93 ?_
    refine z_iload_3 (pc := 71) E dX8_ticketTold_71 ?_
    refine z_isp (pc := 72) E (m_X8_shelfOf _ q (by omega)) rfl rfl kX8_shelfOf mlX8_96 dX8_ticketTold_72 rfl (Nat.le_of_ble_eq_true rfl) rfl (by decide) (by decide) ⟨by omega, by omega⟩ ?_
    refine z_tald (pc := 75) E dX8_ticketTold_75 rfl (Nat.lt_trans (shN_lt q) (by decide)) ?_
    refine z_isub (pc := 76) E dX8_ticketTold_76 ?_
    exact z_iret (pc := 77) E dX8_ticketTold_77 ⟨((if_neg h60).trans (by rw [he, nI_clamp (n31 (by omega))])).symm, rfl⟩
  · refine z_iconst (v := -1) (pc := 63) E dX8_ticketTold_63 (by decide) ?_
    refine z_goto (pc := 64) (tgt := 77) E dX8_ticketTold_64 (by decide) ?_
    exact z_iret (pc := 77) E dX8_ticketTold_77 ⟨(if_pos h60).symm, rfl⟩

set_option maxRecDepth 100000 in
set_option maxHeartbeats 4000000 in
theorem m_X8_ticketTold_9 (M : Mem) (t : Nat) (ht : t < 40) (hf : oc M 0 t 7 = -1 ∨ ∃ q, q < 60 ∧ oc M 0 t 7 = nI q) : CI yX8_ticketTold cX8_ticketTold 4 (some .int) 3 0 0 (fun G => [.ref (ad G 11 0 0), .int (nI t), .int (nI 9)]) M (fun r M' => r = mtickV M t 9 ∧ M' = M) := by
  refine CI.mk (own := RX8) (by decide +kernel) rfl (fun _ => rfl) (fun _ => Nat.le_of_ble_eq_true rfl) (lv0 := fun G => [some (.ref (ad G 11 0 0)), some (.int (nI t)), some (.int (nI 9)), none]) (fun _ => rfl) (fun X G E => ?_)
  refine z_aload_0 (pc := 0) E dX8_ticketTold_0 ?_
  refine z_get (pc := 1) E dX8_ticketTold_1 fiX8_21 ok11 rfl rfl ?_
  refine z_iload_1 (pc := 4) E dX8_ticketTold_4 ?_
  refine z_bipush (v := 7) (pc := 5) E dX8_ticketTold_5 (by decide) ?_
  refine z_ivp (pc := 7) E (m_X7_get _ 0 t 7 (by decide) (by omega) (by decide)) rfl rfl kX7_get mlX8_56 dX8_ticketTold_7 (ok6 (by omega)) rfl rfl rfl (Nat.le_of_ble_eq_true rfl) rfl (by decide) (by decide) ⟨by omega, by omega⟩ ?_
  refine z_istore_3 (pc := 10) E dX8_ticketTold_10 rfl ?_
  refine z_iload_2 (pc := 11) E dX8_ticketTold_11 ?_
  refine z_tswIn (pc := 12) (tgt := 78) (off := 66) E dX8_ticketTold_12 (by decide) (by decide) (by decide) (by decide) ?_
  refine z_aload_0 (pc := 78) E dX8_ticketTold_78 ?_
  refine z_get (pc := 79) E dX8_ticketTold_79 fiX8_21 ok11 rfl rfl ?_
  refine z_iload_1 (pc := 82) E dX8_ticketTold_82 ?_
  refine z_bipush (v := 8) (pc := 83) E dX8_ticketTold_83 (by decide) ?_
  refine z_ivp (pc := 85) E (m_X7_get _ 0 t 8 (by decide) (by omega) (by decide)) rfl rfl kX7_get mlX8_56 dX8_ticketTold_85 (ok6 (by omega)) rfl rfl rfl (Nat.le_of_ble_eq_true rfl) rfl (by decide) (by decide) ⟨by omega, by omega⟩ ?_
  exact z_iret (pc := 88) E dX8_ticketTold_88 ⟨rfl, rfl⟩

set_option maxRecDepth 100000 in
set_option maxHeartbeats 4000000 in
theorem m_X8_ticketTold_10 (M : Mem) (t : Nat) (ht : t < 40) (hf : oc M 0 t 7 = -1 ∨ ∃ q, q < 60 ∧ oc M 0 t 7 = nI q) : CI yX8_ticketTold cX8_ticketTold 4 (some .int) 3 0 0 (fun G => [.ref (ad G 11 0 0), .int (nI t), .int (nI 10)]) M (fun r M' => r = mtickV M t 10 ∧ M' = M) := by
  refine CI.mk (own := RX8) (by decide +kernel) rfl (fun _ => rfl) (fun _ => Nat.le_of_ble_eq_true rfl) (lv0 := fun G => [some (.ref (ad G 11 0 0)), some (.int (nI t)), some (.int (nI 10)), none]) (fun _ => rfl) (fun X G E => ?_)
  refine z_aload_0 (pc := 0) E dX8_ticketTold_0 ?_
  refine z_get (pc := 1) E dX8_ticketTold_1 fiX8_21 ok11 rfl rfl ?_
  refine z_iload_1 (pc := 4) E dX8_ticketTold_4 ?_
  refine z_bipush (v := 7) (pc := 5) E dX8_ticketTold_5 (by decide) ?_
  refine z_ivp (pc := 7) E (m_X7_get _ 0 t 7 (by decide) (by omega) (by decide)) rfl rfl kX7_get mlX8_56 dX8_ticketTold_7 (ok6 (by omega)) rfl rfl rfl (Nat.le_of_ble_eq_true rfl) rfl (by decide) (by decide) ⟨by omega, by omega⟩ ?_
  refine z_istore_3 (pc := 10) E dX8_ticketTold_10 rfl ?_
  refine z_iload_2 (pc := 11) E dX8_ticketTold_11 ?_
  refine z_tswIn (pc := 12) (tgt := 89) (off := 77) E dX8_ticketTold_12 (by decide) (by decide) (by decide) (by decide) ?_
  refine z_aload_0 (pc := 89) E dX8_ticketTold_89 ?_
  refine z_get (pc := 90) E dX8_ticketTold_90 fiX8_21 ok11 rfl rfl ?_
  refine z_iload_1 (pc := 93) E dX8_ticketTold_93 ?_
  refine z_bipush (v := 9) (pc := 94) E dX8_ticketTold_94 (by decide) ?_
  refine z_ivp (pc := 96) E (m_X7_get _ 0 t 9 (by decide) (by omega) (by decide)) rfl rfl kX7_get mlX8_56 dX8_ticketTold_96 (ok6 (by omega)) rfl rfl rfl (Nat.le_of_ble_eq_true rfl) rfl (by decide) (by decide) ⟨by omega, by omega⟩ ?_
  exact z_iret (pc := 99) E dX8_ticketTold_99 ⟨rfl, rfl⟩

theorem m_X8_ticketTold (M : Mem) (t w : Nat) (ht : t < 40) (hf : oc M 0 t 7 = -1 ∨ ∃ q, q < 60 ∧ oc M 0 t 7 = nI q) (hw : w < 11) : CI yX8_ticketTold cX8_ticketTold 4 (some .int) 3 0 0 (fun G => [.ref (ad G 11 0 0), .int (nI t), .int (nI w)]) M (fun r M' => r = mtickV M t w ∧ M' = M) :=
  match w, hw with
  | 0, _ => m_X8_ticketTold_0 _ _ ht hf
  | 1, _ => m_X8_ticketTold_1 _ _ ht hf
  | 2, _ => m_X8_ticketTold_2 _ _ ht hf
  | 3, _ => m_X8_ticketTold_3 _ _ ht hf
  | 4, _ => m_X8_ticketTold_4 _ _ ht hf
  | 5, _ => m_X8_ticketTold_5 _ _ ht hf
  | 6, _ => m_X8_ticketTold_6 _ _ ht hf
  | 7, _ => m_X8_ticketTold_7 _ _ ht hf
  | 8, _ => m_X8_ticketTold_8 _ _ ht hf
  | 9, _ => m_X8_ticketTold_9 _ _ ht hf
  | 10, _ => m_X8_ticketTold_10 _ _ ht hf

theorem mtickV_t (M : Mem) (t : Nat) : ∀ w, w < 11 → mtickV (mset M 11 0 0 0 0) t w = mtickV M t w
  | 0, _ => rfl
  | 1, _ => rfl
  | 2, _ => rfl
  | 3, _ => rfl
  | 4, _ => rfl
  | 5, _ => rfl
  | 6, _ => rfl
  | 7, _ => rfl
  | 8, _ => rfl
  | 9, _ => rfl
  | 10, _ => rfl

def mticketK (M : Mem) (t w : Int32) : Nat := if (0 ≤ t ∧ t ≤ M 6 0 0 2 - 1) ∧ (0 ≤ w ∧ w ≤ 10) then 0 else 1

set_option maxRecDepth 100000 in
set_option maxHeartbeats 4000000 in
theorem m_X8_ticket (M : Mem) (n : Nat) (t w : Int32) (hn : M 6 0 0 2 = nI n) (h40 : n ≤ 40) (hf : ∀ t, t < n → oc M 0 t 7 = -1 ∨ ∃ q, q < 60 ∧ oc M 0 t 7 = nI q) : CI yX8_ticket cX8_ticket 3 (some .int) 4 0 0 (fun G => [.ref (ad G 11 0 0), .int t, .int w]) M (fun r M' => (mticketK M t w = 0 ∧ ∃ i j, i < n ∧ j < 11 ∧ t = nI i ∧ w = nI j ∧ r = mtickV M i j ∧ M' = (mset M 11 0 0 0 0)) ∨ (¬ mticketK M t w = 0 ∧ M' = mset M 11 0 0 0 (nI (mticketK M t w)))) := by
  refine CI.mk (own := RX8) (by decide +kernel) rfl (fun _ => rfl) (fun _ => Nat.le_of_ble_eq_true rfl) (lv0 := fun G => [some (.ref (ad G 11 0 0)), some (.int t), some (.int w)]) (fun _ => rfl) (fun X G E => ?_)
  refine z_aload_0 (pc := 0) E dX8_ticket_0 ?_
  refine z_iconst (v := 0) (pc := 1) E dX8_ticket_1 (by decide) ?_
  refine z_put (pc := 2) E dX8_ticket_2 fiX8_28 fpX8_0 ok11 rfl rfl (Nat.le_of_ble_eq_true rfl) ?_
  refine z_aload_0 (pc := 5) E dX8_ticket_5 ?_
  refine z_iload_1 (pc := 6) E dX8_ticket_6 ?_
  refine z_ivp (pc := 7) E (m_X8_isTicket _ _) rfl rfl kX8_isTicket mlX8_99 dX8_ticket_7 ok11 rfl rfl rfl (Nat.le_of_ble_eq_true rfl) rfl (by decide) (by decide) ⟨by omega, by omega⟩ ?_
  refine z_if_eq (pc := 10) (tgt := 32) E dX8_ticket_10 (by decide) (fun h10 => ?_) (fun h10 => ?_)
  · have g10 : ¬ (0 ≤ t ∧ t ≤ M 6 0 0 2 - 1) := b2_e0 h10
    refine z_aload_0 (pc := 32) E dX8_ticket_32 ?_
    refine z_iconst (v := 1) (pc := 33) E dX8_ticket_33 (by decide) ?_
    refine z_ivf (pc := 34) E (m_X8_no _ _) rfl rfl kX8_no mlX8_42 dX8_ticket_34 ok11 rfl rfl rfl (Nat.le_of_ble_eq_true rfl) rfl (by decide) (by decide) ⟨by omega, by omega⟩ ?_
    exact z_iret (pc := 37) E dX8_ticket_37 (Or.inr (mfail (e := 1) (by unfold mticketK; rw [if_neg (fun z => g10 z.1)]) (by decide) rfl))
  · have g10 : 0 ≤ t ∧ t ≤ M 6 0 0 2 - 1 := b2_n0 h10
    obtain ⟨i, hi, rfl⟩ := ix_of (hc_rw hn g10) (by omega)
    refine z_iload_2 (pc := 13) E dX8_ticket_13 ?_
    refine z_iconst (v := 0) (pc := 14) E dX8_ticket_14 (by decide) ?_
    refine z_bipush (v := 10) (pc := 15) E dX8_ticket_15 (by decide) ?_
    refine z_isp (pc := 17) E (m_X8_isIn _ _ _ _) rfl rfl kX8_isIn mlX8_35 dX8_ticket_17 rfl (Nat.le_of_ble_eq_true rfl) rfl (by decide) (by decide) ⟨by omega, by omega⟩ ?_
    refine z_if_eq (pc := 20) (tgt := 32) E dX8_ticket_20 (by decide) (fun h20 => ?_) (fun h20 => ?_)
    · have g20 : ¬ (0 ≤ w ∧ w ≤ 10) := b2_e0 h20
      refine z_aload_0 (pc := 32) E dX8_ticket_32 ?_
      refine z_iconst (v := 1) (pc := 33) E dX8_ticket_33 (by decide) ?_
      refine z_ivf (pc := 34) E (m_X8_no _ _) rfl rfl kX8_no mlX8_42 dX8_ticket_34 ok11 rfl rfl rfl (Nat.le_of_ble_eq_true rfl) rfl (by decide) (by decide) ⟨by omega, by omega⟩ ?_
      exact z_iret (pc := 37) E dX8_ticket_37 (Or.inr (mfail (e := 1) (by unfold mticketK; rw [if_neg (fun z => g20 z.2)]) (by decide) rfl))
    · have g20 : 0 ≤ w ∧ w ≤ 10 := b2_n0 h20
      obtain ⟨j, hj, rfl⟩ := ix_c (n := 11) g20 (by decide) (by decide)
      refine z_aload_0 (pc := 23) E dX8_ticket_23 ?_
      refine z_iload_1 (pc := 24) E dX8_ticket_24 ?_
      refine z_iload_2 (pc := 25) E dX8_ticket_25 ?_
      refine z_ivp (pc := 26) E (m_X8_ticketTold _ _ _ (by omega) (hf i hi) hj) rfl rfl kX8_ticketTold mlX8_102 dX8_ticket_26 ok11 rfl rfl rfl (Nat.le_of_ble_eq_true rfl) rfl (by decide) (by decide) ⟨by omega, by omega⟩ ?_
      refine z_goto (pc := 29) (tgt := 37) E dX8_ticket_29 (by decide) ?_
      exact z_iret (pc := 37) E dX8_ticket_37 (Or.inl ⟨by unfold mticketK; rw [if_pos (⟨g10, g20⟩ : _ ∧ _)], i, j, hi, hj, rfl, rfl, mtickV_t _ _ _ hj, rfl⟩)

def mbestK (M : Mem) (c : Int32) : Nat := if 0 ≤ c ∧ c ≤ M 11 0 0 1 - 1 then 0 else 1

set_option maxRecDepth 100000 in
set_option maxHeartbeats 4000000 in
theorem mbest_loop {X : PX} {G : GT} {M : Mem} {n i : Nat} {post : Int32 → Mem → Prop} (E : EF X G cX8_best 6 RX8 (some .int) 3 0 0) (hn : M 6 0 0 2 = nI n) (h40 : n ≤ 40) (hi : i < 10) (hE : post (mbestF M i n 0 (-1) 0) M) : ∀ (k t : Nat) (b g : Int32) (v5 : Option Value), t + k = n → mbestF M i n 0 (-1) 0 = mbestF M i k t b g → Z X G (0, 0) (QI X G post 0 0) 26 [some (.ref (ad G 11 0 0)), some (.int (nI i)), some (.int b), some (.int g), some (.int (nI t)), v5] [] M 0 0 := by
  intro k
  induction k with
  | zero =>
    intro t b g v5 ht hB
    obtain rfl : t = n := by omega
    refine z_iload_4 (pc := 26) E dX8_best_26 ?_
    refine z_aload_0 (pc := 28) E dX8_best_28 ?_
    refine z_get (pc := 29) E dX8_best_29 fiX8_21 ok11 rfl rfl ?_
    refine z_getN (pc := 32) E dX8_best_32 fiX8_39 (ok6 (by omega)) rfl rfl ?_
    refine z_icmp_ge (pc := 35) (tgt := 138) E dX8_best_35 (by decide) (fun h35 => ?_) (fun h35 => absurd h35 (fun z => z (ct_ge hn (by omega) (by omega))))
    refine z_iload_2 (pc := 138) E dX8_best_138 ?_
    exact z_iret (pc := 139) E dX8_best_139 (by rw [hB] at hE; exact hE)
  | succ k ih =>
    intro t b g v5 ht hB
    refine z_iload_4 (pc := 26) E dX8_best_26 ?_
    refine z_aload_0 (pc := 28) E dX8_best_28 ?_
    refine z_get (pc := 29) E dX8_best_29 fiX8_21 ok11 rfl rfl ?_
    refine z_getN (pc := 32) E dX8_best_32 fiX8_39 (ok6 (by omega)) rfl rfl ?_
    refine z_icmp_ge (pc := 35) (tgt := 138) E dX8_best_35 (by decide) (fun h35 => absurd h35 (ct_lt hn (by omega) (by omega))) (fun h35 => ?_)
    refine z_aload_0 (pc := 38) E dX8_best_38 ?_
    refine z_get (pc := 39) E dX8_best_39 fiX8_21 ok11 rfl rfl ?_
    refine z_iload_4 (pc := 42) E dX8_best_42 ?_
    refine z_iconst (v := 0) (pc := 44) E dX8_best_44 (by decide) ?_
    refine z_ivp (pc := 45) E (m_X7_get _ 0 t 0 (by decide) (by omega) (by decide)) rfl rfl kX7_get mlX8_56 dX8_best_45 (ok6 (by omega)) rfl rfl rfl (Nat.le_of_ble_eq_true rfl) rfl (by decide) (by decide) ⟨by omega, by omega⟩ ?_
    refine z_iload_1 (pc := 48) E dX8_best_48 ?_
    refine z_icmp_ne (pc := 49) (tgt := 132) E dX8_best_49 (by decide) (fun h49 => ?_) (fun h49 => ?_)
    · refine z_iinc_4 (pc := 132) E dX8_best_132 (nI_1 t) rfl ?_
      refine z_goto (pc := 135) (tgt := 26) E dX8_best_135 (by decide) ?_
      first | exact ih (t + 1) _ _ _ (by omega) (hB.trans (mbest_n (fun z => h49 z.1.1))) | exact ih (t + 1) _ _ _ (by omega) (hB.trans (mbest_n (fun z => h63 z.1.2.1))) | exact ih (t + 1) _ _ _ (by omega) (hB.trans (mbest_n (fun z => h84 z.1.2.2))) | exact ih (t + 1) _ _ _ (by omega) (hB.trans (mbest_n (fun z => z.2.elim h114 h120))) | exact ih (t + 1) _ _ _ (by omega) (hB.trans (mbest_y ⟨h49, h63, h84⟩ (Or.inl h114))) | exact ih (t + 1) _ _ _ (by omega) (hB.trans (mbest_y ⟨h49, h63, h84⟩ (Or.inr h120)))
    · refine z_aload_0 (pc := 52) E dX8_best_52 ?_
      refine z_get (pc := 53) E dX8_best_53 fiX8_21 ok11 rfl rfl ?_
      refine z_iload_4 (pc := 56) E dX8_best_56 ?_
      refine z_bipush (v := 6) (pc := 58) E dX8_best_58 (by decide) ?_
      refine z_ivp (pc := 60) E (m_X7_get _ 0 t 6 (by decide) (by omega) (by decide)) rfl rfl kX7_get mlX8_56 dX8_best_60 (ok6 (by omega)) rfl rfl rfl (Nat.le_of_ble_eq_true rfl) rfl (by decide) (by decide) ⟨by omega, by omega⟩ ?_
      refine z_if_ne (pc := 63) (tgt := 132) E dX8_best_63 (by decide) (fun h63 => ?_) (fun h63 => ?_)
      · refine z_iinc_4 (pc := 132) E dX8_best_132 (nI_1 t) rfl ?_
        refine z_goto (pc := 135) (tgt := 26) E dX8_best_135 (by decide) ?_
        first | exact ih (t + 1) _ _ _ (by omega) (hB.trans (mbest_n (fun z => h49 z.1.1))) | exact ih (t + 1) _ _ _ (by omega) (hB.trans (mbest_n (fun z => h63 z.1.2.1))) | exact ih (t + 1) _ _ _ (by omega) (hB.trans (mbest_n (fun z => h84 z.1.2.2))) | exact ih (t + 1) _ _ _ (by omega) (hB.trans (mbest_n (fun z => z.2.elim h114 h120))) | exact ih (t + 1) _ _ _ (by omega) (hB.trans (mbest_y ⟨h49, h63, h84⟩ (Or.inl h114))) | exact ih (t + 1) _ _ _ (by omega) (hB.trans (mbest_y ⟨h49, h63, h84⟩ (Or.inr h120)))
      · refine z_aload_0 (pc := 66) E dX8_best_66 ?_
        refine z_get (pc := 67) E dX8_best_67 fiX8_21 ok11 rfl rfl ?_
        refine z_iload_4 (pc := 70) E dX8_best_70 ?_
        refine z_ivp (pc := 72) E (m_X7_owed _ 0 _ (by decide) (by omega)) rfl rfl kX7_owed mlX8_60 dX8_best_72 (ok6 (by omega)) rfl rfl rfl (Nat.le_of_ble_eq_true rfl) rfl (by decide) (by decide) ⟨by omega, by omega⟩ ?_
        refine z_aload_0 (pc := 75) E dX8_best_75 ?_
        refine z_get (pc := 76) E dX8_best_76 fiX8_21 ok11 rfl rfl ?_
        refine z_getN (pc := 79) E dX8_best_79 fiX8_46 (ok6 (by omega)) rfl rfl ?_
        refine z_iload_1 (pc := 82) E dX8_best_82 ?_
        refine z_iald (pc := 83) E dX8_best_83 (ok7 (by omega)) rfl rfl hi (by omega) ?_
        refine z_icmp_le (pc := 84) (tgt := 90) E dX8_best_84 (by decide) (fun h84 => ?_) (fun h84 => ?_)
        · refine z_aload_0 (pc := 90) E dX8_best_90 ?_
          refine z_get (pc := 91) E dX8_best_91 fiX8_21 ok11 rfl rfl ?_
          refine z_iload_4 (pc := 94) E dX8_best_94 ?_
          refine z_iconst (v := 2) (pc := 96) E dX8_best_96 (by decide) ?_
          refine z_ivp (pc := 97) E (m_X7_get _ 0 t 2 (by decide) (by omega) (by decide)) rfl rfl kX7_get mlX8_56 dX8_best_97 (ok6 (by omega)) rfl rfl rfl (Nat.le_of_ble_eq_true rfl) rfl (by decide) (by decide) ⟨by omega, by omega⟩ ?_
          refine z_aload_0 (pc := 100) E dX8_best_100 ?_
          refine z_get (pc := 101) E dX8_best_101 fiX8_21 ok11 rfl rfl ?_
          refine z_iload_4 (pc := 104) E dX8_best_104 ?_
          refine z_ivp (pc := 106) E (m_X7_owed _ 0 _ (by decide) (by omega)) rfl rfl kX7_owed mlX8_60 dX8_best_106 (ok6 (by omega)) rfl rfl rfl (Nat.le_of_ble_eq_true rfl) rfl (by decide) (by decide) ⟨by omega, by omega⟩ ?_
          refine z_isub (pc := 109) E dX8_best_109 ?_
          refine z_istore_5 (pc := 110) E dX8_best_110 rfl ?_
          refine z_iload_2 (pc := 112) E dX8_best_112 ?_
          refine z_iconst (v := -1) (pc := 113) E dX8_best_113 (by decide) ?_
          refine z_icmp_eq (pc := 114) (tgt := 126) E dX8_best_114 (by decide) (fun h114 => ?_) (fun h114 => ?_)
          · refine z_iload_4 (pc := 126) E dX8_best_126 ?_
            refine z_istore_2 (pc := 128) E dX8_best_128 rfl ?_
            refine z_iload_5 (pc := 129) E dX8_best_129 ?_
            refine z_istore_3 (pc := 131) E dX8_best_131 rfl ?_
            refine z_iinc_4 (pc := 132) E dX8_best_132 (nI_1 t) rfl ?_
            refine z_goto (pc := 135) (tgt := 26) E dX8_best_135 (by decide) ?_
            first | exact ih (t + 1) _ _ _ (by omega) (hB.trans (mbest_n (fun z => h49 z.1.1))) | exact ih (t + 1) _ _ _ (by omega) (hB.trans (mbest_n (fun z => h63 z.1.2.1))) | exact ih (t + 1) _ _ _ (by omega) (hB.trans (mbest_n (fun z => h84 z.1.2.2))) | exact ih (t + 1) _ _ _ (by omega) (hB.trans (mbest_n (fun z => z.2.elim h114 h120))) | exact ih (t + 1) _ _ _ (by omega) (hB.trans (mbest_y ⟨h49, h63, h84⟩ (Or.inl h114))) | exact ih (t + 1) _ _ _ (by omega) (hB.trans (mbest_y ⟨h49, h63, h84⟩ (Or.inr h120)))
          · refine z_iload_5 (pc := 117) E dX8_best_117 ?_
            refine z_iload_3 (pc := 119) E dX8_best_119 ?_
            refine z_icmp_gt (pc := 120) (tgt := 126) E dX8_best_120 (by decide) (fun h120 => ?_) (fun h120 => ?_)
            · refine z_iload_4 (pc := 126) E dX8_best_126 ?_
              refine z_istore_2 (pc := 128) E dX8_best_128 rfl ?_
              refine z_iload_5 (pc := 129) E dX8_best_129 ?_
              refine z_istore_3 (pc := 131) E dX8_best_131 rfl ?_
              refine z_iinc_4 (pc := 132) E dX8_best_132 (nI_1 t) rfl ?_
              refine z_goto (pc := 135) (tgt := 26) E dX8_best_135 (by decide) ?_
              first | exact ih (t + 1) _ _ _ (by omega) (hB.trans (mbest_n (fun z => h49 z.1.1))) | exact ih (t + 1) _ _ _ (by omega) (hB.trans (mbest_n (fun z => h63 z.1.2.1))) | exact ih (t + 1) _ _ _ (by omega) (hB.trans (mbest_n (fun z => h84 z.1.2.2))) | exact ih (t + 1) _ _ _ (by omega) (hB.trans (mbest_n (fun z => z.2.elim h114 h120))) | exact ih (t + 1) _ _ _ (by omega) (hB.trans (mbest_y ⟨h49, h63, h84⟩ (Or.inl h114))) | exact ih (t + 1) _ _ _ (by omega) (hB.trans (mbest_y ⟨h49, h63, h84⟩ (Or.inr h120)))
            · refine z_goto (pc := 123) (tgt := 132) E dX8_best_123 (by decide) ?_
              refine z_iinc_4 (pc := 132) E dX8_best_132 (nI_1 t) rfl ?_
              refine z_goto (pc := 135) (tgt := 26) E dX8_best_135 (by decide) ?_
              first | exact ih (t + 1) _ _ _ (by omega) (hB.trans (mbest_n (fun z => h49 z.1.1))) | exact ih (t + 1) _ _ _ (by omega) (hB.trans (mbest_n (fun z => h63 z.1.2.1))) | exact ih (t + 1) _ _ _ (by omega) (hB.trans (mbest_n (fun z => h84 z.1.2.2))) | exact ih (t + 1) _ _ _ (by omega) (hB.trans (mbest_n (fun z => z.2.elim h114 h120))) | exact ih (t + 1) _ _ _ (by omega) (hB.trans (mbest_y ⟨h49, h63, h84⟩ (Or.inl h114))) | exact ih (t + 1) _ _ _ (by omega) (hB.trans (mbest_y ⟨h49, h63, h84⟩ (Or.inr h120)))
        · refine z_goto (pc := 87) (tgt := 132) E dX8_best_87 (by decide) ?_
          refine z_iinc_4 (pc := 132) E dX8_best_132 (nI_1 t) rfl ?_
          refine z_goto (pc := 135) (tgt := 26) E dX8_best_135 (by decide) ?_
          first | exact ih (t + 1) _ _ _ (by omega) (hB.trans (mbest_n (fun z => h49 z.1.1))) | exact ih (t + 1) _ _ _ (by omega) (hB.trans (mbest_n (fun z => h63 z.1.2.1))) | exact ih (t + 1) _ _ _ (by omega) (hB.trans (mbest_n (fun z => h84 z.1.2.2))) | exact ih (t + 1) _ _ _ (by omega) (hB.trans (mbest_n (fun z => z.2.elim h114 h120))) | exact ih (t + 1) _ _ _ (by omega) (hB.trans (mbest_y ⟨h49, h63, h84⟩ (Or.inl h114))) | exact ih (t + 1) _ _ _ (by omega) (hB.trans (mbest_y ⟨h49, h63, h84⟩ (Or.inr h120)))

theorem mbestF_t (M : Mem) (i : Nat) : ∀ k t b g, mbestF (mset M 11 0 0 0 0) i k t b g = mbestF M i k t b g
  | 0, _, _, _ => rfl
  | k + 1, t, b, g => by
    show (if (oc M 0 t 0 = nI i ∧ oc M 0 t 6 = 0 ∧ owedV M 0 t ≤ M 7 0 0 i) ∧ (b = -1 ∨ g < oc M 0 t 2 - owedV M 0 t) then mbestF (mset M 11 0 0 0 0) i k (t + 1) (nI t) (oc M 0 t 2 - owedV M 0 t) else mbestF (mset M 11 0 0 0 0) i k (t + 1) b g) = _
    rw [mbestF_t M i k, mbestF_t M i k]
    rfl

set_option maxRecDepth 100000 in
set_option maxHeartbeats 4000000 in
theorem m_X8_best (M : Mem) (n cN : Nat) (c : Int32) (hn : M 6 0 0 2 = nI n) (h40 : n ≤ 40) (hc : M 11 0 0 1 = nI cN) (h10 : cN ≤ 10) : CI yX8_best cX8_best 6 (some .int) 3 0 0 (fun G => [.ref (ad G 11 0 0), .int c]) M (fun r M' => (mbestK M c = 0 ∧ ∃ i, i < cN ∧ c = nI i ∧ r = mbestF M i n 0 (-1) 0 ∧ M' = (mset M 11 0 0 0 0)) ∨ (¬ mbestK M c = 0 ∧ M' = mset M 11 0 0 0 (nI (mbestK M c)))) := by
  refine CI.mk (own := RX8) (by decide +kernel) rfl (fun _ => rfl) (fun _ => Nat.le_of_ble_eq_true rfl) (lv0 := fun G => [some (.ref (ad G 11 0 0)), some (.int c), none, none, none, none]) (fun _ => rfl) (fun X G E => ?_)
  refine z_aload_0 (pc := 0) E dX8_best_0 ?_
  refine z_iconst (v := 0) (pc := 1) E dX8_best_1 (by decide) ?_
  refine z_put (pc := 2) E dX8_best_2 fiX8_28 fpX8_0 ok11 rfl rfl (Nat.le_of_ble_eq_true rfl) ?_
  refine z_aload_0 (pc := 5) E dX8_best_5 ?_
  refine z_iload_1 (pc := 6) E dX8_best_6 ?_
  refine z_ivp (pc := 7) E (m_X8_isCustomer _ _) rfl rfl kX8_isCustomer mlX8_52 dX8_best_7 ok11 rfl rfl rfl (Nat.le_of_ble_eq_true rfl) rfl (by decide) (by decide) ⟨by omega, by omega⟩ ?_
  refine z_if_ne (pc := 10) (tgt := 19) E dX8_best_10 (by decide) (fun h10 => ?_) (fun h10 => ?_)
  · have g10 : 0 ≤ c ∧ c ≤ M 11 0 0 1 - 1 := b2_n0 h10
    obtain ⟨i, hi, rfl⟩ := ix_of (hc_rw hc g10) (by omega)
    refine z_iconst (v := -1) (pc := 19) E dX8_best_19 (by decide) ?_
    refine z_istore_2 (pc := 20) E dX8_best_20 rfl ?_
    refine z_iconst (v := 0) (pc := 21) E dX8_best_21 (by decide) ?_
    refine z_istore_3 (pc := 22) E dX8_best_22 rfl ?_
    refine z_iconst (v := 0) (pc := 23) E dX8_best_23 (by decide) ?_
    refine z_istore_4 (pc := 24) E dX8_best_24 rfl ?_
    exact mbest_loop (M := (mset M 11 0 0 0 0)) E hn h40 (by omega) (Or.inl ⟨by unfold mbestK; rw [if_pos g10], i, hi, rfl, mbestF_t _ _ _ _ _ _, rfl⟩) _ 0 _ _ _ (by omega) rfl
  · have g10 : ¬ (0 ≤ c ∧ c ≤ M 11 0 0 1 - 1) := b2_e0 h10
    refine z_aload_0 (pc := 13) E dX8_best_13 ?_
    refine z_iconst (v := 1) (pc := 14) E dX8_best_14 (by decide) ?_
    refine z_ivf (pc := 15) E (m_X8_no _ _) rfl rfl kX8_no mlX8_42 dX8_best_15 ok11 rfl rfl rfl (Nat.le_of_ble_eq_true rfl) rfl (by decide) (by decide) ⟨by omega, by omega⟩ ?_
    exact z_iret (pc := 18) E dX8_best_18 (Or.inr (mfail (e := 1) (by unfold mbestK; rw [if_neg g10]) (by decide) rfl))

