set_option maxRecDepth 100000 in
set_option maxHeartbeats 4000000 in
theorem m_X7_isBought (M : Mem) (s n d : Nat) (hs : s < 2) (hn : M 6 s 0 2 = nI n) (h40 : n ≤ 40) (hd : M 6 s 0 0 = nI d) (h31 : d < 2 ^ 31) : CI yX7_isBought cX7_isBought 4 (some .boolean) 2 0 0 (fun G => [.ref (ad G 6 s 0)]) M (fun r M' => r = (mbuyR M s n (d % 7)).1 ∧ M' = (mbuyR M s n (d % 7)).2) := by
  refine CI.mk (own := RX7) (by decide +kernel) rfl (fun _ => rfl) (fun _ => Nat.le_of_ble_eq_true rfl) (lv0 := fun G => [some (.ref (ad G 6 s 0)), none, none, none]) (fun _ => rfl) (fun X G E => ?_)
  have hm7 : d % 7 < 7 := Nat.mod_lt _ (by decide)
  have L : ∀ (k t : Nat) (b : Option Nat), t + k = n → (∀ q, b = some q → q < 40) → ¬ M 12 0 0 (d % 7) = -1 → mdearF M s (d % 7) n 0 none = mdearF M s (d % 7) k t b → Z X G (0, 0) (QI X G (fun r M' => r = (mbuyR M s n (d % 7)).1 ∧ M' = (mbuyR M s n (d % 7)).2) 0 0) 27 [some (.ref (ad G 6 s 0)), some (.int (M 12 0 0 (d % 7))), some (.int (oI b)), some (.int (nI t))] [] M 0 0 := by
    intro k
    induction k with
    | zero =>
      intro t b ht hb hk hE
      obtain rfl : t = n := by omega
      refine z_iload_3 (pc := 27) E dX7_isBought_27 ?_
      refine z_aload_0 (pc := 28) E dX7_isBought_28 ?_
      refine z_get (pc := 29) E dX7_isBought_29 fiX7_41 (ok6 (by omega)) rfl rfl ?_
      refine z_icmp_ge (pc := 32) (tgt := 114) E dX7_isBought_32 (by decide) (fun h32 => ?_) (fun h32 => absurd h32 (fun z => z (ct_ge hn (by omega) (by omega))))
      refine z_iload_2 (pc := 114) E dX7_isBought_114 ?_
      refine z_iconst (v := -1) (pc := 115) E dX7_isBought_115 (by decide) ?_
      refine z_icmp_ne (pc := 116) (tgt := 121) E dX7_isBought_116 (by decide) (fun h116 => ?_) (fun h116 => ?_)
      · obtain ⟨q, rfl⟩ := oI_some h116
        have hq := hb q rfl
        refine z_aload_0 (pc := 121) E dX7_isBought_121 ?_
        refine z_dup (pc := 122) E dX7_isBought_122 rfl ?_
        refine z_get (pc := 123) E dX7_isBought_123 fiX7_15 (ok6 (by omega)) rfl rfl ?_
        refine z_aload_0 (pc := 126) E dX7_isBought_126 ?_
        refine z_iload_2 (pc := 127) E dX7_isBought_127 ?_
        refine z_bipush (v := 8) (pc := 128) E dX7_isBought_128 (by decide) ?_
        refine z_ivp (pc := 130) E (m_X7_get _ _ q 8 hs (by omega) (by decide)) rfl rfl kX7_get mlX7_58 dX7_isBought_130 (ok6 (by omega)) rfl rfl rfl (Nat.le_of_ble_eq_true rfl) rfl (by decide) (by decide) ⟨by omega, by omega⟩ ?_
        refine z_iadd (pc := 133) E dX7_isBought_133 ?_
        refine z_put (pc := 134) E dX7_isBought_134 fiX7_15 fpX7_1 (ok6 (by omega)) rfl rfl (Nat.le_of_ble_eq_true rfl) ?_
        refine z_aload_0 (pc := 137) E dX7_isBought_137 ?_
        refine z_iload_2 (pc := 138) E dX7_isBought_138 ?_
        refine z_bipush (v := 6) (pc := 139) E dX7_isBought_139 (by decide) ?_
        refine z_iconst (v := 3) (pc := 141) E dX7_isBought_141 (by decide) ?_
        refine z_vvf (pc := 142) E (m_X7_set _ _ q 6 _ hs hq (by decide)) rfl rfl kX7_set mlX7_54 dX7_isBought_142 (ok6 (by omega)) rfl rfl rfl (Nat.le_of_ble_eq_true rfl) rfl (by decide) (by decide) ⟨by omega, by omega⟩ ?_
        refine z_aload_0 (pc := 145) E dX7_isBought_145 ?_
        refine z_iload_2 (pc := 146) E dX7_isBought_146 ?_
        refine z_vvf (pc := 147) E (m_X7_take _ _ q hs hq) rfl rfl kX7_take mlX7_77 dX7_isBought_147 (ok6 (by omega)) rfl rfl rfl (Nat.le_of_ble_eq_true rfl) rfl (by decide) (by decide) ⟨by omega, by omega⟩ ?_
        refine z_iconst (v := 1) (pc := 150) E dX7_isBought_150 (by decide) ?_
        exact z_zret (pc := 151) E dX7_isBought_151 (by first | exact Or.inl rfl | exact Or.inr rfl | exact b2_01 _) ⟨by rw [mbuy_y hk hE], by rw [mbuy_y hk hE]; rfl⟩
      · refine z_iconst (v := 0) (pc := 119) E dX7_isBought_119 (by decide) ?_
        exact z_zret (pc := 120) E dX7_isBought_120 (by first | exact Or.inl rfl | exact Or.inr rfl | exact b2_01 _) ⟨by rw [mbuy_n hk (hE.trans (oI_none hb h116))], by rw [mbuy_n hk (hE.trans (oI_none hb h116))]⟩
    | succ k ih =>
      intro t b ht hb hk hE
      refine z_iload_3 (pc := 27) E dX7_isBought_27 ?_
      refine z_aload_0 (pc := 28) E dX7_isBought_28 ?_
      refine z_get (pc := 29) E dX7_isBought_29 fiX7_41 (ok6 (by omega)) rfl rfl ?_
      refine z_icmp_ge (pc := 32) (tgt := 114) E dX7_isBought_32 (by decide) (fun h32 => absurd h32 (ct_lt hn (by omega) (by omega))) (fun h32 => ?_)
      refine z_aload_0 (pc := 35) E dX7_isBought_35 ?_
      refine z_iload_3 (pc := 36) E dX7_isBought_36 ?_
      refine z_bipush (v := 6) (pc := 37) E dX7_isBought_37 (by decide) ?_
      refine z_ivp (pc := 39) E (m_X7_get _ _ t 6 hs (by omega) (by decide)) rfl rfl kX7_get mlX7_58 dX7_isBought_39 (ok6 (by omega)) rfl rfl rfl (Nat.le_of_ble_eq_true rfl) rfl (by decide) (by decide) ⟨by omega, by omega⟩ ?_
      refine z_iconst (v := 2) (pc := 42) E dX7_isBought_42 (by decide) ?_
      refine z_icmp_ne (pc := 43) (tgt := 108) E dX7_isBought_43 (by decide) (fun h43 => ?_) (fun h43 => ?_)
      · refine z_iinc_3 (pc := 108) E dX7_isBought_108 (nI_1 t) rfl ?_
        refine z_goto (pc := 111) (tgt := 27) E dX7_isBought_111 (by decide) ?_
        first | exact ih (t + 1) _ (by omega) hb hk (hE.trans (mdear_n (fun z => h43 z.1.1))) | exact ih (t + 1) _ (by omega) hb hk (hE.trans (mdear_n (fun z => h53 z.1.2.1))) | exact ih (t + 1) _ (by omega) hb hk (hE.trans (mdear_n (fun z => h78 z.1.2.2))) | exact ih (t + 1) (some q) (by omega) hb hk (hE.trans (mdear_n (fun z => z.2.elim (fun e => by cases e) (fun l => absurd h103 (Int32.not_le.mpr l))))) | exact ih (t + 1) (some t) (by omega) (fun q e => by cases e; omega) hk (hE.trans (mdear_y ⟨h43, h53, h78⟩ (Or.inl (oI_none hb h86)))) | exact ih (t + 1) (some t) (by omega) (fun q e => by cases e; omega) hk (hE.trans (mdear_y ⟨h43, h53, h78⟩ (Or.inr (Int32.not_le.mp h103))))
      · refine z_aload_0 (pc := 46) E dX7_isBought_46 ?_
        refine z_iload_3 (pc := 47) E dX7_isBought_47 ?_
        refine z_iconst (v := 1) (pc := 48) E dX7_isBought_48 (by decide) ?_
        refine z_ivp (pc := 49) E (m_X7_get _ _ t 1 hs (by omega) (by decide)) rfl rfl kX7_get mlX7_58 dX7_isBought_49 (ok6 (by omega)) rfl rfl rfl (Nat.le_of_ble_eq_true rfl) rfl (by decide) (by decide) ⟨by omega, by omega⟩ ?_
        refine z_iload_1 (pc := 52) E dX7_isBought_52 ?_
        refine z_icmp_ne (pc := 53) (tgt := 108) E dX7_isBought_53 (by decide) (fun h53 => ?_) (fun h53 => ?_)
        · refine z_iinc_3 (pc := 108) E dX7_isBought_108 (nI_1 t) rfl ?_
          refine z_goto (pc := 111) (tgt := 27) E dX7_isBought_111 (by decide) ?_
          first | exact ih (t + 1) _ (by omega) hb hk (hE.trans (mdear_n (fun z => h43 z.1.1))) | exact ih (t + 1) _ (by omega) hb hk (hE.trans (mdear_n (fun z => h53 z.1.2.1))) | exact ih (t + 1) _ (by omega) hb hk (hE.trans (mdear_n (fun z => h78 z.1.2.2))) | exact ih (t + 1) (some q) (by omega) hb hk (hE.trans (mdear_n (fun z => z.2.elim (fun e => by cases e) (fun l => absurd h103 (Int32.not_le.mpr l))))) | exact ih (t + 1) (some t) (by omega) (fun q e => by cases e; omega) hk (hE.trans (mdear_y ⟨h43, h53, h78⟩ (Or.inl (oI_none hb h86)))) | exact ih (t + 1) (some t) (by omega) (fun q e => by cases e; omega) hk (hE.trans (mdear_y ⟨h43, h53, h78⟩ (Or.inr (Int32.not_le.mp h103))))
        · refine z_aload_0 (pc := 56) E dX7_isBought_56 ?_
          refine z_iload_3 (pc := 57) E dX7_isBought_57 ?_
          refine z_bipush (v := 8) (pc := 58) E dX7_isBought_58 (by decide) ?_
          refine z_ivp (pc := 60) E (m_X7_get _ _ t 8 hs (by omega) (by decide)) rfl rfl kX7_get mlX7_58 dX7_isBought_60 (ok6 (by omega)) rfl rfl rfl (Nat.le_of_ble_eq_true rfl) rfl (by decide) (by decide) ⟨by omega, by omega⟩ ?_
          refine z_aload_0 (pc := 63) E dX7_isBought_63 ?_
          refine z_get (pc := 64) E dX7_isBought_64 fiX7_3 (ok6 (by omega)) rfl rfl ?_
          refine z_getN (pc := 67) E dX7_isBought_67 fiX7_74 ok11 rfl rfl ?_
          refine z_aload_0 (pc := 70) E dX7_isBought_70 ?_
          refine z_get (pc := 71) E dX7_isBought_71 fiX7_38 (ok6 (by omega)) rfl rfl ?_
          refine z_bipush (v := 7) (pc := 74) E dX7_isBought_74 (by decide) ?_
          refine z_irem (pc := 76) E dX7_isBought_76 (by decide) ?_
          refine z_iald (pc := 77) E dX7_isBought_77 ok13 rfl ((by rw [hd]; exact nI_mod h31)) hm7 (by omega) ?_
          refine z_icmp_le (pc := 78) (tgt := 84) E dX7_isBought_78 (by decide) (fun h78 => ?_) (fun h78 => ?_)
          · refine z_iload_2 (pc := 84) E dX7_isBought_84 ?_
            refine z_iconst (v := -1) (pc := 85) E dX7_isBought_85 (by decide) ?_
            refine z_icmp_eq (pc := 86) (tgt := 106) E dX7_isBought_86 (by decide) (fun h86 => ?_) (fun h86 => ?_)
            · refine z_iload_3 (pc := 106) E dX7_isBought_106 ?_
              refine z_istore_2 (pc := 107) E dX7_isBought_107 rfl ?_
              refine z_iinc_3 (pc := 108) E dX7_isBought_108 (nI_1 t) rfl ?_
              refine z_goto (pc := 111) (tgt := 27) E dX7_isBought_111 (by decide) ?_
              first | exact ih (t + 1) _ (by omega) hb hk (hE.trans (mdear_n (fun z => h43 z.1.1))) | exact ih (t + 1) _ (by omega) hb hk (hE.trans (mdear_n (fun z => h53 z.1.2.1))) | exact ih (t + 1) _ (by omega) hb hk (hE.trans (mdear_n (fun z => h78 z.1.2.2))) | exact ih (t + 1) (some q) (by omega) hb hk (hE.trans (mdear_n (fun z => z.2.elim (fun e => by cases e) (fun l => absurd h103 (Int32.not_le.mpr l))))) | exact ih (t + 1) (some t) (by omega) (fun q e => by cases e; omega) hk (hE.trans (mdear_y ⟨h43, h53, h78⟩ (Or.inl (oI_none hb h86)))) | exact ih (t + 1) (some t) (by omega) (fun q e => by cases e; omega) hk (hE.trans (mdear_y ⟨h43, h53, h78⟩ (Or.inr (Int32.not_le.mp h103))))
            · obtain ⟨q, rfl⟩ := oI_some h86
              have hq := hb q rfl
              refine z_aload_0 (pc := 89) E dX7_isBought_89 ?_
              refine z_iload_3 (pc := 90) E dX7_isBought_90 ?_
              refine z_bipush (v := 8) (pc := 91) E dX7_isBought_91 (by decide) ?_
              refine z_ivp (pc := 93) E (m_X7_get _ _ t 8 hs (by omega) (by decide)) rfl rfl kX7_get mlX7_58 dX7_isBought_93 (ok6 (by omega)) rfl rfl rfl (Nat.le_of_ble_eq_true rfl) rfl (by decide) (by decide) ⟨by omega, by omega⟩ ?_
              refine z_aload_0 (pc := 96) E dX7_isBought_96 ?_
              refine z_iload_2 (pc := 97) E dX7_isBought_97 ?_
              refine z_bipush (v := 8) (pc := 98) E dX7_isBought_98 (by decide) ?_
              refine z_ivp (pc := 100) E (m_X7_get _ _ q 8 hs (by omega) (by decide)) rfl rfl kX7_get mlX7_58 dX7_isBought_100 (ok6 (by omega)) rfl rfl rfl (Nat.le_of_ble_eq_true rfl) rfl (by decide) (by decide) ⟨by omega, by omega⟩ ?_
              refine z_icmp_le (pc := 103) (tgt := 108) E dX7_isBought_103 (by decide) (fun h103 => ?_) (fun h103 => ?_)
              · refine z_iinc_3 (pc := 108) E dX7_isBought_108 (nI_1 t) rfl ?_
                refine z_goto (pc := 111) (tgt := 27) E dX7_isBought_111 (by decide) ?_
                first | exact ih (t + 1) _ (by omega) hb hk (hE.trans (mdear_n (fun z => h43 z.1.1))) | exact ih (t + 1) _ (by omega) hb hk (hE.trans (mdear_n (fun z => h53 z.1.2.1))) | exact ih (t + 1) _ (by omega) hb hk (hE.trans (mdear_n (fun z => h78 z.1.2.2))) | exact ih (t + 1) (some q) (by omega) hb hk (hE.trans (mdear_n (fun z => z.2.elim (fun e => by cases e) (fun l => absurd h103 (Int32.not_le.mpr l))))) | exact ih (t + 1) (some t) (by omega) (fun q e => by cases e; omega) hk (hE.trans (mdear_y ⟨h43, h53, h78⟩ (Or.inl (oI_none hb h86)))) | exact ih (t + 1) (some t) (by omega) (fun q e => by cases e; omega) hk (hE.trans (mdear_y ⟨h43, h53, h78⟩ (Or.inr (Int32.not_le.mp h103))))
              · refine z_iload_3 (pc := 106) E dX7_isBought_106 ?_
                refine z_istore_2 (pc := 107) E dX7_isBought_107 rfl ?_
                refine z_iinc_3 (pc := 108) E dX7_isBought_108 (nI_1 t) rfl ?_
                refine z_goto (pc := 111) (tgt := 27) E dX7_isBought_111 (by decide) ?_
                first | exact ih (t + 1) _ (by omega) hb hk (hE.trans (mdear_n (fun z => h43 z.1.1))) | exact ih (t + 1) _ (by omega) hb hk (hE.trans (mdear_n (fun z => h53 z.1.2.1))) | exact ih (t + 1) _ (by omega) hb hk (hE.trans (mdear_n (fun z => h78 z.1.2.2))) | exact ih (t + 1) (some q) (by omega) hb hk (hE.trans (mdear_n (fun z => z.2.elim (fun e => by cases e) (fun l => absurd h103 (Int32.not_le.mpr l))))) | exact ih (t + 1) (some t) (by omega) (fun q e => by cases e; omega) hk (hE.trans (mdear_y ⟨h43, h53, h78⟩ (Or.inl (oI_none hb h86)))) | exact ih (t + 1) (some t) (by omega) (fun q e => by cases e; omega) hk (hE.trans (mdear_y ⟨h43, h53, h78⟩ (Or.inr (Int32.not_le.mp h103))))
          · refine z_goto (pc := 81) (tgt := 108) E dX7_isBought_81 (by decide) ?_
            refine z_iinc_3 (pc := 108) E dX7_isBought_108 (nI_1 t) rfl ?_
            refine z_goto (pc := 111) (tgt := 27) E dX7_isBought_111 (by decide) ?_
            first | exact ih (t + 1) _ (by omega) hb hk (hE.trans (mdear_n (fun z => h43 z.1.1))) | exact ih (t + 1) _ (by omega) hb hk (hE.trans (mdear_n (fun z => h53 z.1.2.1))) | exact ih (t + 1) _ (by omega) hb hk (hE.trans (mdear_n (fun z => h78 z.1.2.2))) | exact ih (t + 1) (some q) (by omega) hb hk (hE.trans (mdear_n (fun z => z.2.elim (fun e => by cases e) (fun l => absurd h103 (Int32.not_le.mpr l))))) | exact ih (t + 1) (some t) (by omega) (fun q e => by cases e; omega) hk (hE.trans (mdear_y ⟨h43, h53, h78⟩ (Or.inl (oI_none hb h86)))) | exact ih (t + 1) (some t) (by omega) (fun q e => by cases e; omega) hk (hE.trans (mdear_y ⟨h43, h53, h78⟩ (Or.inr (Int32.not_le.mp h103))))
  refine z_aload_0 (pc := 0) E dX7_isBought_0 ?_
  refine z_get (pc := 1) E dX7_isBought_1 fiX7_3 (ok6 (by omega)) rfl rfl ?_
  refine z_getN (pc := 4) E dX7_isBought_4 fiX7_71 ok11 rfl rfl ?_
  refine z_aload_0 (pc := 7) E dX7_isBought_7 ?_
  refine z_get (pc := 8) E dX7_isBought_8 fiX7_38 (ok6 (by omega)) rfl rfl ?_
  refine z_bipush (v := 7) (pc := 11) E dX7_isBought_11 (by decide) ?_
  refine z_irem (pc := 13) E dX7_isBought_13 (by decide) ?_
  refine z_iald (pc := 14) E dX7_isBought_14 ok12 rfl ((by rw [hd]; exact nI_mod h31)) hm7 (by omega) ?_
  refine z_istore_1 (pc := 15) E dX7_isBought_15 rfl ?_
  refine z_iload_1 (pc := 16) E dX7_isBought_16 ?_
  refine z_iconst (v := -1) (pc := 17) E dX7_isBought_17 (by decide) ?_
  refine z_icmp_ne (pc := 18) (tgt := 23) E dX7_isBought_18 (by decide) (fun h18 => ?_) (fun h18 => ?_)
  · refine z_iconst (v := -1) (pc := 23) E dX7_isBought_23 (by decide) ?_
    refine z_istore_2 (pc := 24) E dX7_isBought_24 rfl ?_
    refine z_iconst (v := 0) (pc := 25) E dX7_isBought_25 (by decide) ?_
    refine z_istore_3 (pc := 26) E dX7_isBought_26 rfl ?_
    exact L n 0 none (by omega) (fun _ e => by cases e) h18 rfl
  · refine z_iconst (v := 0) (pc := 21) E dX7_isBought_21 (by decide) ?_
    exact z_zret (pc := 22) E dX7_isBought_22 (by first | exact Or.inl rfl | exact Or.inr rfl | exact b2_01 _) ⟨by rw [mbuy_0 h18], by rw [mbuy_0 h18]⟩

set_option maxRecDepth 100000 in
set_option maxHeartbeats 4000000 in
theorem m_X7_pass (M : Mem) (s n d : Nat) (hs : s < 2) (hn : M 6 s 0 2 = nI n) (h40 : n ≤ 40) (hd : M 6 s 0 0 = nI d) (h31 : d < 2 ^ 31) (how : ∀ t, t < n → ∃ i, i < 10 ∧ oc M s t 0 = nI i) : CI yX7_pass cX7_pass 3 (some .int) 3 0 0 (fun G => [.ref (ad G 6 s 0)]) M (fun r M' => r = (mdayR M s n).1 ∧ M' = (mdayR M s n).2) := by
  refine CI.mk (own := RX7) (by decide +kernel) rfl (fun _ => rfl) (fun _ => Nat.le_of_ble_eq_true rfl) (lv0 := fun G => [some (.ref (ad G 6 s 0)), none, none]) (fun _ => rfl) (fun X G E => ?_)
  have L : ∀ (k : Nat) (t : Nat) (v2 : Option Value), t + k = n → Z X G (0, 0) (QI X G (fun r M' => r = (mdayR M s n).1 ∧ M' = (mdayR M s n).2) 0 0) 2 [some (.ref (ad G 6 s 0)), some (.int (nI t)), v2] [] (magN M s t) 0 0 := by
    intro k
    induction k with
    | zero =>
      intro t v2 ht
      obtain rfl : t = n := by omega
      refine z_iload_1 (pc := 2) E dX7_pass_2 ?_
      refine z_aload_0 (pc := 3) E dX7_pass_3 ?_
      refine z_get (pc := 4) E dX7_pass_4 fiX7_41 (ok6 (by omega)) rfl rfl ?_
      refine z_icmp_ge (pc := 7) (tgt := 132) E dX7_pass_7 (by decide) (fun h7 => ?_) (fun h7 => absurd h7 (fun z => z (ct_ge ((congrFun (congrFun (congrFun (magN_k (by decide) (by decide) _) _) _) _).trans hn) (by omega) (by omega))))
      refine z_aload_0 (pc := 132) E dX7_pass_132 ?_
      refine z_ivf (pc := 133) E (m_X7_isBought _ _ _ d hs ((congrFun (congrFun (congrFun (magN_k (by decide) (by decide) _) _) _) _).trans hn) h40 (by rw [magN_k (by decide) (by decide)]; exact hd) h31) rfl rfl kX7_isBought mlX7_81 dX7_pass_133 (ok6 (by omega)) rfl rfl rfl (Nat.le_of_ble_eq_true rfl) rfl (by decide) (by decide) ⟨by omega, by omega⟩ ?_
      refine z_if_eq (pc := 136) (tgt := 143) E dX7_pass_136 (by decide) (fun h136 => ?_) (fun h136 => ?_)
      · refine z_iconst (v := 0) (pc := 143) E dX7_pass_143 (by decide) ?_
        refine z_istore_1 (pc := 144) E dX7_pass_144 rfl ?_
        refine z_aload_0 (pc := 145) E dX7_pass_145 ?_
        refine z_dup (pc := 146) E dX7_pass_146 rfl ?_
        refine z_get (pc := 147) E dX7_pass_147 fiX7_38 (ok6 (by omega)) rfl rfl ?_
        refine z_iconst (v := 1) (pc := 150) E dX7_pass_150 (by decide) ?_
        refine z_iadd (pc := 151) E dX7_pass_151 ?_
        refine z_put (pc := 152) E dX7_pass_152 fiX7_38 fpX7_0 (ok6 (by omega)) rfl rfl (Nat.le_of_ble_eq_true rfl) ?_
        refine z_iload_1 (pc := 155) E dX7_pass_155 ?_
        exact z_iret (pc := 156) E dX7_pass_156 ⟨by rw [mday_eq hd h31]; first | exact (mbuy_01.resolve_left h136).symm | exact h136.symm, by rw [mday_eq hd h31]; exact mday_mem⟩
      · refine z_iconst (v := 1) (pc := 139) E dX7_pass_139 (by decide) ?_
        refine z_goto (pc := 140) (tgt := 144) E dX7_pass_140 (by decide) ?_
        refine z_istore_1 (pc := 144) E dX7_pass_144 rfl ?_
        refine z_aload_0 (pc := 145) E dX7_pass_145 ?_
        refine z_dup (pc := 146) E dX7_pass_146 rfl ?_
        refine z_get (pc := 147) E dX7_pass_147 fiX7_38 (ok6 (by omega)) rfl rfl ?_
        refine z_iconst (v := 1) (pc := 150) E dX7_pass_150 (by decide) ?_
        refine z_iadd (pc := 151) E dX7_pass_151 ?_
        refine z_put (pc := 152) E dX7_pass_152 fiX7_38 fpX7_0 (ok6 (by omega)) rfl rfl (Nat.le_of_ble_eq_true rfl) ?_
        refine z_iload_1 (pc := 155) E dX7_pass_155 ?_
        exact z_iret (pc := 156) E dX7_pass_156 ⟨by rw [mday_eq hd h31]; first | exact (mbuy_01.resolve_left h136).symm | exact h136.symm, by rw [mday_eq hd h31]; exact mday_mem⟩
    | succ k ih =>
      intro t v2 ht
      refine z_iload_1 (pc := 2) E dX7_pass_2 ?_
      refine z_aload_0 (pc := 3) E dX7_pass_3 ?_
      refine z_get (pc := 4) E dX7_pass_4 fiX7_41 (ok6 (by omega)) rfl rfl ?_
      refine z_icmp_ge (pc := 7) (tgt := 132) E dX7_pass_7 (by decide) (fun h7 => absurd h7 (ct_lt ((congrFun (congrFun (congrFun (magN_k (by decide) (by decide) _) _) _) _).trans hn) (by omega) (by omega))) (fun h7 => ?_)
      refine z_aload_0 (pc := 10) E dX7_pass_10 ?_
      refine z_iload_1 (pc := 11) E dX7_pass_11 ?_
      refine z_iconst (v := 2) (pc := 12) E dX7_pass_12 (by decide) ?_
      refine z_ivp (pc := 13) E (m_X7_get _ _ t 2 hs (by omega) (by decide)) rfl rfl kX7_get mlX7_58 dX7_pass_13 (ok6 (by omega)) rfl rfl rfl (Nat.le_of_ble_eq_true rfl) rfl (by decide) (by decide) ⟨by omega, by omega⟩ ?_
      refine z_istore_2 (pc := 16) E dX7_pass_16 rfl ?_
      refine z_aload_0 (pc := 17) E dX7_pass_17 ?_
      refine z_iload_1 (pc := 18) E dX7_pass_18 ?_
      refine z_bipush (v := 6) (pc := 19) E dX7_pass_19 (by decide) ?_
      refine z_ivp (pc := 21) E (m_X7_get _ _ t 6 hs (by omega) (by decide)) rfl rfl kX7_get mlX7_58 dX7_pass_21 (ok6 (by omega)) rfl rfl rfl (Nat.le_of_ble_eq_true rfl) rfl (by decide) (by decide) ⟨by omega, by omega⟩ ?_
      refine z_iconst (v := 2) (pc := 24) E dX7_pass_24 (by decide) ?_
      refine z_icmp_ne (pc := 25) (tgt := 56) E dX7_pass_25 (by decide) (fun h25 => ?_) (fun h25 => ?_)
      · refine z_aload_0 (pc := 56) E dX7_pass_56 ?_
        refine z_iload_1 (pc := 57) E dX7_pass_57 ?_
        refine z_bipush (v := 6) (pc := 58) E dX7_pass_58 (by decide) ?_
        refine z_ivp (pc := 60) E (m_X7_get _ _ t 6 hs (by omega) (by decide)) rfl rfl kX7_get mlX7_58 dX7_pass_60 (ok6 (by omega)) rfl rfl rfl (Nat.le_of_ble_eq_true rfl) rfl (by decide) (by decide) ⟨by omega, by omega⟩ ?_
        refine z_if_ne (pc := 63) (tgt := 126) E dX7_pass_63 (by decide) (fun h63 => ?_) (fun h63 => ?_)
        · refine z_iinc_1 (pc := 126) E dX7_pass_126 (nI_1 t) rfl ?_
          refine z_goto (pc := 129) (tgt := 2) E dX7_pass_129 (by decide) ?_
          first | exact z_mem (mag_c h25) (ih (t + 1) _ (by omega)) | exact z_mem (mag_n h25 (fun z => h63 z.1)) (ih (t + 1) _ (by omega)) | exact z_mem (mag_n h25 (fun z => h76 z.2)) (ih (t + 1) _ (by omega)) | exact z_mem (mag_y h63 h76 hio2 (by omega)) (ih (t + 1) _ (by omega))
        · refine z_aload_0 (pc := 66) E dX7_pass_66 ?_
          refine z_iload_1 (pc := 67) E dX7_pass_67 ?_
          refine z_iconst (v := 5) (pc := 68) E dX7_pass_68 (by decide) ?_
          refine z_ivp (pc := 69) E (m_X7_get _ _ t 5 hs (by omega) (by decide)) rfl rfl kX7_get mlX7_58 dX7_pass_69 (ok6 (by omega)) rfl rfl rfl (Nat.le_of_ble_eq_true rfl) rfl (by decide) (by decide) ⟨by omega, by omega⟩ ?_
          refine z_aload_0 (pc := 72) E dX7_pass_72 ?_
          refine z_get (pc := 73) E dX7_pass_73 fiX7_38 (ok6 (by omega)) rfl rfl ?_
          refine z_icmp_lt (pc := 76) (tgt := 82) E dX7_pass_76 (by decide) (fun h76 => ?_) (fun h76 => ?_)
          · refine z_aload_0 (pc := 82) E dX7_pass_82 ?_
            refine z_iload_1 (pc := 83) E dX7_pass_83 ?_
            refine z_bipush (v := 6) (pc := 84) E dX7_pass_84 (by decide) ?_
            refine z_iconst (v := 2) (pc := 86) E dX7_pass_86 (by decide) ?_
            refine z_vvf (pc := 87) E (m_X7_set _ _ t 6 _ hs (by omega) (by decide)) rfl rfl kX7_set mlX7_54 dX7_pass_87 (ok6 (by omega)) rfl rfl rfl (Nat.le_of_ble_eq_true rfl) rfl (by decide) (by decide) ⟨by omega, by omega⟩ ?_
            refine z_aload_0 (pc := 90) E dX7_pass_90 ?_
            refine z_iload_1 (pc := 91) E dX7_pass_91 ?_
            refine z_bipush (v := 8) (pc := 92) E dX7_pass_92 (by decide) ?_
            refine z_iload_2 (pc := 94) E dX7_pass_94 ?_
            refine z_vvf (pc := 95) E (m_X7_set _ _ t 8 _ hs (by omega) (by decide)) rfl rfl kX7_set mlX7_54 dX7_pass_95 (ok6 (by omega)) rfl rfl rfl (Nat.le_of_ble_eq_true rfl) rfl (by decide) (by decide) ⟨by omega, by omega⟩ ?_
            obtain ⟨i, hi, hio⟩ := how t (by omega)
            have hio2 : oc (magN M s t) s t 0 = nI i := (magN_f (by decide) (by decide) (by decide) t).trans hio
            have hix : mset (mset (magN M s t) 9 s 0 (11 * t + 6) 2) 9 s 0 (11 * t + 8) (oc (magN M s t) s t 2) 9 s 0 (11 * t + 0) = nI i := (mset_s (by omega)).trans ((mset_s (by omega)).trans hio2)
            refine z_aload_0 (pc := 98) E dX7_pass_98 ?_
            refine z_get (pc := 99) E dX7_pass_99 fiX7_23 (ok6 (by omega)) rfl rfl ?_
            refine z_aload_0 (pc := 102) E dX7_pass_102 ?_
            refine z_iload_1 (pc := 103) E dX7_pass_103 ?_
            refine z_iconst (v := 0) (pc := 104) E dX7_pass_104 (by decide) ?_
            refine z_ivp (pc := 105) E (m_X7_get _ _ t 0 hs (by omega) (by decide)) rfl rfl kX7_get mlX7_58 dX7_pass_105 (ok6 (by omega)) rfl rfl rfl (Nat.le_of_ble_eq_true rfl) rfl (by decide) (by decide) ⟨by omega, by omega⟩ ?_
            refine z_iconst (v := 0) (pc := 108) E dX7_pass_108 (by decide) ?_
            refine z_aload_0 (pc := 109) E dX7_pass_109 ?_
            refine z_get (pc := 110) E dX7_pass_110 fiX7_23 (ok6 (by omega)) rfl rfl ?_
            refine z_aload_0 (pc := 113) E dX7_pass_113 ?_
            refine z_iload_1 (pc := 114) E dX7_pass_114 ?_
            refine z_iconst (v := 0) (pc := 115) E dX7_pass_115 (by decide) ?_
            refine z_ivp (pc := 116) E (m_X7_get _ _ t 0 hs (by omega) (by decide)) rfl rfl kX7_get mlX7_58 dX7_pass_116 (ok6 (by omega)) rfl rfl rfl (Nat.le_of_ble_eq_true rfl) rfl (by decide) (by decide) ⟨by omega, by omega⟩ ?_
            refine z_iald (pc := 119) E dX7_pass_119 (ok8 (by omega)) rfl hix hi (by omega) ?_
            refine z_iconst (v := 2) (pc := 120) E dX7_pass_120 (by decide) ?_
            refine z_isub (pc := 121) E dX7_pass_121 ?_
            refine z_max (pc := 122) E dX7_pass_122 mlX7_62 rfl (by decide) (Nat.le_of_ble_eq_true rfl) ⟨by omega, by omega⟩ ?_
            refine z_iast (pc := 125) E dX7_pass_125 (ok8 (by omega)) (fun _ => rfl) hix hi (by omega) ?_
            refine z_iinc_1 (pc := 126) E dX7_pass_126 (nI_1 t) rfl ?_
            refine z_goto (pc := 129) (tgt := 2) E dX7_pass_129 (by decide) ?_
            first | exact z_mem (mag_c h25) (ih (t + 1) _ (by omega)) | exact z_mem (mag_n h25 (fun z => h63 z.1)) (ih (t + 1) _ (by omega)) | exact z_mem (mag_n h25 (fun z => h76 z.2)) (ih (t + 1) _ (by omega)) | exact z_mem (mag_y h63 h76 hio2 (by omega)) (ih (t + 1) _ (by omega))
          · refine z_goto (pc := 79) (tgt := 126) E dX7_pass_79 (by decide) ?_
            refine z_iinc_1 (pc := 126) E dX7_pass_126 (nI_1 t) rfl ?_
            refine z_goto (pc := 129) (tgt := 2) E dX7_pass_129 (by decide) ?_
            first | exact z_mem (mag_c h25) (ih (t + 1) _ (by omega)) | exact z_mem (mag_n h25 (fun z => h63 z.1)) (ih (t + 1) _ (by omega)) | exact z_mem (mag_n h25 (fun z => h76 z.2)) (ih (t + 1) _ (by omega)) | exact z_mem (mag_y h63 h76 hio2 (by omega)) (ih (t + 1) _ (by omega))
      · refine z_aload_0 (pc := 28) E dX7_pass_28 ?_
        refine z_iload_1 (pc := 29) E dX7_pass_29 ?_
        refine z_bipush (v := 8) (pc := 30) E dX7_pass_30 (by decide) ?_
        refine z_iload_2 (pc := 32) E dX7_pass_32 ?_
        refine z_iconst (v := 3) (pc := 33) E dX7_pass_33 (by decide) ?_
        refine z_imul (pc := 34) E dX7_pass_34 ?_
        refine z_bipush (v := 10) (pc := 35) E dX7_pass_35 (by decide) ?_
        refine z_idiv (pc := 37) E dX7_pass_37 (by decide) ?_
        refine z_aload_0 (pc := 38) E dX7_pass_38 ?_
        refine z_iload_1 (pc := 39) E dX7_pass_39 ?_
        refine z_bipush (v := 8) (pc := 40) E dX7_pass_40 (by decide) ?_
        refine z_ivp (pc := 42) E (m_X7_get _ _ t 8 hs (by omega) (by decide)) rfl rfl kX7_get mlX7_58 dX7_pass_42 (ok6 (by omega)) rfl rfl rfl (Nat.le_of_ble_eq_true rfl) rfl (by decide) (by decide) ⟨by omega, by omega⟩ ?_
        refine z_iload_2 (pc := 45) E dX7_pass_45 ?_
        refine z_bipush (v := 20) (pc := 46) E dX7_pass_46 (by decide) ?_
        refine z_idiv (pc := 48) E dX7_pass_48 (by decide) ?_
        refine z_isub (pc := 49) E dX7_pass_49 ?_
        refine z_max (pc := 50) E dX7_pass_50 mlX7_62 rfl (by decide) (Nat.le_of_ble_eq_true rfl) ⟨by omega, by omega⟩ ?_
        refine z_vvf (pc := 53) E (m_X7_set _ _ t 8 _ hs (by omega) (by decide)) rfl rfl kX7_set mlX7_54 dX7_pass_53 (ok6 (by omega)) rfl rfl rfl (Nat.le_of_ble_eq_true rfl) rfl (by decide) (by decide) ⟨by omega, by omega⟩ ?_
        refine z_aload_0 (pc := 56) E dX7_pass_56 ?_
        refine z_iload_1 (pc := 57) E dX7_pass_57 ?_
        refine z_bipush (v := 6) (pc := 58) E dX7_pass_58 (by decide) ?_
        refine z_ivp (pc := 60) E (m_X7_get _ _ t 6 hs (by omega) (by decide)) rfl rfl kX7_get mlX7_58 dX7_pass_60 (ok6 (by omega)) rfl rfl rfl (Nat.le_of_ble_eq_true rfl) rfl (by decide) (by decide) ⟨by omega, by omega⟩ ?_
        refine z_if_ne (pc := 63) (tgt := 126) E dX7_pass_63 (by decide) (fun h63 => ?_) (fun h63 => absurd h63 (fun z => absurd (h25.symm.trans ((mset_s (by omega)).symm.trans z)) (by decide)))
        refine z_iinc_1 (pc := 126) E dX7_pass_126 (nI_1 t) rfl ?_
        refine z_goto (pc := 129) (tgt := 2) E dX7_pass_129 (by decide) ?_
        first | exact z_mem (mag_c h25) (ih (t + 1) _ (by omega)) | exact z_mem (mag_n h25 (fun z => h63 z.1)) (ih (t + 1) _ (by omega)) | exact z_mem (mag_n h25 (fun z => h76 z.2)) (ih (t + 1) _ (by omega)) | exact z_mem (mag_y h63 h76 hio2 (by omega)) (ih (t + 1) _ (by omega))
  refine z_iconst (v := 0) (pc := 0) E dX7_pass_0 (by decide) ?_
  refine z_istore_1 (pc := 1) E dX7_pass_1 rfl ?_
  exact L n 0 _ (by omega)

set_option maxRecDepth 100000 in
set_option maxHeartbeats 4000000 in
theorem m_X7_copy_7 (M : Mem) (s s2 : Nat) (hs : s < 2) (hs2 : s2 < 2) : CV yX7_copy cX7_copy 3 none 1 0 0 (fun G => [.ref (ad G 6 s 0), .ref (ad G 7 s2 0), .ref (ad G 7 s 0)]) M (fun M' => M' = rset M 7 s 0 (va_cpy (M 7 s2 0) (M 7 s 0) 0 0 10)) := by
  refine CV.mk (own := RX7) (by decide +kernel) rfl (fun _ => rfl) (fun _ => Nat.le_of_ble_eq_true rfl) (lv0 := fun G => [some (.ref (ad G 6 s 0)), some (.ref (ad G 7 s2 0)), some (.ref (ad G 7 s 0))]) (fun _ => rfl) (fun X G E => ?_)
  refine z_aload_1 (pc := 0) E dX7_copy_0 ?_
  refine z_iconst (v := 0) (pc := 1) E dX7_copy_1 (by decide) ?_
  refine z_aload_2 (pc := 2) E dX7_copy_2 ?_
  refine z_iconst (v := 0) (pc := 3) E dX7_copy_3 (by decide) ?_
  refine z_aload_1 (pc := 4) E dX7_copy_4 ?_
  refine z_alen (t0 := 0) (pc := 5) E dX7_copy_5 (ok7 (by omega)) rfl rfl rfl ?_
  refine z_copyW (pc := 6) (sp := 0) (dp := 0) (n := 10) E dX7_copy_6 mlX7_32 (ok7 hs2) rfl (ok7 hs) (fun _ => rfl) (by decide) (by decide) (by decide) (by decide) (Nat.le_of_ble_eq_true rfl) rfl (by decide) ?_
  exact z_vret (pc := 9) E dX7_copy_9 rfl

set_option maxRecDepth 100000 in
set_option maxHeartbeats 4000000 in
theorem m_X7_copy_8 (M : Mem) (s s2 : Nat) (hs : s < 2) (hs2 : s2 < 2) : CV yX7_copy cX7_copy 3 none 1 0 0 (fun G => [.ref (ad G 6 s 0), .ref (ad G 8 s2 0), .ref (ad G 8 s 0)]) M (fun M' => M' = rset M 8 s 0 (va_cpy (M 8 s2 0) (M 8 s 0) 0 0 10)) := by
  refine CV.mk (own := RX7) (by decide +kernel) rfl (fun _ => rfl) (fun _ => Nat.le_of_ble_eq_true rfl) (lv0 := fun G => [some (.ref (ad G 6 s 0)), some (.ref (ad G 8 s2 0)), some (.ref (ad G 8 s 0))]) (fun _ => rfl) (fun X G E => ?_)
  refine z_aload_1 (pc := 0) E dX7_copy_0 ?_
  refine z_iconst (v := 0) (pc := 1) E dX7_copy_1 (by decide) ?_
  refine z_aload_2 (pc := 2) E dX7_copy_2 ?_
  refine z_iconst (v := 0) (pc := 3) E dX7_copy_3 (by decide) ?_
  refine z_aload_1 (pc := 4) E dX7_copy_4 ?_
  refine z_alen (t0 := 0) (pc := 5) E dX7_copy_5 (ok8 (by omega)) rfl rfl rfl ?_
  refine z_copyW (pc := 6) (sp := 0) (dp := 0) (n := 10) E dX7_copy_6 mlX7_32 (ok8 hs2) rfl (ok8 hs) (fun _ => rfl) (by decide) (by decide) (by decide) (by decide) (Nat.le_of_ble_eq_true rfl) rfl (by decide) ?_
  exact z_vret (pc := 9) E dX7_copy_9 rfl

set_option maxRecDepth 100000 in
set_option maxHeartbeats 4000000 in
theorem m_X7_copy_9 (M : Mem) (s s2 : Nat) (hs : s < 2) (hs2 : s2 < 2) : CV yX7_copy cX7_copy 3 none 1 0 0 (fun G => [.ref (ad G 6 s 0), .ref (ad G 9 s2 0), .ref (ad G 9 s 0)]) M (fun M' => M' = rset M 9 s 0 (va_cpy (M 9 s2 0) (M 9 s 0) 0 0 440)) := by
  refine CV.mk (own := RX7) (by decide +kernel) rfl (fun _ => rfl) (fun _ => Nat.le_of_ble_eq_true rfl) (lv0 := fun G => [some (.ref (ad G 6 s 0)), some (.ref (ad G 9 s2 0)), some (.ref (ad G 9 s 0))]) (fun _ => rfl) (fun X G E => ?_)
  refine z_aload_1 (pc := 0) E dX7_copy_0 ?_
  refine z_iconst (v := 0) (pc := 1) E dX7_copy_1 (by decide) ?_
  refine z_aload_2 (pc := 2) E dX7_copy_2 ?_
  refine z_iconst (v := 0) (pc := 3) E dX7_copy_3 (by decide) ?_
  refine z_aload_1 (pc := 4) E dX7_copy_4 ?_
  refine z_alen (t0 := 0) (pc := 5) E dX7_copy_5 (ok9 (by omega)) rfl rfl rfl ?_
  refine z_copyW (pc := 6) (sp := 0) (dp := 0) (n := 440) E dX7_copy_6 mlX7_32 (ok9 hs2) rfl (ok9 hs) (fun _ => rfl) (by decide) (by decide) (by decide) (by decide) (Nat.le_of_ble_eq_true rfl) rfl (by decide) ?_
  exact z_vret (pc := 9) E dX7_copy_9 rfl

set_option maxRecDepth 100000 in
set_option maxHeartbeats 4000000 in
theorem m_X7_copy_10 (M : Mem) (s s2 : Nat) (hs : s < 2) (hs2 : s2 < 2) : CV yX7_copy cX7_copy 3 none 1 0 0 (fun G => [.ref (ad G 6 s 0), .ref (ad G 10 s2 0), .ref (ad G 10 s 0)]) M (fun M' => M' = rset M 10 s 0 (va_cpy (M 10 s2 0) (M 10 s 0) 0 0 60)) := by
  refine CV.mk (own := RX7) (by decide +kernel) rfl (fun _ => rfl) (fun _ => Nat.le_of_ble_eq_true rfl) (lv0 := fun G => [some (.ref (ad G 6 s 0)), some (.ref (ad G 10 s2 0)), some (.ref (ad G 10 s 0))]) (fun _ => rfl) (fun X G E => ?_)
  refine z_aload_1 (pc := 0) E dX7_copy_0 ?_
  refine z_iconst (v := 0) (pc := 1) E dX7_copy_1 (by decide) ?_
  refine z_aload_2 (pc := 2) E dX7_copy_2 ?_
  refine z_iconst (v := 0) (pc := 3) E dX7_copy_3 (by decide) ?_
  refine z_aload_1 (pc := 4) E dX7_copy_4 ?_
  refine z_alen (t0 := 0) (pc := 5) E dX7_copy_5 (ok10 (by omega)) rfl rfl rfl ?_
  refine z_copyW (pc := 6) (sp := 0) (dp := 0) (n := 60) E dX7_copy_6 mlX7_32 (ok10 hs2) rfl (ok10 hs) (fun _ => rfl) (by decide) (by decide) (by decide) (by decide) (Nat.le_of_ble_eq_true rfl) rfl (by decide) ?_
  exact z_vret (pc := 9) E dX7_copy_9 rfl

set_option maxRecDepth 100000 in
set_option maxHeartbeats 4000000 in
theorem m_X7_become (M : Mem) (s s2 : Nat) (hs : s < 2) (hs2 : s2 < 2) (hne : ¬ s2 = s) : CV yX7_become cX7_become 2 none 2 0 0 (fun G => [.ref (ad G 6 s 0), .ref (ad G 6 s2 0)]) M (fun M' => M' = becM M s s2) := by
  refine CV.mk (own := RX7) (by decide +kernel) rfl (fun _ => rfl) (fun _ => Nat.le_of_ble_eq_true rfl) (lv0 := fun G => [some (.ref (ad G 6 s 0)), some (.ref (ad G 6 s2 0))]) (fun _ => rfl) (fun X G E => ?_)
  have SC : cpK M 6 s s2 1 4 = mset (mset (mset (mset M 6 s 0 0 (M 6 s2 0 0)) 6 s 0 1 (M 6 s2 0 1)) 6 s 0 2 (M 6 s2 0 2)) 6 s 0 3 (M 6 s2 0 3) := by
    simp only [mset_r, rset_cell, rset_rset]
    refine ((cpK_s M 6 s s2 0 4).trans ?_)
    rw [cpK_0]
    exact congrArg (rset M 6 s 0) (upd4 _ _).symm
  refine z_aload_0 (pc := 0) E dX7_become_0 ?_
  refine z_aload_1 (pc := 1) E dX7_become_1 ?_
  refine z_get (pc := 2) E dX7_become_2 fiX7_38 (ok6 (by omega)) rfl rfl ?_
  refine z_put (pc := 5) E dX7_become_5 fiX7_38 fpX7_0 (ok6 (by omega)) rfl rfl (Nat.le_of_ble_eq_true rfl) ?_
  refine z_aload_0 (pc := 8) E dX7_become_8 ?_
  refine z_aload_1 (pc := 9) E dX7_become_9 ?_
  refine z_get (pc := 10) E dX7_become_10 fiX7_15 (ok6 (by omega)) rfl rfl ?_
  refine z_put (pc := 13) E dX7_become_13 fiX7_15 fpX7_1 (ok6 (by omega)) rfl rfl (Nat.le_of_ble_eq_true rfl) ?_
  refine z_aload_0 (pc := 16) E dX7_become_16 ?_
  refine z_aload_1 (pc := 17) E dX7_become_17 ?_
  refine z_get (pc := 18) E dX7_become_18 fiX7_41 (ok6 (by omega)) rfl rfl ?_
  refine z_put (pc := 21) E dX7_become_21 fiX7_41 fpX7_2 (ok6 (by omega)) rfl rfl (Nat.le_of_ble_eq_true rfl) ?_
  refine z_aload_0 (pc := 24) E dX7_become_24 ?_
  refine z_aload_1 (pc := 25) E dX7_become_25 ?_
  refine z_get (pc := 26) E dX7_become_26 fiX7_44 (ok6 (by omega)) rfl rfl ?_
  refine z_put (pc := 29) E dX7_become_29 fiX7_44 fpX7_3 (ok6 (by omega)) rfl rfl (Nat.le_of_ble_eq_true rfl) ?_
  refine z_mem (SC.trans (by simp only [mset_sh hne])) ?_
  refine z_aload_0 (pc := 32) E dX7_become_32 ?_
  refine z_aload_1 (pc := 33) E dX7_become_33 ?_
  refine z_get (pc := 34) E dX7_become_34 fiX7_19 (ok6 (by omega)) rfl rfl ?_
  refine z_aload_0 (pc := 37) E dX7_become_37 ?_
  refine z_get (pc := 38) E dX7_become_38 fiX7_19 (ok6 (by omega)) rfl rfl ?_
  refine z_vvf (pc := 41) E (m_X7_copy_7 _ _ _ hs hs2) rfl rfl kX7_copy mlX7_47 dX7_become_41 (ok6 (by omega)) rfl rfl rfl (Nat.le_of_ble_eq_true rfl) rfl (by decide) (by decide) ⟨by omega, by omega⟩ ?_
  refine z_aload_0 (pc := 44) E dX7_become_44 ?_
  refine z_aload_1 (pc := 45) E dX7_become_45 ?_
  refine z_get (pc := 46) E dX7_become_46 fiX7_23 (ok6 (by omega)) rfl rfl ?_
  refine z_aload_0 (pc := 49) E dX7_become_49 ?_
  refine z_get (pc := 50) E dX7_become_50 fiX7_23 (ok6 (by omega)) rfl rfl ?_
  refine z_vvf (pc := 53) E (m_X7_copy_8 _ _ _ hs hs2) rfl rfl kX7_copy mlX7_47 dX7_become_53 (ok6 (by omega)) rfl rfl rfl (Nat.le_of_ble_eq_true rfl) rfl (by decide) (by decide) ⟨by omega, by omega⟩ ?_
  refine z_aload_0 (pc := 56) E dX7_become_56 ?_
  refine z_aload_1 (pc := 57) E dX7_become_57 ?_
  refine z_get (pc := 58) E dX7_become_58 fiX7_26 (ok6 (by omega)) rfl rfl ?_
  refine z_aload_0 (pc := 61) E dX7_become_61 ?_
  refine z_get (pc := 62) E dX7_become_62 fiX7_26 (ok6 (by omega)) rfl rfl ?_
  refine z_vvf (pc := 65) E (m_X7_copy_9 _ _ _ hs hs2) rfl rfl kX7_copy mlX7_47 dX7_become_65 (ok6 (by omega)) rfl rfl rfl (Nat.le_of_ble_eq_true rfl) rfl (by decide) (by decide) ⟨by omega, by omega⟩ ?_
  refine z_aload_0 (pc := 68) E dX7_become_68 ?_
  refine z_aload_1 (pc := 69) E dX7_become_69 ?_
  refine z_get (pc := 70) E dX7_become_70 fiX7_29 (ok6 (by omega)) rfl rfl ?_
  refine z_aload_0 (pc := 73) E dX7_become_73 ?_
  refine z_get (pc := 74) E dX7_become_74 fiX7_29 (ok6 (by omega)) rfl rfl ?_
  refine z_vvf (pc := 77) E (m_X7_copy_10 _ _ _ hs hs2) rfl rfl kX7_copy mlX7_47 dX7_become_77 (ok6 (by omega)) rfl rfl rfl (Nat.le_of_ble_eq_true rfl) rfl (by decide) (by decide) ⟨by omega, by omega⟩ ?_
  exact z_vret (pc := 80) E dX7_become_80 rfl

