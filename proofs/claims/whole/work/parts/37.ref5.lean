/-! the reference: raise -/
def cntN (M : Mem) : Nat → Nat → Nat
  | 0, _ => 0
  | t + 1, p => cntN M t p + (if oc M 0 t 6 = 2 ∧ oc M 0 t 8 = nI p then 1 else 0)
theorem cntN_le (M : Mem) (p : Nat) : ∀ t, cntN M t p ≤ t
  | 0 => Nat.le_refl 0
  | t + 1 => by
    have h := cntN_le M p t
    show cntN M t p + (if oc M 0 t 6 = 2 ∧ oc M 0 t 8 = nI p then 1 else 0) ≤ t + 1
    split <;> omega
def rowP (M : Mem) (t : Nat) : Nat → Int32 := fun p => if p < 501 then nI (cntN M t p) else 0
theorem rowP_0 (M : Mem) : rowP M 0 = fun _ => 0 := by
  funext p
  unfold rowP
  split <;> rfl
theorem rowP_y {M : Mem} {t p : Nat} (hp : p ≤ 500) (h : oc M 0 t 6 = 2) (h2 : oc M 0 t 8 = nI p) : upd (rowP M t) p (rowP M t p + 1) = rowP M (t + 1) := by
  funext j
  show (if j = p then rowP M t p + 1 else rowP M t j) = rowP M (t + 1) j
  unfold rowP
  by_cases e : j = p
  · subst e
    rw [if_pos rfl, if_pos (by omega), if_pos (by omega), nI_1]
    show nI (cntN M t j + 1) = nI (cntN M t j + (if oc M 0 t 6 = 2 ∧ oc M 0 t 8 = nI j then 1 else 0))
    rw [if_pos ⟨h, h2⟩]
  · rw [if_neg e]
    by_cases g : j < 501
    · rw [if_pos g, if_pos g]
      show nI (cntN M t j) = nI (cntN M t j + (if oc M 0 t 6 = 2 ∧ oc M 0 t 8 = nI j then 1 else 0))
      rw [if_neg (fun z => e (nI_inj (by omega) (by omega) (z.2.symm.trans h2)))]
      rfl
    · rw [if_neg g, if_neg g]
theorem rowP_n {M : Mem} {t : Nat} (h : ¬ oc M 0 t 6 = 2) : rowP M t = rowP M (t + 1) := by
  funext j
  unfold rowP
  have e : cntN M (t + 1) j = cntN M t j := by
    show cntN M t j + (if oc M 0 t 6 = 2 ∧ oc M 0 t 8 = nI j then 1 else 0) = _
    rw [if_neg (fun z => h z.1)]
    rfl
  rw [e]
/-- c things of the price p: the answer, or how many and what sum so far -/
def innR (x : Int32) (p : Nat) : Nat → Int32 → Int32 → Int32 ⊕ (Int32 × Int32)
  | 0, m, s => .inr (m, s)
  | c + 1, m, s => if s + nI p < x then innR x p c (m + 1) (s + nI p) else .inl (m + 1)
def outR (x : Int32) (f : Nat → Nat) : Nat → Int32 → Int32 → Int32
  | 0, _, _ => -1
  | p + 1, m, s => match innR x (p + 1) (f (p + 1)) m s with
    | .inl r => r
    | .inr q => outR x f p q.1 q.2
theorem outR_l {x : Int32} {f : Nat → Nat} {p : Nat} {m s r : Int32} (h : innR x (p + 1) (f (p + 1)) m s = .inl r) : outR x f (p + 1) m s = r := by
  show (match innR x (p + 1) (f (p + 1)) m s with | .inl r => r | .inr q => outR x f p q.1 q.2) = r
  rw [h]
theorem outR_r {x : Int32} {f : Nat → Nat} {p : Nat} {m s m' s' : Int32} (h : innR x (p + 1) (f (p + 1)) m s = .inr (m', s')) : outR x f (p + 1) m s = outR x f p m' s' := by
  show (match innR x (p + 1) (f (p + 1)) m s with | .inl r => r | .inr q => outR x f p q.1 q.2) = _
  rw [h]
def mraiV (M : Mem) (n : Nat) (x : Int32) : Int32 := outR x (cntN M n) 500 0 0

set_option maxRecDepth 100000 in
set_option maxHeartbeats 4000000 in
theorem mrai_loop {X : PX} {G : GT} {M : Mem} {n a : Nat} {x : Int32} {post : Int32 → Mem → Prop} (E : EF X G cX8_raise 7 RX8 (some .int) 3 1 501) (hpo : post (mraiV M n x) (mset M 11 0 0 0 0)) (h40 : n ≤ 40) : ∀ (p : Nat) (m s : Int32) (v6 : Option Value), p ≤ 500 → mraiV M n x = outR x (cntN M n) p m s → Z X G (a, 501) (QI X G post 1 501) 81 [some (.ref (ad G 11 0 0)), some (.int x), some (.ref a), some (.int m), some (.int s), some (.int (nI p)), v6] [] (rset (mset M 11 0 0 0 0) 22 0 0 (rowP M n)) (0 + 1) (0 + 501) := by
  intro p
  induction p with
  | zero =>
    intro m s v6 hp hE
    refine z_iload_5 (pc := 81) E dX8_raise_81 ?_
    refine z_if_le (pc := 83) (tgt := 128) E dX8_raise_83 (by decide) (fun h83 => ?_) (fun h83 => absurd h83 (fun z => z (by decide)))
    refine z_iconst (v := -1) (pc := 128) E dX8_raise_128 (by decide) ?_
    refine z_m22 (mset M 11 0 0 0 0) (fun k s i hk => ?_) ?_
    · rw [m22_of (by omega)]
    exact z_iret (pc := 129) E dX8_raise_129 (by rw [hE] at hpo; exact hpo)
  | succ p ih =>
    intro m s v6 hp hE
    have hc : rset (mset M 11 0 0 0 0) 22 0 0 (rowP M n) 22 0 0 (p + 1) = nI (cntN M n (p + 1)) := if_pos (by omega)
    have hcl := cntN_le M (p + 1) n
    have L : ∀ (c k : Nat) (m9 s9 : Int32), k + c = cntN M n (p + 1) → innR x (p + 1) (cntN M n (p + 1)) m s = innR x (p + 1) c m9 s9 → Z X G (a, 501) (QI X G post 1 501) 89 [some (.ref (ad G 11 0 0)), some (.int x), some (.ref a), some (.int m9), some (.int s9), some (.int (nI (p + 1))), some (.int (nI k))] [] (rset (mset M 11 0 0 0 0) 22 0 0 (rowP M n)) (0 + 1) (0 + 501) := by
      intro c
      induction c with
      | zero =>
        intro k m9 s9 hk hI
        refine z_iload_6 (pc := 89) E dX8_raise_89 ?_
        refine z_aload_2 (pc := 91) E dX8_raise_91 ?_
        refine z_iload_5 (pc := 92) E dX8_raise_92 ?_
        refine z_ttald (pc := 94) E dX8_raise_94 rfl (by omega) (by decide) ?_
        refine z_icmp_ge (pc := 95) (tgt := 122) E dX8_raise_95 (by decide) (fun h95 => ?_) (fun h95 => absurd h95 (fun z => z (by rw [hc]; exact nI_le (by omega) (n31 (by omega)))))
        refine z_iinc_5 (pc := 122) E dX8_raise_122 (nI_b1 p) rfl ?_
        refine z_goto (pc := 125) (tgt := 81) E dX8_raise_125 (by decide) ?_
        exact ih _ _ _ (by omega) (hE.trans (outR_r (hI.trans rfl)))
      | succ c ih2 =>
        intro k m9 s9 hk hI
        refine z_iload_6 (pc := 89) E dX8_raise_89 ?_
        refine z_aload_2 (pc := 91) E dX8_raise_91 ?_
        refine z_iload_5 (pc := 92) E dX8_raise_92 ?_
        refine z_ttald (pc := 94) E dX8_raise_94 rfl (by omega) (by decide) ?_
        refine z_icmp_ge (pc := 95) (tgt := 122) E dX8_raise_95 (by decide) (fun h95 => absurd h95 (by rw [hc]; exact nI_ge (by omega) (n31 (by omega)))) (fun h95 => ?_)
        refine z_iload_4 (pc := 98) E dX8_raise_98 ?_
        refine z_iload_5 (pc := 100) E dX8_raise_100 ?_
        refine z_iadd (pc := 102) E dX8_raise_102 ?_
        refine z_istore_4 (pc := 103) E dX8_raise_103 rfl ?_
        refine z_iinc_3 (pc := 105) E dX8_raise_105 rfl rfl ?_
        refine z_iload_4 (pc := 108) E dX8_raise_108 ?_
        refine z_iload_1 (pc := 110) E dX8_raise_110 ?_
        refine z_icmp_lt (pc := 111) (tgt := 116) E dX8_raise_111 (by decide) (fun h111 => ?_) (fun h111 => ?_)
        · refine z_iinc_6 (pc := 116) E dX8_raise_116 (nI_1 k) rfl ?_
          refine z_goto (pc := 119) (tgt := 89) E dX8_raise_119 (by decide) ?_
          exact ih2 (k + 1) _ _ (by omega) (hI.trans (if_pos h111))
        · refine z_iload_3 (pc := 114) E dX8_raise_114 ?_
          refine z_m22 (mset M 11 0 0 0 0) (fun k s i hk => ?_) ?_
          · rw [m22_of (by omega)]
          exact z_iret (pc := 115) E dX8_raise_115 (by rw [hE, outR_l (hI.trans (if_neg h111))] at hpo; exact hpo)
    refine z_iload_5 (pc := 81) E dX8_raise_81 ?_
    refine z_if_le (pc := 83) (tgt := 128) E dX8_raise_83 (by decide) (fun h83 => absurd h83 (nI_ge (a := 0) (by omega) (n31 (by omega)))) (fun h83 => ?_)
    refine z_iconst (v := 0) (pc := 86) E dX8_raise_86 (by decide) ?_
    refine z_istore_6 (pc := 87) E dX8_raise_87 rfl ?_
    exact L (cntN M n (p + 1)) 0 _ _ (by omega) rfl

set_option maxRecDepth 100000 in
set_option maxHeartbeats 4000000 in
theorem mcnt_loop {X : PX} {G : GT} {M : Mem} {n a : Nat} {x : Int32} {post : Int32 → Mem → Prop} (E : EF X G cX8_raise 7 RX8 (some .int) 3 1 501) (hpo : post (mraiV M n x) (mset M 11 0 0 0 0)) (h40 : n ≤ 40) (ha : (xS X).heap.size ≤ a) (hn : M 6 0 0 2 = nI n) (hp : ∀ t, t < n → oc M 0 t 6 = 2 → ∃ p, p ≤ 500 ∧ oc M 0 t 8 = nI p) (v4 v5 v6 : Option Value) : ∀ (k t : Nat), t + k = n → Z X G (a, 501) (QI X G post 1 501) 24 [some (.ref (ad G 11 0 0)), some (.int x), some (.ref a), some (.int (nI t)), v4, v5, v6] [] (rset (mset M 11 0 0 0 0) 22 0 0 (rowP M t)) (0 + 1) (0 + 501) := by
  intro k
  induction k with
  | zero =>
    intro t ht
    obtain rfl : t = n := by omega
    refine z_iload_3 (pc := 24) E dX8_raise_24 ?_
    refine z_aload_0 (pc := 25) E dX8_raise_25 ?_
    refine z_get (pc := 26) E dX8_raise_26 fiX8_21 ok11 rfl rfl ?_
    refine z_getN (pc := 29) E dX8_raise_29 fiX8_39 (ok6 (by omega)) rfl rfl ?_
    refine z_icmp_ge (pc := 32) (tgt := 71) E dX8_raise_32 (by decide) (fun h32 => ?_) (fun h32 => absurd h32 (fun z => z (ct_ge hn (by omega) (by omega))))
    refine z_iconst (v := 0) (pc := 71) E dX8_raise_71 (by decide) ?_
    refine z_istore_3 (pc := 72) E dX8_raise_72 rfl ?_
    refine z_iconst (v := 0) (pc := 73) E dX8_raise_73 (by decide) ?_
    refine z_istore_4 (pc := 74) E dX8_raise_74 rfl ?_
    refine z_sipush (v := 500) (pc := 76) E dX8_raise_76 (by decide) ?_
    refine z_istore_5 (pc := 79) E dX8_raise_79 rfl ?_
    exact mrai_loop E hpo h40 500 _ _ _ (Nat.le_refl _) rfl
  | succ k ih =>
    intro t ht
    refine z_iload_3 (pc := 24) E dX8_raise_24 ?_
    refine z_aload_0 (pc := 25) E dX8_raise_25 ?_
    refine z_get (pc := 26) E dX8_raise_26 fiX8_21 ok11 rfl rfl ?_
    refine z_getN (pc := 29) E dX8_raise_29 fiX8_39 (ok6 (by omega)) rfl rfl ?_
    refine z_icmp_ge (pc := 32) (tgt := 71) E dX8_raise_32 (by decide) (fun h32 => absurd h32 (ct_lt hn (by omega) (by omega))) (fun h32 => ?_)
    refine z_aload_0 (pc := 35) E dX8_raise_35 ?_
    refine z_get (pc := 36) E dX8_raise_36 fiX8_21 ok11 rfl rfl ?_
    refine z_iload_3 (pc := 39) E dX8_raise_39 ?_
    refine z_bipush (v := 6) (pc := 40) E dX8_raise_40 (by decide) ?_
    refine z_ivp (pc := 42) E (m_X7_get _ 0 t 6 (by decide) (by omega) (by decide)) rfl rfl kX7_get mlX8_56 dX8_raise_42 (ok6 (by omega)) rfl rfl rfl (Nat.le_of_ble_eq_true rfl) rfl (by decide) (by decide) ⟨by omega, by omega⟩ ?_
    refine z_iconst (v := 2) (pc := 45) E dX8_raise_45 (by decide) ?_
    refine z_icmp_ne (pc := 46) (tgt := 65) E dX8_raise_46 (by decide) (fun h46 => ?_) (fun h46 => ?_)
    · refine z_iinc_3 (pc := 65) E dX8_raise_65 (nI_1 t) rfl ?_
      refine z_goto (pc := 68) (tgt := 24) E dX8_raise_68 (by decide) ?_
      first | exact z_mem (by rw [mset_rset]; exact congrArg (rset _ 22 0 0) (rowP_y (M := M) hp1 h46 hpe).symm) (ih (t + 1) (by omega)) | exact z_mem (by rw [rowP_n (M := M) h46]) (ih (t + 1) (by omega))
    · refine z_aload_2 (pc := 49) E dX8_raise_49 ?_
      refine z_aload_0 (pc := 50) E dX8_raise_50 ?_
      refine z_get (pc := 51) E dX8_raise_51 fiX8_21 ok11 rfl rfl ?_
      refine z_iload_3 (pc := 54) E dX8_raise_54 ?_
      refine z_bipush (v := 8) (pc := 55) E dX8_raise_55 (by decide) ?_
      refine z_ivp (pc := 57) E (m_X7_get _ 0 t 8 (by decide) (by omega) (by decide)) rfl rfl kX7_get mlX8_56 dX8_raise_57 (ok6 (by omega)) rfl rfl rfl (Nat.le_of_ble_eq_true rfl) rfl (by decide) (by decide) ⟨by omega, by omega⟩ ?_
      obtain ⟨p, hp1, hpe⟩ := hp t (by omega) h46
      refine z_top (y := nI p) hpe.symm ?_
      refine z_dup2 (pc := 60) E dX8_raise_60 rfl rfl ?_
      refine z_ttald (pc := 61) E dX8_raise_61 rfl (by omega) (by decide) ?_
      refine z_iconst (v := 1) (pc := 62) E dX8_raise_62 (by decide) ?_
      refine z_iadd (pc := 63) E dX8_raise_63 ?_
      refine z_ttast (pc := 64) E ha dX8_raise_64 rfl (by omega) (by decide) ?_
      refine z_iinc_3 (pc := 65) E dX8_raise_65 (nI_1 t) rfl ?_
      refine z_goto (pc := 68) (tgt := 24) E dX8_raise_68 (by decide) ?_
      first | exact z_mem (by rw [mset_rset]; exact congrArg (rset _ 22 0 0) (rowP_y (M := M) hp1 h46 hpe).symm) (ih (t + 1) (by omega)) | exact z_mem (by rw [rowP_n (M := M) h46]) (ih (t + 1) (by omega))

def mraiseK (x : Int32) : Nat := if ¬ (x < 1) then 0 else 1

set_option maxRecDepth 100000 in
set_option maxHeartbeats 4000000 in
theorem m_X8_raise (M : Mem) (n : Nat) (x : Int32) (hn : M 6 0 0 2 = nI n) (h40 : n ≤ 40) (hp : ∀ t, t < n → oc M 0 t 6 = 2 → ∃ p, p ≤ 500 ∧ oc M 0 t 8 = nI p) : CI yX8_raise cX8_raise 7 (some .int) 3 1 501 (fun G => [.ref (ad G 11 0 0), .int x]) M (fun r M' => (mraiseK x = 0 ∧ r = mraiV M n x ∧ M' = (mset M 11 0 0 0 0)) ∨ (¬ mraiseK x = 0 ∧ M' = mset M 11 0 0 0 (nI (mraiseK x)))) := by
  refine CI.mk (own := RX8) (by decide +kernel) rfl (fun _ => rfl) (fun _ => Nat.le_of_ble_eq_true rfl) (lv0 := fun G => [some (.ref (ad G 11 0 0)), some (.int x), none, none, none, none, none]) (fun _ => rfl) (fun X G E => ?_)
  refine z_aload_0 (pc := 0) E dX8_raise_0 ?_
  refine z_iconst (v := 0) (pc := 1) E dX8_raise_1 (by decide) ?_
  refine z_put (pc := 2) E dX8_raise_2 fiX8_28 fpX8_0 ok11 rfl rfl (Nat.le_of_ble_eq_true rfl) ?_
  refine z_iload_1 (pc := 5) E dX8_raise_5 ?_
  refine z_iconst (v := 1) (pc := 6) E dX8_raise_6 (by decide) ?_
  refine z_icmp_ge (pc := 7) (tgt := 16) E dX8_raise_7 (by decide) (fun h7 => ?_) (fun h7 => ?_)
  · have g7 : ¬ (x < 1) := Int32.not_lt.mpr h7
    refine z_sipush (v := 501) (pc := 16) E dX8_raise_16 (by decide) ?_
    refine z_newi (n := 501) (pc := 19) E dX8_raise_19 rfl (by decide) (by omega) (by omega) (fun a ha => ?_)
    refine z_astore_2 (pc := 21) E dX8_raise_21 rfl ?_
    refine z_iconst (v := 0) (pc := 22) E dX8_raise_22 (by decide) ?_
    refine z_istore_3 (pc := 23) E dX8_raise_23 rfl ?_
    refine z_mem (M' := rset (mset M 11 0 0 0 0) 22 0 0 (rowP M 0)) (by rw [rowP_0]) ?_
    exact mcnt_loop E (Or.inl ⟨by unfold mraiseK; rw [if_pos g7], rfl, rfl⟩) h40 ha hn hp _ _ _ n 0 (by omega)
  · have g7 : ¬ ¬ (x < 1) := not_not_intro (Int32.not_le.mp h7)
    refine z_aload_0 (pc := 10) E dX8_raise_10 ?_
    refine z_iconst (v := 1) (pc := 11) E dX8_raise_11 (by decide) ?_
    refine z_ivf (pc := 12) E (m_X8_no _ _) rfl rfl kX8_no mlX8_42 dX8_raise_12 ok11 rfl rfl rfl (Nat.le_of_ble_eq_true rfl) rfl (by decide) (by decide) ⟨by omega, by omega⟩ ?_
    refine z_widen (c1 := 1) (s1 := 501) (by omega) (by omega) ?_
    exact z_iret (pc := 15) E dX8_raise_15 (Or.inr (mfail (e := 1) (by unfold mraiseK; rw [if_neg g7]) (by decide) rfl))

