/-! the reference: most. Rows of the kit's bits, as given for pasting -/

theorem wb_tb (n : Nat) : (lN n).toBitVec = BitVec.ofNat 64 n := rfl

theorem wb_inj {a b : Int64} (h : a.toBitVec = b.toBitVec) : a = b := Int64.toBitVec_inj.mp h

theorem wb_c : ∀ k, k < 64 → ((nI k).toInt64 &&& 63) = lN k := by decide +kernel

theorem wb_sm : ∀ k, k < 64 → (BitVec.ofNat 64 k).smod 64 = BitVec.ofNat 64 k := by decide +kernel

theorem wb_shl (n : Nat) {k : Nat} (hk : k < 64) : lN n <<< ((nI k).toInt64 &&& 63) = lN (n * 2 ^ k) := by
  rw [wb_c k hk]
  apply wb_inj
  rw [Int64.toBitVec_shiftLeft, wb_tb, wb_tb, wb_tb, wb_sm k hk]
  apply BitVec.eq_of_toNat_eq
  rw [BitVec.shiftLeft_eq', BitVec.toNat_shiftLeft, BitVec.toNat_ofNat, BitVec.toNat_ofNat, BitVec.toNat_ofNat, Nat.mod_eq_of_lt (show k < 2 ^ 64 by omega), Nat.shiftLeft_eq, Nat.mul_mod, Nat.mod_mod, ← Nat.mul_mod]

theorem wb_or {a b : Nat} (ha : a < 2 ^ 64) (hb : b < 2 ^ 64) : lN a ||| lN b = lN (a ||| b) := by
  apply wb_inj
  rw [Int64.toBitVec_or, wb_tb, wb_tb, wb_tb]
  apply BitVec.eq_of_toNat_eq
  rw [BitVec.toNat_or, BitVec.toNat_ofNat, BitVec.toNat_ofNat, BitVec.toNat_ofNat, Nat.mod_eq_of_lt ha, Nat.mod_eq_of_lt hb, Nat.mod_eq_of_lt (Nat.or_lt_two_pow ha hb)]

theorem wb_and {a b : Nat} (ha : a < 2 ^ 64) (hb : b < 2 ^ 64) : lN a &&& lN b = lN (a &&& b) := by
  apply wb_inj
  rw [Int64.toBitVec_and, wb_tb, wb_tb, wb_tb]
  apply BitVec.eq_of_toNat_eq
  rw [BitVec.toNat_and, BitVec.toNat_ofNat, BitVec.toNat_ofNat, BitVec.toNat_ofNat, Nat.mod_eq_of_lt ha, Nat.mod_eq_of_lt hb, Nat.mod_eq_of_lt (Nat.and_lt_two_pow _ hb)]

theorem pf_lI {a : Nat} (h : a < 2 ^ 63) : (lN a).toInt = (a : Int) := lg_ofNat_toInt h

theorem pf_shr {a d : Nat} {D : Int64} (hD : (D.toBitVec.smod 64).toNat = d) (h : a < 2 ^ 62) : lN a >>> D = lN (a / 2 ^ d) := by
  have hd : a / 2 ^ d ≤ a := Nat.div_le_self _ _
  apply Int64.toInt_inj.mp
  have e : (lN a >>> D).toInt = (lN a).toInt >>> d := by
    rw [← hD]
    exact BitVec.toInt_sshiftRight ..
  rw [e, Int.shiftRight_eq_div_pow, pf_lI (by omega), pf_lI (by omega)]
  rfl

theorem msk_1 {N t : Nat} (hN : N < 2 ^ 40) (ht : t < 40) : (lN N >>> ((nI t).toInt64 &&& 63)) &&& 1 = lN (N / 2 ^ t % 2) := by
  have hD : (((nI t).toInt64 &&& 63).toBitVec.smod 64).toNat = t := by
    rw [wb_c t (by omega), wb_tb, wb_sm t (by omega), BitVec.toNat_ofNat, Nat.mod_eq_of_lt (by omega)]
  have hd : N / 2 ^ t ≤ N := Nat.div_le_self _ _
  rw [pf_shr hD (by omega), show (1 : Int64) = lN 1 from rfl, wb_and (by omega) (by decide), Nat.and_one_is_mod]
theorem lN_inj {a b : Nat} (ha : a < 2 ^ 62) (hb : b < 2 ^ 62) (h : lN a = lN b) : a = b := by
  have h2 := congrArg Int64.toInt h
  rw [pf_lI (by omega), pf_lI (by omega)] at h2
  exact Int.ofNat_inj.mp h2
theorem msk_b {N t : Nat} (hN : N < 2 ^ 40) (ht : t < 40) : ((lN N >>> ((nI t).toInt64 &&& 63)) &&& 1 = 1) ↔ N.testBit t = true := by
  rw [msk_1 hN ht, Nat.testBit_eq_decide_div_mod_eq, decide_eq_true_eq]
  constructor
  · intro h
    exact lN_inj (b := 1) (by omega) (by decide) h
  · intro h
    rw [h]
    rfl
theorem msk_or {N q : Nat} (hN : N < 2 ^ 40) (hq : q < 40) : lN N ||| ((1 : Int64) <<< ((nI q).toInt64 &&& 63)) = lN (N ||| 2 ^ q) := by
  have h2 : 2 ^ q < 2 ^ 40 := Nat.pow_lt_pow_right (by decide) hq
  rw [show (1 : Int64) = lN 1 from rfl, wb_shl 1 (by omega), Nat.one_mul, wb_or (by omega) (by omega)]
theorem msk_lt {N q : Nat} (hN : N < 2 ^ 40) (hq : q < 40) : N ||| 2 ^ q < 2 ^ 40 := Nat.or_lt_two_pow hN (Nat.pow_lt_pow_right (by decide) hq)
theorem msk_tb (N q t : Nat) : (N ||| 2 ^ q).testBit t = (N.testBit t || decide (q = t)) := by rw [Nat.testBit_or, Nat.testBit_two_pow]
/-- how many of the first n are not yet taken -/
def freeN (N : Nat) : Nat → Nat
  | 0 => 0
  | t + 1 => freeN N t + (if N.testBit t = true then 0 else 1)
theorem freeN_le (N : Nat) : ∀ n, freeN N n ≤ n
  | 0 => Nat.le_refl 0
  | t + 1 => by
    have h := freeN_le N t
    show freeN N t + (if N.testBit t = true then 0 else 1) ≤ t + 1
    split <;> omega
theorem freeN_o {N q : Nat} : ∀ n, n ≤ q → freeN (N ||| 2 ^ q) n = freeN N n
  | 0, _ => rfl
  | t + 1, h => by
    show freeN (N ||| 2 ^ q) t + (if (N ||| 2 ^ q).testBit t = true then 0 else 1) = freeN N t + (if N.testBit t = true then 0 else 1)
    rw [freeN_o t (by omega), msk_tb, decide_eq_false (by omega), Bool.or_false]
theorem freeN_s {N q : Nat} (hb : N.testBit q = false) : ∀ n, q < n → freeN (N ||| 2 ^ q) n + 1 = freeN N n
  | 0, h => by omega
  | t + 1, h => by
    show freeN (N ||| 2 ^ q) t + (if (N ||| 2 ^ q).testBit t = true then 0 else 1) + 1 = freeN N t + (if N.testBit t = true then 0 else 1)
    rw [msk_tb]
    by_cases e : q = t
    · subst e
      rw [freeN_o q (Nat.le_refl _), hb, decide_eq_true rfl, Bool.or_true, if_pos rfl, if_neg (by decide)]
    · have ih := freeN_s hb t (by omega)
      rw [decide_eq_false e, Bool.or_false]
      omega
def mnextF (M : Mem) (i N : Nat) : Nat → Nat → Option Nat → Option Nat
  | 0, _, b => b
  | k + 1, t, b => if (N.testBit t = false ∧ oc M 0 t 0 = nI i ∧ oc M 0 t 6 = 0) ∧ (b = none ∨ owedV M 0 t < owedV M 0 (b.getD 0)) then mnextF M i N k (t + 1) (some t) else mnextF M i N k (t + 1) b
theorem mnext_y {M : Mem} {i N k t : Nat} {b : Option Nat} (h : N.testBit t = false ∧ oc M 0 t 0 = nI i ∧ oc M 0 t 6 = 0) (h2 : b = none ∨ owedV M 0 t < owedV M 0 (b.getD 0)) : mnextF M i N (k + 1) t b = mnextF M i N k (t + 1) (some t) := if_pos ⟨h, h2⟩
theorem mnext_n {M : Mem} {i N k t : Nat} {b : Option Nat} (h : ¬ ((N.testBit t = false ∧ oc M 0 t 0 = nI i ∧ oc M 0 t 6 = 0) ∧ (b = none ∨ owedV M 0 t < owedV M 0 (b.getD 0)))) : mnextF M i N (k + 1) t b = mnextF M i N k (t + 1) b := if_neg h
def mmosF (M : Mem) (i n : Nat) : Nat → Nat → Int32 → Int32 → Int32
  | 0, _, _, m => m
  | f + 1, N, l, m => match mnextF M i N n 0 none with
    | none => m
    | some q => if l < owedV M 0 q then m else mmosF M i n f (N ||| 2 ^ q) (l - owedV M 0 q) (m + 1)
theorem mmos_0 {M : Mem} {i n f N : Nat} {l m : Int32} (h : mnextF M i N n 0 none = none) : mmosF M i n (f + 1) N l m = m := by
  show (match mnextF M i N n 0 none with | none => m | some q => if l < owedV M 0 q then m else mmosF M i n f (N ||| 2 ^ q) (l - owedV M 0 q) (m + 1)) = m
  rw [h]
theorem mmos_1 {M : Mem} {i n f N q : Nat} {l m : Int32} (h : mnextF M i N n 0 none = some q) (h2 : l < owedV M 0 q) : mmosF M i n (f + 1) N l m = m := by
  show (match mnextF M i N n 0 none with | none => m | some q => if l < owedV M 0 q then m else mmosF M i n f (N ||| 2 ^ q) (l - owedV M 0 q) (m + 1)) = m
  rw [h]
  exact if_pos h2
theorem mmos_2 {M : Mem} {i n f N q : Nat} {l m : Int32} (h : mnextF M i N n 0 none = some q) (h2 : ¬ l < owedV M 0 q) : mmosF M i n (f + 1) N l m = mmosF M i n f (N ||| 2 ^ q) (l - owedV M 0 q) (m + 1) := by
  show (match mnextF M i N n 0 none with | none => m | some q => if l < owedV M 0 q then m else mmosF M i n f (N ||| 2 ^ q) (l - owedV M 0 q) (m + 1)) = _
  rw [h]
  exact if_neg h2
theorem cmp_e {x y : Int64} : lg_cmp x y = 0 ↔ x = y := lg_cmp_eq x y

set_option maxRecDepth 100000 in
set_option maxHeartbeats 4000000 in
theorem mmos_loop {X : PX} {G : GT} {M : Mem} {n i : Nat} {post : Int32 → Mem → Prop} (E : EF X G cX8_most 8 RX8 (some .int) 3 0 0) (hn : M 6 0 0 2 = nI n) (h40 : n ≤ 40) (hi : i < 10) : ∀ (f N : Nat) (l m : Int32) (v6 v7 : Option Value), N < 2 ^ 40 → freeN N n ≤ f → post (mmosF M i n (f + 1) N l m) M → Z X G (0, 0) (QI X G post 0 0) 34 [some (.ref (ad G 11 0 0)), some (.int (nI i)), some (.int l), some (.long (lN N)), none, some (.int m), v6, v7] [] M 0 0 := by
  intro f
  induction f with
  | zero =>
    intro N l m v6 v7 hN hF hP
    have L : ∀ (k t : Nat) (b : Option Nat), t + k = n → (∀ q, b = some q → q < n ∧ N.testBit q = false) → mnextF M i N n 0 none = mnextF M i N k t b → Z X G (0, 0) (QI X G post 0 0) 40 [some (.ref (ad G 11 0 0)), some (.int (nI i)), some (.int l), some (.long (lN N)), none, some (.int m), some (.int (oI b)), some (.int (nI t))] [] M 0 0 := by
      intro k
      induction k with
      | zero =>
        intro t b ht hb hE
        obtain rfl : t = n := by omega
        refine z_iload_7 (pc := 40) E dX8_most_40 ?_
        refine z_aload_0 (pc := 42) E dX8_most_42 ?_
        refine z_get (pc := 43) E dX8_most_43 fiX8_21 ok11 rfl rfl ?_
        refine z_getN (pc := 46) E dX8_most_46 fiX8_39 (ok6 (by omega)) rfl rfl ?_
        refine z_icmp_ge (pc := 49) (tgt := 131) E dX8_most_49 (by decide) (fun h49 => ?_) (fun h49 => absurd h49 (fun z => z (ct_ge hn (by omega) (by omega))))
        refine z_iload_6 (pc := 131) E dX8_most_131 ?_
        refine z_iconst (v := -1) (pc := 133) E dX8_most_133 (by decide) ?_
        refine z_icmp_eq (pc := 134) (tgt := 150) E dX8_most_134 (by decide) (fun h134 => ?_) (fun h134 => ?_)
        · refine z_iload_5 (pc := 150) E dX8_most_150 ?_
          exact z_iret (pc := 152) E dX8_most_152 (by first | (rw [mmos_0 (hE.trans (oI_none (fun q e => by have := (hb q e).1; omega) h134))] at hP; exact hP) | (rw [mmos_1 hE (Int32.not_le.mp h147)] at hP; exact hP))
        · obtain ⟨q, rfl⟩ := oI_some h134
          have hq := hb q rfl
          have hs := freeN_s hq.2 _ hq.1
          refine z_aload_0 (pc := 137) E dX8_most_137 ?_
          refine z_get (pc := 138) E dX8_most_138 fiX8_21 ok11 rfl rfl ?_
          refine z_iload_6 (pc := 141) E dX8_most_141 ?_
          refine z_ivp (pc := 143) E (m_X7_owed _ 0 q (by decide) (by omega)) rfl rfl kX7_owed mlX8_60 dX8_most_143 (ok6 (by omega)) rfl rfl rfl (Nat.le_of_ble_eq_true rfl) rfl (by decide) (by decide) ⟨by omega, by omega⟩ ?_
          refine z_iload_2 (pc := 146) E dX8_most_146 ?_
          refine z_icmp_le (pc := 147) (tgt := 153) E dX8_most_147 (by decide) (fun h147 => ?_) (fun h147 => ?_)
          · refine z_iload_2 (pc := 153) E dX8_most_153 ?_
            refine z_aload_0 (pc := 154) E dX8_most_154 ?_
            refine z_get (pc := 155) E dX8_most_155 fiX8_21 ok11 rfl rfl ?_
            refine z_iload_6 (pc := 158) E dX8_most_158 ?_
            refine z_ivp (pc := 160) E (m_X7_owed _ 0 q (by decide) (by omega)) rfl rfl kX7_owed mlX8_60 dX8_most_160 (ok6 (by omega)) rfl rfl rfl (Nat.le_of_ble_eq_true rfl) rfl (by decide) (by decide) ⟨by omega, by omega⟩ ?_
            refine z_isub (pc := 163) E dX8_most_163 ?_
            refine z_istore_2 (pc := 164) E dX8_most_164 rfl ?_
            refine z_lload_3 (pc := 165) E dX8_most_165 ?_
            refine z_lconst (v := 1) (pc := 166) E dX8_most_166 rfl ?_
            refine z_iload_6 (pc := 167) E dX8_most_167 ?_
            refine z_lshl (pc := 169) E dX8_most_169 ?_
            refine z_lor (pc := 170) E dX8_most_170 ?_
            rw [show oI (some q) = nI q from rfl, msk_or hN (show q < 40 by omega)]
            refine z_lstore_3 (pc := 171) E dX8_most_171 rfl ?_
            refine z_iinc_5 (pc := 172) E dX8_most_172 rfl rfl ?_
            refine z_goto (pc := 175) (tgt := 34) E dX8_most_175 (by decide) ?_
            exact absurd hF (by omega)
          · refine z_iload_5 (pc := 150) E dX8_most_150 ?_
            exact z_iret (pc := 152) E dX8_most_152 (by first | (rw [mmos_0 (hE.trans (oI_none (fun q e => by have := (hb q e).1; omega) h134))] at hP; exact hP) | (rw [mmos_1 hE (Int32.not_le.mp h147)] at hP; exact hP))
      | succ k ih =>
        intro t b ht hb hE
        refine z_iload_7 (pc := 40) E dX8_most_40 ?_
        refine z_aload_0 (pc := 42) E dX8_most_42 ?_
        refine z_get (pc := 43) E dX8_most_43 fiX8_21 ok11 rfl rfl ?_
        refine z_getN (pc := 46) E dX8_most_46 fiX8_39 (ok6 (by omega)) rfl rfl ?_
        refine z_icmp_ge (pc := 49) (tgt := 131) E dX8_most_49 (by decide) (fun h49 => absurd h49 (ct_lt hn (by omega) (by omega))) (fun h49 => ?_)
        refine z_lload_3 (pc := 52) E dX8_most_52 ?_
        refine z_iload_7 (pc := 53) E dX8_most_53 ?_
        refine z_lshr (pc := 55) E dX8_most_55 ?_
        refine z_lconst (v := 1) (pc := 56) E dX8_most_56 rfl ?_
        refine z_land (pc := 57) E dX8_most_57 ?_
        refine z_lconst (v := 1) (pc := 58) E dX8_most_58 rfl ?_
        refine z_lcmp (pc := 59) E dX8_most_59 ?_
        refine z_if_eq (pc := 60) (tgt := 125) E dX8_most_60 (by decide) (fun h60 => ?_) (fun h60 => ?_)
        · refine z_iinc_7 (pc := 125) E dX8_most_125 (nI_1 t) rfl ?_
          refine z_goto (pc := 128) (tgt := 40) E dX8_most_128 (by decide) ?_
          first | exact ih (t + 1) _ (by omega) hb (hE.trans (mnext_n (fun z => absurd ((msk_b hN (by omega)).mp (cmp_e.mp h60)) (by rw [z.1.1]; decide)))) | exact ih (t + 1) _ (by omega) hb (hE.trans (mnext_n (fun z => h74 z.1.2.1))) | exact ih (t + 1) _ (by omega) hb (hE.trans (mnext_n (fun z => h88 z.1.2.2))) | exact ih (t + 1) (some q) (by omega) hb (hE.trans (mnext_n (fun z => z.2.elim (fun e => by cases e) (fun y => absurd h118 (Int32.not_le.mpr y))))) | exact ih (t + 1) (some t) (by omega) (fun q2 e => by cases e; exact ⟨by omega, (Bool.eq_false_iff.mpr (fun z => h60 (cmp_e.mpr ((msk_b hN (by omega)).mpr z))))⟩) (hE.trans (mnext_y ⟨(Bool.eq_false_iff.mpr (fun z => h60 (cmp_e.mpr ((msk_b hN (by omega)).mpr z)))), h74, h88⟩ (Or.inl (oI_none (fun q e => by have := (hb q e).1; omega) h97)))) | exact ih (t + 1) (some t) (by omega) (fun q2 e => by cases e; exact ⟨by omega, (Bool.eq_false_iff.mpr (fun z => h60 (cmp_e.mpr ((msk_b hN (by omega)).mpr z))))⟩) (hE.trans (mnext_y ⟨(Bool.eq_false_iff.mpr (fun z => h60 (cmp_e.mpr ((msk_b hN (by omega)).mpr z)))), h74, h88⟩ (Or.inr (Int32.not_le.mp h118))))
        · refine z_aload_0 (pc := 63) E dX8_most_63 ?_
          refine z_get (pc := 64) E dX8_most_64 fiX8_21 ok11 rfl rfl ?_
          refine z_iload_7 (pc := 67) E dX8_most_67 ?_
          refine z_iconst (v := 0) (pc := 69) E dX8_most_69 (by decide) ?_
          refine z_ivp (pc := 70) E (m_X7_get _ 0 t 0 (by decide) (by omega) (by decide)) rfl rfl kX7_get mlX8_56 dX8_most_70 (ok6 (by omega)) rfl rfl rfl (Nat.le_of_ble_eq_true rfl) rfl (by decide) (by decide) ⟨by omega, by omega⟩ ?_
          refine z_iload_1 (pc := 73) E dX8_most_73 ?_
          refine z_icmp_ne (pc := 74) (tgt := 125) E dX8_most_74 (by decide) (fun h74 => ?_) (fun h74 => ?_)
          · refine z_iinc_7 (pc := 125) E dX8_most_125 (nI_1 t) rfl ?_
            refine z_goto (pc := 128) (tgt := 40) E dX8_most_128 (by decide) ?_
            first | exact ih (t + 1) _ (by omega) hb (hE.trans (mnext_n (fun z => absurd ((msk_b hN (by omega)).mp (cmp_e.mp h60)) (by rw [z.1.1]; decide)))) | exact ih (t + 1) _ (by omega) hb (hE.trans (mnext_n (fun z => h74 z.1.2.1))) | exact ih (t + 1) _ (by omega) hb (hE.trans (mnext_n (fun z => h88 z.1.2.2))) | exact ih (t + 1) (some q) (by omega) hb (hE.trans (mnext_n (fun z => z.2.elim (fun e => by cases e) (fun y => absurd h118 (Int32.not_le.mpr y))))) | exact ih (t + 1) (some t) (by omega) (fun q2 e => by cases e; exact ⟨by omega, (Bool.eq_false_iff.mpr (fun z => h60 (cmp_e.mpr ((msk_b hN (by omega)).mpr z))))⟩) (hE.trans (mnext_y ⟨(Bool.eq_false_iff.mpr (fun z => h60 (cmp_e.mpr ((msk_b hN (by omega)).mpr z)))), h74, h88⟩ (Or.inl (oI_none (fun q e => by have := (hb q e).1; omega) h97)))) | exact ih (t + 1) (some t) (by omega) (fun q2 e => by cases e; exact ⟨by omega, (Bool.eq_false_iff.mpr (fun z => h60 (cmp_e.mpr ((msk_b hN (by omega)).mpr z))))⟩) (hE.trans (mnext_y ⟨(Bool.eq_false_iff.mpr (fun z => h60 (cmp_e.mpr ((msk_b hN (by omega)).mpr z)))), h74, h88⟩ (Or.inr (Int32.not_le.mp h118))))
          · refine z_aload_0 (pc := 77) E dX8_most_77 ?_
            refine z_get (pc := 78) E dX8_most_78 fiX8_21 ok11 rfl rfl ?_
            refine z_iload_7 (pc := 81) E dX8_most_81 ?_
            refine z_bipush (v := 6) (pc := 83) E dX8_most_83 (by decide) ?_
            refine z_ivp (pc := 85) E (m_X7_get _ 0 t 6 (by decide) (by omega) (by decide)) rfl rfl kX7_get mlX8_56 dX8_most_85 (ok6 (by omega)) rfl rfl rfl (Nat.le_of_ble_eq_true rfl) rfl (by decide) (by decide) ⟨by omega, by omega⟩ ?_
            refine z_if_eq (pc := 88) (tgt := 94) E dX8_most_88 (by decide) (fun h88 => ?_) (fun h88 => ?_)
            · refine z_iload_6 (pc := 94) E dX8_most_94 ?_
              refine z_iconst (v := -1) (pc := 96) E dX8_most_96 (by decide) ?_
              refine z_icmp_eq (pc := 97) (tgt := 121) E dX8_most_97 (by decide) (fun h97 => ?_) (fun h97 => ?_)
              · refine z_iload_7 (pc := 121) E dX8_most_121 ?_
                refine z_istore_6 (pc := 123) E dX8_most_123 rfl ?_
                refine z_iinc_7 (pc := 125) E dX8_most_125 (nI_1 t) rfl ?_
                refine z_goto (pc := 128) (tgt := 40) E dX8_most_128 (by decide) ?_
                first | exact ih (t + 1) _ (by omega) hb (hE.trans (mnext_n (fun z => absurd ((msk_b hN (by omega)).mp (cmp_e.mp h60)) (by rw [z.1.1]; decide)))) | exact ih (t + 1) _ (by omega) hb (hE.trans (mnext_n (fun z => h74 z.1.2.1))) | exact ih (t + 1) _ (by omega) hb (hE.trans (mnext_n (fun z => h88 z.1.2.2))) | exact ih (t + 1) (some q) (by omega) hb (hE.trans (mnext_n (fun z => z.2.elim (fun e => by cases e) (fun y => absurd h118 (Int32.not_le.mpr y))))) | exact ih (t + 1) (some t) (by omega) (fun q2 e => by cases e; exact ⟨by omega, (Bool.eq_false_iff.mpr (fun z => h60 (cmp_e.mpr ((msk_b hN (by omega)).mpr z))))⟩) (hE.trans (mnext_y ⟨(Bool.eq_false_iff.mpr (fun z => h60 (cmp_e.mpr ((msk_b hN (by omega)).mpr z)))), h74, h88⟩ (Or.inl (oI_none (fun q e => by have := (hb q e).1; omega) h97)))) | exact ih (t + 1) (some t) (by omega) (fun q2 e => by cases e; exact ⟨by omega, (Bool.eq_false_iff.mpr (fun z => h60 (cmp_e.mpr ((msk_b hN (by omega)).mpr z))))⟩) (hE.trans (mnext_y ⟨(Bool.eq_false_iff.mpr (fun z => h60 (cmp_e.mpr ((msk_b hN (by omega)).mpr z)))), h74, h88⟩ (Or.inr (Int32.not_le.mp h118))))
              · obtain ⟨q, rfl⟩ := oI_some h97
                have hq := hb q rfl
                refine z_aload_0 (pc := 100) E dX8_most_100 ?_
                refine z_get (pc := 101) E dX8_most_101 fiX8_21 ok11 rfl rfl ?_
                refine z_iload_7 (pc := 104) E dX8_most_104 ?_
                refine z_ivp (pc := 106) E (m_X7_owed _ 0 t (by decide) (by omega)) rfl rfl kX7_owed mlX8_60 dX8_most_106 (ok6 (by omega)) rfl rfl rfl (Nat.le_of_ble_eq_true rfl) rfl (by decide) (by decide) ⟨by omega, by omega⟩ ?_
                refine z_aload_0 (pc := 109) E dX8_most_109 ?_
                refine z_get (pc := 110) E dX8_most_110 fiX8_21 ok11 rfl rfl ?_
                refine z_iload_6 (pc := 113) E dX8_most_113 ?_
                refine z_ivp (pc := 115) E (m_X7_owed _ 0 q (by decide) (by omega)) rfl rfl kX7_owed mlX8_60 dX8_most_115 (ok6 (by omega)) rfl rfl rfl (Nat.le_of_ble_eq_true rfl) rfl (by decide) (by decide) ⟨by omega, by omega⟩ ?_
                refine z_icmp_ge (pc := 118) (tgt := 125) E dX8_most_118 (by decide) (fun h118 => ?_) (fun h118 => ?_)
                · refine z_iinc_7 (pc := 125) E dX8_most_125 (nI_1 t) rfl ?_
                  refine z_goto (pc := 128) (tgt := 40) E dX8_most_128 (by decide) ?_
                  first | exact ih (t + 1) _ (by omega) hb (hE.trans (mnext_n (fun z => absurd ((msk_b hN (by omega)).mp (cmp_e.mp h60)) (by rw [z.1.1]; decide)))) | exact ih (t + 1) _ (by omega) hb (hE.trans (mnext_n (fun z => h74 z.1.2.1))) | exact ih (t + 1) _ (by omega) hb (hE.trans (mnext_n (fun z => h88 z.1.2.2))) | exact ih (t + 1) (some q) (by omega) hb (hE.trans (mnext_n (fun z => z.2.elim (fun e => by cases e) (fun y => absurd h118 (Int32.not_le.mpr y))))) | exact ih (t + 1) (some t) (by omega) (fun q2 e => by cases e; exact ⟨by omega, (Bool.eq_false_iff.mpr (fun z => h60 (cmp_e.mpr ((msk_b hN (by omega)).mpr z))))⟩) (hE.trans (mnext_y ⟨(Bool.eq_false_iff.mpr (fun z => h60 (cmp_e.mpr ((msk_b hN (by omega)).mpr z)))), h74, h88⟩ (Or.inl (oI_none (fun q e => by have := (hb q e).1; omega) h97)))) | exact ih (t + 1) (some t) (by omega) (fun q2 e => by cases e; exact ⟨by omega, (Bool.eq_false_iff.mpr (fun z => h60 (cmp_e.mpr ((msk_b hN (by omega)).mpr z))))⟩) (hE.trans (mnext_y ⟨(Bool.eq_false_iff.mpr (fun z => h60 (cmp_e.mpr ((msk_b hN (by omega)).mpr z)))), h74, h88⟩ (Or.inr (Int32.not_le.mp h118))))
                · refine z_iload_7 (pc := 121) E dX8_most_121 ?_
                  refine z_istore_6 (pc := 123) E dX8_most_123 rfl ?_
                  refine z_iinc_7 (pc := 125) E dX8_most_125 (nI_1 t) rfl ?_
                  refine z_goto (pc := 128) (tgt := 40) E dX8_most_128 (by decide) ?_
                  first | exact ih (t + 1) _ (by omega) hb (hE.trans (mnext_n (fun z => absurd ((msk_b hN (by omega)).mp (cmp_e.mp h60)) (by rw [z.1.1]; decide)))) | exact ih (t + 1) _ (by omega) hb (hE.trans (mnext_n (fun z => h74 z.1.2.1))) | exact ih (t + 1) _ (by omega) hb (hE.trans (mnext_n (fun z => h88 z.1.2.2))) | exact ih (t + 1) (some q) (by omega) hb (hE.trans (mnext_n (fun z => z.2.elim (fun e => by cases e) (fun y => absurd h118 (Int32.not_le.mpr y))))) | exact ih (t + 1) (some t) (by omega) (fun q2 e => by cases e; exact ⟨by omega, (Bool.eq_false_iff.mpr (fun z => h60 (cmp_e.mpr ((msk_b hN (by omega)).mpr z))))⟩) (hE.trans (mnext_y ⟨(Bool.eq_false_iff.mpr (fun z => h60 (cmp_e.mpr ((msk_b hN (by omega)).mpr z)))), h74, h88⟩ (Or.inl (oI_none (fun q e => by have := (hb q e).1; omega) h97)))) | exact ih (t + 1) (some t) (by omega) (fun q2 e => by cases e; exact ⟨by omega, (Bool.eq_false_iff.mpr (fun z => h60 (cmp_e.mpr ((msk_b hN (by omega)).mpr z))))⟩) (hE.trans (mnext_y ⟨(Bool.eq_false_iff.mpr (fun z => h60 (cmp_e.mpr ((msk_b hN (by omega)).mpr z)))), h74, h88⟩ (Or.inr (Int32.not_le.mp h118))))
            · refine z_goto (pc := 91) (tgt := 125) E dX8_most_91 (by decide) ?_
              refine z_iinc_7 (pc := 125) E dX8_most_125 (nI_1 t) rfl ?_
              refine z_goto (pc := 128) (tgt := 40) E dX8_most_128 (by decide) ?_
              first | exact ih (t + 1) _ (by omega) hb (hE.trans (mnext_n (fun z => absurd ((msk_b hN (by omega)).mp (cmp_e.mp h60)) (by rw [z.1.1]; decide)))) | exact ih (t + 1) _ (by omega) hb (hE.trans (mnext_n (fun z => h74 z.1.2.1))) | exact ih (t + 1) _ (by omega) hb (hE.trans (mnext_n (fun z => h88 z.1.2.2))) | exact ih (t + 1) (some q) (by omega) hb (hE.trans (mnext_n (fun z => z.2.elim (fun e => by cases e) (fun y => absurd h118 (Int32.not_le.mpr y))))) | exact ih (t + 1) (some t) (by omega) (fun q2 e => by cases e; exact ⟨by omega, (Bool.eq_false_iff.mpr (fun z => h60 (cmp_e.mpr ((msk_b hN (by omega)).mpr z))))⟩) (hE.trans (mnext_y ⟨(Bool.eq_false_iff.mpr (fun z => h60 (cmp_e.mpr ((msk_b hN (by omega)).mpr z)))), h74, h88⟩ (Or.inl (oI_none (fun q e => by have := (hb q e).1; omega) h97)))) | exact ih (t + 1) (some t) (by omega) (fun q2 e => by cases e; exact ⟨by omega, (Bool.eq_false_iff.mpr (fun z => h60 (cmp_e.mpr ((msk_b hN (by omega)).mpr z))))⟩) (hE.trans (mnext_y ⟨(Bool.eq_false_iff.mpr (fun z => h60 (cmp_e.mpr ((msk_b hN (by omega)).mpr z)))), h74, h88⟩ (Or.inr (Int32.not_le.mp h118))))
    refine z_iconst (v := -1) (pc := 34) E dX8_most_34 (by decide) ?_
    refine z_istore_6 (pc := 35) E dX8_most_35 rfl ?_
    refine z_iconst (v := 0) (pc := 37) E dX8_most_37 (by decide) ?_
    refine z_istore_7 (pc := 38) E dX8_most_38 rfl ?_
    exact L n 0 none (by omega) (fun q e => by cases e) rfl
  | succ f ihf =>
    intro N l m v6 v7 hN hF hP
    have L : ∀ (k t : Nat) (b : Option Nat), t + k = n → (∀ q, b = some q → q < n ∧ N.testBit q = false) → mnextF M i N n 0 none = mnextF M i N k t b → Z X G (0, 0) (QI X G post 0 0) 40 [some (.ref (ad G 11 0 0)), some (.int (nI i)), some (.int l), some (.long (lN N)), none, some (.int m), some (.int (oI b)), some (.int (nI t))] [] M 0 0 := by
      intro k
      induction k with
      | zero =>
        intro t b ht hb hE
        obtain rfl : t = n := by omega
        refine z_iload_7 (pc := 40) E dX8_most_40 ?_
        refine z_aload_0 (pc := 42) E dX8_most_42 ?_
        refine z_get (pc := 43) E dX8_most_43 fiX8_21 ok11 rfl rfl ?_
        refine z_getN (pc := 46) E dX8_most_46 fiX8_39 (ok6 (by omega)) rfl rfl ?_
        refine z_icmp_ge (pc := 49) (tgt := 131) E dX8_most_49 (by decide) (fun h49 => ?_) (fun h49 => absurd h49 (fun z => z (ct_ge hn (by omega) (by omega))))
        refine z_iload_6 (pc := 131) E dX8_most_131 ?_
        refine z_iconst (v := -1) (pc := 133) E dX8_most_133 (by decide) ?_
        refine z_icmp_eq (pc := 134) (tgt := 150) E dX8_most_134 (by decide) (fun h134 => ?_) (fun h134 => ?_)
        · refine z_iload_5 (pc := 150) E dX8_most_150 ?_
          exact z_iret (pc := 152) E dX8_most_152 (by first | (rw [mmos_0 (hE.trans (oI_none (fun q e => by have := (hb q e).1; omega) h134))] at hP; exact hP) | (rw [mmos_1 hE (Int32.not_le.mp h147)] at hP; exact hP))
        · obtain ⟨q, rfl⟩ := oI_some h134
          have hq := hb q rfl
          have hs := freeN_s hq.2 _ hq.1
          refine z_aload_0 (pc := 137) E dX8_most_137 ?_
          refine z_get (pc := 138) E dX8_most_138 fiX8_21 ok11 rfl rfl ?_
          refine z_iload_6 (pc := 141) E dX8_most_141 ?_
          refine z_ivp (pc := 143) E (m_X7_owed _ 0 q (by decide) (by omega)) rfl rfl kX7_owed mlX8_60 dX8_most_143 (ok6 (by omega)) rfl rfl rfl (Nat.le_of_ble_eq_true rfl) rfl (by decide) (by decide) ⟨by omega, by omega⟩ ?_
          refine z_iload_2 (pc := 146) E dX8_most_146 ?_
          refine z_icmp_le (pc := 147) (tgt := 153) E dX8_most_147 (by decide) (fun h147 => ?_) (fun h147 => ?_)
          · refine z_iload_2 (pc := 153) E dX8_most_153 ?_
            refine z_aload_0 (pc := 154) E dX8_most_154 ?_
            refine z_get (pc := 155) E dX8_most_155 fiX8_21 ok11 rfl rfl ?_
            refine z_iload_6 (pc := 158) E dX8_most_158 ?_
            refine z_ivp (pc := 160) E (m_X7_owed _ 0 q (by decide) (by omega)) rfl rfl kX7_owed mlX8_60 dX8_most_160 (ok6 (by omega)) rfl rfl rfl (Nat.le_of_ble_eq_true rfl) rfl (by decide) (by decide) ⟨by omega, by omega⟩ ?_
            refine z_isub (pc := 163) E dX8_most_163 ?_
            refine z_istore_2 (pc := 164) E dX8_most_164 rfl ?_
            refine z_lload_3 (pc := 165) E dX8_most_165 ?_
            refine z_lconst (v := 1) (pc := 166) E dX8_most_166 rfl ?_
            refine z_iload_6 (pc := 167) E dX8_most_167 ?_
            refine z_lshl (pc := 169) E dX8_most_169 ?_
            refine z_lor (pc := 170) E dX8_most_170 ?_
            rw [show oI (some q) = nI q from rfl, msk_or hN (show q < 40 by omega)]
            refine z_lstore_3 (pc := 171) E dX8_most_171 rfl ?_
            refine z_iinc_5 (pc := 172) E dX8_most_172 rfl rfl ?_
            refine z_goto (pc := 175) (tgt := 34) E dX8_most_175 (by decide) ?_
            exact ihf (N ||| 2 ^ q) _ _ _ _ (msk_lt hN (by omega)) (by omega) (by rw [mmos_2 hE (Int32.not_lt.mpr h147)] at hP; exact hP)
          · refine z_iload_5 (pc := 150) E dX8_most_150 ?_
            exact z_iret (pc := 152) E dX8_most_152 (by first | (rw [mmos_0 (hE.trans (oI_none (fun q e => by have := (hb q e).1; omega) h134))] at hP; exact hP) | (rw [mmos_1 hE (Int32.not_le.mp h147)] at hP; exact hP))
      | succ k ih =>
        intro t b ht hb hE
        refine z_iload_7 (pc := 40) E dX8_most_40 ?_
        refine z_aload_0 (pc := 42) E dX8_most_42 ?_
        refine z_get (pc := 43) E dX8_most_43 fiX8_21 ok11 rfl rfl ?_
        refine z_getN (pc := 46) E dX8_most_46 fiX8_39 (ok6 (by omega)) rfl rfl ?_
        refine z_icmp_ge (pc := 49) (tgt := 131) E dX8_most_49 (by decide) (fun h49 => absurd h49 (ct_lt hn (by omega) (by omega))) (fun h49 => ?_)
        refine z_lload_3 (pc := 52) E dX8_most_52 ?_
        refine z_iload_7 (pc := 53) E dX8_most_53 ?_
        refine z_lshr (pc := 55) E dX8_most_55 ?_
        refine z_lconst (v := 1) (pc := 56) E dX8_most_56 rfl ?_
        refine z_land (pc := 57) E dX8_most_57 ?_
        refine z_lconst (v := 1) (pc := 58) E dX8_most_58 rfl ?_
        refine z_lcmp (pc := 59) E dX8_most_59 ?_
        refine z_if_eq (pc := 60) (tgt := 125) E dX8_most_60 (by decide) (fun h60 => ?_) (fun h60 => ?_)
        · refine z_iinc_7 (pc := 125) E dX8_most_125 (nI_1 t) rfl ?_
          refine z_goto (pc := 128) (tgt := 40) E dX8_most_128 (by decide) ?_
          first | exact ih (t + 1) _ (by omega) hb (hE.trans (mnext_n (fun z => absurd ((msk_b hN (by omega)).mp (cmp_e.mp h60)) (by rw [z.1.1]; decide)))) | exact ih (t + 1) _ (by omega) hb (hE.trans (mnext_n (fun z => h74 z.1.2.1))) | exact ih (t + 1) _ (by omega) hb (hE.trans (mnext_n (fun z => h88 z.1.2.2))) | exact ih (t + 1) (some q) (by omega) hb (hE.trans (mnext_n (fun z => z.2.elim (fun e => by cases e) (fun y => absurd h118 (Int32.not_le.mpr y))))) | exact ih (t + 1) (some t) (by omega) (fun q2 e => by cases e; exact ⟨by omega, (Bool.eq_false_iff.mpr (fun z => h60 (cmp_e.mpr ((msk_b hN (by omega)).mpr z))))⟩) (hE.trans (mnext_y ⟨(Bool.eq_false_iff.mpr (fun z => h60 (cmp_e.mpr ((msk_b hN (by omega)).mpr z)))), h74, h88⟩ (Or.inl (oI_none (fun q e => by have := (hb q e).1; omega) h97)))) | exact ih (t + 1) (some t) (by omega) (fun q2 e => by cases e; exact ⟨by omega, (Bool.eq_false_iff.mpr (fun z => h60 (cmp_e.mpr ((msk_b hN (by omega)).mpr z))))⟩) (hE.trans (mnext_y ⟨(Bool.eq_false_iff.mpr (fun z => h60 (cmp_e.mpr ((msk_b hN (by omega)).mpr z)))), h74, h88⟩ (Or.inr (Int32.not_le.mp h118))))
        · refine z_aload_0 (pc := 63) E dX8_most_63 ?_
          refine z_get (pc := 64) E dX8_most_64 fiX8_21 ok11 rfl rfl ?_
          refine z_iload_7 (pc := 67) E dX8_most_67 ?_
          refine z_iconst (v := 0) (pc := 69) E dX8_most_69 (by decide) ?_
          refine z_ivp (pc := 70) E (m_X7_get _ 0 t 0 (by decide) (by omega) (by decide)) rfl rfl kX7_get mlX8_56 dX8_most_70 (ok6 (by omega)) rfl rfl rfl (Nat.le_of_ble_eq_true rfl) rfl (by decide) (by decide) ⟨by omega, by omega⟩ ?_
          refine z_iload_1 (pc := 73) E dX8_most_73 ?_
          refine z_icmp_ne (pc := 74) (tgt := 125) E dX8_most_74 (by decide) (fun h74 => ?_) (fun h74 => ?_)
          · refine z_iinc_7 (pc := 125) E dX8_most_125 (nI_1 t) rfl ?_
            refine z_goto (pc := 128) (tgt := 40) E dX8_most_128 (by decide) ?_
            first | exact ih (t + 1) _ (by omega) hb (hE.trans (mnext_n (fun z => absurd ((msk_b hN (by omega)).mp (cmp_e.mp h60)) (by rw [z.1.1]; decide)))) | exact ih (t + 1) _ (by omega) hb (hE.trans (mnext_n (fun z => h74 z.1.2.1))) | exact ih (t + 1) _ (by omega) hb (hE.trans (mnext_n (fun z => h88 z.1.2.2))) | exact ih (t + 1) (some q) (by omega) hb (hE.trans (mnext_n (fun z => z.2.elim (fun e => by cases e) (fun y => absurd h118 (Int32.not_le.mpr y))))) | exact ih (t + 1) (some t) (by omega) (fun q2 e => by cases e; exact ⟨by omega, (Bool.eq_false_iff.mpr (fun z => h60 (cmp_e.mpr ((msk_b hN (by omega)).mpr z))))⟩) (hE.trans (mnext_y ⟨(Bool.eq_false_iff.mpr (fun z => h60 (cmp_e.mpr ((msk_b hN (by omega)).mpr z)))), h74, h88⟩ (Or.inl (oI_none (fun q e => by have := (hb q e).1; omega) h97)))) | exact ih (t + 1) (some t) (by omega) (fun q2 e => by cases e; exact ⟨by omega, (Bool.eq_false_iff.mpr (fun z => h60 (cmp_e.mpr ((msk_b hN (by omega)).mpr z))))⟩) (hE.trans (mnext_y ⟨(Bool.eq_false_iff.mpr (fun z => h60 (cmp_e.mpr ((msk_b hN (by omega)).mpr z)))), h74, h88⟩ (Or.inr (Int32.not_le.mp h118))))
          · refine z_aload_0 (pc := 77) E dX8_most_77 ?_
            refine z_get (pc := 78) E dX8_most_78 fiX8_21 ok11 rfl rfl ?_
            refine z_iload_7 (pc := 81) E dX8_most_81 ?_
            refine z_bipush (v := 6) (pc := 83) E dX8_most_83 (by decide) ?_
            refine z_ivp (pc := 85) E (m_X7_get _ 0 t 6 (by decide) (by omega) (by decide)) rfl rfl kX7_get mlX8_56 dX8_most_85 (ok6 (by omega)) rfl rfl rfl (Nat.le_of_ble_eq_true rfl) rfl (by decide) (by decide) ⟨by omega, by omega⟩ ?_
            refine z_if_eq (pc := 88) (tgt := 94) E dX8_most_88 (by decide) (fun h88 => ?_) (fun h88 => ?_)
            · refine z_iload_6 (pc := 94) E dX8_most_94 ?_
              refine z_iconst (v := -1) (pc := 96) E dX8_most_96 (by decide) ?_
              refine z_icmp_eq (pc := 97) (tgt := 121) E dX8_most_97 (by decide) (fun h97 => ?_) (fun h97 => ?_)
              · refine z_iload_7 (pc := 121) E dX8_most_121 ?_
                refine z_istore_6 (pc := 123) E dX8_most_123 rfl ?_
                refine z_iinc_7 (pc := 125) E dX8_most_125 (nI_1 t) rfl ?_
                refine z_goto (pc := 128) (tgt := 40) E dX8_most_128 (by decide) ?_
                first | exact ih (t + 1) _ (by omega) hb (hE.trans (mnext_n (fun z => absurd ((msk_b hN (by omega)).mp (cmp_e.mp h60)) (by rw [z.1.1]; decide)))) | exact ih (t + 1) _ (by omega) hb (hE.trans (mnext_n (fun z => h74 z.1.2.1))) | exact ih (t + 1) _ (by omega) hb (hE.trans (mnext_n (fun z => h88 z.1.2.2))) | exact ih (t + 1) (some q) (by omega) hb (hE.trans (mnext_n (fun z => z.2.elim (fun e => by cases e) (fun y => absurd h118 (Int32.not_le.mpr y))))) | exact ih (t + 1) (some t) (by omega) (fun q2 e => by cases e; exact ⟨by omega, (Bool.eq_false_iff.mpr (fun z => h60 (cmp_e.mpr ((msk_b hN (by omega)).mpr z))))⟩) (hE.trans (mnext_y ⟨(Bool.eq_false_iff.mpr (fun z => h60 (cmp_e.mpr ((msk_b hN (by omega)).mpr z)))), h74, h88⟩ (Or.inl (oI_none (fun q e => by have := (hb q e).1; omega) h97)))) | exact ih (t + 1) (some t) (by omega) (fun q2 e => by cases e; exact ⟨by omega, (Bool.eq_false_iff.mpr (fun z => h60 (cmp_e.mpr ((msk_b hN (by omega)).mpr z))))⟩) (hE.trans (mnext_y ⟨(Bool.eq_false_iff.mpr (fun z => h60 (cmp_e.mpr ((msk_b hN (by omega)).mpr z)))), h74, h88⟩ (Or.inr (Int32.not_le.mp h118))))
              · obtain ⟨q, rfl⟩ := oI_some h97
                have hq := hb q rfl
                refine z_aload_0 (pc := 100) E dX8_most_100 ?_
                refine z_get (pc := 101) E dX8_most_101 fiX8_21 ok11 rfl rfl ?_
                refine z_iload_7 (pc := 104) E dX8_most_104 ?_
                refine z_ivp (pc := 106) E (m_X7_owed _ 0 t (by decide) (by omega)) rfl rfl kX7_owed mlX8_60 dX8_most_106 (ok6 (by omega)) rfl rfl rfl (Nat.le_of_ble_eq_true rfl) rfl (by decide) (by decide) ⟨by omega, by omega⟩ ?_
                refine z_aload_0 (pc := 109) E dX8_most_109 ?_
                refine z_get (pc := 110) E dX8_most_110 fiX8_21 ok11 rfl rfl ?_
                refine z_iload_6 (pc := 113) E dX8_most_113 ?_
                refine z_ivp (pc := 115) E (m_X7_owed _ 0 q (by decide) (by omega)) rfl rfl kX7_owed mlX8_60 dX8_most_115 (ok6 (by omega)) rfl rfl rfl (Nat.le_of_ble_eq_true rfl) rfl (by decide) (by decide) ⟨by omega, by omega⟩ ?_
                refine z_icmp_ge (pc := 118) (tgt := 125) E dX8_most_118 (by decide) (fun h118 => ?_) (fun h118 => ?_)
                · refine z_iinc_7 (pc := 125) E dX8_most_125 (nI_1 t) rfl ?_
                  refine z_goto (pc := 128) (tgt := 40) E dX8_most_128 (by decide) ?_
                  first | exact ih (t + 1) _ (by omega) hb (hE.trans (mnext_n (fun z => absurd ((msk_b hN (by omega)).mp (cmp_e.mp h60)) (by rw [z.1.1]; decide)))) | exact ih (t + 1) _ (by omega) hb (hE.trans (mnext_n (fun z => h74 z.1.2.1))) | exact ih (t + 1) _ (by omega) hb (hE.trans (mnext_n (fun z => h88 z.1.2.2))) | exact ih (t + 1) (some q) (by omega) hb (hE.trans (mnext_n (fun z => z.2.elim (fun e => by cases e) (fun y => absurd h118 (Int32.not_le.mpr y))))) | exact ih (t + 1) (some t) (by omega) (fun q2 e => by cases e; exact ⟨by omega, (Bool.eq_false_iff.mpr (fun z => h60 (cmp_e.mpr ((msk_b hN (by omega)).mpr z))))⟩) (hE.trans (mnext_y ⟨(Bool.eq_false_iff.mpr (fun z => h60 (cmp_e.mpr ((msk_b hN (by omega)).mpr z)))), h74, h88⟩ (Or.inl (oI_none (fun q e => by have := (hb q e).1; omega) h97)))) | exact ih (t + 1) (some t) (by omega) (fun q2 e => by cases e; exact ⟨by omega, (Bool.eq_false_iff.mpr (fun z => h60 (cmp_e.mpr ((msk_b hN (by omega)).mpr z))))⟩) (hE.trans (mnext_y ⟨(Bool.eq_false_iff.mpr (fun z => h60 (cmp_e.mpr ((msk_b hN (by omega)).mpr z)))), h74, h88⟩ (Or.inr (Int32.not_le.mp h118))))
                · refine z_iload_7 (pc := 121) E dX8_most_121 ?_
                  refine z_istore_6 (pc := 123) E dX8_most_123 rfl ?_
                  refine z_iinc_7 (pc := 125) E dX8_most_125 (nI_1 t) rfl ?_
                  refine z_goto (pc := 128) (tgt := 40) E dX8_most_128 (by decide) ?_
                  first | exact ih (t + 1) _ (by omega) hb (hE.trans (mnext_n (fun z => absurd ((msk_b hN (by omega)).mp (cmp_e.mp h60)) (by rw [z.1.1]; decide)))) | exact ih (t + 1) _ (by omega) hb (hE.trans (mnext_n (fun z => h74 z.1.2.1))) | exact ih (t + 1) _ (by omega) hb (hE.trans (mnext_n (fun z => h88 z.1.2.2))) | exact ih (t + 1) (some q) (by omega) hb (hE.trans (mnext_n (fun z => z.2.elim (fun e => by cases e) (fun y => absurd h118 (Int32.not_le.mpr y))))) | exact ih (t + 1) (some t) (by omega) (fun q2 e => by cases e; exact ⟨by omega, (Bool.eq_false_iff.mpr (fun z => h60 (cmp_e.mpr ((msk_b hN (by omega)).mpr z))))⟩) (hE.trans (mnext_y ⟨(Bool.eq_false_iff.mpr (fun z => h60 (cmp_e.mpr ((msk_b hN (by omega)).mpr z)))), h74, h88⟩ (Or.inl (oI_none (fun q e => by have := (hb q e).1; omega) h97)))) | exact ih (t + 1) (some t) (by omega) (fun q2 e => by cases e; exact ⟨by omega, (Bool.eq_false_iff.mpr (fun z => h60 (cmp_e.mpr ((msk_b hN (by omega)).mpr z))))⟩) (hE.trans (mnext_y ⟨(Bool.eq_false_iff.mpr (fun z => h60 (cmp_e.mpr ((msk_b hN (by omega)).mpr z)))), h74, h88⟩ (Or.inr (Int32.not_le.mp h118))))
            · refine z_goto (pc := 91) (tgt := 125) E dX8_most_91 (by decide) ?_
              refine z_iinc_7 (pc := 125) E dX8_most_125 (nI_1 t) rfl ?_
              refine z_goto (pc := 128) (tgt := 40) E dX8_most_128 (by decide) ?_
              first | exact ih (t + 1) _ (by omega) hb (hE.trans (mnext_n (fun z => absurd ((msk_b hN (by omega)).mp (cmp_e.mp h60)) (by rw [z.1.1]; decide)))) | exact ih (t + 1) _ (by omega) hb (hE.trans (mnext_n (fun z => h74 z.1.2.1))) | exact ih (t + 1) _ (by omega) hb (hE.trans (mnext_n (fun z => h88 z.1.2.2))) | exact ih (t + 1) (some q) (by omega) hb (hE.trans (mnext_n (fun z => z.2.elim (fun e => by cases e) (fun y => absurd h118 (Int32.not_le.mpr y))))) | exact ih (t + 1) (some t) (by omega) (fun q2 e => by cases e; exact ⟨by omega, (Bool.eq_false_iff.mpr (fun z => h60 (cmp_e.mpr ((msk_b hN (by omega)).mpr z))))⟩) (hE.trans (mnext_y ⟨(Bool.eq_false_iff.mpr (fun z => h60 (cmp_e.mpr ((msk_b hN (by omega)).mpr z)))), h74, h88⟩ (Or.inl (oI_none (fun q e => by have := (hb q e).1; omega) h97)))) | exact ih (t + 1) (some t) (by omega) (fun q2 e => by cases e; exact ⟨by omega, (Bool.eq_false_iff.mpr (fun z => h60 (cmp_e.mpr ((msk_b hN (by omega)).mpr z))))⟩) (hE.trans (mnext_y ⟨(Bool.eq_false_iff.mpr (fun z => h60 (cmp_e.mpr ((msk_b hN (by omega)).mpr z)))), h74, h88⟩ (Or.inr (Int32.not_le.mp h118))))
    refine z_iconst (v := -1) (pc := 34) E dX8_most_34 (by decide) ?_
    refine z_istore_6 (pc := 35) E dX8_most_35 rfl ?_
    refine z_iconst (v := 0) (pc := 37) E dX8_most_37 (by decide) ?_
    refine z_istore_7 (pc := 38) E dX8_most_38 rfl ?_
    exact L n 0 none (by omega) (fun q e => by cases e) rfl

theorem owedV_t (M : Mem) (t : Nat) : owedV (mset M 11 0 0 0 0) 0 t = owedV M 0 t := rfl
theorem mnextF_t (M : Mem) (i N : Nat) : ∀ k t b, mnextF (mset M 11 0 0 0 0) i N k t b = mnextF M i N k t b
  | 0, _, _ => rfl
  | k + 1, t, b => by
    show (if (N.testBit t = false ∧ oc M 0 t 0 = nI i ∧ oc M 0 t 6 = 0) ∧ (b = none ∨ owedV M 0 t < owedV M 0 (b.getD 0)) then mnextF (mset M 11 0 0 0 0) i N k (t + 1) (some t) else mnextF (mset M 11 0 0 0 0) i N k (t + 1) b) = _
    rw [mnextF_t M i N k, mnextF_t M i N k]
    rfl
theorem mmosF_t (M : Mem) (i n : Nat) : ∀ f N l m, mmosF (mset M 11 0 0 0 0) i n f N l m = mmosF M i n f N l m
  | 0, _, _, _ => rfl
  | f + 1, N, l, m => by
    show (match mnextF (mset M 11 0 0 0 0) i N n 0 none with | none => m | some q => if l < owedV (mset M 11 0 0 0 0) 0 q then m else mmosF (mset M 11 0 0 0 0) i n f (N ||| 2 ^ q) (l - owedV (mset M 11 0 0 0 0) 0 q) (m + 1)) = (match mnextF M i N n 0 none with | none => m | some q => if l < owedV M 0 q then m else mmosF M i n f (N ||| 2 ^ q) (l - owedV M 0 q) (m + 1))
    rw [mnextF_t]
    cases mnextF M i N n 0 none with
    | none => rfl
    | some q =>
      dsimp only
      rw [mmosF_t M i n f, owedV_t]

def mmostK (M : Mem) (c : Int32) : Nat := if 0 ≤ c ∧ c ≤ M 11 0 0 1 - 1 then 0 else 1

set_option maxRecDepth 100000 in
set_option maxHeartbeats 4000000 in
theorem m_X8_most (M : Mem) (n cN : Nat) (c : Int32) (hn : M 6 0 0 2 = nI n) (h40 : n ≤ 40) (hc : M 11 0 0 1 = nI cN) (h10 : cN ≤ 10) : CI yX8_most cX8_most 8 (some .int) 3 0 0 (fun G => [.ref (ad G 11 0 0), .int c]) M (fun r M' => (mmostK M c = 0 ∧ ∃ i, i < cN ∧ c = nI i ∧ r = mmosF M i n (n + 1) 0 (M 7 0 0 i) 0 ∧ M' = (mset M 11 0 0 0 0)) ∨ (¬ mmostK M c = 0 ∧ M' = mset M 11 0 0 0 (nI (mmostK M c)))) := by
  refine CI.mk (own := RX8) (by decide +kernel) rfl (fun _ => rfl) (fun _ => Nat.le_of_ble_eq_true rfl) (lv0 := fun G => [some (.ref (ad G 11 0 0)), some (.int c), none, none, none, none, none, none]) (fun _ => rfl) (fun X G E => ?_)
  refine z_aload_0 (pc := 0) E dX8_most_0 ?_
  refine z_iconst (v := 0) (pc := 1) E dX8_most_1 (by decide) ?_
  refine z_put (pc := 2) E dX8_most_2 fiX8_28 fpX8_0 ok11 rfl rfl (Nat.le_of_ble_eq_true rfl) ?_
  refine z_aload_0 (pc := 5) E dX8_most_5 ?_
  refine z_iload_1 (pc := 6) E dX8_most_6 ?_
  refine z_ivp (pc := 7) E (m_X8_isCustomer _ _) rfl rfl kX8_isCustomer mlX8_52 dX8_most_7 ok11 rfl rfl rfl (Nat.le_of_ble_eq_true rfl) rfl (by decide) (by decide) ⟨by omega, by omega⟩ ?_
  refine z_if_ne (pc := 10) (tgt := 19) E dX8_most_10 (by decide) (fun h10 => ?_) (fun h10 => ?_)
  · have g10 : 0 ≤ c ∧ c ≤ M 11 0 0 1 - 1 := b2_n0 h10
    obtain ⟨i, hi, rfl⟩ := ix_of (hc_rw hc g10) (by omega)
    refine z_aload_0 (pc := 19) E dX8_most_19 ?_
    refine z_get (pc := 20) E dX8_most_20 fiX8_21 ok11 rfl rfl ?_
    refine z_getN (pc := 23) E dX8_most_23 fiX8_46 (ok6 (by omega)) rfl rfl ?_
    refine z_iload_1 (pc := 26) E dX8_most_26 ?_
    refine z_iald (pc := 27) E dX8_most_27 (ok7 (by omega)) rfl rfl (by omega) (by omega) ?_
    refine z_istore_2 (pc := 28) E dX8_most_28 rfl ?_
    refine z_lconst (v := 0) (pc := 29) E dX8_most_29 rfl ?_
    refine z_lstore_3 (pc := 30) E dX8_most_30 rfl ?_
    refine z_iconst (v := 0) (pc := 31) E dX8_most_31 (by decide) ?_
    refine z_istore_5 (pc := 32) E dX8_most_32 rfl ?_
    exact mmos_loop (M := (mset M 11 0 0 0 0)) E hn h40 (by omega) n 0 _ _ _ _ (by decide) (freeN_le 0 n) (Or.inl ⟨by unfold mmostK; rw [if_pos g10], i, hi, rfl, mmosF_t _ _ _ _ _ _ _, rfl⟩)
  · have g10 : ¬ (0 ≤ c ∧ c ≤ M 11 0 0 1 - 1) := b2_e0 h10
    refine z_aload_0 (pc := 13) E dX8_most_13 ?_
    refine z_iconst (v := 1) (pc := 14) E dX8_most_14 (by decide) ?_
    refine z_ivf (pc := 15) E (m_X8_no _ _) rfl rfl kX8_no mlX8_42 dX8_most_15 ok11 rfl rfl rfl (Nat.le_of_ble_eq_true rfl) rfl (by decide) (by decide) ⟨by omega, by omega⟩ ?_
    exact z_iret (pc := 18) E dX8_most_18 (Or.inr (mfail (e := 1) (by unfold mmostK; rw [if_neg g10]) (by decide) rfl))

