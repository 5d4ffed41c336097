/-! sorting a row, and what is asked of it -/
def shiftF : Nat → (Nat → Int32) → Int32 → Nat → Int32
  | 0, f, x => upd f 0 x
  | t + 1, f, x => if f t ≤ x then upd f (t + 1) x else shiftF t (upd f (t + 1) (f t)) x
def srtF (f : Nat → Int32) : Nat → Nat → Int32
  | 0 => f
  | k + 1 => shiftF (k + 1) (srtF f k) (srtF f k (k + 1))
/-- coins x of T prices, the dearest first: k are left, s the sum so far -/
def raiF (f : Nat → Int32) (x : Int32) (T : Nat) : Nat → Int32 → Int32
  | 0, _ => -1
  | k + 1, s => if s + f k < x then raiF f x T k (s + f k) else nI T - nI k
def mosF (f : Nat → Int32) : Nat → Nat → Int32 → Int32
  | 0, p, _ => nI p
  | k + 1, p, l => if l < f p then nI p else mosF f k (p + 1) (l - f p)
theorem nI_s1 (t : Nat) : nI (t + 1) - 1 = nI t := pk_sub (a := t + 1) (b := 1) (by omega)
theorem nI_a1 (t : Nat) : nI t + Int32.ofInt (-1) = nI t - 1 := (Int32.sub_eq_add_neg (nI t) 1).symm
theorem nI_b1 (t : Nat) : nI (t + 1) + Int32.ofInt (-1) = nI t := (nI_a1 (t + 1)).trans (nI_s1 t)
/-- a fold of a checksum -/
def dg (d : Int64) (x : Int32) : Int64 := d * 31 + x.toInt64
def dgN (f : Nat → Int32) : Nat → Int64 → Int64
  | 0, d => d
  | k + 1, d => dg (dgN f k d) (f k)
def dgB (M : Mem) (s : Nat) : Nat → Int64 → Int64
  | 0, d => d
  | k + 1, d => dg (dg (dgB M s k d) (M 3 s k 0)) (M 3 s k 1)
def dgC (M : Mem) (s n : Nat) : Nat → Int64 → Int64
  | 0, d => d
  | k + 1, d => dgN (custV M s n k) 5 (dgC M s n k d)
def dgT (M : Mem) (s : Nat) : Nat → Int64 → Int64
  | 0, d => d
  | k + 1, d => dg (dgN (tickV M s k) 11 (dgT M s k d)) (debtV M s k (M 0 s 0 0))
def dgA (M : Mem) (n cN : Nat) : Int64 := dgT M 0 n (dgC M 0 n cN (dgB M 0 7 (dgN (cntV M 0 n) 11 719)))
/-- the states of n tickets, counted -/
theorem st3 (M : Mem) (s : Nat) : ∀ n, ∃ a b c e : Nat, a + b + c + e ≤ n ∧ stN M s n 1 = nI a ∧ stN M s n 2 = nI b ∧ stN M s n 3 = nI c ∧ stN M s n 0 = nI e ∧ ((∀ t, t < n → M 2 s t 7 = 0 ∨ M 2 s t 7 = 1 ∨ M 2 s t 7 = 2 ∨ M 2 s t 7 = 3) → a + b + c + e = n)
  | 0 => ⟨0, 0, 0, 0, Nat.le_refl 0, rfl, rfl, rfl, rfl, fun _ => rfl⟩
  | n + 1 => by
    obtain ⟨a, b, c, e, h, h1, h2, h3, h0, hx⟩ := st3 M s n
    have e_ : ∀ x, stN M s (n + 1) x = stN M s n x + b2 (M 2 s n 7 = x) := fun x => rfl
    by_cases g1 : M 2 s n 7 = 1
    · refine ⟨a + 1, b, c, e, by omega, ?_, ?_, ?_, ?_, fun z => by have := hx (fun t ht => z t (by omega)); omega⟩
      · rw [e_, h1, b2_t g1]; exact nI_1 a
      · rw [e_, h2, b2_f (by rw [g1]; decide)]; exact Int32.add_zero _
      · rw [e_, h3, b2_f (by rw [g1]; decide)]; exact Int32.add_zero _
      · rw [e_, h0, b2_f (by rw [g1]; decide)]; exact Int32.add_zero _
    · by_cases g2 : M 2 s n 7 = 2
      · refine ⟨a, b + 1, c, e, by omega, ?_, ?_, ?_, ?_, fun z => by have := hx (fun t ht => z t (by omega)); omega⟩
        · rw [e_, h1, b2_f g1]; exact Int32.add_zero _
        · rw [e_, h2, b2_t g2]; exact nI_1 b
        · rw [e_, h3, b2_f (by rw [g2]; decide)]; exact Int32.add_zero _
        · rw [e_, h0, b2_f (by rw [g2]; decide)]; exact Int32.add_zero _
      · by_cases g3 : M 2 s n 7 = 3
        · refine ⟨a, b, c + 1, e, by omega, ?_, ?_, ?_, ?_, fun z => by have := hx (fun t ht => z t (by omega)); omega⟩
          · rw [e_, h1, b2_f g1]; exact Int32.add_zero _
          · rw [e_, h2, b2_f g2]; exact Int32.add_zero _
          · rw [e_, h3, b2_t g3]; exact nI_1 c
          · rw [e_, h0, b2_f (by rw [g3]; decide)]; exact Int32.add_zero _
        · by_cases g0 : M 2 s n 7 = 0
          · refine ⟨a, b, c, e + 1, by omega, ?_, ?_, ?_, ?_, fun z => by have := hx (fun t ht => z t (by omega)); omega⟩
            · rw [e_, h1, b2_f g1]; exact Int32.add_zero _
            · rw [e_, h2, b2_f g2]; exact Int32.add_zero _
            · rw [e_, h3, b2_f g3]; exact Int32.add_zero _
            · rw [e_, h0, b2_t g0]; exact nI_1 e
          · refine ⟨a, b, c, e, by omega, ?_, ?_, ?_, ?_, fun z => ?_⟩
            · rw [e_, h1, b2_f g1]; exact Int32.add_zero _
            · rw [e_, h2, b2_f g2]; exact Int32.add_zero _
            · rw [e_, h3, b2_f g3]; exact Int32.add_zero _
            · rw [e_, h0, b2_f g0]; exact Int32.add_zero _
            · rcases z n (by omega) with q | q | q | q
              · exact absurd q g0
              · exact absurd q g1
              · exact absurd q g2
              · exact absurd q g3
set_option maxRecDepth 100000 in
theorem dv_nn : ∀ a, a < 41 → ∀ b, b < 41 → 1 ≤ b → FP.ddiv (FP.i2d (nI a)) (FP.i2d (nI b)) &&& 0x7fffffffffffffff ≤ 0x7ff0000000000000 := by decide +kernel
section ZD
variable {X : PX} {G : GT} {T : Nat × Nat} {cc : ByteArray} {nL : Nat} {own : String} {rt : Option FieldType} {d mc ms : Nat} {Q : State → Prop} {pc : Nat} {lv r : List (Option Value)} {st : List Value} {M : Mem} {cells slots : Nat}
theorem z_dconst (E : EF X G cc nL own rt d mc ms) (hd : decode cc pc = .ok (.dconst 0, 1)) (k : Z X G T Q (pc + 1) lv (.double 0 :: st) M cells slots) : Z X G T Q pc lv st M cells slots := fun ls H locs hl hP hT hS => lv_dconst0 E.ex E.cb hd (k ls H locs hl hP hT hS)
end ZD

set_option maxRecDepth 100000 in
set_option maxHeartbeats 4000000 in
theorem m_X6_sortUp (M : Mem) (n : Nat) (h40 : n ≤ 40) : CV yX6_sortUp cX6_sortUp 5 none 0 0 0 (fun G => [.ref (ad G 5 0 0), .int (nI n)]) M (fun M' => M' = rset M 5 0 0 (srtF (M 5 0 0) (n - 1))) := by
  refine CV.mk (own := RX6) (by decide +kernel) rfl (fun _ => rfl) (fun _ => Nat.le_of_ble_eq_true rfl) (lv0 := fun G => [some (.ref (ad G 5 0 0)), some (.int (nI n)), none, none, none]) (fun _ => rfl) (fun X G E => ?_)
  have L : ∀ (k j : Nat) (v3 v4 : Option Value), j ≤ n - 1 → n - 1 - j = k → Z X G (0, 0) (QV X G (fun M' => M' = rset M 5 0 0 (srtF (M 5 0 0) (n - 1))) 0 0) 2 [some (.ref (ad G 5 0 0)), some (.int (nI n)), some (.int (nI (j + 1))), v3, v4] [] (rset M 5 0 0 (srtF (M 5 0 0) j)) 0 0 := by
    intro k
    induction k with
    | zero =>
      intro j v3 v4 hj hk
      obtain rfl : j = n - 1 := by omega
      refine z_iload_2 (pc := 2) E dX6_sortUp_2 ?_
      refine z_iload_1 (pc := 3) E dX6_sortUp_3 ?_
      refine z_icmp_ge (pc := 4) (tgt := 56) E dX6_sortUp_4 (by decide) (fun h4 => ?_) (fun h4 => absurd h4 (fun z => z (nI_le (by omega) (n31 (by omega)))))
      exact z_vret (pc := 56) E dX6_sortUp_56 rfl
    | succ k ih =>
      intro j v3 v4 hj hk
      have L2 : ∀ (t : Nat) (g : Nat → Int32) (x : Int32), t ≤ j + 1 → shiftF t g x = srtF (M 5 0 0) (j + 1) → Z X G (0, 0) (QV X G (fun M' => M' = rset M 5 0 0 (srtF (M 5 0 0) (n - 1))) 0 0) 14 [some (.ref (ad G 5 0 0)), some (.int (nI n)), some (.int (nI (j + 1))), some (.int x), some (.int (nI t))] [] (rset M 5 0 0 g) 0 0 := by
        intro t
        induction t with
        | zero =>
          intro g x ht hE
          refine z_iload_4 (pc := 14) E dX6_sortUp_14 ?_
          refine z_if_le (pc := 16) (tgt := 45) E dX6_sortUp_16 (by decide) (fun h16 => ?_) (fun h16 => absurd h16 (fun z => z (by decide)))
          refine z_aload_0 (pc := 45) E dX6_sortUp_45 ?_
          refine z_iload_4 (pc := 46) E dX6_sortUp_46 ?_
          refine z_iload_3 (pc := 48) E dX6_sortUp_48 ?_
          refine z_iast (pc := 49) E dX6_sortUp_49 ok5 (fun _ => rfl) rfl (by omega) (by omega) ?_
          refine z_iinc_2 (pc := 50) E dX6_sortUp_50 (nI_1 (j + 1)) rfl ?_
          refine z_goto (pc := 53) (tgt := 2) E dX6_sortUp_53 (by decide) ?_
          exact z_mem (by rw [mset_rset]; exact congrArg (rset M 5 0 0) (hE.symm)) (ih (j + 1) _ _ (by omega) (by omega))
        | succ t ih2 =>
          intro g x ht hE
          refine z_iload_4 (pc := 14) E dX6_sortUp_14 ?_
          refine z_if_le (pc := 16) (tgt := 45) E dX6_sortUp_16 (by decide) (fun h16 => absurd h16 (nI_ge (a := 0) (by omega) (n31 (by omega)))) (fun h16 => ?_)
          refine z_aload_0 (pc := 19) E dX6_sortUp_19 ?_
          refine z_iload_4 (pc := 20) E dX6_sortUp_20 ?_
          refine z_iconst (v := 1) (pc := 22) E dX6_sortUp_22 (by decide) ?_
          refine z_isub (pc := 23) E dX6_sortUp_23 ?_
          refine z_iald (pc := 24) E dX6_sortUp_24 ok5 rfl (nI_s1 t) (by omega) (by omega) ?_
          refine z_iload_3 (pc := 25) E dX6_sortUp_25 ?_
          refine z_icmp_le (pc := 26) (tgt := 45) E dX6_sortUp_26 (by decide) (fun h26 => ?_) (fun h26 => ?_)
          · refine z_aload_0 (pc := 45) E dX6_sortUp_45 ?_
            refine z_iload_4 (pc := 46) E dX6_sortUp_46 ?_
            refine z_iload_3 (pc := 48) E dX6_sortUp_48 ?_
            refine z_iast (pc := 49) E dX6_sortUp_49 ok5 (fun _ => rfl) rfl (by omega) (by omega) ?_
            refine z_iinc_2 (pc := 50) E dX6_sortUp_50 (nI_1 (j + 1)) rfl ?_
            refine z_goto (pc := 53) (tgt := 2) E dX6_sortUp_53 (by decide) ?_
            exact z_mem (by rw [mset_rset]; exact congrArg (rset M 5 0 0) ((by rw [← hE]; exact if_pos (show g t ≤ x from h26)))) (ih (j + 1) _ _ (by omega) (by omega))
          · refine z_aload_0 (pc := 29) E dX6_sortUp_29 ?_
            refine z_iload_4 (pc := 30) E dX6_sortUp_30 ?_
            refine z_aload_0 (pc := 32) E dX6_sortUp_32 ?_
            refine z_iload_4 (pc := 33) E dX6_sortUp_33 ?_
            refine z_iconst (v := 1) (pc := 35) E dX6_sortUp_35 (by decide) ?_
            refine z_isub (pc := 36) E dX6_sortUp_36 ?_
            refine z_iald (pc := 37) E dX6_sortUp_37 ok5 rfl (nI_s1 t) (by omega) (by omega) ?_
            refine z_iast (pc := 38) E dX6_sortUp_38 ok5 (fun _ => rfl) rfl (by omega) (by omega) ?_
            refine z_iinc_4 (pc := 39) E dX6_sortUp_39 (nI_b1 t) rfl ?_
            refine z_goto (pc := 42) (tgt := 14) E dX6_sortUp_42 (by decide) ?_
            exact z_mem (by rw [mset_rset]; rfl) (ih2 (upd g (t + 1) (g t)) x (by omega) (by rw [← hE]; exact (if_neg (show ¬ g t ≤ x from h26)).symm))
      refine z_iload_2 (pc := 2) E dX6_sortUp_2 ?_
      refine z_iload_1 (pc := 3) E dX6_sortUp_3 ?_
      refine z_icmp_ge (pc := 4) (tgt := 56) E dX6_sortUp_4 (by decide) (fun h4 => absurd h4 (nI_ge (by omega) (n31 (by omega)))) (fun h4 => ?_)
      refine z_aload_0 (pc := 7) E dX6_sortUp_7 ?_
      refine z_iload_2 (pc := 8) E dX6_sortUp_8 ?_
      refine z_iald (pc := 9) E dX6_sortUp_9 ok5 rfl rfl (by omega) (by omega) ?_
      refine z_istore_3 (pc := 10) E dX6_sortUp_10 rfl ?_
      refine z_iload_2 (pc := 11) E dX6_sortUp_11 ?_
      refine z_istore_4 (pc := 12) E dX6_sortUp_12 rfl ?_
      exact L2 (j + 1) _ _ (by omega) rfl
  refine z_iconst (v := 1) (pc := 0) E dX6_sortUp_0 (by decide) ?_
  refine z_istore_2 (pc := 1) E dX6_sortUp_1 rfl ?_
  exact z_mem (rset_self _ _ _ _) (L (n - 1 - 0) 0 _ _ (by omega) rfl)

def raiseK (x : Int32) : Nat := if ¬ (x < 1) then 0 else 1

def raiQ (M : Mem) (f : Nat → Int32) (x : Int32) (T : Nat) : Int32 → Mem → Prop := fun r M' => raiseK x = 0 ∧ r = raiF f x T T 0 ∧ M' = rset M 5 0 0 f
set_option maxRecDepth 100000 in
set_option maxHeartbeats 4000000 in
theorem rai_loop {X : PX} {G : GT} {M : Mem} {f : Nat → Int32} {x : Int32} {T : Nat} {xp : String → Mem → Prop} (E : EF X G cX6_raise 5 RX6 (some .int) 7 1 6) (hK : raiseK x = 0) (hT : T ≤ 40) : ∀ (k : Nat) (s : Int32), k ≤ T → raiF f x T T 0 = raiF f x T k s → Z X G (0, 0) (QXI X G (raiQ M f x T) xp 1 6) 40 [some (.ref (ad G 14 0 0)), some (.int x), some (.int (nI T)), some (.int s), some (.int (nI k - 1))] [] (rset M 5 0 0 f) (0 + 1) (0 + 6) := by
  intro k
  induction k with
  | zero =>
    intro s hk hE
    refine z_iload_4 (pc := 40) E dX6_raise_40 ?_
    refine z_if_lt (pc := 42) (tgt := 71) E dX6_raise_42 (by decide) (fun h42 => ?_) (fun h42 => absurd h42 (fun z => z (by decide)))
    refine z_iconst (v := -1) (pc := 71) E dX6_raise_71 (by decide) ?_
    exact z_xiret (pc := 72) E dX6_raise_72 (by omega) (by omega) ⟨hK, by rw [hE]; rfl, rfl⟩
  | succ k ih =>
    intro s hk hE
    rw [nI_s1 k]
    refine z_iload_4 (pc := 40) E dX6_raise_40 ?_
    refine z_if_lt (pc := 42) (tgt := 71) E dX6_raise_42 (by decide) (fun h42 => absurd h42 (nI_pos (n31 (by omega)))) (fun h42 => ?_)
    refine z_iload_3 (pc := 45) E dX6_raise_45 ?_
    refine z_aload_0 (pc := 46) E dX6_raise_46 ?_
    refine z_get (pc := 47) E dX6_raise_47 fiX6_19 ok14 rfl rfl ?_
    refine z_iload_4 (pc := 50) E dX6_raise_50 ?_
    refine z_iald (pc := 52) E dX6_raise_52 ok5 rfl rfl (by omega) (by omega) ?_
    refine z_iadd (pc := 53) E dX6_raise_53 ?_
    refine z_istore_3 (pc := 54) E dX6_raise_54 rfl ?_
    refine z_iload_3 (pc := 55) E dX6_raise_55 ?_
    refine z_iload_1 (pc := 56) E dX6_raise_56 ?_
    refine z_icmp_lt (pc := 57) (tgt := 65) E dX6_raise_57 (by decide) (fun h57 => ?_) (fun h57 => ?_)
    · refine z_iinc_4 (pc := 65) E dX6_raise_65 (nI_a1 k) rfl ?_
      refine z_goto (pc := 68) (tgt := 40) E dX6_raise_68 (by decide) ?_
      exact ih _ (by omega) (by rw [hE]; exact if_pos h57)
    · refine z_iload_2 (pc := 60) E dX6_raise_60 ?_
      refine z_iload_4 (pc := 61) E dX6_raise_61 ?_
      refine z_isub (pc := 63) E dX6_raise_63 ?_
      exact z_xiret (pc := 64) E dX6_raise_64 (by omega) (by omega) ⟨hK, by rw [hE]; exact (if_neg h57).symm, rfl⟩

set_option maxRecDepth 100000 in
set_option maxHeartbeats 4000000 in
theorem m_X6_raise (M : Mem) (n : Nat) (x : Int32) (hn : M 0 0 0 4 = nI n) (h40 : n ≤ 40) : XI yX6_raise cX6_raise 5 (some .int) 7 1 6 (fun G => [.ref (ad G 14 0 0), .int x]) M (fun r M' => raiseK x = 0 ∧ r = raiF (srtF (putP (fun t => decide (M 2 0 t 7 = 2)) (fun t => M 2 0 t 8) (M 5 0 0) n).2 ((putP (fun t => decide (M 2 0 t 7 = 2)) (fun t => M 2 0 t 8) (M 5 0 0) n).1 - 1)) x (putP (fun t => decide (M 2 0 t 7 = 2)) (fun t => M 2 0 t 8) (M 5 0 0) n).1 (putP (fun t => decide (M 2 0 t 7 = 2)) (fun t => M 2 0 t 8) (M 5 0 0) n).1 0 ∧ M' = rset M 5 0 0 (srtF (putP (fun t => decide (M 2 0 t 7 = 2)) (fun t => M 2 0 t 8) (M 5 0 0) n).2 ((putP (fun t => decide (M 2 0 t 7 = 2)) (fun t => M 2 0 t 8) (M 5 0 0) n).1 - 1))) (fun Ex M' => M' = M ∧ ((Ex = IAE ∧ raiseK x = 1))) := by
  refine XI.mk (own := RX6) (by decide +kernel) rfl (fun _ => rfl) (fun _ => Nat.le_of_ble_eq_true rfl) (lv0 := fun G => [some (.ref (ad G 14 0 0)), some (.int x), none, none, none]) (fun _ => rfl) (fun X G E hX => ?_)
  refine z_iload_1 (pc := 0) E dX6_raise_0 ?_
  refine z_iconst (v := 1) (pc := 1) E dX6_raise_1 (by decide) ?_
  refine z_icmp_lt (pc := 2) (tgt := 9) E dX6_raise_2 (by decide) (fun h2 => ?_) (fun h2 => ?_)
  · refine z_iconst (v := 0) (pc := 9) E dX6_raise_9 (by decide) ?_
    exact z_chkI (pc := 10) E hX (m_X6_checkArgument _ _) rfl rfl kX6_checkArgument mlX6_27 dX6_raise_10 rfl (by decide) rfl (Nat.le_of_ble_eq_true rfl) (by decide) ⟨by omega, by omega⟩ (fun Ex M9 hx => ⟨hx.2.2, ⟨hx.1, by unfold raiseK; rw [if_neg (not_not_intro h2)]⟩⟩) (fun hq => absurd rfl hq)
  · refine z_iconst (v := 1) (pc := 5) E dX6_raise_5 (by decide) ?_
    refine z_goto (pc := 6) (tgt := 10) E dX6_raise_6 (by decide) ?_
    refine z_chkI (pc := 10) E hX (m_X6_checkArgument _ _) rfl rfl kX6_checkArgument mlX6_27 dX6_raise_10 rfl (by decide) rfl (Nat.le_of_ble_eq_true rfl) (by decide) ⟨by omega, by omega⟩ (fun Ex M9 hx => absurd hx.2.1 (by decide)) (fun _ => ?_)
    refine z_aload_0 (pc := 13) E dX6_raise_13 ?_
    refine z_get (pc := 14) E dX6_raise_14 fiX6_10 ok14 rfl rfl ?_
    refine z_aload_0 (pc := 17) E dX6_raise_17 ?_
    refine z_get (pc := 18) E dX6_raise_18 fiX6_19 ok14 rfl rfl ?_
    refine z_ivf (pc := 21) E (m_X4_putPrices _ _ n (by decide) hn h40) rfl rfl kX4_putPrices mlX6_169 dX6_raise_21 (ok0 (by omega)) rfl rfl rfl (Nat.le_of_ble_eq_true rfl) rfl (by decide) (by decide) ⟨by omega, by omega⟩ ?_
    refine z_istore_2 (pc := 24) E dX6_raise_24 rfl ?_
    refine z_aload_0 (pc := 25) E dX6_raise_25 ?_
    refine z_get (pc := 26) E dX6_raise_26 fiX6_19 ok14 rfl rfl ?_
    refine z_iload_2 (pc := 29) E dX6_raise_29 ?_
    refine z_vsf (pc := 30) E (m_X6_sortUp _ (putP (fun t => decide (M 2 0 t 7 = 2)) (fun t => M 2 0 t 8) (M 5 0 0) n).1 (Nat.le_trans (putP_le _ _ _ _) h40)) rfl rfl kX6_sortUp mlX6_173 dX6_raise_30 rfl (Nat.le_of_ble_eq_true rfl) rfl (by decide) (by decide) ⟨by omega, by omega⟩ ?_
    refine z_iconst (v := 0) (pc := 33) E dX6_raise_33 (by decide) ?_
    refine z_istore_3 (pc := 34) E dX6_raise_34 rfl ?_
    refine z_iload_2 (pc := 35) E dX6_raise_35 ?_
    refine z_iconst (v := 1) (pc := 36) E dX6_raise_36 (by decide) ?_
    refine z_isub (pc := 37) E dX6_raise_37 ?_
    refine z_istore_4 (pc := 38) E dX6_raise_38 rfl ?_
    have hK : raiseK x = 0 := by unfold raiseK; rw [if_pos h2]
    refine z_mem (M' := rset M 5 0 0 (srtF (putP (fun t => decide (M 2 0 t 7 = 2)) (fun t => M 2 0 t 8) (M 5 0 0) n).2 ((putP (fun t => decide (M 2 0 t 7 = 2)) (fun t => M 2 0 t 8) (M 5 0 0) n).1 - 1))) (rset_rset _ _ _ _ _ _).symm ?_
    exact rai_loop E hK (Nat.le_trans (putP_le _ _ _ _) h40) _ _ (Nat.le_refl _) rfl

def mostK (M : Mem) (c : Int32) : Nat := if 0 ≤ c ∧ c ≤ M 0 0 0 3 - 1 then 0 else 1

set_option maxRecDepth 100000 in
set_option maxHeartbeats 4000000 in
theorem mos_loop {X : PX} {G : GT} {M : Mem} {f : Nat → Int32} {c : Int32} {T : Nat} {post : Int32 → Mem → Prop} {xp : String → Mem → Prop} (E : EF X G cX6_most 5 RX6 (some .int) 7 1 6) (hT : T ≤ 40) : ∀ (k p : Nat) (l : Int32), p + k = T → post (mosF f k p l) (rset M 5 0 0 f) → Z X G (0, 0) (QXI X G post xp 1 6) 48 [some (.ref (ad G 14 0 0)), some (.int c), some (.int (nI T)), some (.int l), some (.int (nI p))] [] (rset M 5 0 0 f) (0 + 1) (0 + 6) := by
  intro k
  induction k with
  | zero =>
    intro p l hk hE
    obtain rfl : p = T := by omega
    refine z_iload_4 (pc := 48) E dX6_most_48 ?_
    refine z_iload_2 (pc := 50) E dX6_most_50 ?_
    refine z_icmp_ge (pc := 51) (tgt := 81) E dX6_most_51 (by decide) (fun h51 => ?_) (fun h51 => absurd h51 (fun z => z (nI_le (Nat.le_refl _) (n31 (by omega)))))
    refine z_iload_4 (pc := 81) E dX6_most_81 ?_
    exact z_xiret (pc := 83) E dX6_most_83 (by omega) (by omega) hE
  | succ k ih =>
    intro p l hk hE
    refine z_iload_4 (pc := 48) E dX6_most_48 ?_
    refine z_iload_2 (pc := 50) E dX6_most_50 ?_
    refine z_icmp_ge (pc := 51) (tgt := 81) E dX6_most_51 (by decide) (fun h51 => absurd h51 (nI_ge (by omega) (n31 (by omega)))) (fun h51 => ?_)
    refine z_aload_0 (pc := 54) E dX6_most_54 ?_
    refine z_get (pc := 55) E dX6_most_55 fiX6_19 ok14 rfl rfl ?_
    refine z_iload_4 (pc := 58) E dX6_most_58 ?_
    refine z_iald (pc := 60) E dX6_most_60 ok5 rfl rfl (by omega) (by omega) ?_
    refine z_iload_3 (pc := 61) E dX6_most_61 ?_
    refine z_icmp_gt (pc := 62) (tgt := 81) E dX6_most_62 (by decide) (fun h62 => ?_) (fun h62 => ?_)
    · refine z_iload_4 (pc := 81) E dX6_most_81 ?_
      exact z_xiret (pc := 83) E dX6_most_83 (by omega) (by omega) ((show mosF f (k + 1) p l = nI p from if_pos h62) ▸ hE)
    · refine z_iload_3 (pc := 65) E dX6_most_65 ?_
      refine z_aload_0 (pc := 66) E dX6_most_66 ?_
      refine z_get (pc := 67) E dX6_most_67 fiX6_19 ok14 rfl rfl ?_
      refine z_iload_4 (pc := 70) E dX6_most_70 ?_
      refine z_iald (pc := 72) E dX6_most_72 ok5 rfl rfl (by omega) (by omega) ?_
      refine z_isub (pc := 73) E dX6_most_73 ?_
      refine z_istore_3 (pc := 74) E dX6_most_74 rfl ?_
      refine z_iinc_4 (pc := 75) E dX6_most_75 (nI_1 p) rfl ?_
      refine z_goto (pc := 78) (tgt := 48) E dX6_most_78 (by decide) ?_
      exact ih (p + 1) _ (by omega) ((show mosF f (k + 1) p l = mosF f k (p + 1) (l - f p) from if_neg h62) ▸ hE)

set_option maxRecDepth 100000 in
set_option maxHeartbeats 4000000 in
theorem m_X6_most (M : Mem) (n cN : Nat) (c : Int32) (hn : M 0 0 0 4 = nI n) (h40 : n ≤ 40) (hc : M 0 0 0 3 = nI cN) (h10 : cN ≤ 10) : XI yX6_most cX6_most 5 (some .int) 7 1 6 (fun G => [.ref (ad G 14 0 0), .int c]) M (fun r M' => mostK M c = 0 ∧ ∃ i, i < cN ∧ c = nI i ∧ r = mosF (srtF (putP (fun t => decide (M 2 0 t 7 = 0 ∧ M 2 0 t 0 = nI i)) (fun t => debtV M 0 t (M 0 0 0 0)) (M 5 0 0) n).2 ((putP (fun t => decide (M 2 0 t 7 = 0 ∧ M 2 0 t 0 = nI i)) (fun t => debtV M 0 t (M 0 0 0 0)) (M 5 0 0) n).1 - 1)) (putP (fun t => decide (M 2 0 t 7 = 0 ∧ M 2 0 t 0 = nI i)) (fun t => debtV M 0 t (M 0 0 0 0)) (M 5 0 0) n).1 0 (M 1 0 i 0) ∧ M' = rset M 5 0 0 (srtF (putP (fun t => decide (M 2 0 t 7 = 0 ∧ M 2 0 t 0 = nI i)) (fun t => debtV M 0 t (M 0 0 0 0)) (M 5 0 0) n).2 ((putP (fun t => decide (M 2 0 t 7 = 0 ∧ M 2 0 t 0 = nI i)) (fun t => debtV M 0 t (M 0 0 0 0)) (M 5 0 0) n).1 - 1))) (fun Ex M' => M' = M ∧ ((Ex = IOB ∧ mostK M c = 1))) := by
  refine XI.mk (own := RX6) (by decide +kernel) rfl (fun _ => rfl) (fun _ => Nat.le_of_ble_eq_true rfl) (lv0 := fun G => [some (.ref (ad G 14 0 0)), some (.int c), none, none, none]) (fun _ => rfl) (fun X G E hX => ?_)
  refine z_aload_0 (pc := 0) E dX6_most_0 ?_
  refine z_get (pc := 1) E dX6_most_1 fiX6_10 ok14 rfl rfl ?_
  refine z_iload_1 (pc := 4) E dX6_most_4 ?_
  refine z_ivp (pc := 5) E (m_X4_hasCustomer _ _ _ (by decide)) rfl rfl kX4_hasCustomer mlX6_42 dX6_most_5 (ok0 (by omega)) rfl rfl rfl (Nat.le_of_ble_eq_true rfl) rfl (by decide) (by decide) ⟨by omega, by omega⟩ ?_
  refine z_chkI (pc := 8) E hX (m_X6_checkIndex _ _) rfl rfl kX6_checkIndex mlX6_46 dX6_most_8 rfl (by decide) rfl (Nat.le_of_ble_eq_true rfl) (by decide) ⟨by omega, by omega⟩ (fun Ex M9 hx => ⟨hx.2.2, ⟨hx.1, by unfold mostK; rw [if_neg (b2_e0 hx.2.1)]⟩⟩) (fun h8 => ?_)
  obtain ⟨i, hi, rfl⟩ := ix_of (hc_rw hc (b2_n0 h8)) (by omega)
  refine z_aload_0 (pc := 11) E dX6_most_11 ?_
  refine z_get (pc := 12) E dX6_most_12 fiX6_10 ok14 rfl rfl ?_
  refine z_iload_1 (pc := 15) E dX6_most_15 ?_
  refine z_aload_0 (pc := 16) E dX6_most_16 ?_
  refine z_get (pc := 17) E dX6_most_17 fiX6_19 ok14 rfl rfl ?_
  refine z_ivf (pc := 20) E (m_X4_putDebts _ _ n _ (by decide) hn h40) rfl rfl kX4_putDebts mlX6_180 dX6_most_20 (ok0 (by omega)) rfl rfl rfl (Nat.le_of_ble_eq_true rfl) rfl (by decide) (by decide) ⟨by omega, by omega⟩ ?_
  refine z_istore_2 (pc := 23) E dX6_most_23 rfl ?_
  refine z_aload_0 (pc := 24) E dX6_most_24 ?_
  refine z_get (pc := 25) E dX6_most_25 fiX6_19 ok14 rfl rfl ?_
  refine z_iload_2 (pc := 28) E dX6_most_28 ?_
  refine z_vsf (pc := 29) E (m_X6_sortUp _ (putP (fun t => decide (M 2 0 t 7 = 0 ∧ M 2 0 t 0 = nI i)) (fun t => debtV M 0 t (M 0 0 0 0)) (M 5 0 0) n).1 (Nat.le_trans (putP_le _ _ _ _) h40)) rfl rfl kX6_sortUp mlX6_173 dX6_most_29 rfl (Nat.le_of_ble_eq_true rfl) rfl (by decide) (by decide) ⟨by omega, by omega⟩ ?_
  refine z_aload_0 (pc := 32) E dX6_most_32 ?_
  refine z_get (pc := 33) E dX6_most_33 fiX6_10 ok14 rfl rfl ?_
  refine z_get (pc := 36) E dX6_most_36 fiX6_49 (ok0 (by omega)) rfl rfl ?_
  refine z_iload_1 (pc := 39) E dX6_most_39 ?_
  refine z_aald (t0 := 2) (pc := 40) E dX6_most_40 (ok17 (by omega)) rfl rfl rfl (by omega) (by omega) rfl ?_
  refine z_get (pc := 41) E dX6_most_41 fiX6_53 (ok1 (by omega) (by omega)) rfl rfl ?_
  refine z_istore_3 (pc := 44) E dX6_most_44 rfl ?_
  refine z_iconst (v := 0) (pc := 45) E dX6_most_45 (by decide) ?_
  refine z_istore_4 (pc := 46) E dX6_most_46 rfl ?_
  refine z_mem (M' := rset M 5 0 0 (srtF (putP (fun t => decide (M 2 0 t 7 = 0 ∧ M 2 0 t 0 = nI i)) (fun t => debtV M 0 t (M 0 0 0 0)) (M 5 0 0) n).2 ((putP (fun t => decide (M 2 0 t 7 = 0 ∧ M 2 0 t 0 = nI i)) (fun t => debtV M 0 t (M 0 0 0 0)) (M 5 0 0) n).1 - 1))) (rset_rset _ _ _ _ _ _).symm ?_
  exact mos_loop E (Nat.le_trans (putP_le _ _ _ _) h40) _ 0 _ (by omega) ⟨by unfold mostK; rw [if_pos (b2_n0 h8)], i, hi, rfl, rfl, rfl⟩

def fetV (M : Mem) (s n : Nat) : UInt64 := if stN M s n 1 + stN M s n 2 + stN M s n 3 = 0 then 0 else FP.ddiv (FP.i2d (stN M s n 1)) (FP.i2d (stN M s n 1 + stN M s n 2 + stN M s n 3))
theorem fet_nn {M : Mem} {s n : Nat} (h40 : n ≤ 40) (h : ¬ stN M s n 1 + stN M s n 2 + stN M s n 3 = 0) : vf_n64 (FP.ddiv (FP.i2d (stN M s n 1)) (FP.i2d (stN M s n 1 + stN M s n 2 + stN M s n 3))) := by
  obtain ⟨a, b, c, e, h0, h1, h2, h3, -, -⟩ := st3 M s n
  rw [h1, h2, h3, nI_add, nI_add] at h ⊢
  refine dv_nn a (by omega) (a + b + c) (by omega) (Nat.one_le_iff_ne_zero.mpr (fun z => h ?_))
  rw [z]
  exact nI_0

set_option maxRecDepth 100000 in
set_option maxHeartbeats 4000000 in
theorem m_X6_fetched (M : Mem) (n : Nat) (hn : M 0 0 0 4 = nI n) (h40 : n ≤ 40) : CD yX6_fetched cX6_fetched 3 (some .double) 7 0 0 (fun G => [.ref (ad G 14 0 0)]) M (fun r M' => r = fetV M 0 n ∧ M' = M) := by
  refine CD.mk (own := RX6) (by decide +kernel) rfl (fun _ => rfl) (fun _ => Nat.le_of_ble_eq_true rfl) (lv0 := fun G => [some (.ref (ad G 14 0 0)), none, none]) (fun _ => rfl) (fun X G E => ?_)
  refine z_aload_0 (pc := 0) E dX6_fetched_0 ?_
  refine z_get (pc := 1) E dX6_fetched_1 fiX6_10 ok14 rfl rfl ?_
  refine z_iconst (v := 1) (pc := 4) E dX6_fetched_4 (by decide) ?_
  refine z_ivp (pc := 5) E (m_X4_ticketsIn _ _ _ _ (by decide) hn h40) rfl rfl kX4_ticketsIn mlX6_166 dX6_fetched_5 (ok0 (by omega)) rfl rfl rfl (Nat.le_of_ble_eq_true rfl) rfl (by decide) (by decide) ⟨by omega, by omega⟩ ?_
  refine z_istore_1 (pc := 8) E dX6_fetched_8 rfl ?_
  refine z_iload_1 (pc := 9) E dX6_fetched_9 ?_
  refine z_aload_0 (pc := 10) E dX6_fetched_10 ?_
  refine z_get (pc := 11) E dX6_fetched_11 fiX6_10 ok14 rfl rfl ?_
  refine z_iconst (v := 2) (pc := 14) E dX6_fetched_14 (by decide) ?_
  refine z_ivp (pc := 15) E (m_X4_ticketsIn _ _ _ _ (by decide) hn h40) rfl rfl kX4_ticketsIn mlX6_166 dX6_fetched_15 (ok0 (by omega)) rfl rfl rfl (Nat.le_of_ble_eq_true rfl) rfl (by decide) (by decide) ⟨by omega, by omega⟩ ?_
  refine z_iadd (pc := 18) E dX6_fetched_18 ?_
  refine z_aload_0 (pc := 19) E dX6_fetched_19 ?_
  refine z_get (pc := 20) E dX6_fetched_20 fiX6_10 ok14 rfl rfl ?_
  refine z_iconst (v := 3) (pc := 23) E dX6_fetched_23 (by decide) ?_
  refine z_ivp (pc := 24) E (m_X4_ticketsIn _ _ _ _ (by decide) hn h40) rfl rfl kX4_ticketsIn mlX6_166 dX6_fetched_24 (ok0 (by omega)) rfl rfl rfl (Nat.le_of_ble_eq_true rfl) rfl (by decide) (by decide) ⟨by omega, by omega⟩ ?_
  refine z_iadd (pc := 27) E dX6_fetched_27 ?_
  refine z_istore_2 (pc := 28) E dX6_fetched_28 rfl ?_
  refine z_iload_2 (pc := 29) E dX6_fetched_29 ?_
  refine z_if_ne (pc := 30) (tgt := 37) E dX6_fetched_30 (by decide) (fun h30 => ?_) (fun h30 => ?_)
  · refine z_iload_1 (pc := 37) E dX6_fetched_37 ?_
    refine z_i2d (pc := 38) E dX6_fetched_38 ?_
    refine z_iload_2 (pc := 39) E dX6_fetched_39 ?_
    refine z_i2d (pc := 40) E dX6_fetched_40 ?_
    refine z_ddiv (pc := 41) E dX6_fetched_41 (fet_nn h40 h30) ?_
    exact z_dret (pc := 42) E dX6_fetched_42 ⟨by first | exact (if_neg h30).symm | exact (if_pos (Decidable.not_not.mp h30)).symm | exact (if_pos h30).symm, rfl⟩
  · refine z_dconst (pc := 33) E dX6_fetched_33 ?_
    refine z_goto (pc := 34) (tgt := 42) E dX6_fetched_34 (by decide) ?_
    exact z_dret (pc := 42) E dX6_fetched_42 ⟨by first | exact (if_neg h30).symm | exact (if_pos (Decidable.not_not.mp h30)).symm | exact (if_pos h30).symm, rfl⟩

set_option maxRecDepth 100000 in
set_option maxHeartbeats 4000000 in
theorem m_X6_digest (M : Mem) (n cN : Nat) (hn : M 0 0 0 4 = nI n) (h40 : n ≤ 40) (hc : M 0 0 0 3 = nI cN) (h10 : cN ≤ 10) : CL yX6_digest cX6_digest 5 (some .long) 7 0 0 (fun G => [.ref (ad G 14 0 0)]) M (fun r M' => r = dgA M n cN ∧ M' = M) := by
  refine CL.mk (own := RX6) (by decide +kernel) rfl (fun _ => rfl) (fun _ => Nat.le_of_ble_eq_true rfl) (lv0 := fun G => [some (.ref (ad G 14 0 0)), none, none, none, none]) (fun _ => rfl) (fun X G E => ?_)
  have L4 : ∀ (k j : Nat) (v4 : Option Value), j + k = n → Z X G (0, 0) (QL X G (fun r M' => r = dgA M n cN ∧ M' = M) 0 0) 142 [some (.ref (ad G 14 0 0)), some (.long (dgT M 0 j (dgC M 0 n cN (dgB M 0 7 (dgN (cntV M 0 n) 11 719))))), none, some (.int (nI j)), v4] [] M 0 0 := by
    intro k
    induction k with
    | zero =>
      intro j v4 hj
      obtain rfl : j = n := by omega
      refine z_iload_3 (pc := 142) E dX6_digest_142 ?_
      refine z_aload_0 (pc := 143) E dX6_digest_143 ?_
      refine z_get (pc := 144) E dX6_digest_144 fiX6_10 ok14 rfl rfl ?_
      refine z_get (pc := 147) E dX6_digest_147 fiX6_75 (ok0 (by omega)) rfl rfl ?_
      refine z_icmp_ge (pc := 150) (tgt := 220) E dX6_digest_150 (by decide) (fun h150 => ?_) (fun h150 => absurd h150 (fun z => z (ct_ge hn (by omega) (by omega))))
      refine z_lload_1 (pc := 220) E dX6_digest_220 ?_
      exact z_lret (pc := 221) E dX6_digest_221 ⟨rfl, rfl⟩
    | succ k ih =>
      intro j v4 hj
      have L5 : ∀ (m q : Nat), q + m = 11 → Z X G (0, 0) (QL X G (fun r M' => r = dgA M n cN ∧ M' = M) 0 0) 156 [some (.ref (ad G 14 0 0)), some (.long (dgN (tickV M 0 j) q (dgT M 0 j (dgC M 0 n cN (dgB M 0 7 (dgN (cntV M 0 n) 11 719)))))), none, some (.int (nI j)), some (.int (nI q))] [] M 0 0 := by
        intro m
        induction m with
        | zero =>
          intro q hq
          obtain rfl : q = 11 := by omega
          refine z_iload_4 (pc := 156) E dX6_digest_156 ?_
          refine z_bipush (v := 11) (pc := 158) E dX6_digest_158 (by decide) ?_
          refine z_icmp_ge (pc := 160) (tgt := 187) E dX6_digest_160 (by decide) (fun h160 => ?_) (fun h160 => absurd h160 (fun z => z (ct_ge (n := 11) rfl (by omega) (by omega))))
          refine z_lload_1 (pc := 187) E dX6_digest_187 ?_
          refine z_ldc2 (pc := 188) E dX6_digest_188 ckX6_186 ?_
          refine z_lmul (pc := 191) E dX6_digest_191 ?_
          refine z_aload_0 (pc := 192) E dX6_digest_192 ?_
          refine z_get (pc := 193) E dX6_digest_193 fiX6_10 ok14 rfl rfl ?_
          refine z_get (pc := 196) E dX6_digest_196 fiX6_101 (ok0 (by omega)) rfl rfl ?_
          refine z_iload_3 (pc := 199) E dX6_digest_199 ?_
          refine z_aald (t0 := 4) (pc := 200) E dX6_digest_200 (ok18 (by omega)) rfl rfl rfl (by omega) (by omega) rfl ?_
          refine z_aload_0 (pc := 201) E dX6_digest_201 ?_
          refine z_get (pc := 202) E dX6_digest_202 fiX6_10 ok14 rfl rfl ?_
          refine z_get (pc := 205) E dX6_digest_205 fiX6_105 (ok0 (by omega)) rfl rfl ?_
          refine z_ivp (pc := 208) E (m_X5_debt _ _ _ _ (by decide) (by omega)) rfl rfl kX5_debt mlX6_108 dX6_digest_208 (ok2 (by omega) (by omega)) rfl rfl rfl (Nat.le_of_ble_eq_true rfl) rfl (by decide) (by decide) ⟨by omega, by omega⟩ ?_
          refine z_i2l (pc := 211) E dX6_digest_211 ?_
          refine z_ladd (pc := 212) E dX6_digest_212 ?_
          refine z_lstore_1 (pc := 213) E dX6_digest_213 rfl ?_
          refine z_iinc_3 (pc := 214) E dX6_digest_214 (nI_1 j) rfl ?_
          refine z_goto (pc := 217) (tgt := 142) E dX6_digest_217 (by decide) ?_
          exact ih (j + 1) _ (by omega)
        | succ m ih2 =>
          intro q hq
          refine z_iload_4 (pc := 156) E dX6_digest_156 ?_
          refine z_bipush (v := 11) (pc := 158) E dX6_digest_158 (by decide) ?_
          refine z_icmp_ge (pc := 160) (tgt := 187) E dX6_digest_160 (by decide) (fun h160 => absurd h160 (ct_lt (n := 11) rfl (by omega) (by omega))) (fun h160 => ?_)
          refine z_lload_1 (pc := 163) E dX6_digest_163 ?_
          refine z_ldc2 (pc := 164) E dX6_digest_164 ckX6_186 ?_
          refine z_lmul (pc := 167) E dX6_digest_167 ?_
          refine z_aload_0 (pc := 168) E dX6_digest_168 ?_
          refine z_get (pc := 169) E dX6_digest_169 fiX6_10 ok14 rfl rfl ?_
          refine z_iload_3 (pc := 172) E dX6_digest_172 ?_
          refine z_iload_4 (pc := 173) E dX6_digest_173 ?_
          refine z_ivp (pc := 175) E (m_X4_tellTicket _ _ _ _ (by decide) (by omega) (by omega)) rfl rfl kX4_tellTicket mlX6_98 dX6_digest_175 (ok0 (by omega)) rfl rfl rfl (Nat.le_of_ble_eq_true rfl) rfl (by decide) (by decide) ⟨by omega, by omega⟩ ?_
          refine z_i2l (pc := 178) E dX6_digest_178 ?_
          refine z_ladd (pc := 179) E dX6_digest_179 ?_
          refine z_lstore_1 (pc := 180) E dX6_digest_180 rfl ?_
          refine z_iinc_4 (pc := 181) E dX6_digest_181 (nI_1 q) rfl ?_
          refine z_goto (pc := 184) (tgt := 156) E dX6_digest_184 (by decide) ?_
          exact ih2 (q + 1) (by omega)
      refine z_iload_3 (pc := 142) E dX6_digest_142 ?_
      refine z_aload_0 (pc := 143) E dX6_digest_143 ?_
      refine z_get (pc := 144) E dX6_digest_144 fiX6_10 ok14 rfl rfl ?_
      refine z_get (pc := 147) E dX6_digest_147 fiX6_75 (ok0 (by omega)) rfl rfl ?_
      refine z_icmp_ge (pc := 150) (tgt := 220) E dX6_digest_150 (by decide) (fun h150 => absurd h150 (ct_lt hn (by omega) (by omega))) (fun h150 => ?_)
      refine z_iconst (v := 0) (pc := 153) E dX6_digest_153 (by decide) ?_
      refine z_istore_4 (pc := 154) E dX6_digest_154 rfl ?_
      exact L5 11 0 (by omega)
  have L3 : ∀ (k j : Nat) (v4 : Option Value), j + k = cN → Z X G (0, 0) (QL X G (fun r M' => r = dgA M n cN ∧ M' = M) 0 0) 90 [some (.ref (ad G 14 0 0)), some (.long (dgC M 0 n j (dgB M 0 7 (dgN (cntV M 0 n) 11 719)))), none, some (.int (nI j)), v4] [] M 0 0 := by
    intro k
    induction k with
    | zero =>
      intro j v4 hj
      obtain rfl : j = cN := by omega
      refine z_iload_3 (pc := 90) E dX6_digest_90 ?_
      refine z_aload_0 (pc := 91) E dX6_digest_91 ?_
      refine z_get (pc := 92) E dX6_digest_92 fiX6_10 ok14 rfl rfl ?_
      refine z_get (pc := 95) E dX6_digest_95 fiX6_31 (ok0 (by omega)) rfl rfl ?_
      refine z_icmp_ge (pc := 98) (tgt := 140) E dX6_digest_98 (by decide) (fun h98 => ?_) (fun h98 => absurd h98 (fun z => z (ct_ge hc (by omega) (by omega))))
      refine z_iconst (v := 0) (pc := 140) E dX6_digest_140 (by decide) ?_
      refine z_istore_3 (pc := 141) E dX6_digest_141 rfl ?_
      exact L4 n 0 _ (by omega)
    | succ k ih =>
      intro j v4 hj
      have L6 : ∀ (m q : Nat), q + m = 5 → Z X G (0, 0) (QL X G (fun r M' => r = dgA M n cN ∧ M' = M) 0 0) 104 [some (.ref (ad G 14 0 0)), some (.long (dgN (custV M 0 n j) q (dgC M 0 n j (dgB M 0 7 (dgN (cntV M 0 n) 11 719))))), none, some (.int (nI j)), some (.int (nI q))] [] M 0 0 := by
        intro m
        induction m with
        | zero =>
          intro q hq
          obtain rfl : q = 5 := by omega
          refine z_iload_4 (pc := 104) E dX6_digest_104 ?_
          refine z_iconst (v := 5) (pc := 106) E dX6_digest_106 (by decide) ?_
          refine z_icmp_ge (pc := 107) (tgt := 134) E dX6_digest_107 (by decide) (fun h107 => ?_) (fun h107 => absurd h107 (fun z => z (ct_ge (n := 5) rfl (by omega) (by omega))))
          refine z_iinc_3 (pc := 134) E dX6_digest_134 (nI_1 j) rfl ?_
          refine z_goto (pc := 137) (tgt := 90) E dX6_digest_137 (by decide) ?_
          exact ih (j + 1) _ (by omega)
        | succ m ih2 =>
          intro q hq
          refine z_iload_4 (pc := 104) E dX6_digest_104 ?_
          refine z_iconst (v := 5) (pc := 106) E dX6_digest_106 (by decide) ?_
          refine z_icmp_ge (pc := 107) (tgt := 134) E dX6_digest_107 (by decide) (fun h107 => absurd h107 (ct_lt (n := 5) rfl (by omega) (by omega))) (fun h107 => ?_)
          refine z_lload_1 (pc := 110) E dX6_digest_110 ?_
          refine z_ldc2 (pc := 111) E dX6_digest_111 ckX6_186 ?_
          refine z_lmul (pc := 114) E dX6_digest_114 ?_
          refine z_aload_0 (pc := 115) E dX6_digest_115 ?_
          refine z_get (pc := 116) E dX6_digest_116 fiX6_10 ok14 rfl rfl ?_
          refine z_iload_3 (pc := 119) E dX6_digest_119 ?_
          refine z_iload_4 (pc := 120) E dX6_digest_120 ?_
          refine z_ivp (pc := 122) E (m_X4_tellCustomer _ _ n _ _ (by decide) hn h40 (by omega) (by omega)) rfl rfl kX4_tellCustomer mlX6_71 dX6_digest_122 (ok0 (by omega)) rfl rfl rfl (Nat.le_of_ble_eq_true rfl) rfl (by decide) (by decide) ⟨by omega, by omega⟩ ?_
          refine z_i2l (pc := 125) E dX6_digest_125 ?_
          refine z_ladd (pc := 126) E dX6_digest_126 ?_
          refine z_lstore_1 (pc := 127) E dX6_digest_127 rfl ?_
          refine z_iinc_4 (pc := 128) E dX6_digest_128 (nI_1 q) rfl ?_
          refine z_goto (pc := 131) (tgt := 104) E dX6_digest_131 (by decide) ?_
          exact ih2 (q + 1) (by omega)
      refine z_iload_3 (pc := 90) E dX6_digest_90 ?_
      refine z_aload_0 (pc := 91) E dX6_digest_91 ?_
      refine z_get (pc := 92) E dX6_digest_92 fiX6_10 ok14 rfl rfl ?_
      refine z_get (pc := 95) E dX6_digest_95 fiX6_31 (ok0 (by omega)) rfl rfl ?_
      refine z_icmp_ge (pc := 98) (tgt := 140) E dX6_digest_98 (by decide) (fun h98 => absurd h98 (ct_lt hc (by omega) (by omega))) (fun h98 => ?_)
      refine z_iconst (v := 0) (pc := 101) E dX6_digest_101 (by decide) ?_
      refine z_istore_4 (pc := 102) E dX6_digest_102 rfl ?_
      exact L6 5 0 (by omega)
  have L2 : ∀ (k j : Nat) (v4 : Option Value), j + k = 7 → Z X G (0, 0) (QL X G (fun r M' => r = dgA M n cN ∧ M' = M) 0 0) 36 [some (.ref (ad G 14 0 0)), some (.long (dgB M 0 j (dgN (cntV M 0 n) 11 719))), none, some (.int (nI j)), v4] [] M 0 0 := by
    intro k
    induction k with
    | zero =>
      intro j v4 hj
      obtain rfl : j = 7 := by omega
      refine z_iload_3 (pc := 36) E dX6_digest_36 ?_
      refine z_bipush (v := 7) (pc := 37) E dX6_digest_37 (by decide) ?_
      refine z_icmp_ge (pc := 39) (tgt := 88) E dX6_digest_39 (by decide) (fun h39 => ?_) (fun h39 => absurd h39 (fun z => z (ct_ge (n := 7) rfl (by omega) (by omega))))
      refine z_iconst (v := 0) (pc := 88) E dX6_digest_88 (by decide) ?_
      refine z_istore_3 (pc := 89) E dX6_digest_89 rfl ?_
      exact L3 cN 0 _ (by omega)
    | succ k ih =>
      intro j v4 hj
      refine z_iload_3 (pc := 36) E dX6_digest_36 ?_
      refine z_bipush (v := 7) (pc := 37) E dX6_digest_37 (by decide) ?_
      refine z_icmp_ge (pc := 39) (tgt := 88) E dX6_digest_39 (by decide) (fun h39 => absurd h39 (ct_lt (n := 7) rfl (by omega) (by omega))) (fun h39 => ?_)
      refine z_lload_1 (pc := 42) E dX6_digest_42 ?_
      refine z_ldc2 (pc := 43) E dX6_digest_43 ckX6_186 ?_
      refine z_lmul (pc := 46) E dX6_digest_46 ?_
      refine z_aload_0 (pc := 47) E dX6_digest_47 ?_
      refine z_get (pc := 48) E dX6_digest_48 fiX6_10 ok14 rfl rfl ?_
      refine z_get (pc := 51) E dX6_digest_51 fiX6_58 (ok0 (by omega)) rfl rfl ?_
      refine z_iload_3 (pc := 54) E dX6_digest_54 ?_
      refine z_aald (t0 := 1) (pc := 55) E dX6_digest_55 (ok19 (by omega)) rfl rfl rfl (by omega) (by omega) rfl ?_
      refine z_get (pc := 56) E dX6_digest_56 fiX6_62 (ok3 (by omega) (by omega)) rfl rfl ?_
      refine z_i2l (pc := 59) E dX6_digest_59 ?_
      refine z_ladd (pc := 60) E dX6_digest_60 ?_
      refine z_lstore_1 (pc := 61) E dX6_digest_61 rfl ?_
      refine z_lload_1 (pc := 62) E dX6_digest_62 ?_
      refine z_ldc2 (pc := 63) E dX6_digest_63 ckX6_186 ?_
      refine z_lmul (pc := 66) E dX6_digest_66 ?_
      refine z_aload_0 (pc := 67) E dX6_digest_67 ?_
      refine z_get (pc := 68) E dX6_digest_68 fiX6_10 ok14 rfl rfl ?_
      refine z_get (pc := 71) E dX6_digest_71 fiX6_58 (ok0 (by omega)) rfl rfl ?_
      refine z_iload_3 (pc := 74) E dX6_digest_74 ?_
      refine z_aald (t0 := 1) (pc := 75) E dX6_digest_75 (ok19 (by omega)) rfl rfl rfl (by omega) (by omega) rfl ?_
      refine z_get (pc := 76) E dX6_digest_76 fiX6_188 (ok3 (by omega) (by omega)) rfl rfl ?_
      refine z_i2l (pc := 79) E dX6_digest_79 ?_
      refine z_ladd (pc := 80) E dX6_digest_80 ?_
      refine z_lstore_1 (pc := 81) E dX6_digest_81 rfl ?_
      refine z_iinc_3 (pc := 82) E dX6_digest_82 (nI_1 j) rfl ?_
      refine z_goto (pc := 85) (tgt := 36) E dX6_digest_85 (by decide) ?_
      exact ih (j + 1) _ (by omega)
  have L1 : ∀ (k j : Nat) (v4 : Option Value), j + k = 11 → Z X G (0, 0) (QL X G (fun r M' => r = dgA M n cN ∧ M' = M) 0 0) 6 [some (.ref (ad G 14 0 0)), some (.long (dgN (cntV M 0 n) j 719)), none, some (.int (nI j)), v4] [] M 0 0 := by
    intro k
    induction k with
    | zero =>
      intro j v4 hj
      obtain rfl : j = 11 := by omega
      refine z_iload_3 (pc := 6) E dX6_digest_6 ?_
      refine z_bipush (v := 11) (pc := 7) E dX6_digest_7 (by decide) ?_
      refine z_icmp_ge (pc := 9) (tgt := 34) E dX6_digest_9 (by decide) (fun h9 => ?_) (fun h9 => absurd h9 (fun z => z (ct_ge (n := 11) rfl (by omega) (by omega))))
      refine z_iconst (v := 0) (pc := 34) E dX6_digest_34 (by decide) ?_
      refine z_istore_3 (pc := 35) E dX6_digest_35 rfl ?_
      exact L2 7 0 _ (by omega)
    | succ k ih =>
      intro j v4 hj
      refine z_iload_3 (pc := 6) E dX6_digest_6 ?_
      refine z_bipush (v := 11) (pc := 7) E dX6_digest_7 (by decide) ?_
      refine z_icmp_ge (pc := 9) (tgt := 34) E dX6_digest_9 (by decide) (fun h9 => absurd h9 (ct_lt (n := 11) rfl (by omega) (by omega))) (fun h9 => ?_)
      refine z_lload_1 (pc := 12) E dX6_digest_12 ?_
      refine z_ldc2 (pc := 13) E dX6_digest_13 ckX6_186 ?_
      refine z_lmul (pc := 16) E dX6_digest_16 ?_
      refine z_aload_0 (pc := 17) E dX6_digest_17 ?_
      refine z_get (pc := 18) E dX6_digest_18 fiX6_10 ok14 rfl rfl ?_
      refine z_iload_3 (pc := 21) E dX6_digest_21 ?_
      refine z_ivp (pc := 22) E (m_X4_tellCount _ _ n _ (by decide) hn h40 (by omega)) rfl rfl kX4_tellCount mlX6_159 dX6_digest_22 (ok0 (by omega)) rfl rfl rfl (Nat.le_of_ble_eq_true rfl) rfl (by decide) (by decide) ⟨by omega, by omega⟩ ?_
      refine z_i2l (pc := 25) E dX6_digest_25 ?_
      refine z_ladd (pc := 26) E dX6_digest_26 ?_
      refine z_lstore_1 (pc := 27) E dX6_digest_27 rfl ?_
      refine z_iinc_3 (pc := 28) E dX6_digest_28 (nI_1 j) rfl ?_
      refine z_goto (pc := 31) (tgt := 6) E dX6_digest_31 (by decide) ?_
      exact ih (j + 1) _ (by omega)
  refine z_ldc2 (pc := 0) E dX6_digest_0 ckX6_184 ?_
  refine z_lstore_1 (pc := 3) E dX6_digest_3 rfl ?_
  refine z_iconst (v := 0) (pc := 4) E dX6_digest_4 (by decide) ?_
  refine z_istore_3 (pc := 5) E dX6_digest_5 rfl ?_
  exact L1 11 0 _ (by omega)

