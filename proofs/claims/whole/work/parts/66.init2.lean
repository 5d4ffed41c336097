/-! the constructors of rack and shop -/
section VQ2
variable {X : PX} {G : GT} {Q : State → Prop} {pc : Nat} {lv : List (Option Value)} {st : List Value} {nC : Nat} {F : Nat → va_E} {cells slots : Nat}
theorem v_cnt {n2 : Nat} (h : n2 = nC) (k : V X G Q pc lv st n2 F cells slots) : V X G Q pc lv st nC F cells slots := h ▸ k
end VQ2
theorem VE.tr {a b c : va_E} (h : VE a b) (h2 : VE b c) : VE a c := fun D cl q H z => h2 D cl q H (h D cl q H z)
def rkF (G : GT) (F : Nat → va_E) (o nC : Nat) : Nat → va_E := fup (fup (fup (fup (fup (fup (fup (fup F o (.inr (2, [.ref (G.2.2 0 + nC)]))) nC (rfA (G.2.1 3) 3 (fun j => some (G.2.2 0 + (nC + 1 + 2 * j))))) (nC + 1) (.inr (3, [.ref (G.2.2 0 + (nC + 2))]))) (nC + 2) (inA (G.2.1 0) 10 (fun _ => -1))) (nC + 3) (.inr (3, [.ref (G.2.2 0 + (nC + 4))]))) (nC + 4) (inA (G.2.1 0) 20 (fun _ => -1))) (nC + 5) (.inr (3, [.ref (G.2.2 0 + (nC + 6))]))) (nC + 6) (inA (G.2.1 0) 30 (fun _ => -1))

set_option maxRecDepth 100000 in
set_option maxHeartbeats 4000000 in
theorem n_X2_init {G : GT} {o nC : Nat} {F : Nat → va_E} (ho : o < nC) (hC : nC + 7 ≤ 154) (hF : F o = .inr (2, [.null])) : CN G yX2_init cX2_init 1 2 7 66 [.ref (G.2.2 0 + o)] nC F (nC + 7) (rkF G F o nC) := by
  refine CN.mk (own := RX2) (by decide +kernel) rfl rfl rfl (Nat.le_of_ble_eq_true rfl) (lv0 := [some (.ref (G.2.2 0 + o))]) rfl (fun X E hN => ?_)
  refine v_aload_0 (pc := 0) E dX2_init_0 ?_
  refine v_oi (pc := 1) E dX2_init_1 mlX2_3 rfl (Nat.le_of_ble_eq_true rfl) (by decide) ?_
  refine v_aload_0 (pc := 4) E dX2_init_4 ?_
  refine v_iconst (v := nI 3) (pc := 5) E dX2_init_5 (by decide) ?_
  refine v_anew (C := RX3) (t0 := 3) (n := 3) (cA := G.2.1 3) (pc := 6) E dX2_init_6 clX2_9 (by decide +kernel) rfl rfl (by decide) ⟨by omega, by omega⟩ ?_
  refine v_dup (pc := 9) E dX2_init_9 rfl ?_
  refine v_iconst (v := nI 0) (pc := 10) E dX2_init_10 (by decide) ?_
  refine v_new (C := RX3) (Tf := TX3) (N := 1) (ci := 3) (fs := [.null]) (pc := 11) E tyX3 tyX3_ok (fun j hj => match j, hj with | 0, _ => rfl) dX2_init_11 clX2_9 isX3 inX3 uwX3 rfl ⟨by omega, by omega⟩ ?_
  refine v_dup (pc := 14) E dX2_init_14 rfl ?_
  refine v_bipush (v := nI 10) (pc := 15) E dX2_init_15 (by decide) ?_
  refine v_ci (n := 1) (pc := 17) E (n_X3_init (o := nC + 1) (nC := nC + 1 + 1) (L := 10) (by omega) (by omega) (by decide) fup_on) rfl kkX3_init mlX2_11 dX2_init_17 rfl (Nat.le_of_ble_eq_true rfl) rfl (by decide) (by decide) ⟨by omega, by omega⟩ ?_
  refine v_aast (C := RX3) (Tf := TX3) (N := 1) (ci := 3) (t0 := 3) (o := nC) (o2 := nC + 1) (j := 0) (n := 3) (cA := G.2.1 3) (fs := [.ref (G.2.2 0 + (nC + 1 + 1))]) (f := (fun _ => none)) (pc := 20) E dX2_init_20 (by omega) (by omega) (by omega) (by repeat (first | exact fup_on | refine (fup_off (by omega)).trans ?_ | exact rfl)) (by repeat (first | exact fup_on | refine (fup_off (by omega)).trans ?_ | exact rfl)) rfl rfl rfl (by decide) (by decide) ?_
  refine v_dup (pc := 21) E dX2_init_21 rfl ?_
  refine v_iconst (v := nI 1) (pc := 22) E dX2_init_22 (by decide) ?_
  refine v_new (C := RX3) (Tf := TX3) (N := 1) (ci := 3) (fs := [.null]) (pc := 23) E tyX3 tyX3_ok (fun j hj => match j, hj with | 0, _ => rfl) dX2_init_23 clX2_9 isX3 inX3 uwX3 rfl ⟨by omega, by omega⟩ ?_
  refine v_dup (pc := 26) E dX2_init_26 rfl ?_
  refine v_bipush (v := nI 20) (pc := 27) E dX2_init_27 (by decide) ?_
  refine v_ci (n := 1) (pc := 29) E (n_X3_init (o := nC + 1 + 1 + 1) (nC := nC + 1 + 1 + 1 + 1) (L := 20) (by omega) (by omega) (by decide) fup_on) rfl kkX3_init mlX2_11 dX2_init_29 rfl (Nat.le_of_ble_eq_true rfl) rfl (by decide) (by decide) ⟨by omega, by omega⟩ ?_
  refine v_aast (C := RX3) (Tf := TX3) (N := 1) (ci := 3) (t0 := 3) (o := nC) (o2 := nC + 1 + 1 + 1) (j := 1) (n := 3) (cA := G.2.1 3) (fs := [.ref (G.2.2 0 + (nC + 1 + 1 + 1 + 1))]) (f := (va_up (fun _ => none) 0 (some (G.2.2 0 + (nC + 1))))) (pc := 32) E dX2_init_32 (by omega) (by omega) (by omega) (by repeat (first | exact fup_on | refine (fup_off (by omega)).trans ?_ | exact rfl)) (by repeat (first | exact fup_on | refine (fup_off (by omega)).trans ?_ | exact rfl)) rfl rfl rfl (by decide) (by decide) ?_
  refine v_dup (pc := 33) E dX2_init_33 rfl ?_
  refine v_iconst (v := nI 2) (pc := 34) E dX2_init_34 (by decide) ?_
  refine v_new (C := RX3) (Tf := TX3) (N := 1) (ci := 3) (fs := [.null]) (pc := 35) E tyX3 tyX3_ok (fun j hj => match j, hj with | 0, _ => rfl) dX2_init_35 clX2_9 isX3 inX3 uwX3 rfl ⟨by omega, by omega⟩ ?_
  refine v_dup (pc := 38) E dX2_init_38 rfl ?_
  refine v_bipush (v := nI 30) (pc := 39) E dX2_init_39 (by decide) ?_
  refine v_ci (n := 1) (pc := 41) E (n_X3_init (o := nC + 1 + 1 + 1 + 1 + 1) (nC := nC + 1 + 1 + 1 + 1 + 1 + 1) (L := 30) (by omega) (by omega) (by decide) fup_on) rfl kkX3_init mlX2_11 dX2_init_41 rfl (Nat.le_of_ble_eq_true rfl) rfl (by decide) (by decide) ⟨by omega, by omega⟩ ?_
  refine v_aast (C := RX3) (Tf := TX3) (N := 1) (ci := 3) (t0 := 3) (o := nC) (o2 := nC + 1 + 1 + 1 + 1 + 1) (j := 2) (n := 3) (cA := G.2.1 3) (fs := [.ref (G.2.2 0 + (nC + 1 + 1 + 1 + 1 + 1 + 1))]) (f := (va_up (va_up (fun _ => none) 0 (some (G.2.2 0 + (nC + 1)))) 1 (some (G.2.2 0 + (nC + 1 + 1 + 1))))) (pc := 44) E dX2_init_44 (by omega) (by omega) (by omega) (by repeat (first | exact fup_on | refine (fup_off (by omega)).trans ?_ | exact rfl)) (by repeat (first | exact fup_on | refine (fup_off (by omega)).trans ?_ | exact rfl)) rfl rfl rfl (by decide) (by decide) ?_
  refine v_putF (o := o) (fs := [.null]) (pc := 45) E hN rfl dX2_init_45 fiX2_14 fqX2_0 rfl rfl (by omega) (by omega) (by repeat (first | exact fup_on | refine (fup_off (by omega)).trans ?_ | exact hF)) (Nat.le_of_ble_eq_true rfl) ?_
  refine v_widen (c1 := 7) (s1 := 66) (by omega) (by omega) ?_
  refine v_F (F' := rkF G F o nC) (fun j hj => ?_) ?_
  · rcases (show j = o ∨ j = nC ∨ j = nC + 1 ∨ j = nC + 2 ∨ j = nC + 3 ∨ j = nC + 4 ∨ j = nC + 5 ∨ j = nC + 6 ∨ (¬ j = o ∧ ¬ j = nC ∧ ¬ j = nC + 1 ∧ ¬ j = nC + 2 ∧ ¬ j = nC + 3 ∧ ¬ j = nC + 4 ∧ ¬ j = nC + 5 ∧ ¬ j = nC + 6) by omega) with e | e | e | e | e | e | e | e | e
    · rw [e]; exact VE.of (@Eq.trans _ _ (.inr (2, [.ref (G.2.2 0 + nC)])) _ (by repeat (first | exact fup_on | refine (fup_off (by omega)).trans ?_ | exact rfl)) (Eq.symm (by unfold rkF; repeat (first | exact fup_on | refine (fup_off (by omega)).trans ?_ | exact rfl))))
    · rw [e]; exact VE.tr (b := rfA (G.2.1 3) 3 (va_up (va_up (va_up (fun _ => none) 0 (some (G.2.2 0 + (nC + 1)))) 1 (some (G.2.2 0 + (nC + 1 + 1 + 1)))) 2 (some (G.2.2 0 + (nC + 1 + 1 + 1 + 1 + 1))))) (VE.of (by repeat (first | exact fup_on | refine (fup_off (by omega)).trans ?_ | exact rfl))) (VE.tr (b := rfA (G.2.1 3) 3 (fun j => some (G.2.2 0 + (nC + 1 + 2 * j)))) (VE.arr (fun j hj => match j, hj with | 0, _ => rfl | 1, _ => rfl | 2, _ => rfl)) (VE.of (Eq.symm (by unfold rkF; repeat (first | exact fup_on | refine (fup_off (by omega)).trans ?_ | exact rfl)))))
    · rw [e]; exact VE.of (@Eq.trans _ _ (.inr (3, [.ref (G.2.2 0 + (nC + 2))])) _ (by repeat (first | exact fup_on | refine (fup_off (by omega)).trans ?_ | exact rfl)) (Eq.symm (by unfold rkF; repeat (first | exact fup_on | refine (fup_off (by omega)).trans ?_ | exact rfl))))
    · rw [e]; exact VE.of (@Eq.trans _ _ (inA (G.2.1 0) 10 (fun _ => -1)) _ (by repeat (first | exact fup_on | refine (fup_off (by omega)).trans ?_ | exact rfl)) (Eq.symm (by unfold rkF; repeat (first | exact fup_on | refine (fup_off (by omega)).trans ?_ | exact rfl))))
    · rw [e]; exact VE.of (@Eq.trans _ _ (.inr (3, [.ref (G.2.2 0 + (nC + 4))])) _ (by repeat (first | exact fup_on | refine (fup_off (by omega)).trans ?_ | exact rfl)) (Eq.symm (by unfold rkF; repeat (first | exact fup_on | refine (fup_off (by omega)).trans ?_ | exact rfl))))
    · rw [e]; exact VE.of (@Eq.trans _ _ (inA (G.2.1 0) 20 (fun _ => -1)) _ (by repeat (first | exact fup_on | refine (fup_off (by omega)).trans ?_ | exact rfl)) (Eq.symm (by unfold rkF; repeat (first | exact fup_on | refine (fup_off (by omega)).trans ?_ | exact rfl))))
    · rw [e]; exact VE.of (@Eq.trans _ _ (.inr (3, [.ref (G.2.2 0 + (nC + 6))])) _ (by repeat (first | exact fup_on | refine (fup_off (by omega)).trans ?_ | exact rfl)) (Eq.symm (by unfold rkF; repeat (first | exact fup_on | refine (fup_off (by omega)).trans ?_ | exact rfl))))
    · rw [e]; exact VE.of (@Eq.trans _ _ (inA (G.2.1 0) 30 (fun _ => -1)) _ (by repeat (first | exact fup_on | refine (fup_off (by omega)).trans ?_ | exact rfl)) (Eq.symm (by unfold rkF; repeat (first | exact fup_on | refine (fup_off (by omega)).trans ?_ | exact rfl))))
    · exact VE.of (@Eq.trans _ _ (F j) _ (by repeat (first | exact fup_on | refine (fup_off (by omega)).trans ?_ | exact rfl)) (Eq.symm (by unfold rkF; repeat (first | exact fup_on | refine (fup_off (by omega)).trans ?_ | exact rfl))))
  exact v_ret (pc := 48) E dX2_init_48

def lpF (G : GT) (Fb : Nat → va_E) (ar st n : Nat) (cA : ClassId) (e : va_E) (i : Nat) : Nat → va_E := fun j => if j = ar then rfA cA n (fun q => if q < i then some (G.2.2 0 + (st + q)) else none) else if st ≤ j ∧ j < st + i then e else Fb j
theorem lp_ar {G : GT} {Fb : Nat → va_E} {ar st n : Nat} {cA : ClassId} {e : va_E} {i : Nat} : lpF G Fb ar st n cA e i ar = rfA cA n (fun q => if q < i then some (G.2.2 0 + (st + q)) else none) := if_pos rfl
theorem lp_o {G : GT} {Fb : Nat → va_E} {ar st n : Nat} {cA : ClassId} {e : va_E} {i j : Nat} (h1 : ¬ j = ar) (h2 : j < st ∨ st + i ≤ j) : lpF G Fb ar st n cA e i j = Fb j := by
  unfold lpF
  rw [if_neg h1, if_neg (by omega)]
theorem lp_0 {G : GT} {Fb : Nat → va_E} {ar st n : Nat} {cA : ClassId} {e : va_E} (h : Fb ar = rfA cA n (fun _ => none)) : Fb = lpF G Fb ar st n cA e 0 := by
  funext j
  unfold lpF
  by_cases a : j = ar
  · rw [if_pos a, a, h]
    rfl
  · rw [if_neg a, if_neg (by omega)]
theorem lp_s {G : GT} {Fb : Nat → va_E} {ar st n : Nat} {cA : ClassId} {e : va_E} {i : Nat} (h : ar < st) : fup (fup (lpF G Fb ar st n cA e i) (st + i) e) ar (rfA cA n (va_up (fun q => if q < i then some (G.2.2 0 + (st + q)) else none) i (some (G.2.2 0 + (st + i))))) = lpF G Fb ar st n cA e (i + 1) := by
  funext j
  unfold lpF
  by_cases a : j = ar
  · have e1 : va_up (fun q => if q < i then some (G.2.2 0 + (st + q)) else none) i (some (G.2.2 0 + (st + i))) = (fun q => if q < i + 1 then some (G.2.2 0 + (st + q)) else none) := by
      funext q
      show (if q = i then some (G.2.2 0 + (st + i)) else if q < i then some (G.2.2 0 + (st + q)) else none) = if q < i + 1 then some (G.2.2 0 + (st + q)) else none
      by_cases b : q = i
      · rw [if_pos b, if_pos (by omega), b]
      · rw [if_neg b]
        by_cases c : q < i
        · rw [if_pos c, if_pos (by omega)]
        · rw [if_neg c, if_neg (by omega)]
    rw [e1, if_pos a, a, fup_on]
  · rw [fup_off a, if_neg a]
    by_cases b : j = st + i
    · rw [b, fup_on, if_pos (by omega)]
    · rw [fup_off b, if_neg a]
      by_cases c : st ≤ j ∧ j < st + i
      · rw [if_pos c, if_pos (by omega)]
      · rw [if_neg c, if_neg (by omega)]
abbrev shO (G : GT) (nC : Nat) : va_E := .inr (4, [.int 0, .int (nI 400), .int 0, .int 0, .int 0, .ref (G.2.2 0 + nC), .ref (G.2.2 0 + (nC + 1)), .ref (G.2.2 0 + (nC + 2)), .ref (G.2.2 0 + (nC + 3))])
def shB (G : GT) (F : Nat → va_E) (o nC : Nat) : Nat → va_E := fup (fup (fup (fup (rkF G F (nC + 3) (nC + 4)) o (shO G nC)) nC (rfA (G.2.1 2) 10 (fun _ => none))) (nC + 1) (rfA (G.2.1 4) 40 (fun _ => none))) (nC + 2) (rfA (G.2.1 1) 7 (fun _ => none))
abbrev cuE : va_E := .inr (1, [.int 0, .int 0])
abbrev tiE : va_E := .inr (5, [.int 0, .int 0, .int 0, .int 0, .int 0, .int 0, .int 0, .int 0, .int 0, .int 0])
abbrev buE : va_E := .inr (0, [.int (-1), .int 0])
def sh1 (G : GT) (F : Nat → va_E) (o nC i : Nat) : Nat → va_E := lpF G (shB G F o nC) nC (nC + 11) 10 (G.2.1 2) cuE i
def sh2 (G : GT) (F : Nat → va_E) (o nC i : Nat) : Nat → va_E := lpF G (sh1 G F o nC 10) (nC + 1) (nC + 21) 40 (G.2.1 4) tiE i
def sh3 (G : GT) (F : Nat → va_E) (o nC i : Nat) : Nat → va_E := lpF G (sh2 G F o nC 40) (nC + 2) (nC + 61) 7 (G.2.1 1) buE i
theorem shB_o {G : GT} {F : Nat → va_E} {o nC : Nat} (ho : o < nC) : shB G F o nC o = shO G nC := (by unfold shB; repeat (first | exact fup_on | refine (fup_off (by omega)).trans ?_ | exact rfl))
theorem sh1_o {G : GT} {F : Nat → va_E} {o nC i : Nat} (ho : o < nC) : sh1 G F o nC i o = shO G nC := (lp_o (by omega) (Or.inl (by omega))).trans (shB_o ho)
theorem sh2_o {G : GT} {F : Nat → va_E} {o nC i : Nat} (ho : o < nC) : sh2 G F o nC i o = shO G nC := (lp_o (by omega) (Or.inl (by omega))).trans (sh1_o ho)
theorem sh3_o {G : GT} {F : Nat → va_E} {o nC i : Nat} (ho : o < nC) : sh3 G F o nC i o = shO G nC := (lp_o (by omega) (Or.inl (by omega))).trans (sh2_o ho)

set_option maxRecDepth 100000 in
set_option maxHeartbeats 4000000 in
theorem n_X4_init {G : GT} {o nC : Nat} {F : Nat → va_E} (ho : o < nC) (hC : nC + 68 ≤ 154) (hF : F o = .inr (4, [.int 0, .int 0, .int 0, .int 0, .int 0, .null, .null, .null, .null])) : CN G yX4_init cX4_init 2 3 68 558 [.ref (G.2.2 0 + o)] nC F (nC + 68) (sh3 G F o nC 7) := by
  refine CN.mk (own := RX4) (by decide +kernel) rfl rfl rfl (Nat.le_of_ble_eq_true rfl) (lv0 := [some (.ref (G.2.2 0 + o)), none]) rfl (fun X E hN => ?_)
  have L3 : ∀ (k i : Nat), i + k = 7 → V X G (QN X G (nC + 68) (sh3 G F o nC 7) 68 558) 105 [some (.ref (G.2.2 0 + o)), some (.int (nI i))] [] (nC + 61 + i) (sh3 G F o nC i) (61 + i) (544 + 2 * i) := by
    intro k
    induction k with
    | zero =>
      intro i hi
      obtain rfl : i = 7 := by omega
      refine v_iload_1 (pc := 105) E dX4_init_105 ?_
      refine v_bipush (v := nI 7) (pc := 106) E dX4_init_106 (by decide) ?_
      refine v_icmp_ge (pc := 108) (tgt := 130) E dX4_init_108 (by decide) (fun h108 => ?_) (fun h108 => absurd (Int32.le_refl _) h108)
      refine v_cnt (n2 := nC + 68) (by omega) ?_
      exact v_ret (pc := 130) E dX4_init_130
    | succ k ih =>
      intro i hi
      refine v_iload_1 (pc := 105) E dX4_init_105 ?_
      refine v_bipush (v := nI 7) (pc := 106) E dX4_init_106 (by decide) ?_
      refine v_icmp_ge (pc := 108) (tgt := 130) E dX4_init_108 (by decide) (fun h108 => absurd h108 (nI_ge (by omega) (by decide))) (fun h108 => ?_)
      refine v_aload_0 (pc := 111) E dX4_init_111 ?_
      refine v_get (o := o) (fs := [.int 0, .int (nI 400), .int 0, .int 0, .int 0, .ref (G.2.2 0 + nC), .ref (G.2.2 0 + (nC + 1)), .ref (G.2.2 0 + (nC + 2)), .ref (G.2.2 0 + (nC + 3))]) (pc := 112) E dX4_init_112 fiX4_29 (by omega) (sh3_o ho) rfl ?_
      refine v_iload_1 (pc := 115) E dX4_init_115 ?_
      refine v_new (C := RX0) (Tf := TX0) (N := 2) (ci := 0) (fs := [.int 0, .int 0]) (pc := 116) E tyX0 tyX0_ok (fun j hj => match j, hj with | 0, _ => rfl | 1, _ => rfl) dX4_init_116 clX4_27 isX0 inX0 uwX0 rfl ⟨by omega, by omega⟩ ?_
      refine v_dup (pc := 119) E dX4_init_119 rfl ?_
      refine v_cn (n := 0) (pc := 120) E (n_X0_init (o := nC + 61 + i) (nC := nC + 61 + i + 1) (by omega) (by omega) fup_on) rfl kkX0_init (by decide +kernel : ((RX4 : String), 42, yX0_init, (RX6 : String)) ∈ NWm) dX4_init_120 rfl (Nat.le_of_ble_eq_true rfl) rfl (by decide) (by decide) ⟨by omega, by omega⟩ ?_
      refine v_aast (C := RX0) (Tf := TX0) (N := 2) (ci := 0) (t0 := 1) (o := nC + 2) (o2 := nC + 61 + i) (j := i) (n := 7) (cA := G.2.1 1) (fs := [.int (-1), .int 0]) (f := fun q => if q < i then some (G.2.2 0 + (nC + 61 + q)) else none) (pc := 123) E dX4_init_123 (by omega) (by omega) (by omega) ((fup_off (by omega)).trans ((fup_off (by omega)).trans lp_ar)) fup_on rfl rfl rfl (by omega) (by decide) ?_
      refine v_iinc_1 (pc := 124) E dX4_init_124 (nI_1 _) rfl ?_
      refine v_goto (pc := 127) (tgt := 105) E dX4_init_127 (by decide) ?_
      refine v_cnt (n2 := nC + 61 + (i + 1)) (by omega) ?_
      refine v_widen (c1 := 61 + (i + 1)) (s1 := 544 + 2 * (i + 1)) (by omega) (by omega) ?_
      refine v_eq (F' := sh3 G F o nC (i + 1)) ?_ (ih (i + 1) (by omega))
      rw [fup_f]; exact lp_s (by omega)
  have L2 : ∀ (k i : Nat), i + k = 40 → V X G (QN X G (nC + 68) (sh3 G F o nC 7) 68 558) 78 [some (.ref (G.2.2 0 + o)), some (.int (nI i))] [] (nC + 21 + i) (sh2 G F o nC i) (21 + i) (144 + 10 * i) := by
    intro k
    induction k with
    | zero =>
      intro i hi
      obtain rfl : i = 40 := by omega
      refine v_iload_1 (pc := 78) E dX4_init_78 ?_
      refine v_bipush (v := nI 40) (pc := 79) E dX4_init_79 (by decide) ?_
      refine v_icmp_ge (pc := 81) (tgt := 103) E dX4_init_81 (by decide) (fun h81 => ?_) (fun h81 => absurd (Int32.le_refl _) h81)
      refine v_iconst (v := nI 0) (pc := 103) E dX4_init_103 (by decide) ?_
      refine v_istore_1 (pc := 104) E dX4_init_104 rfl ?_
      refine v_cnt (n2 := nC + 61 + 0) (by omega) ?_
      refine v_widen (c1 := 61 + 0) (s1 := 544 + 2 * 0) (by omega) (by omega) ?_
      refine v_eq (F' := sh3 G F o nC 0) (lp_0 ((lp_o (by omega) (Or.inl (by omega))).trans ((lp_o (by omega) (Or.inl (by omega))).trans (by unfold shB; repeat (first | exact fup_on | refine (fup_off (by omega)).trans ?_ | exact rfl))))) (L3 7 0 (by omega))
    | succ k ih =>
      intro i hi
      refine v_iload_1 (pc := 78) E dX4_init_78 ?_
      refine v_bipush (v := nI 40) (pc := 79) E dX4_init_79 (by decide) ?_
      refine v_icmp_ge (pc := 81) (tgt := 103) E dX4_init_81 (by decide) (fun h81 => absurd h81 (nI_ge (by omega) (by decide))) (fun h81 => ?_)
      refine v_aload_0 (pc := 84) E dX4_init_84 ?_
      refine v_get (o := o) (fs := [.int 0, .int (nI 400), .int 0, .int 0, .int 0, .ref (G.2.2 0 + nC), .ref (G.2.2 0 + (nC + 1)), .ref (G.2.2 0 + (nC + 2)), .ref (G.2.2 0 + (nC + 3))]) (pc := 85) E dX4_init_85 fiX4_23 (by omega) (sh2_o ho) rfl ?_
      refine v_iload_1 (pc := 88) E dX4_init_88 ?_
      refine v_new (C := RX5) (Tf := TX5) (N := 10) (ci := 5) (fs := [.int 0, .int 0, .int 0, .int 0, .int 0, .int 0, .int 0, .int 0, .int 0, .int 0]) (pc := 89) E tyX5 tyX5_ok (fun j hj => match j, hj with | 0, _ => rfl | 1, _ => rfl | 2, _ => rfl | 3, _ => rfl | 4, _ => rfl | 5, _ => rfl | 6, _ => rfl | 7, _ => rfl | 8, _ => rfl | 9, _ => rfl) dX4_init_89 clX4_21 isX5 inX5 uwX5 rfl ⟨by omega, by omega⟩ ?_
      refine v_dup (pc := 92) E dX4_init_92 rfl ?_
      refine v_cn (n := 0) (pc := 93) E (n_X5_init) rfl kkX5_init (by decide +kernel : ((RX4 : String), 41, yX5_init, (RX6 : String)) ∈ NWm) dX4_init_93 rfl (Nat.le_of_ble_eq_true rfl) rfl (by decide) (by decide) ⟨by omega, by omega⟩ ?_
      refine v_aast (C := RX5) (Tf := TX5) (N := 10) (ci := 5) (t0 := 4) (o := nC + 1) (o2 := nC + 21 + i) (j := i) (n := 40) (cA := G.2.1 4) (fs := [.int 0, .int 0, .int 0, .int 0, .int 0, .int 0, .int 0, .int 0, .int 0, .int 0]) (f := fun q => if q < i then some (G.2.2 0 + (nC + 21 + q)) else none) (pc := 96) E dX4_init_96 (by omega) (by omega) (by omega) ((fup_off (by omega)).trans lp_ar) fup_on rfl rfl rfl (by omega) (by decide) ?_
      refine v_iinc_1 (pc := 97) E dX4_init_97 (nI_1 _) rfl ?_
      refine v_goto (pc := 100) (tgt := 78) E dX4_init_100 (by decide) ?_
      refine v_cnt (n2 := nC + 21 + (i + 1)) (by omega) ?_
      refine v_widen (c1 := 21 + (i + 1)) (s1 := 144 + 10 * (i + 1)) (by omega) (by omega) ?_
      refine v_eq (F' := sh2 G F o nC (i + 1)) ?_ (ih (i + 1) (by omega))
      exact lp_s (by omega)
  have L1 : ∀ (k i : Nat), i + k = 10 → V X G (QN X G (nC + 68) (sh3 G F o nC 7) 68 558) 51 [some (.ref (G.2.2 0 + o)), some (.int (nI i))] [] (nC + 11 + i) (sh1 G F o nC i) (11 + i) (124 + 2 * i) := by
    intro k
    induction k with
    | zero =>
      intro i hi
      obtain rfl : i = 10 := by omega
      refine v_iload_1 (pc := 51) E dX4_init_51 ?_
      refine v_bipush (v := nI 10) (pc := 52) E dX4_init_52 (by decide) ?_
      refine v_icmp_ge (pc := 54) (tgt := 76) E dX4_init_54 (by decide) (fun h54 => ?_) (fun h54 => absurd (Int32.le_refl _) h54)
      refine v_iconst (v := nI 0) (pc := 76) E dX4_init_76 (by decide) ?_
      refine v_istore_1 (pc := 77) E dX4_init_77 rfl ?_
      refine v_cnt (n2 := nC + 21 + 0) (by omega) ?_
      refine v_widen (c1 := 21 + 0) (s1 := 144 + 10 * 0) (by omega) (by omega) ?_
      refine v_eq (F' := sh2 G F o nC 0) (lp_0 ((lp_o (by omega) (Or.inl (by omega))).trans (by unfold shB; repeat (first | exact fup_on | refine (fup_off (by omega)).trans ?_ | exact rfl)))) (L2 40 0 (by omega))
    | succ k ih =>
      intro i hi
      refine v_iload_1 (pc := 51) E dX4_init_51 ?_
      refine v_bipush (v := nI 10) (pc := 52) E dX4_init_52 (by decide) ?_
      refine v_icmp_ge (pc := 54) (tgt := 76) E dX4_init_54 (by decide) (fun h54 => absurd h54 (nI_ge (by omega) (by decide))) (fun h54 => ?_)
      refine v_aload_0 (pc := 57) E dX4_init_57 ?_
      refine v_get (o := o) (fs := [.int 0, .int (nI 400), .int 0, .int 0, .int 0, .ref (G.2.2 0 + nC), .ref (G.2.2 0 + (nC + 1)), .ref (G.2.2 0 + (nC + 2)), .ref (G.2.2 0 + (nC + 3))]) (pc := 58) E dX4_init_58 fiX4_17 (by omega) (sh1_o ho) rfl ?_
      refine v_iload_1 (pc := 61) E dX4_init_61 ?_
      refine v_new (C := RX1) (Tf := TX1) (N := 2) (ci := 1) (fs := [.int 0, .int 0]) (pc := 62) E tyX1 tyX1_ok (fun j hj => match j, hj with | 0, _ => rfl | 1, _ => rfl) dX4_init_62 clX4_15 isX1 inX1 uwX1 rfl ⟨by omega, by omega⟩ ?_
      refine v_dup (pc := 65) E dX4_init_65 rfl ?_
      refine v_cn (n := 0) (pc := 66) E (n_X1_init) rfl kkX1_init (by decide +kernel : ((RX4 : String), 40, yX1_init, (RX6 : String)) ∈ NWm) dX4_init_66 rfl (Nat.le_of_ble_eq_true rfl) rfl (by decide) (by decide) ⟨by omega, by omega⟩ ?_
      refine v_aast (C := RX1) (Tf := TX1) (N := 2) (ci := 1) (t0 := 2) (o := nC) (o2 := nC + 11 + i) (j := i) (n := 10) (cA := G.2.1 2) (fs := [.int 0, .int 0]) (f := fun q => if q < i then some (G.2.2 0 + (nC + 11 + q)) else none) (pc := 69) E dX4_init_69 (by omega) (by omega) (by omega) ((fup_off (by omega)).trans lp_ar) fup_on rfl rfl rfl (by omega) (by decide) ?_
      refine v_iinc_1 (pc := 70) E dX4_init_70 (nI_1 _) rfl ?_
      refine v_goto (pc := 73) (tgt := 51) E dX4_init_73 (by decide) ?_
      refine v_cnt (n2 := nC + 11 + (i + 1)) (by omega) ?_
      refine v_widen (c1 := 11 + (i + 1)) (s1 := 124 + 2 * (i + 1)) (by omega) (by omega) ?_
      refine v_eq (F' := sh1 G F o nC (i + 1)) ?_ (ih (i + 1) (by omega))
      exact lp_s (by omega)
  refine v_aload_0 (pc := 0) E dX4_init_0 ?_
  refine v_oi (pc := 1) E dX4_init_1 mlX4_3 rfl (Nat.le_of_ble_eq_true rfl) (by decide) ?_
  refine v_aload_0 (pc := 4) E dX4_init_4 ?_
  refine v_sipush (v := nI 400) (pc := 5) E dX4_init_5 (by decide) ?_
  refine v_put (o := o) (fs := [.int 0, .int 0, .int 0, .int 0, .int 0, .null, .null, .null, .null]) (pc := 8) E dX4_init_8 fiX4_11 fqX4_1 rfl rfl (by omega) (by omega) (by repeat (first | exact fup_on | refine (fup_off (by omega)).trans ?_ | exact hF)) (Nat.le_of_ble_eq_true rfl) ?_
  refine v_aload_0 (pc := 11) E dX4_init_11 ?_
  refine v_bipush (v := nI 10) (pc := 12) E dX4_init_12 (by decide) ?_
  refine v_anew (C := RX1) (t0 := 2) (n := 10) (cA := G.2.1 2) (pc := 14) E dX4_init_14 clX4_15 (by decide +kernel) rfl rfl (by decide) ⟨by omega, by omega⟩ ?_
  refine v_putF (o := o) (fs := [.int 0, .int (nI 400), .int 0, .int 0, .int 0, .null, .null, .null, .null]) (pc := 17) E hN rfl dX4_init_17 fiX4_17 fqX4_5 rfl rfl (by omega) (by omega) (by repeat (first | exact fup_on | refine (fup_off (by omega)).trans ?_ | exact rfl)) (Nat.le_of_ble_eq_true rfl) ?_
  refine v_aload_0 (pc := 20) E dX4_init_20 ?_
  refine v_bipush (v := nI 40) (pc := 21) E dX4_init_21 (by decide) ?_
  refine v_anew (C := RX5) (t0 := 4) (n := 40) (cA := G.2.1 4) (pc := 23) E dX4_init_23 clX4_21 (by decide +kernel) rfl rfl (by decide) ⟨by omega, by omega⟩ ?_
  refine v_putF (o := o) (fs := [.int 0, .int (nI 400), .int 0, .int 0, .int 0, .ref (G.2.2 0 + nC), .null, .null, .null]) (pc := 26) E hN rfl dX4_init_26 fiX4_23 fqX4_6 rfl rfl (by omega) (by omega) (by repeat (first | exact fup_on | refine (fup_off (by omega)).trans ?_ | exact rfl)) (Nat.le_of_ble_eq_true rfl) ?_
  refine v_aload_0 (pc := 29) E dX4_init_29 ?_
  refine v_bipush (v := nI 7) (pc := 30) E dX4_init_30 (by decide) ?_
  refine v_anew (C := RX0) (t0 := 1) (n := 7) (cA := G.2.1 1) (pc := 32) E dX4_init_32 clX4_27 (by decide +kernel) rfl rfl (by decide) ⟨by omega, by omega⟩ ?_
  refine v_putF (o := o) (fs := [.int 0, .int (nI 400), .int 0, .int 0, .int 0, .ref (G.2.2 0 + nC), .ref (G.2.2 0 + (nC + 1)), .null, .null]) (pc := 35) E hN rfl dX4_init_35 fiX4_29 fqX4_7 rfl rfl (by omega) (by omega) (by repeat (first | exact fup_on | refine (fup_off (by omega)).trans ?_ | exact rfl)) (Nat.le_of_ble_eq_true rfl) ?_
  refine v_aload_0 (pc := 38) E dX4_init_38 ?_
  refine v_new (C := RX2) (Tf := TX2) (N := 1) (ci := 2) (fs := [.null]) (pc := 39) E tyX2 tyX2_ok (fun j hj => match j, hj with | 0, _ => rfl) dX4_init_39 clX4_33 isX2 inX2 uwX2 rfl ⟨by omega, by omega⟩ ?_
  refine v_dup (pc := 42) E dX4_init_42 rfl ?_
  refine v_cn (n := 0) (pc := 43) E (n_X2_init (o := nC + 1 + 1 + 1) (nC := nC + 1 + 1 + 1 + 1) (by omega) (by omega) fup_on) rfl kkX2_init (by decide +kernel : ((RX4 : String), 35, yX2_init, (RX6 : String)) ∈ NWm) dX4_init_43 rfl (Nat.le_of_ble_eq_true rfl) rfl (by decide) (by decide) ⟨by omega, by omega⟩ ?_
  refine v_putF (o := o) (fs := [.int 0, .int (nI 400), .int 0, .int 0, .int 0, .ref (G.2.2 0 + nC), .ref (G.2.2 0 + (nC + 1)), .ref (G.2.2 0 + (nC + 1 + 1)), .null]) (pc := 46) E hN rfl dX4_init_46 fiX4_36 fqX4_8 rfl rfl (by omega) (by omega) (by unfold rkF; repeat (first | exact fup_on | refine (fup_off (by omega)).trans ?_ | exact rfl)) (Nat.le_of_ble_eq_true rfl) ?_
  refine v_iconst (v := nI 0) (pc := 49) E dX4_init_49 (by decide) ?_
  refine v_istore_1 (pc := 50) E dX4_init_50 rfl ?_
  refine v_cnt (n2 := nC + 11 + 0) (by omega) ?_
  refine v_widen (c1 := 11 + 0) (s1 := 124 + 2 * 0) (by omega) (by omega) ?_
  refine v_F (F' := shB G F o nC) (fun j hj => ?_) ?_
  · rcases (show j = o ∨ j = nC ∨ j = nC + 1 ∨ j = nC + 2 ∨ j = nC + 3 ∨ j = nC + 4 ∨ j = nC + 5 ∨ j = nC + 6 ∨ j = nC + 7 ∨ j = nC + 8 ∨ j = nC + 9 ∨ j = nC + 10 ∨ (¬ j = o ∧ ¬ j = nC ∧ ¬ j = nC + 1 ∧ ¬ j = nC + 2 ∧ ¬ j = nC + 3 ∧ ¬ j = nC + 4 ∧ ¬ j = nC + 5 ∧ ¬ j = nC + 6 ∧ ¬ j = nC + 7 ∧ ¬ j = nC + 8 ∧ ¬ j = nC + 9 ∧ ¬ j = nC + 10) by omega) with e | e | e | e | e | e | e | e | e | e | e | e | e
    · rw [e]; exact VE.of (@Eq.trans _ _ (shO G nC) _ (by unfold rkF; repeat (first | exact fup_on | refine (fup_off (by omega)).trans ?_ | exact rfl)) (Eq.symm (by unfold shB rkF; repeat (first | exact fup_on | refine (fup_off (by omega)).trans ?_ | exact rfl))))
    · rw [e]; exact VE.of (@Eq.trans _ _ (rfA (G.2.1 2) 10 (fun _ => none)) _ (by unfold rkF; repeat (first | exact fup_on | refine (fup_off (by omega)).trans ?_ | exact rfl)) (Eq.symm (by unfold shB rkF; repeat (first | exact fup_on | refine (fup_off (by omega)).trans ?_ | exact rfl))))
    · rw [e]; exact VE.of (@Eq.trans _ _ (rfA (G.2.1 4) 40 (fun _ => none)) _ (by unfold rkF; repeat (first | exact fup_on | refine (fup_off (by omega)).trans ?_ | exact rfl)) (Eq.symm (by unfold shB rkF; repeat (first | exact fup_on | refine (fup_off (by omega)).trans ?_ | exact rfl))))
    · rw [e]; exact VE.of (@Eq.trans _ _ (rfA (G.2.1 1) 7 (fun _ => none)) _ (by unfold rkF; repeat (first | exact fup_on | refine (fup_off (by omega)).trans ?_ | exact rfl)) (Eq.symm (by unfold shB rkF; repeat (first | exact fup_on | refine (fup_off (by omega)).trans ?_ | exact rfl))))
    · rw [e]; exact VE.of (@Eq.trans _ _ (.inr (2, [.ref (G.2.2 0 + (nC + 4))])) _ (by unfold rkF; repeat (first | exact fup_on | refine (fup_off (by omega)).trans ?_ | exact rfl)) (Eq.symm (by unfold shB rkF; repeat (first | exact fup_on | refine (fup_off (by omega)).trans ?_ | exact rfl))))
    · rw [e]; exact VE.of (@Eq.trans _ _ (rfA (G.2.1 3) 3 (fun j => some (G.2.2 0 + (nC + 4 + 1 + 2 * j)))) _ (by unfold rkF; repeat (first | exact fup_on | refine (fup_off (by omega)).trans ?_ | exact rfl)) (Eq.symm (by unfold shB rkF; repeat (first | exact fup_on | refine (fup_off (by omega)).trans ?_ | exact rfl))))
    · rw [e]; exact VE.of (@Eq.trans _ _ (.inr (3, [.ref (G.2.2 0 + (nC + 6))])) _ (by unfold rkF; repeat (first | exact fup_on | refine (fup_off (by omega)).trans ?_ | exact rfl)) (Eq.symm (by unfold shB rkF; repeat (first | exact fup_on | refine (fup_off (by omega)).trans ?_ | exact rfl))))
    · rw [e]; exact VE.of (@Eq.trans _ _ (inA (G.2.1 0) 10 (fun _ => -1)) _ (by unfold rkF; repeat (first | exact fup_on | refine (fup_off (by omega)).trans ?_ | exact rfl)) (Eq.symm (by unfold shB rkF; repeat (first | exact fup_on | refine (fup_off (by omega)).trans ?_ | exact rfl))))
    · rw [e]; exact VE.of (@Eq.trans _ _ (.inr (3, [.ref (G.2.2 0 + (nC + 8))])) _ (by unfold rkF; repeat (first | exact fup_on | refine (fup_off (by omega)).trans ?_ | exact rfl)) (Eq.symm (by unfold shB rkF; repeat (first | exact fup_on | refine (fup_off (by omega)).trans ?_ | exact rfl))))
    · rw [e]; exact VE.of (@Eq.trans _ _ (inA (G.2.1 0) 20 (fun _ => -1)) _ (by unfold rkF; repeat (first | exact fup_on | refine (fup_off (by omega)).trans ?_ | exact rfl)) (Eq.symm (by unfold shB rkF; repeat (first | exact fup_on | refine (fup_off (by omega)).trans ?_ | exact rfl))))
    · rw [e]; exact VE.of (@Eq.trans _ _ (.inr (3, [.ref (G.2.2 0 + (nC + 10))])) _ (by unfold rkF; repeat (first | exact fup_on | refine (fup_off (by omega)).trans ?_ | exact rfl)) (Eq.symm (by unfold shB rkF; repeat (first | exact fup_on | refine (fup_off (by omega)).trans ?_ | exact rfl))))
    · rw [e]; exact VE.of (@Eq.trans _ _ (inA (G.2.1 0) 30 (fun _ => -1)) _ (by unfold rkF; repeat (first | exact fup_on | refine (fup_off (by omega)).trans ?_ | exact rfl)) (Eq.symm (by unfold shB rkF; repeat (first | exact fup_on | refine (fup_off (by omega)).trans ?_ | exact rfl))))
    · exact VE.of (@Eq.trans _ _ (F j) _ (by unfold rkF; repeat (first | exact fup_on | refine (fup_off (by omega)).trans ?_ | exact rfl)) (Eq.symm (by unfold shB rkF; repeat (first | exact fup_on | refine (fup_off (by omega)).trans ?_ | exact rfl))))
  refine v_eq (F' := sh1 G F o nC 0) (lp_0 (by unfold shB; repeat (first | exact fup_on | refine (fup_off (by omega)).trans ?_ | exact rfl))) (L1 10 0 (by omega))

