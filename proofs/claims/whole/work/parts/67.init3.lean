/-! the constructors of the class and of the reference -/
theorem sh3_lo {G : GT} {F : Nat → va_E} {o nC i j : Nat} (hj : j < nC) (ho : ¬ j = o) : sh3 G F o nC i j = F j := (lp_o (by omega) (Or.inl (by omega))).trans ((lp_o (by omega) (Or.inl (by omega))).trans ((lp_o (by omega) (Or.inl (by omega))).trans (by unfold shB rkF; repeat (first | exact fup_on | refine (fup_off (by omega)).trans ?_ | exact rfl))))

def prF (G : GT) (F : Nat → va_E) : Nat → va_E := (fup (fup (fup (sh3 G (fup (fup (sh3 G (fup F 1 (.inr (4, [.int 0, .int 0, .int 0, .int 0, .int 0, .null, .null, .null, .null]))) 1 2 7) 0 (.inr (6, [.ref (G.2.2 0 + 1), .null, .null]))) 70 (.inr (4, [.int 0, .int 0, .int 0, .int 0, .int 0, .null, .null, .null, .null]))) 70 71 7) 0 (.inr (6, [.ref (G.2.2 0 + 1), .ref (G.2.2 0 + 70), .null]))) 139 (inA (G.2.1 0) 40 (fun _ => 0))) 0 (.inr (6, [.ref (G.2.2 0 + 1), .ref (G.2.2 0 + 70), .ref (G.2.2 0 + 139)])))

set_option maxRecDepth 100000 in
set_option maxHeartbeats 4000000 in
theorem n_X6_init {G : GT} {F : Nat → va_E} (hF : F 0 = .inr (6, [.null, .null, .null])) : CN G yX6_init cX6_init 1 4 139 1174 [.ref (G.2.2 0 + 0)] 1 F (140) (prF G F) := by
  refine CN.mk (own := RX6) (by decide +kernel) rfl rfl rfl (Nat.le_of_ble_eq_true rfl) (lv0 := [some (.ref (G.2.2 0 + 0))]) rfl (fun X E hN => ?_)
  refine v_aload_0 (pc := 0) E dX6_init_0 ?_
  refine v_oi (pc := 1) E dX6_init_1 mlX6_1 rfl (Nat.le_of_ble_eq_true rfl) (by decide) ?_
  refine v_aload_0 (pc := 4) E dX6_init_4 ?_
  refine v_new (C := RX4) (Tf := TX4) (N := 9) (ci := 4) (fs := [.int 0, .int 0, .int 0, .int 0, .int 0, .null, .null, .null, .null]) (pc := 5) E tyX4 tyX4_ok (fun j hj => match j, hj with | 0, _ => rfl | 1, _ => rfl | 2, _ => rfl | 3, _ => rfl | 4, _ => rfl | 5, _ => rfl | 6, _ => rfl | 7, _ => rfl | 8, _ => rfl) dX6_init_5 clX6_7 isX4 inX4 uwX4 rfl ⟨by omega, by omega⟩ ?_
  refine v_dup (pc := 8) E dX6_init_8 rfl ?_
  refine v_ci (n := 0) (pc := 9) E (n_X4_init (o := 1) (nC := 2) (by omega) (by omega) fup_on) rfl kkX4_init mlX6_9 dX6_init_9 rfl (Nat.le_of_ble_eq_true rfl) rfl (by decide) (by decide) ⟨by omega, by omega⟩ ?_
  refine v_putF (o := 0) (fs := [.null, .null, .null]) (pc := 12) E hN rfl dX6_init_12 fiX6_10 fqX6_0 rfl rfl (by omega) (by omega) (by repeat (first | exact fup_on | refine (fup_off (by omega)).trans ?_ | refine (sh3_lo (by omega) (by omega)).trans ?_ | exact hF)) (Nat.le_of_ble_eq_true rfl) ?_
  refine v_aload_0 (pc := 15) E dX6_init_15 ?_
  refine v_new (C := RX4) (Tf := TX4) (N := 9) (ci := 4) (fs := [.int 0, .int 0, .int 0, .int 0, .int 0, .null, .null, .null, .null]) (pc := 16) E tyX4 tyX4_ok (fun j hj => match j, hj with | 0, _ => rfl | 1, _ => rfl | 2, _ => rfl | 3, _ => rfl | 4, _ => rfl | 5, _ => rfl | 6, _ => rfl | 7, _ => rfl | 8, _ => rfl) dX6_init_16 clX6_7 isX4 inX4 uwX4 rfl ⟨by omega, by omega⟩ ?_
  refine v_dup (pc := 19) E dX6_init_19 rfl ?_
  refine v_ci (n := 0) (pc := 20) E (n_X4_init (o := 70) (nC := 71) (by omega) (by omega) fup_on) rfl kkX4_init mlX6_9 dX6_init_20 rfl (Nat.le_of_ble_eq_true rfl) rfl (by decide) (by decide) ⟨by omega, by omega⟩ ?_
  refine v_putF (o := 0) (fs := [.ref (G.2.2 0 + 1), .null, .null]) (pc := 23) E hN rfl dX6_init_23 fiX6_16 fqX6_1 rfl rfl (by omega) (by omega) (by repeat (first | exact fup_on | refine (fup_off (by omega)).trans ?_ | refine (sh3_lo (by omega) (by omega)).trans ?_ | exact hF)) (Nat.le_of_ble_eq_true rfl) ?_
  refine v_aload_0 (pc := 26) E dX6_init_26 ?_
  refine v_bipush (v := nI 40) (pc := 27) E dX6_init_27 (by decide) ?_
  refine v_newi (n := 40) (pc := 29) E dX6_init_29 rfl (by omega) ⟨by omega, by omega⟩ ?_
  refine v_putF (o := 0) (fs := [.ref (G.2.2 0 + 1), .ref (G.2.2 0 + 70), .null]) (pc := 31) E hN rfl dX6_init_31 fiX6_19 fqX6_2 rfl rfl (by omega) (by omega) (by repeat (first | exact fup_on | refine (fup_off (by omega)).trans ?_ | refine (sh3_lo (by omega) (by omega)).trans ?_ | exact hF)) (Nat.le_of_ble_eq_true rfl) ?_
  refine v_widen (c1 := 139) (s1 := 1174) (by omega) (by omega) ?_
  exact v_ret (pc := 34) E dX6_init_34

def stF (G : GT) (F : Nat → va_E) (o nC p : Nat) (f : Nat → Int32) : Nat → va_E := fup (fup (fup (fup (fup F o (.inr (7, [.int 0, .int (nI 400), .int 0, .int 0, .ref (G.2.2 0 + nC), .ref (G.2.2 0 + (nC + 1)), .ref (G.2.2 0 + (nC + 2)), .ref (G.2.2 0 + (nC + 3)), .ref p]))) nC (inA (G.2.1 0) 10 (fun _ => 0))) (nC + 1) (inA (G.2.1 0) 10 (fun _ => 0))) (nC + 2) (inA (G.2.1 0) 440 (fun _ => 0))) (nC + 3) (inA (G.2.1 0) 60 f)
theorem stF_lo {G : GT} {F : Nat → va_E} {o nC p j : Nat} {f : Nat → Int32} (hj : j < nC) (ho : ¬ j = o) : stF G F o nC p f j = F j := (by unfold stF; repeat (first | exact fup_on | refine (fup_off (by omega)).trans ?_ | exact rfl))

set_option maxRecDepth 100000 in
set_option maxHeartbeats 4000000 in
theorem n_X7_init {G : GT} {o nC p : Nat} {F : Nat → va_E} (ho : o < nC) (hC : nC + 4 ≤ 154) (hF : F o = .inr (7, [.int 0, .int 0, .int 0, .int 0, .null, .null, .null, .null, .null])) : CN G yX7_init cX7_init 3 1 4 520 [.ref (G.2.2 0 + o), .ref p] nC F (nC + 4) (stF G F o nC p (fun _ => -1)) := by
  refine CN.mk (own := RX7) (by decide +kernel) rfl rfl rfl (Nat.le_of_ble_eq_true rfl) (lv0 := [some (.ref (G.2.2 0 + o)), some (.ref p), none]) rfl (fun X E hN => ?_)
  refine v_aload_0 (pc := 0) E dX7_init_0 ?_
  refine v_aload_1 (pc := 1) E dX7_init_1 ?_
  refine v_putF (o := o) (fs := [.int 0, .int 0, .int 0, .int 0, .null, .null, .null, .null, .null]) (pc := 2) E hN rfl dX7_init_2 fiX7_3 fqX7_8 rfl rfl (by omega) (by omega) hF (Nat.le_of_ble_eq_true rfl) ?_
  refine v_aload_0 (pc := 5) E dX7_init_5 ?_
  refine v_oi (pc := 6) E dX7_init_6 mlX7_9 rfl (Nat.le_of_ble_eq_true rfl) (by decide) ?_
  refine v_aload_0 (pc := 9) E dX7_init_9 ?_
  refine v_sipush (v := nI 400) (pc := 10) E dX7_init_10 (by decide) ?_
  refine v_put (o := o) (fs := [.int 0, .int 0, .int 0, .int 0, .null, .null, .null, .null, .ref p]) (pc := 13) E dX7_init_13 fiX7_15 fqX7_1 rfl rfl (by omega) (by omega) fup_on (Nat.le_of_ble_eq_true rfl) ?_
  refine v_aload_0 (pc := 16) E dX7_init_16 ?_
  refine v_bipush (v := nI 10) (pc := 17) E dX7_init_17 (by decide) ?_
  refine v_newi (n := 10) (pc := 19) E dX7_init_19 rfl (by omega) ⟨by omega, by omega⟩ ?_
  refine v_putF (o := o) (fs := [.int 0, .int (nI 400), .int 0, .int 0, .null, .null, .null, .null, .ref p]) (pc := 21) E hN rfl dX7_init_21 fiX7_19 fqX7_4 rfl rfl (by omega) (by omega) (by repeat (first | exact fup_on | refine (fup_off (by omega)).trans ?_ | exact rfl)) (Nat.le_of_ble_eq_true rfl) ?_
  refine v_aload_0 (pc := 24) E dX7_init_24 ?_
  refine v_bipush (v := nI 10) (pc := 25) E dX7_init_25 (by decide) ?_
  refine v_newi (n := 10) (pc := 27) E dX7_init_27 rfl (by omega) ⟨by omega, by omega⟩ ?_
  refine v_putF (o := o) (fs := [.int 0, .int (nI 400), .int 0, .int 0, .ref (G.2.2 0 + nC), .null, .null, .null, .ref p]) (pc := 29) E hN rfl dX7_init_29 fiX7_23 fqX7_5 rfl rfl (by omega) (by omega) (by repeat (first | exact fup_on | refine (fup_off (by omega)).trans ?_ | exact rfl)) (Nat.le_of_ble_eq_true rfl) ?_
  refine v_aload_0 (pc := 32) E dX7_init_32 ?_
  refine v_sipush (v := nI 440) (pc := 33) E dX7_init_33 (by decide) ?_
  refine v_newi (n := 440) (pc := 36) E dX7_init_36 rfl (by omega) ⟨by omega, by omega⟩ ?_
  refine v_putF (o := o) (fs := [.int 0, .int (nI 400), .int 0, .int 0, .ref (G.2.2 0 + nC), .ref (G.2.2 0 + (nC + 1)), .null, .null, .ref p]) (pc := 38) E hN rfl dX7_init_38 fiX7_26 fqX7_6 rfl rfl (by omega) (by omega) (by repeat (first | exact fup_on | refine (fup_off (by omega)).trans ?_ | exact rfl)) (Nat.le_of_ble_eq_true rfl) ?_
  refine v_aload_0 (pc := 41) E dX7_init_41 ?_
  refine v_bipush (v := nI 60) (pc := 42) E dX7_init_42 (by decide) ?_
  refine v_newi (n := 60) (pc := 44) E dX7_init_44 rfl (by omega) ⟨by omega, by omega⟩ ?_
  refine v_putF (o := o) (fs := [.int 0, .int (nI 400), .int 0, .int 0, .ref (G.2.2 0 + nC), .ref (G.2.2 0 + (nC + 1)), .ref (G.2.2 0 + (nC + 1 + 1)), .null, .ref p]) (pc := 46) E hN rfl dX7_init_46 fiX7_29 fqX7_7 rfl rfl (by omega) (by omega) (by repeat (first | exact fup_on | refine (fup_off (by omega)).trans ?_ | exact rfl)) (Nat.le_of_ble_eq_true rfl) ?_
  refine v_iconst (v := nI 0) (pc := 49) E dX7_init_49 (by decide) ?_
  refine v_istore_2 (pc := 50) E dX7_init_50 rfl ?_
  refine v_cnt (n2 := nC + 4) (by omega) ?_
  refine v_widen (c1 := 4) (s1 := 520) (by omega) (by omega) ?_
  refine v_F (F' := stF G F o nC p (fun j => if j < 0 then -1 else 0)) (fun j hj => ?_) ?_
  · rcases (show j = o ∨ j = nC ∨ j = nC + 1 ∨ j = nC + 2 ∨ j = nC + 3 ∨ (¬ j = o ∧ ¬ j = nC ∧ ¬ j = nC + 1 ∧ ¬ j = nC + 2 ∧ ¬ j = nC + 3) by omega) with e | e | e | e | e | e
    · rw [e]; exact VE.of (@Eq.trans _ _ (.inr (7, [.int 0, .int (nI 400), .int 0, .int 0, .ref (G.2.2 0 + nC), .ref (G.2.2 0 + (nC + 1)), .ref (G.2.2 0 + (nC + 2)), .ref (G.2.2 0 + (nC + 3)), .ref p])) _ (by repeat (first | exact fup_on | refine (fup_off (by omega)).trans ?_ | exact rfl)) (Eq.symm (by unfold stF; repeat (first | exact fup_on | refine (fup_off (by omega)).trans ?_ | exact rfl))))
    · rw [e]; exact VE.of (@Eq.trans _ _ (inA (G.2.1 0) 10 (fun _ => 0)) _ (by repeat (first | exact fup_on | refine (fup_off (by omega)).trans ?_ | exact rfl)) (Eq.symm (by unfold stF; repeat (first | exact fup_on | refine (fup_off (by omega)).trans ?_ | exact rfl))))
    · rw [e]; exact VE.of (@Eq.trans _ _ (inA (G.2.1 0) 10 (fun _ => 0)) _ (by repeat (first | exact fup_on | refine (fup_off (by omega)).trans ?_ | exact rfl)) (Eq.symm (by unfold stF; repeat (first | exact fup_on | refine (fup_off (by omega)).trans ?_ | exact rfl))))
    · rw [e]; exact VE.of (@Eq.trans _ _ (inA (G.2.1 0) 440 (fun _ => 0)) _ (by repeat (first | exact fup_on | refine (fup_off (by omega)).trans ?_ | exact rfl)) (Eq.symm (by unfold stF; repeat (first | exact fup_on | refine (fup_off (by omega)).trans ?_ | exact rfl))))
    · rw [e]; exact VE.tr (b := inA (G.2.1 0) 60 (fun _ => 0)) (VE.of (by repeat (first | exact fup_on | refine (fup_off (by omega)).trans ?_ | exact rfl))) (VE.tr (b := inA (G.2.1 0) 60 (fun j => if j < 0 then -1 else 0)) (VE.ari (fun j hj => (if_neg (Nat.not_lt_zero j)).symm)) (VE.of (Eq.symm (by unfold stF; repeat (first | exact fup_on | refine (fup_off (by omega)).trans ?_ | exact rfl)))))
    · exact VE.of (@Eq.trans _ _ (F j) _ (by repeat (first | exact fup_on | refine (fup_off (by omega)).trans ?_ | exact rfl)) (Eq.symm (by unfold stF; repeat (first | exact fup_on | refine (fup_off (by omega)).trans ?_ | exact rfl))))
  have L51 : ∀ (k i : Nat), i + k = 60 → V X G (QN X G (nC + 4) (stF G F o nC p (fun _ => -1)) 4 520) 51 [some (.ref (G.2.2 0 + o)), some (.ref p), some (.int (nI i))] [] (nC + 4) (stF G F o nC p (fun j => if j < i then -1 else 0)) 4 520 := by
    intro k
    induction k with
    | zero =>
      intro i hi
      obtain rfl : i = 60 := by omega
      refine v_iload_2 (pc := 51) E dX7_init_51 ?_
      refine v_bipush (v := nI 60) (pc := 52) E dX7_init_52 (by decide) ?_
      refine v_icmp_ge (pc := 54) (tgt := 70) E dX7_init_54 (by decide) (fun h54 => ?_) (fun h54 => absurd (Int32.le_refl _) h54)
      refine v_F (F' := stF G F o nC p (fun _ => -1)) (fun j hj => ?_) ?_
      · unfold stF
        by_cases e : j = nC + 3
        · rw [e, fup_on, fup_on]
          exact VE.ari (fun q hq => if_pos hq)
        · rw [fup_off e, fup_off e]
          exact VE.rf _
      exact v_ret (pc := 70) E dX7_init_70
    | succ k ih =>
      intro i hi
      refine v_iload_2 (pc := 51) E dX7_init_51 ?_
      refine v_bipush (v := nI 60) (pc := 52) E dX7_init_52 (by decide) ?_
      refine v_icmp_ge (pc := 54) (tgt := 70) E dX7_init_54 (by decide) (fun h54 => absurd h54 (nI_ge (by omega) (by decide))) (fun h54 => ?_)
      refine v_aload_0 (pc := 57) E dX7_init_57 ?_
      refine v_get (o := o) (fs := [.int 0, .int (nI 400), .int 0, .int 0, .ref (G.2.2 0 + nC), .ref (G.2.2 0 + (nC + 1)), .ref (G.2.2 0 + (nC + 2)), .ref (G.2.2 0 + (nC + 3)), .ref p]) (pc := 58) E dX7_init_58 fiX7_29 (by omega) (by unfold stF; repeat (first | exact fup_on | refine (fup_off (by omega)).trans ?_ | exact rfl)) rfl ?_
      refine v_iload_2 (pc := 61) E dX7_init_61 ?_
      refine v_iconst (v := -1) (pc := 62) E dX7_init_62 (by decide) ?_
      refine v_iast (o := nC + 3) (j := i) (n := 60) (f := fun j => if j < i then -1 else 0) (pc := 63) E dX7_init_63 (by omega) (by omega) fup_on rfl (by omega) (by decide) ?_
      refine v_iinc_2 (pc := 64) E dX7_init_64 (nI_1 _) rfl ?_
      refine v_goto (pc := 67) (tgt := 51) E dX7_init_67 (by decide) ?_
      refine v_eq (F' := stF G F o nC p (fun j => if j < i + 1 then -1 else 0)) ?_ (ih (i + 1) (by omega))
      unfold stF
      rw [fup_f, m1_s]
  exact L51 60 0 (by omega)

def mdF (G : GT) (F : Nat → va_E) : Nat → va_E := (fup (stF G (fup (fup (stF G (fup (fup (fup (fup (fup (fup (fup (fup (fup (fup (fup (fup F 141 (inA (G.2.1 0) 7 (fun _ => 0))) 141 (inA (G.2.1 0) 7 (upd (fun _ => 0) 0 (-1)))) 141 (inA (G.2.1 0) 7 (upd (upd (fun _ => 0) 0 (-1)) 1 (-1)))) 141 (inA (G.2.1 0) 7 (upd (upd (upd (fun _ => 0) 0 (-1)) 1 (-1)) 2 (-1)))) 141 (inA (G.2.1 0) 7 (upd (upd (upd (upd (fun _ => 0) 0 (-1)) 1 (-1)) 2 (-1)) 3 (-1)))) 141 (inA (G.2.1 0) 7 (upd (upd (upd (upd (upd (fun _ => 0) 0 (-1)) 1 (-1)) 2 (-1)) 3 (-1)) 4 (-1)))) 141 (inA (G.2.1 0) 7 (upd (upd (upd (upd (upd (upd (fun _ => 0) 0 (-1)) 1 (-1)) 2 (-1)) 3 (-1)) 4 (-1)) 5 (-1)))) 141 (inA (G.2.1 0) 7 (upd (upd (upd (upd (upd (upd (upd (fun _ => 0) 0 (-1)) 1 (-1)) 2 (-1)) 3 (-1)) 4 (-1)) 5 (-1)) 6 (-1)))) 140 (.inr (8, [.int 0, .int 0, .ref (G.2.2 0 + 141), .null, .null, .null]))) 142 (inA (G.2.1 0) 7 (fun _ => 0))) 140 (.inr (8, [.int 0, .int 0, .ref (G.2.2 0 + 141), .ref (G.2.2 0 + 142), .null, .null]))) 143 (.inr (7, [.int 0, .int 0, .int 0, .int 0, .null, .null, .null, .null, .null]))) 143 144 (G.2.2 0 + 140) (fun _ => -1)) 140 (.inr (8, [.int 0, .int 0, .ref (G.2.2 0 + 141), .ref (G.2.2 0 + 142), .ref (G.2.2 0 + 143), .null]))) 148 (.inr (7, [.int 0, .int 0, .int 0, .int 0, .null, .null, .null, .null, .null]))) 148 149 (G.2.2 0 + 140) (fun _ => -1)) 140 (.inr (8, [.int 0, .int 0, .ref (G.2.2 0 + 141), .ref (G.2.2 0 + 142), .ref (G.2.2 0 + 143), .ref (G.2.2 0 + 148)])))

set_option maxRecDepth 100000 in
set_option maxHeartbeats 4000000 in
theorem n_X8_init {G : GT} {F : Nat → va_E} (hF : F 140 = .inr (8, [.int 0, .int 0, .null, .null, .null, .null])) : CN G yX8_init cX8_init 1 2 12 1072 [.ref (G.2.2 0 + 140)] 141 F (153) (mdF G F) := by
  refine CN.mk (own := RX8) (by decide +kernel) rfl rfl rfl (Nat.le_of_ble_eq_true rfl) (lv0 := [some (.ref (G.2.2 0 + 140))]) rfl (fun X E hN => ?_)
  refine v_aload_0 (pc := 0) E dX8_init_0 ?_
  refine v_oi (pc := 1) E dX8_init_1 mlX8_1 rfl (Nat.le_of_ble_eq_true rfl) (by decide) ?_
  refine v_aload_0 (pc := 4) E dX8_init_4 ?_
  refine v_bipush (v := nI 7) (pc := 5) E dX8_init_5 (by decide) ?_
  refine v_newi (n := 7) (pc := 7) E dX8_init_7 rfl (by omega) ⟨by omega, by omega⟩ ?_
  refine v_dup (pc := 9) E dX8_init_9 rfl ?_
  refine v_iconst (v := nI 0) (pc := 10) E dX8_init_10 (by decide) ?_
  refine v_iconst (v := -1) (pc := 11) E dX8_init_11 (by decide) ?_
  refine v_iast (o := 141) (j := 0) (n := 7) (f := (fun _ => 0)) (pc := 12) E dX8_init_12 (by omega) (by omega) fup_on rfl (by decide) (by decide) ?_
  refine v_dup (pc := 13) E dX8_init_13 rfl ?_
  refine v_iconst (v := nI 1) (pc := 14) E dX8_init_14 (by decide) ?_
  refine v_iconst (v := -1) (pc := 15) E dX8_init_15 (by decide) ?_
  refine v_iast (o := 141) (j := 1) (n := 7) (f := (upd (fun _ => 0) 0 (-1))) (pc := 16) E dX8_init_16 (by omega) (by omega) fup_on rfl (by decide) (by decide) ?_
  refine v_dup (pc := 17) E dX8_init_17 rfl ?_
  refine v_iconst (v := nI 2) (pc := 18) E dX8_init_18 (by decide) ?_
  refine v_iconst (v := -1) (pc := 19) E dX8_init_19 (by decide) ?_
  refine v_iast (o := 141) (j := 2) (n := 7) (f := (upd (upd (fun _ => 0) 0 (-1)) 1 (-1))) (pc := 20) E dX8_init_20 (by omega) (by omega) fup_on rfl (by decide) (by decide) ?_
  refine v_dup (pc := 21) E dX8_init_21 rfl ?_
  refine v_iconst (v := nI 3) (pc := 22) E dX8_init_22 (by decide) ?_
  refine v_iconst (v := -1) (pc := 23) E dX8_init_23 (by decide) ?_
  refine v_iast (o := 141) (j := 3) (n := 7) (f := (upd (upd (upd (fun _ => 0) 0 (-1)) 1 (-1)) 2 (-1))) (pc := 24) E dX8_init_24 (by omega) (by omega) fup_on rfl (by decide) (by decide) ?_
  refine v_dup (pc := 25) E dX8_init_25 rfl ?_
  refine v_iconst (v := nI 4) (pc := 26) E dX8_init_26 (by decide) ?_
  refine v_iconst (v := -1) (pc := 27) E dX8_init_27 (by decide) ?_
  refine v_iast (o := 141) (j := 4) (n := 7) (f := (upd (upd (upd (upd (fun _ => 0) 0 (-1)) 1 (-1)) 2 (-1)) 3 (-1))) (pc := 28) E dX8_init_28 (by omega) (by omega) fup_on rfl (by decide) (by decide) ?_
  refine v_dup (pc := 29) E dX8_init_29 rfl ?_
  refine v_iconst (v := nI 5) (pc := 30) E dX8_init_30 (by decide) ?_
  refine v_iconst (v := -1) (pc := 31) E dX8_init_31 (by decide) ?_
  refine v_iast (o := 141) (j := 5) (n := 7) (f := (upd (upd (upd (upd (upd (fun _ => 0) 0 (-1)) 1 (-1)) 2 (-1)) 3 (-1)) 4 (-1))) (pc := 32) E dX8_init_32 (by omega) (by omega) fup_on rfl (by decide) (by decide) ?_
  refine v_dup (pc := 33) E dX8_init_33 rfl ?_
  refine v_bipush (v := nI 6) (pc := 34) E dX8_init_34 (by decide) ?_
  refine v_iconst (v := -1) (pc := 36) E dX8_init_36 (by decide) ?_
  refine v_iast (o := 141) (j := 6) (n := 7) (f := (upd (upd (upd (upd (upd (upd (fun _ => 0) 0 (-1)) 1 (-1)) 2 (-1)) 3 (-1)) 4 (-1)) 5 (-1))) (pc := 37) E dX8_init_37 (by omega) (by omega) fup_on rfl (by decide) (by decide) ?_
  refine v_putF (o := 140) (fs := [.int 0, .int 0, .null, .null, .null, .null]) (pc := 38) E hN rfl dX8_init_38 fiX8_9 fqX8_2 rfl rfl (by omega) (by omega) (by repeat (first | exact fup_on | refine (fup_off (by omega)).trans ?_ | refine (stF_lo (by omega) (by omega)).trans ?_ | exact hF)) (Nat.le_of_ble_eq_true rfl) ?_
  refine v_aload_0 (pc := 41) E dX8_init_41 ?_
  refine v_bipush (v := nI 7) (pc := 42) E dX8_init_42 (by decide) ?_
  refine v_newi (n := 7) (pc := 44) E dX8_init_44 rfl (by omega) ⟨by omega, by omega⟩ ?_
  refine v_putF (o := 140) (fs := [.int 0, .int 0, .ref (G.2.2 0 + 141), .null, .null, .null]) (pc := 46) E hN rfl dX8_init_46 fiX8_13 fqX8_3 rfl rfl (by omega) (by omega) (by repeat (first | exact fup_on | refine (fup_off (by omega)).trans ?_ | refine (stF_lo (by omega) (by omega)).trans ?_ | exact hF)) (Nat.le_of_ble_eq_true rfl) ?_
  refine v_aload_0 (pc := 49) E dX8_init_49 ?_
  refine v_new (C := RX7) (Tf := TX7) (N := 9) (ci := 7) (fs := [.int 0, .int 0, .int 0, .int 0, .null, .null, .null, .null, .null]) (pc := 50) E tyX7 tyX7_ok (fun j hj => match j, hj with | 0, _ => rfl | 1, _ => rfl | 2, _ => rfl | 3, _ => rfl | 4, _ => rfl | 5, _ => rfl | 6, _ => rfl | 7, _ => rfl | 8, _ => rfl) dX8_init_50 clX8_16 isX7 inX7 uwX7 rfl ⟨by omega, by omega⟩ ?_
  refine v_dup (pc := 53) E dX8_init_53 rfl ?_
  refine v_aload_0 (pc := 54) E dX8_init_54 ?_
  refine v_ci (n := 1) (pc := 55) E (n_X7_init (o := 143) (nC := 144) (p := G.2.2 0 + 140) (by omega) (by omega) fup_on) rfl kkX7_init mlX8_18 dX8_init_55 rfl (Nat.le_of_ble_eq_true rfl) rfl (by decide) (by decide) ⟨by omega, by omega⟩ ?_
  refine v_putF (o := 140) (fs := [.int 0, .int 0, .ref (G.2.2 0 + 141), .ref (G.2.2 0 + 142), .null, .null]) (pc := 58) E hN rfl dX8_init_58 fiX8_21 fqX8_4 rfl rfl (by omega) (by omega) (by repeat (first | exact fup_on | refine (fup_off (by omega)).trans ?_ | refine (stF_lo (by omega) (by omega)).trans ?_ | exact hF)) (Nat.le_of_ble_eq_true rfl) ?_
  refine v_aload_0 (pc := 61) E dX8_init_61 ?_
  refine v_new (C := RX7) (Tf := TX7) (N := 9) (ci := 7) (fs := [.int 0, .int 0, .int 0, .int 0, .null, .null, .null, .null, .null]) (pc := 62) E tyX7 tyX7_ok (fun j hj => match j, hj with | 0, _ => rfl | 1, _ => rfl | 2, _ => rfl | 3, _ => rfl | 4, _ => rfl | 5, _ => rfl | 6, _ => rfl | 7, _ => rfl | 8, _ => rfl) dX8_init_62 clX8_16 isX7 inX7 uwX7 rfl ⟨by omega, by omega⟩ ?_
  refine v_dup (pc := 65) E dX8_init_65 rfl ?_
  refine v_aload_0 (pc := 66) E dX8_init_66 ?_
  refine v_ci (n := 1) (pc := 67) E (n_X7_init (o := 148) (nC := 149) (p := G.2.2 0 + 140) (by omega) (by omega) fup_on) rfl kkX7_init mlX8_18 dX8_init_67 rfl (Nat.le_of_ble_eq_true rfl) rfl (by decide) (by decide) ⟨by omega, by omega⟩ ?_
  refine v_putF (o := 140) (fs := [.int 0, .int 0, .ref (G.2.2 0 + 141), .ref (G.2.2 0 + 142), .ref (G.2.2 0 + 143), .null]) (pc := 70) E hN rfl dX8_init_70 fiX8_25 fqX8_5 rfl rfl (by omega) (by omega) (by repeat (first | exact fup_on | refine (fup_off (by omega)).trans ?_ | refine (stF_lo (by omega) (by omega)).trans ?_ | exact hF)) (Nat.le_of_ble_eq_true rfl) ?_
  refine v_widen (c1 := 12) (s1 := 1072) (by omega) (by omega) ?_
  exact v_ret (pc := 73) E dX8_init_73

