/-! the constructors -/
section VQ
variable {X : PX} {G : GT} {Q : State → Prop} {pc : Nat} {lv : List (Option Value)} {st : List Value} {nC : Nat} {F : Nat → va_E} {cells slots : Nat}
theorem v_eq {F' : Nat → va_E} (h : F = F') (k : V X G Q pc lv st nC F' cells slots) : V X G Q pc lv st nC F cells slots := h ▸ k
end VQ
theorem fup_f {F : Nat → va_E} {a : Nat} {x y : va_E} : fup (fup F a x) a y = fup F a y := by
  funext j
  unfold fup
  by_cases e : j = a
  · rw [if_pos e, if_pos e]
  · rw [if_neg e, if_neg e, if_neg e]
theorem fup_c {F : Nat → va_E} {a b : Nat} {x y : va_E} (h : ¬ a = b) : fup (fup F a x) b y = fup (fup F b y) a x := by
  funext j
  unfold fup
  by_cases e : j = b
  · rw [if_pos e, if_neg (fun z => h (z.symm.trans e)), if_pos e]
  · rw [if_neg e]
    by_cases e2 : j = a
    · rw [if_pos e2, if_pos e2]
    · rw [if_neg e2, if_neg e2, if_neg e]
abbrev rfA (cA : ClassId) (n : Nat) (f : Nat → Option Nat) : va_E := .inl (cA, (n, .inr (.inr (.inr (.inr f)))))
abbrev inA (cA : ClassId) (n : Nat) (f : Nat → Int32) : va_E := .inl (cA, (n, .inl f))

theorem fqX0_0 : Fq TX0 2 0 false (.int) := ⟨⟨tyX0, tyX0_ok⟩, nmX0, rfl, by decide +kernel⟩

theorem fqX2_0 : Fq TX2 1 0 true (.array (.object "PawnRack$Shelf")) := ⟨⟨tyX2, tyX2_ok⟩, nmX2, rfl, by decide +kernel⟩

theorem fqX3_0 : Fq TX3 1 0 true (.array .int) := ⟨⟨tyX3, tyX3_ok⟩, nmX3, rfl, by decide +kernel⟩

theorem fqX4_1 : Fq TX4 9 1 false (.int) := ⟨⟨tyX4, tyX4_ok⟩, nmX4, rfl, by decide +kernel⟩

theorem fqX4_5 : Fq TX4 9 5 true (.array (.object "PawnRack$Customer")) := ⟨⟨tyX4, tyX4_ok⟩, nmX4, rfl, by decide +kernel⟩

theorem fqX4_6 : Fq TX4 9 6 true (.array (.object "PawnRack$Ticket")) := ⟨⟨tyX4, tyX4_ok⟩, nmX4, rfl, by decide +kernel⟩

theorem fqX4_7 : Fq TX4 9 7 true (.array (.object "PawnRack$Buyer")) := ⟨⟨tyX4, tyX4_ok⟩, nmX4, rfl, by decide +kernel⟩

theorem fqX4_8 : Fq TX4 9 8 true (.object "PawnRack$Rack") := ⟨⟨tyX4, tyX4_ok⟩, nmX4, rfl, by decide +kernel⟩

theorem fqX6_0 : Fq TX6 3 0 true (.object "PawnRack$Shop") := ⟨⟨tyX6, tyX6_ok⟩, nmX6, rfl, by decide +kernel⟩

theorem fqX6_1 : Fq TX6 3 1 true (.object "PawnRack$Shop") := ⟨⟨tyX6, tyX6_ok⟩, nmX6, rfl, by decide +kernel⟩

theorem fqX6_2 : Fq TX6 3 2 true (.array .int) := ⟨⟨tyX6, tyX6_ok⟩, nmX6, rfl, by decide +kernel⟩

theorem fqX7_1 : Fq TX7 9 1 false (.int) := ⟨⟨tyX7, tyX7_ok⟩, nmX7, rfl, by decide +kernel⟩

theorem fqX7_4 : Fq TX7 9 4 true (.array .int) := ⟨⟨tyX7, tyX7_ok⟩, nmX7, rfl, by decide +kernel⟩

theorem fqX7_5 : Fq TX7 9 5 true (.array .int) := ⟨⟨tyX7, tyX7_ok⟩, nmX7, rfl, by decide +kernel⟩

theorem fqX7_6 : Fq TX7 9 6 true (.array .int) := ⟨⟨tyX7, tyX7_ok⟩, nmX7, rfl, by decide +kernel⟩

theorem fqX7_7 : Fq TX7 9 7 true (.array .int) := ⟨⟨tyX7, tyX7_ok⟩, nmX7, rfl, by decide +kernel⟩

theorem fqX7_8 : Fq TX7 9 8 true (.object "PawnRackModel") := ⟨⟨tyX7, tyX7_ok⟩, nmX7, rfl, by decide +kernel⟩

theorem fqX8_2 : Fq TX8 6 2 true (.array .int) := ⟨⟨tyX8, tyX8_ok⟩, nmX8, rfl, by decide +kernel⟩

theorem fqX8_3 : Fq TX8 6 3 true (.array .int) := ⟨⟨tyX8, tyX8_ok⟩, nmX8, rfl, by decide +kernel⟩

theorem fqX8_4 : Fq TX8 6 4 true (.object "PawnRackModel$State") := ⟨⟨tyX8, tyX8_ok⟩, nmX8, rfl, by decide +kernel⟩

theorem fqX8_5 : Fq TX8 6 5 true (.object "PawnRackModel$State") := ⟨⟨tyX8, tyX8_ok⟩, nmX8, rfl, by decide +kernel⟩

theorem kkX0_init : CalI yX0_init cX0_init 1 0 := ⟨rfl, ⟨by decide +kernel, by decide +kernel⟩, by decide +kernel, imX0_init, inX0, cdX0_init⟩

theorem kkX1_init : CalI yX1_init cX1_init 1 0 := ⟨rfl, ⟨by decide +kernel, by decide +kernel⟩, by decide +kernel, imX1_init, inX1, cdX1_init⟩

theorem kkX2_init : CalI yX2_init cX2_init 1 0 := ⟨rfl, ⟨by decide +kernel, by decide +kernel⟩, by decide +kernel, imX2_init, inX2, cdX2_init⟩

theorem kkX3_init : CalI yX3_init cX3_init 3 1 := ⟨rfl, ⟨by decide +kernel, by decide +kernel⟩, by decide +kernel, imX3_init, inX3, cdX3_init⟩

theorem kkX4_init : CalI yX4_init cX4_init 2 0 := ⟨rfl, ⟨by decide +kernel, by decide +kernel⟩, by decide +kernel, imX4_init, inX4, cdX4_init⟩

theorem kkX5_init : CalI yX5_init cX5_init 1 0 := ⟨rfl, ⟨by decide +kernel, by decide +kernel⟩, by decide +kernel, imX5_init, inX5, cdX5_init⟩

theorem kkX6_init : CalI yX6_init cX6_init 1 0 := ⟨rfl, ⟨by decide +kernel, by decide +kernel⟩, by decide +kernel, imX6_init, inX6, cdX6_init⟩

theorem kkX7_init : CalI yX7_init cX7_init 3 1 := ⟨rfl, ⟨by decide +kernel, by decide +kernel⟩, by decide +kernel, imX7_init, inX7, cdX7_init⟩

theorem kkX8_init : CalI yX8_init cX8_init 1 0 := ⟨rfl, ⟨by decide +kernel, by decide +kernel⟩, by decide +kernel, imX8_init, inX8, cdX8_init⟩

set_option maxRecDepth 100000 in
set_option maxHeartbeats 4000000 in
theorem n_X1_init {G : GT} {b nC : Nat} {F : Nat → va_E} : CN G yX1_init cX1_init 1 1 0 0 [.ref b] nC F (nC) (F) := by
  refine CN.mk (own := RX1) (by decide +kernel) rfl rfl rfl (Nat.le_of_ble_eq_true rfl) (lv0 := [some (.ref b)]) rfl (fun X E hN => ?_)
  refine v_aload_0 (pc := 0) E dX1_init_0 ?_
  refine v_oi (pc := 1) E dX1_init_1 mlX1_1 rfl (Nat.le_of_ble_eq_true rfl) (by decide) ?_
  exact v_ret (pc := 4) E dX1_init_4

set_option maxRecDepth 100000 in
set_option maxHeartbeats 4000000 in
theorem n_X5_init {G : GT} {b nC : Nat} {F : Nat → va_E} : CN G yX5_init cX5_init 1 1 0 0 [.ref b] nC F (nC) (F) := by
  refine CN.mk (own := RX5) (by decide +kernel) rfl rfl rfl (Nat.le_of_ble_eq_true rfl) (lv0 := [some (.ref b)]) rfl (fun X E hN => ?_)
  refine v_aload_0 (pc := 0) E dX5_init_0 ?_
  refine v_oi (pc := 1) E dX5_init_1 mlX5_3 rfl (Nat.le_of_ble_eq_true rfl) (by decide) ?_
  exact v_ret (pc := 4) E dX5_init_4

set_option maxRecDepth 100000 in
set_option maxHeartbeats 4000000 in
theorem n_X0_init {G : GT} {o nC : Nat} {F : Nat → va_E} {a b : Int32} (ho : o < nC) (h154 : nC ≤ 154) (hF : F o = .inr (0, [.int a, .int b])) : CN G yX0_init cX0_init 1 1 0 0 [.ref (G.2.2 0 + o)] nC F (nC) (fup F o (.inr (0, [.int (-1), .int b]))) := by
  refine CN.mk (own := RX0) (by decide +kernel) rfl rfl rfl (Nat.le_of_ble_eq_true rfl) (lv0 := [some (.ref (G.2.2 0 + o))]) rfl (fun X E hN => ?_)
  refine v_aload_0 (pc := 0) E dX0_init_0 ?_
  refine v_oi (pc := 1) E dX0_init_1 mlX0_3 rfl (Nat.le_of_ble_eq_true rfl) (by decide) ?_
  refine v_aload_0 (pc := 4) E dX0_init_4 ?_
  refine v_iconst (v := -1) (pc := 5) E dX0_init_5 (by decide) ?_
  refine v_put (o := o) (pc := 6) E dX0_init_6 fiX0_9 fqX0_0 rfl rfl ho h154 hF (Nat.le_of_ble_eq_true rfl) ?_
  exact v_ret (pc := 9) E dX0_init_9

theorem m1_s (i : Nat) : upd (fun j => if j < i then (-1 : Int32) else 0) i (-1) = (fun j => if j < i + 1 then (-1 : Int32) else 0) := by
  funext j
  show (if j = i then (-1 : Int32) else if j < i then -1 else 0) = if j < i + 1 then -1 else 0
  by_cases e : j = i
  · rw [if_pos e, if_pos (by omega)]
  · rw [if_neg e]
    by_cases f : j < i
    · rw [if_pos f, if_pos (by omega)]
    · rw [if_neg f, if_neg (by omega)]

def x3L (G : GT) (F : Nat → va_E) (o nC L i : Nat) : Nat → va_E := fup (fup F o (.inr (3, [.ref (G.2.2 0 + nC)]))) nC (inA (G.2.1 0) L (fun j => if j < i then -1 else 0))

set_option maxRecDepth 100000 in
set_option maxHeartbeats 4000000 in
theorem n_X3_init {G : GT} {o nC L : Nat} {F : Nat → va_E} (ho : o < nC) (hC : nC + 1 ≤ 154) (hL : L ≤ 30) (hF : F o = .inr (3, [.null])) : CN G yX3_init cX3_init 3 1 1 L [.ref (G.2.2 0 + o), .int (nI L)] nC F (nC + 1) (fup (fup F o (.inr (3, [.ref (G.2.2 0 + nC)]))) nC (inA (G.2.1 0) L (fun _ => -1))) := by
  refine CN.mk (own := RX3) (by decide +kernel) rfl rfl rfl (Nat.le_of_ble_eq_true rfl) (lv0 := [some (.ref (G.2.2 0 + o)), some (.int (nI L)), none]) rfl (fun X E hN => ?_)
  refine v_aload_0 (pc := 0) E dX3_init_0 ?_
  refine v_oi (pc := 1) E dX3_init_1 mlX3_3 rfl (Nat.le_of_ble_eq_true rfl) (by decide) ?_
  refine v_aload_0 (pc := 4) E dX3_init_4 ?_
  refine v_iload_1 (pc := 5) E dX3_init_5 ?_
  refine v_newi (n := L) (pc := 6) E dX3_init_6 rfl (by omega) ⟨by omega, by omega⟩ ?_
  refine v_putF (o := o) (pc := 8) E hN rfl dX3_init_8 fiX3_9 fqX3_0 rfl rfl (by omega) (by omega) ((fup_off (by omega)).trans hF) (Nat.le_of_ble_eq_true rfl) ?_
  refine v_iconst (v := nI 0) (pc := 11) E dX3_init_11 (by decide) ?_
  refine v_istore_2 (pc := 12) E dX3_init_12 rfl ?_
  refine v_eq (F' := x3L G F o nC L 0) ?_ ?_
  · unfold x3L; rw [fup_c (by omega)]; simp only [Nat.not_lt_zero, if_false]; rfl
  have L13 : ∀ (k i : Nat), i + k = L → V X G (QN X G (nC + 1) (fup (fup F o (.inr (3, [.ref (G.2.2 0 + nC)]))) nC (inA (G.2.1 0) L (fun _ => -1))) 1 L) 13 [some (.ref (G.2.2 0 + o)), some (.int (nI L)), some (.int (nI i))] [] (nC + 1) (x3L G F o nC L i) (0 + 1) (0 + L) := by
    intro k
    induction k with
    | zero =>
      intro i hi
      obtain rfl : i = L := by omega
      refine v_iload_2 (pc := 13) E dX3_init_13 ?_
      refine v_iload_1 (pc := 14) E dX3_init_14 ?_
      refine v_icmp_ge (pc := 15) (tgt := 31) E dX3_init_15 (by decide) (fun h15 => ?_) (fun h15 => absurd (Int32.le_refl _) h15)
      refine v_widen (c1 := 1) (s1 := i) (by omega) (by omega) ?_
      refine v_F (F' := fup (fup F o (.inr (3, [.ref (G.2.2 0 + nC)]))) nC (inA (G.2.1 0) i (fun _ => -1))) (fun j hj => ?_) ?_
      · unfold x3L fup
        by_cases e : j = nC
        · rw [if_pos e, if_pos e]
          exact VE.ari (fun q hq => if_pos hq)
        · rw [if_neg e, if_neg e]
          exact VE.rf _
      exact v_ret (pc := 31) E dX3_init_31
    | succ k ih =>
      intro i hi
      refine v_iload_2 (pc := 13) E dX3_init_13 ?_
      refine v_iload_1 (pc := 14) E dX3_init_14 ?_
      refine v_icmp_ge (pc := 15) (tgt := 31) E dX3_init_15 (by decide) (fun h15 => absurd h15 (nI_ge (by omega) (n31 (by omega)))) (fun h15 => ?_)
      refine v_aload_0 (pc := 18) E dX3_init_18 ?_
      refine v_get (o := o) (pc := 19) E dX3_init_19 fiX3_9 (by omega) ((fup_off (by omega)).trans fup_on) rfl ?_
      refine v_iload_2 (pc := 22) E dX3_init_22 ?_
      refine v_iconst (v := -1) (pc := 23) E dX3_init_23 (by decide) ?_
      refine v_iast (o := nC) (j := i) (n := L) (pc := 24) E dX3_init_24 (by omega) hC fup_on rfl (by omega) (by omega) ?_
      refine v_iinc_2 (pc := 25) E dX3_init_25 (nI_1 _) rfl ?_
      refine v_goto (pc := 28) (tgt := 13) E dX3_init_28 (by decide) ?_
      refine v_eq (F' := x3L G F o nC L (i + 1)) ?_ (ih (i + 1) (by omega))
      unfold x3L
      rw [fup_f, m1_s]
  exact L13 L 0 (by omega)

