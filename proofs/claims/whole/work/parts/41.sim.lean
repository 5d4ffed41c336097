/-! class and reference side by side: shop s and state s, n tickets, cN customers -/
def SimT (A B : Mem) (s t : Nat) : Prop :=
  A 2 s t 0 = oc B s t 0 ∧ A 2 s t 1 = oc B s t 1 ∧ A 2 s t 2 = oc B s t 2 ∧ A 2 s t 3 = oc B s t 3 ∧ A 2 s t 4 = oc B s t 4 ∧ A 2 s t 5 = oc B s t 10 ∧ A 2 s t 6 = oc B s t 5 ∧ A 2 s t 7 = oc B s t 6 ∧ A 2 s t 8 = oc B s t 8 ∧ A 2 s t 9 = oc B s t 9
/-- what class and reference say alike -/
def SimD (A B : Mem) (s n cN : Nat) : Prop :=
  A 0 s 0 0 = B 6 s 0 0 ∧ A 0 s 0 1 = B 6 s 0 1 ∧ A 0 s 0 2 = B 6 s 0 3 ∧ A 0 s 0 3 = nI cN ∧ A 0 s 0 4 = nI n ∧ B 6 s 0 2 = nI n ∧
  (∀ i, i < cN → A 1 s i 0 = B 7 s 0 i ∧ A 1 s i 1 = B 8 s 0 i) ∧ (∀ t, t < n → SimT A B s t) ∧ (∀ h j, h < 3 → j < 10 * (h + 1) → A 4 s h j = B 10 s 0 (frN h + j))
theorem sim_owed {A B : Mem} {s n cN t : Nat} (h : SimD A B s n cN) (ht : t < n) : debtV A s t (A 0 s 0 0) = owedV B s t := by
  obtain ⟨h0, -, -, -, -, -, -, hT, -⟩ := h
  obtain ⟨-, -, -, -, t4, t5, -, t7, -, -⟩ := hT t ht
  unfold debtV owedV
  rw [h0, t4, t5, t7]
theorem sim_how {A B : Mem} {s n cN : Nat} (h : SimD A B s n cN) (x : Int32) : stN A s n x = howN B s n x := by
  obtain ⟨-, -, -, -, -, -, -, hT, -⟩ := h
  exact fsum_congr (fun t ht => by rw [(hT t ht).2.2.2.2.2.2.2.1])
theorem sim_loan {A B : Mem} {n cN : Nat} (h : SimD A B 0 n cN) : loanN A 0 n = fsum n (fun t => if oc B 0 t 6 = 0 then oc B 0 t 4 else 0) := by
  obtain ⟨-, -, -, -, -, -, -, hT, -⟩ := h
  exact fsum_congr (fun t ht => by
    obtain ⟨-, -, -, -, t4, -, -, t7, -, -⟩ := hT t ht
    rw [t4, t7])
theorem fsum_add (f : Nat → Int32) (m : Nat) : ∀ n, fsum (m + n) f = fsum m f + fsum n (fun j => f (m + j))
  | 0 => (Int32.add_zero _).symm
  | n + 1 => by
    show fsum (m + n) f + f (m + n) = fsum m f + (fsum n (fun j => f (m + j)) + f (m + n))
    rw [fsum_add f m n, Int32.add_assoc]
theorem sim_taken {A B : Mem} {n cN : Nat} (h : SimD A B 0 n cN) : fsum 3 (takenS A 0) = fsum 60 (fun k => b2 (¬ B 10 0 0 k = -1)) := by
  obtain ⟨-, -, -, -, -, -, -, -, hp⟩ := h
  have e : ∀ i, i < 3 → takenS A 0 i = fsum (10 * (i + 1)) (fun j => b2 (¬ B 10 0 0 (frN i + j) = -1)) := fun i hi => fsum_congr (fun j hj => by rw [hp i j hi hj])
  rw [show (60 : Nat) = (10 + 20) + 30 from rfl, fsum_add, fsum_add]
  show 0 + takenS A 0 0 + takenS A 0 1 + takenS A 0 2 = _
  rw [e 0 (by decide), e 1 (by decide), e 2 (by decide), Int32.zero_add]
  have e0 : fsum (10 * (0 + 1)) (fun j => b2 (¬ B 10 0 0 (frN 0 + j) = -1)) = fsum 10 (fun k => b2 (¬ B 10 0 0 k = -1)) := fsum_congr (fun j _ => by rw [show frN 0 + j = j from Nat.zero_add j])
  rw [e0]
  rfl
theorem sim_cnt {A B : Mem} {n cN : Nat} (h : SimD A B 0 n cN) (hc : B 11 0 0 1 = nI cN) : ∀ w, cntV A 0 n w = mcntV B n w := by
  have h2 := h
  obtain ⟨h0, h1, h3, h4, h5, h6, -, -, -⟩ := h2
  intro w
  match w with
  | 0 => exact h0
  | 1 => exact h1
  | 2 => exact h4.trans hc.symm
  | 3 => exact h5.trans h6.symm
  | 4 => exact sim_how h 0
  | 5 => exact sim_how h 1
  | 6 => exact sim_how h 2
  | 7 => exact sim_how h 3
  | 8 => exact sim_taken h
  | 9 => exact sim_loan h
  | _ + 10 => exact h3
theorem sim_cust {A B : Mem} {n cN i : Nat} (h : SimD A B 0 n cN) (hi : i < cN) : ∀ w, custV A 0 n i w = mcustV B n i w := by
  have h2 := h
  obtain ⟨-, -, -, -, -, -, hC, hT, -⟩ := h2
  have hof : ∀ x, ofN A 0 n (nI i) x = fsum n (fun t => b2 (oc B 0 t 0 = nI i ∧ oc B 0 t 6 = x)) := fun x => fsum_congr (fun t ht => by
    obtain ⟨t0, -, -, -, -, -, -, t7, -, -⟩ := hT t ht
    rw [t0, t7])
  intro w
  match w with
  | 0 => exact (hC i hi).1
  | 1 => exact (hC i hi).2
  | 2 => exact hof 0
  | 3 =>
    refine fsum_congr (fun t ht => ?_)
    rw [sim_owed h ht, (hT t ht).1]
    by_cases a : oc B 0 t 0 = nI i
    · by_cases b : oc B 0 t 6 = 0
      · rw [if_pos a, if_pos ⟨a, b⟩]
      · rw [if_pos a, if_neg (fun z => b z.2)]
        exact if_neg b
    · rw [if_neg a, if_neg (fun z => a z.1)]
  | _ + 4 => exact hof 1
theorem sim_best {A B : Mem} {n cN i : Nat} (h : SimD A B 0 n cN) (hi : i < cN) : ∀ k t b g, t + k ≤ n → bestF A 0 i (A 0 0 0 0) k t b g = mbestF B i k t b g
  | 0, _, _, _, _ => rfl
  | k + 1, t, b, g, ht => by
    have h2 := h
    obtain ⟨-, -, -, -, -, -, hC, hT, -⟩ := h2
    obtain ⟨t0, -, t2, -, -, -, -, t7, -, -⟩ := hT t (by omega)
    have ho := sim_owed h (show t < n by omega)
    show (if ((A 2 0 t 7 = 0 ∧ A 2 0 t 0 = nI i) ∧ debtV A 0 t (A 0 0 0 0) ≤ A 1 0 i 0) ∧ (b = -1 ∨ ¬ A 2 0 t 2 - debtV A 0 t (A 0 0 0 0) ≤ g) then bestF A 0 i (A 0 0 0 0) k (t + 1) (nI t) (A 2 0 t 2 - debtV A 0 t (A 0 0 0 0)) else bestF A 0 i (A 0 0 0 0) k (t + 1) b g) = (if (oc B 0 t 0 = nI i ∧ oc B 0 t 6 = 0 ∧ owedV B 0 t ≤ B 7 0 0 i) ∧ (b = -1 ∨ g < oc B 0 t 2 - owedV B 0 t) then mbestF B i k (t + 1) (nI t) (oc B 0 t 2 - owedV B 0 t) else mbestF B i k (t + 1) b g)
    rw [sim_best h hi k (t + 1) _ _ (by omega), sim_best h hi k (t + 1) _ _ (by omega), t0, t2, t7, ho, (hC i hi).1]
    by_cases a : ((oc B 0 t 6 = 0 ∧ oc B 0 t 0 = nI i) ∧ owedV B 0 t ≤ B 7 0 0 i) ∧ (b = -1 ∨ ¬ oc B 0 t 2 - owedV B 0 t ≤ g)
    · rw [if_pos a, if_pos ⟨⟨a.1.1.2, a.1.1.1, a.1.2⟩, a.2.imp id Int32.not_le.mp⟩]
    · rw [if_neg a, if_neg (fun z => a ⟨⟨⟨z.1.2.1, z.1.1⟩, z.1.2.2⟩, z.2.imp id Int32.not_le.mpr⟩)]
/-- numbers: prices and trust -/
theorem mx_comm (x y : Int32) : mx x y = mx y x := by
  unfold mx
  by_cases a : x < y
  · rw [if_pos a, if_neg (fun z => Int32.lt_irrefl (Int32.lt_trans a z))]
  · by_cases b : y < x
    · rw [if_neg a, if_pos b]
    · rw [if_neg a, if_neg b]
      exact Int32.le_antisymm (Int32.not_lt.mp b) (Int32.not_lt.mp a)
theorem tr_down : ∀ q, q ≤ 10 → trV (nI q) (-2) = mx 0 (nI q - 2) := by decide +kernel
theorem tr_up : ∀ q, q ≤ 10 → trV (nI q) 1 = mn 10 (nI q + 1) := by decide +kernel
theorem tr_rng : ∀ q, q ≤ 10 → (∃ p, p ≤ 10 ∧ trV (nI q) (-2) = nI p) ∧ ∃ p, p ≤ 10 ∧ trV (nI q) 1 = nI p := fun q hq => ⟨⟨q - 2, by omega, (by decide +kernel : ∀ q, q ≤ 10 → trV (nI q) (-2) = nI (q - 2)) q hq⟩, ⟨min 10 (q + 1), by omega, (by decide +kernel : ∀ q, q ≤ 10 → trV (nI q) 1 = nI (min 10 (q + 1))) q hq⟩⟩
theorem sim_dear {A B : Mem} {s n cN w : Nat} (h : SimD A B s n cN) (hb : A 3 s w 0 = B 12 0 0 w ∧ A 3 s w 1 = B 13 0 0 w) (hp : ∀ t, t < n → oc B s t 6 = 2 → ∃ p, p ≤ 500 ∧ oc B s t 8 = nI p) : ∀ k t d g b, t + k ≤ n → ((b = none ∧ d = -1 ∧ g = -1) ∨ ∃ q, b = some q ∧ d = nI q ∧ g = oc B s q 8) → dearF A s w k t d g = oI (mdearF B s w k t b)
  | 0, _, _, _, _, _, hr => by
    rcases hr with ⟨rfl, rfl, -⟩ | ⟨q, rfl, rfl, -⟩ <;> rfl
  | k + 1, t, d, g, b, ht, hr => by
    obtain ⟨-, -, -, -, -, -, -, hT, -⟩ := id h
    obtain ⟨-, t1, -, -, -, -, -, t7, t8, -⟩ := hT t (by omega)
    by_cases a : oc B s t 6 = 2 ∧ oc B s t 1 = B 12 0 0 w ∧ oc B s t 8 ≤ B 13 0 0 w
    · have a2 : A 2 s t 7 = 2 ∧ A 2 s t 1 = A 3 s w 0 ∧ A 2 s t 8 ≤ A 3 s w 1 := by rw [t7, t1, t8, hb.1, hb.2]; exact a
      have hg : (¬ A 2 s t 8 ≤ g) ↔ (b = none ∨ oc B s (b.getD 0) 8 < oc B s t 8) := by
        rw [t8]
        rcases hr with ⟨rfl, -, rfl⟩ | ⟨q, rfl, -, rfl⟩
        · obtain ⟨p, hp1, hp2⟩ := hp t (by omega) a.1
          refine ⟨fun _ => Or.inl rfl, fun _ => ?_⟩
          rw [hp2]
          exact fun z => absurd (Int32.le_trans (nI_pos' (n31 (show p ≤ 1000 by omega))) z) (by decide)
        · refine ⟨fun z => Or.inr (Int32.not_le.mp z), fun z => z.elim (fun e => by cases e) (fun y => Int32.not_le.mpr y)⟩
      by_cases c : ¬ A 2 s t 8 ≤ g
      · rw [dear_y a2 c, mdear_y a (hg.mp c)]
        exact sim_dear h hb hp k (t + 1) _ _ _ (by omega) (Or.inr ⟨t, rfl, rfl, t8⟩)
      · rw [dear_n (fun z => c z.2), mdear_n (fun z => c (hg.mpr z.2))]
        exact sim_dear h hb hp k (t + 1) _ _ _ (by omega) hr
    · have a2 : ¬ (A 2 s t 7 = 2 ∧ A 2 s t 1 = A 3 s w 0 ∧ A 2 s t 8 ≤ A 3 s w 1) := by rw [t7, t1, t8, hb.1, hb.2]; exact a
      rw [dear_n (fun z => a2 z.1), mdear_n (fun z => a z.1)]
      exact sim_dear h hb hp k (t + 1) _ _ _ (by omega) hr
/-- gaps: a row seen from another start -/
theorem gap_sh (p : Nat → Int32) (w : Int32) (F : Nat) : ∀ n k f, gapB (fun j => p (F + j)) w F n k f = gapB p w 0 n (F + k) f
  | 0, _, _ => rfl
  | n + 1, k, f => by
    show (if (if p (F + k) = -1 then f + 1 else 0) = w then nI (F + k) - w + 1 else gapB (fun j => p (F + j)) w F n (k + 1) (if p (F + k) = -1 then f + 1 else 0)) = (if (if p (F + k) = -1 then f + 1 else 0) = w then nI (0 + (F + k)) - w + 1 else gapB p w 0 n (F + k + 1) (if p (F + k) = -1 then f + 1 else 0))
    rw [Nat.zero_add, gap_sh p w F n (k + 1)]
    rfl
theorem gapB_congr {p q : Nat → Int32} (w : Int32) (b : Nat) : ∀ n k f, (∀ j, k ≤ j → j < k + n → p j = q j) → gapB p w b n k f = gapB q w b n k f
  | 0, _, _, _ => rfl
  | n + 1, k, f, h => by
    show (if (if p k = -1 then f + 1 else 0) = w then nI (b + k) - w + 1 else gapB p w b n (k + 1) (if p k = -1 then f + 1 else 0)) = (if (if q k = -1 then f + 1 else 0) = w then nI (b + k) - w + 1 else gapB q w b n (k + 1) (if q k = -1 then f + 1 else 0))
    rw [h k (Nat.le_refl k) (by omega), gapB_congr w b n (k + 1) _ (fun j h1 h2 => h j (by omega) (by omega))]
/-- a gap in class and reference: none in both, or at the same place -/
theorem sim_gap {A B : Mem} {s n cN W : Nat} (h : SimD A B s n cN) (hW : 1 ≤ W) (hW2 : W ≤ 100) : ∀ i, i < 3 → (gapS A s i (nI W) = -1 ∧ mgapS B s i (nI W) = -1) ∨ ∃ q, q + W ≤ 10 * (i + 1) ∧ (∀ j, j < W → A 4 s i (q + j) = -1) ∧ gapS A s i (nI W) = nI q ∧ mgapS B s i (nI W) = nI (frN i + q) := fun i hi => by
  obtain ⟨-, -, -, -, -, -, -, -, hp⟩ := id h
  have hf := frN_s hi
  have hf2 := frN_le hi
  have e : mgapS B s i (nI W) = gapB (A 4 s i) (nI W) (frN i) (10 * (i + 1)) 0 0 := by
    unfold mgapS
    rw [show frN i = frN i + 0 from rfl, ← gap_sh (B 10 s 0) (nI W) (frN i)]
    exact gapB_congr _ _ _ _ _ (fun j _ h2 => (hp i j hi (by omega)).symm)
  rcases gap_of (A 4 s i) hW hW2 (n := 10 * (i + 1)) (by omega) with g | ⟨q, g1, g2, g3⟩
  · exact Or.inl ⟨g 0 (by omega), e.trans (g _ (by omega))⟩
  · exact Or.inr ⟨q, g1, g2, (g3 0 (by omega)).trans (by rw [Nat.zero_add]), e.trans (g3 _ (by omega))⟩
theorem sim_spot {A B : Mem} {s n cN W : Nat} (h : SimD A B s n cN) (hW : 1 ≤ W) (hW2 : W ≤ 100) : ∀ k i, i + k = 3 → (spotF A s (nI W) k i = -1 ∧ mgapF B s (nI W) k i = -1) ∨ ∃ g q, g < 3 ∧ q + W ≤ 10 * (g + 1) ∧ (∀ j, j < W → A 4 s g (q + j) = -1) ∧ spotF A s (nI W) k i = nI (100 * g + q) ∧ mgapF B s (nI W) k i = nI (frN g + q)
  | 0, _, _ => Or.inl ⟨rfl, rfl⟩
  | k + 1, i, hi => by
    have e1 : spotF A s (nI W) (k + 1) i = if gapS A s i (nI W) = -1 then spotF A s (nI W) k (i + 1) else 100 * nI i + gapS A s i (nI W) := rfl
    have e2 : mgapF B s (nI W) (k + 1) i = if mgapS B s i (nI W) = -1 then mgapF B s (nI W) k (i + 1) else mgapS B s i (nI W) := rfl
    have hf := frN_s (i := i) (by omega)
    have hf2 := frN_le (i := i) (by omega)
    rcases sim_gap h hW hW2 i (by omega) with ⟨g1, g2⟩ | ⟨q, g1, g2, g3, g4⟩
    · rw [if_pos g1] at e1
      rw [if_pos g2] at e2
      rw [e1, e2]
      exact sim_spot h hW hW2 k (i + 1) (by omega)
    · rw [if_neg (by rw [g3]; exact nI_m1 (by omega))] at e1
      rw [if_neg (by rw [g4]; exact nI_m1 (by omega))] at e2
      refine Or.inr ⟨i, q, by omega, g1, g2, e1.trans ?_, e2.trans g4⟩
      rw [g3, show (100 : Int32) = nI 100 from rfl, pk_mul, nI_add]
theorem shN_fr {g q : Nat} (hg : g < 3) (hq : q < 10 * (g + 1)) : shN (frN g + q) = g := by
  unfold shN
  match g, hg with
  | 0, _ => rw [if_pos (show frN 0 + q < 10 by show 0 + q < 10; omega)]
  | 1, _ => rw [if_neg (show ¬ frN 1 + q < 10 by show ¬ 10 + q < 10; omega), if_pos (show frN 1 + q < 30 by show 10 + q < 30; omega)]
  | 2, _ => rw [if_neg (show ¬ frN 2 + q < 10 by show ¬ 30 + q < 10; omega), if_neg (show ¬ frN 2 + q < 30 by show ¬ 30 + q < 30; omega)]
theorem sim_room {A B : Mem} {n cN W : Nat} (h : SimD A B 0 n cN) (hW : 1 ≤ W) (hW2 : W ≤ 100) : spotF A 0 (nI W) 3 0 = mroomV B W := by
  unfold mroomV
  rcases sim_spot h hW hW2 3 0 rfl with ⟨g1, g2⟩ | ⟨g, q, hg, hq, -, g1, g2⟩
  · rw [g1, if_pos g2]
  · have hf := frN_s hg
    have hf2 := frN_le hg
    rw [g1, if_neg (by rw [g2]; exact nI_m1 (by omega)), g2, nI_clamp (n31 (by omega)), shN_fr hg (by omega), fromN, show (100 : Int32) = nI 100 from rfl, pk_mul, nI_add, pk_sub (by omega)]
    congr 1
    omega
