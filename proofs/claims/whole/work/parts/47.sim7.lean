/-! side by side: where a thing lies, the checksum, what was fetched -/
theorem left_none {p : Nat → Int32} {x : Int32} : ∀ n k, (∀ j, k ≤ j → j < k + n → ¬ p j = x) → leftF p x n k = -1
  | 0, _, _ => rfl
  | n + 1, k, h => (if_neg (h k (Nat.le_refl k) (by omega))).trans (left_none n (k + 1) (fun j h1 h2 => h j (by omega) (by omega)))
theorem left_at {p : Nat → Int32} {x : Int32} {q : Nat} (hq : p q = x) : ∀ n k, k ≤ q → q < k + n → (∀ j, k ≤ j → j < q → ¬ p j = x) → leftF p x n k = nI q
  | 0, k, h1, h2, _ => by omega
  | n + 1, k, h1, h2, h => by
    by_cases e : k = q
    · subst e
      exact if_pos hq
    · exact (if_neg (h k (Nat.le_refl k) (by omega))).trans (left_at hq n (k + 1) (by omega) (by omega) (fun j h1 h2 => h j (by omega) (by omega)))
/-- where the thing of a ticket lies, in class and reference -/
def LieS (A B : Mem) (s t : Nat) : Prop :=
  (oc B s t 7 = -1 ∧ ∀ g j, g < 3 → j < 10 * (g + 1) → ¬ A 4 s g j = nI t) ∨
  ∃ g q W, g < 3 ∧ 1 ≤ W ∧ q + W ≤ 10 * (g + 1) ∧ oc B s t 7 = nI (frN g + q) ∧ ∀ g' j, g' < 3 → j < 10 * (g' + 1) → (A 4 s g' j = nI t ↔ g' = g ∧ q ≤ j ∧ j < q + W)
theorem lie_left {A B : Mem} {s t : Nat} (h : LieS A B s t) : ∀ i, i < 3 → leftS A s i (nI t) = -1 ∨ ∃ q, oc B s t 7 = nI (frN i + q) ∧ q < 10 * (i + 1) ∧ leftS A s i (nI t) = nI q := fun i hi => by
  rcases h with ⟨-, h⟩ | ⟨g, q, W, hg, hW, hq, h7, h⟩
  · exact Or.inl (left_none _ _ (fun j _ h2 => h i j hi (by omega)))
  · by_cases e : i = g
    · subst e
      refine Or.inr ⟨q, h7, by omega, left_at ((h i q hi (by omega)).mpr ⟨rfl, Nat.le_refl q, by omega⟩) _ _ (Nat.zero_le q) (by omega) (fun j _ h2 z => ?_)⟩
      have := ((h i j hi (by omega)).mp z).2.1
      omega
    · exact Or.inl (left_none _ _ (fun j _ h2 z => e ((h i j hi (by omega)).mp z).1))
theorem lie_shelf {A B : Mem} {s t : Nat} (h : LieS A B s t) : ∀ k i, i + k = 3 → (∀ j, j < i → leftS A s j (nI t) = -1) →
    (shelfF A s (nI t) k i = -1 ∧ leftR A s (nI t) k i = -1 ∧ ∀ j, j < 3 → leftS A s j (nI t) = -1) ∨ ∃ g q, g < 3 ∧ q < 10 * (g + 1) ∧ oc B s t 7 = nI (frN g + q) ∧ shelfF A s (nI t) k i = nI g ∧ leftR A s (nI t) k i = nI q
  | 0, i, hi, hb => Or.inl ⟨rfl, rfl, fun j hj => hb j (by omega)⟩
  | k + 1, i, hi, hb => by
    have e1 : shelfF A s (nI t) (k + 1) i = if leftS A s i (nI t) = -1 then shelfF A s (nI t) k (i + 1) else nI i := rfl
    have e2 : leftR A s (nI t) (k + 1) i = if leftS A s i (nI t) = -1 then leftR A s (nI t) k (i + 1) else leftS A s i (nI t) := rfl
    rcases lie_left h i (by omega) with g | ⟨q, g1, g2, g3⟩
    · rw [e1, e2, if_pos g, if_pos g]
      exact lie_shelf h k (i + 1) (by omega) (fun j hj => by
        rcases Nat.lt_or_ge j i with z | z
        · exact hb j z
        · have : j = i := by omega
          rw [this]; exact g)
    · have hn : ¬ leftS A s i (nI t) = -1 := by rw [g3]; exact nI_m1 (by omega)
      exact Or.inr ⟨i, q, by omega, g2, g1, e1.trans (if_neg hn), e2.trans ((if_neg hn).trans g3)⟩
theorem sim_tick {A B : Mem} {n cN t : Nat} (h : SimD A B 0 n cN) (ht : t < n) (hl : LieS A B 0 t) : ∀ w, w < 11 → tickV A 0 t w = mtickV B t w := by
  obtain ⟨-, -, -, -, -, -, -, hT, -⟩ := h
  obtain ⟨t0, t1, t2, t3, t4, t5, t6, t7, t8, t9⟩ := hT t ht
  have hs := lie_shelf hl 3 0 rfl (fun j hj => by omega)
  have hfirst : (shelfF A 0 (nI t) 3 0 = -1 ∧ leftR A 0 (nI t) 3 0 = -1 ∧ oc B 0 t 7 = -1) ∨ ∃ g q, g < 3 ∧ q < 10 * (g + 1) ∧ oc B 0 t 7 = nI (frN g + q) ∧ shelfF A 0 (nI t) 3 0 = nI g ∧ leftR A 0 (nI t) 3 0 = nI q := by
    rcases hs with ⟨s1, s2, s3⟩ | s
    · rcases hl with ⟨a, -⟩ | ⟨g, q, W, hg, hW, hq, h7, hh⟩
      · exact Or.inl ⟨s1, s2, a⟩
      · exfalso
        have e := left_at ((hh g q hg (by omega)).mpr ⟨rfl, Nat.le_refl q, by omega⟩) (10 * (g + 1)) 0 (Nat.zero_le q) (by omega) (fun j _ h2 z => by have := ((hh g j hg (by omega)).mp z).2.1; omega)
        exact nI_m1 (show q ≤ 1000 by omega) (e.symm.trans (s3 g hg))
    · exact Or.inr s
  intro w hw
  match w, hw with
  | 0, _ => exact t0
  | 1, _ => exact t1
  | 2, _ => exact t2
  | 3, _ => exact t3
  | 4, _ => exact t4
  | 5, _ => exact t6
  | 6, _ => exact t7
  | 7, _ =>
    show shelfF A 0 (nI t) 3 0 = if oc B 0 t 7 = -1 then -1 else nI (shN (oc B 0 t 7).toNatClampNeg)
    rcases hfirst with ⟨a, -, c⟩ | ⟨g, q, hg, hq, h7, a, -⟩
    · rw [a, if_pos c]
    · have hf := frN_s hg
      have hf2 := frN_le hg
      rw [a, if_neg (by rw [h7]; exact nI_m1 (by omega)), h7, nI_clamp (n31 (by omega)), shN_fr hg hq]
  | 8, _ =>
    show leftR A 0 (nI t) 3 0 = if oc B 0 t 7 = -1 then -1 else oc B 0 t 7 - fromV (shN (oc B 0 t 7).toNatClampNeg)
    rcases hfirst with ⟨-, a, c⟩ | ⟨g, q, hg, hq, h7, -, a⟩
    · rw [a, if_pos c]
    · have hf := frN_s hg
      have hf2 := frN_le hg
      rw [a, if_neg (by rw [h7]; exact nI_m1 (by omega)), h7, nI_clamp (n31 (by omega)), shN_fr hg hq, fromN, pk_sub (by omega)]
      congr 1
      omega
  | 9, _ => exact t8
  | 10, _ => exact t9
theorem dgN_congr {f g : Nat → Int32} : ∀ k d, (∀ j, j < k → f j = g j) → dgN f k d = dgN g k d
  | 0, _, _ => rfl
  | k + 1, d, h => by
    show dg (dgN f k d) (f k) = dg (dgN g k d) (g k)
    rw [dgN_congr k d (fun j hj => h j (by omega)), h k (Nat.lt_succ_self k)]
theorem sim_dg {A B : Mem} {n cN : Nat} (h : SimD A B 0 n cN) (hc : B 11 0 0 1 = nI cN) (hb : BuyS A B 0) (hl : ∀ t, t < n → LieS A B 0 t) : dgA A n cN = mdgA B n cN := by
  have e1 : dgN (cntV A 0 n) 11 719 = dgN (mcntV B n) 11 719 := dgN_congr _ _ (fun j _ => sim_cnt h hc j)
  have e2 : ∀ k d, k ≤ 7 → dgB A 0 k d = mdgB B k d := fun k => by
    induction k with
    | zero => exact fun _ _ => rfl
    | succ k ih =>
      intro d hk
      show dg (dg (dgB A 0 k d) (A 3 0 k 0)) (A 3 0 k 1) = dg (dg (mdgB B k d) (B 12 0 0 k)) (B 13 0 0 k)
      rw [ih d (by omega), (hb k (by omega)).1, (hb k (by omega)).2]
  have e3 : ∀ k d, k ≤ cN → dgC A 0 n k d = mdgC B n k d := fun k => by
    induction k with
    | zero => exact fun _ _ => rfl
    | succ k ih =>
      intro d hk
      show dgN (custV A 0 n k) 5 (dgC A 0 n k d) = dgN (mcustV B n k) 5 (mdgC B n k d)
      rw [ih d (by omega)]
      exact dgN_congr _ _ (fun j _ => sim_cust h (by omega) j)
  have e4 : ∀ k d, k ≤ n → dgT A 0 k d = mdgT B k d := fun k => by
    induction k with
    | zero => exact fun _ _ => rfl
    | succ k ih =>
      intro d hk
      show dg (dgN (tickV A 0 k) 11 (dgT A 0 k d)) (debtV A 0 k (A 0 0 0 0)) = dg (dgN (mtickV B k) 11 (mdgT B k d)) (owedV B 0 k)
      rw [ih d (by omega), sim_owed h (by omega), dgN_congr _ _ (fun j hj => sim_tick h (show k < n by omega) (hl k (by omega)) j hj)]
  unfold dgA mdgA
  rw [e1, e2 7 _ (Nat.le_refl 7), e3 cN _ (Nat.le_refl cN), e4 n _ (Nat.le_refl n)]
theorem sim_fet {A B : Mem} {n cN : Nat} (h : SimD A B 0 n cN) (hI : InvB B 0 n cN) : fetV A 0 n = mfetV B n := by
  obtain ⟨a, b, c, e, h1, s1, s2, s3, s0, hx⟩ := st3 A 0 n
  have hT := h.2.2.2.2.2.2.2.1
  have hsum := hx (fun t ht => by rw [(hT t ht).2.2.2.2.2.2.2.1]; exact hI.2.2.2.2.2 t ht)
  unfold fetV mfetV
  rw [← sim_how h 0, ← sim_how h 1, s0, s1, s2, s3, nI_add, nI_add, pk_sub (by omega), show n - e = a + b + c by omega]
