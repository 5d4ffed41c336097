/-! side by side: selling, days -/
theorem mset_comm {M : Mem} {k s i j k' s' i' j' : Nat} {x y : Int32} (h : ¬ k = k') : mset (mset M k s i j x) k' s' i' j' y = mset (mset M k' s' i' j' y) k s i j x := by
  funext a b c d
  unfold mset
  by_cases e : a = k' ∧ b = s' ∧ c = i' ∧ d = j'
  · rw [if_pos e, if_neg (fun z => h (z.1.symm.trans e.1)), if_pos e]
  · rw [if_neg e, if_neg e]
theorem mdear_rng {B : Mem} {s w : Nat} : ∀ {k t : Nat} {b : Option Nat} {q : Nat}, mdearF B s w k t b = some q → b = some q ∨ (t ≤ q ∧ q < t + k)
  | 0, _, _, _, h => Or.inl h
  | k + 1, t, b, q, h => by
    by_cases a : (oc B s t 6 = 2 ∧ oc B s t 1 = B 12 0 0 w ∧ oc B s t 8 ≤ B 13 0 0 w) ∧ (b = none ∨ oc B s (b.getD 0) 8 < oc B s t 8)
    · rw [mdear_y a.1 a.2] at h
      rcases mdear_rng h with e | ⟨h1, h2⟩
      · cases e
        exact Or.inr ⟨Nat.le_refl _, by omega⟩
      · exact Or.inr ⟨by omega, by omega⟩
    · rw [mdear_n a] at h
      rcases mdear_rng h with e | ⟨h1, h2⟩
      · exact Or.inl e
      · exact Or.inr ⟨by omega, by omega⟩
theorem mdear_no {B : Mem} {s w : Nat} : ∀ k t b, (∀ q, t ≤ q → q < t + k → ¬ oc B s q 1 = B 12 0 0 w) → mdearF B s w k t b = b
  | 0, _, _, _ => rfl
  | k + 1, t, b, h => (mdear_n (fun z => h t (Nat.le_refl t) (by omega) z.1.2.1)).trans (mdear_no k (t + 1) b (fun q h1 h2 => h q (by omega) (by omega)))
/-- what the reference's tickets and customers keep -/
def InvB (B : Mem) (s n cN : Nat) : Prop :=
  (∀ t, t < n → ∃ i, i < cN ∧ oc B s t 0 = nI i) ∧ (∀ i, i < cN → ∃ q, q ≤ 10 ∧ B 8 s 0 i = nI q) ∧ (∀ t, t < n → ¬ oc B s t 1 = -1) ∧ (∀ t, t < n → ∃ v, 1 ≤ v ∧ v ≤ 500 ∧ oc B s t 2 = nI v) ∧
  (∀ t, t < n → oc B s t 6 = 2 → ∃ p, 1 ≤ p ∧ p ≤ 500 ∧ oc B s t 8 = nI p) ∧ (∀ t, t < n → oc B s t 6 = 0 ∨ oc B s t 6 = 1 ∨ oc B s t 6 = 2 ∨ oc B s t 6 = 3)
theorem mx_price {v p : Nat} (hv : 1 ≤ v) (hv5 : v ≤ 500) (hp : 1 ≤ p) (hp5 : p ≤ 500) : ∃ r, 1 ≤ r ∧ r ≤ 500 ∧ mx (nI v * 3 / 10) (nI p - nI v / 20) = nI r := by
  have e1 : nI v * 3 / 10 = nI (v * 3 / 10) := by rw [show (3 : Int32) = nI 3 from rfl, pk_mul, show (10 : Int32) = nI 10 from rfl, pk_div (by omega) (by decide) (by decide)]
  have e2 : nI v / 20 = nI (v / 20) := by rw [show (20 : Int32) = nI 20 from rfl, pk_div (by omega) (by decide) (by decide)]
  rw [e1, e2]
  unfold mx
  by_cases hb : v / 20 ≤ p
  · rw [pk_sub hb]
    by_cases c : nI (v * 3 / 10) < nI (p - v / 20)
    · rw [if_pos c]
      refine ⟨p - v / 20, ?_, by omega, rfl⟩
      rcases Nat.lt_or_ge (v * 3 / 10) (p - v / 20) with g | g
      · omega
      · exact absurd c (Int32.not_lt.mpr (nI_le g (n31 (by omega))))
    · rw [if_neg c]
      refine ⟨v * 3 / 10, ?_, by omega, rfl⟩
      rcases Nat.lt_or_ge (v * 3 / 10) (p - v / 20) with g | g
      · exact absurd (nI_lt g (n31 (by omega))) c
      · omega
  · have c : ¬ nI (v * 3 / 10) < nI p - nI (v / 20) := fun z => by
      have h1 := Int32.lt_iff_toInt_lt.mp z
      rw [pk_sub_toInt (by omega) (by omega), nI_toInt (by omega)] at h1
      omega
    rw [if_neg c]
    exact ⟨v * 3 / 10, by omega, by omega, rfl⟩
theorem sim_sell {A B : Mem} {s n cN w : Nat} (h : SimD A B s n cN) (hI : InvB B s n cN) (hb : A 3 s w 0 = B 12 0 0 w ∧ A 3 s w 1 = B 13 0 0 w) (h40 : n ≤ 40) :
    (sellR A s n w).1 = (mbuyR B s n w).1 ∧ SimD (sellR A s n w).2 (mbuyR B s n w).2 s n cN := by
  obtain ⟨-, -, hk, -, hp, -⟩ := hI
  have hd := sim_dear h hb (fun t ht e => by obtain ⟨p, -, h2, h3⟩ := hp t ht e; exact ⟨p, h2, h3⟩) n 0 (-1) (-1) none (by omega) (Or.inl ⟨rfl, rfl, rfl⟩)
  by_cases a : B 12 0 0 w = -1
  · have hm : mdearF B s w n 0 none = none := mdear_no n 0 none (fun q _ h2 z => hk q (by omega) (z.trans a))
    rw [sell_n (hd.trans (by rw [hm]; rfl)), mbuy_0 a]
    exact ⟨rfl, h⟩
  · cases hm : mdearF B s w n 0 none with
    | none =>
      rw [sell_n (hd.trans (by rw [hm]; rfl)), mbuy_n a hm]
      exact ⟨rfl, h⟩
    | some q =>
      have hq : q < n := by
        rcases mdear_rng hm with e | ⟨-, e⟩
        · cases e
        · omega
      rw [sell_y (hd.trans (by rw [hm]; rfl)) (by omega), mbuy_y a hm]
      refine ⟨rfl, ?_⟩
      have h2 := h
      obtain ⟨-, c1, -, -, -, -, -, hT, -⟩ := h2
      obtain ⟨-, -, -, -, -, -, -, -, t8, -⟩ := hT q hq
      unfold mbuyM
      rw [mset_comm (by decide), c1, t8]
      exact sim_clr (sim_setT (j := 7) (sim_coins h) (by decide))
theorem inv_mag {B : Mem} {s n cN t : Nat} (hI : InvB B s n cN) (hx : ∀ i, i < cN → ∃ q, q ≤ 10 ∧ magS B s t 8 s 0 i = nI q) : InvB (magS B s t) s n cN := by
  obtain ⟨i1, i2, i3, i4, i5, i6⟩ := hI
  have hf : ∀ t' w, w < 11 → ¬ w = 6 → ¬ w = 8 → oc (magS B s t) s t' w = oc B s t' w := fun t' w hw h6 h8 => magS_f (by omega) (by omega)
  have hc : ∀ t' w, w < 11 → ¬ t' = t → oc (magS B s t) s t' w = oc B s t' w := fun t' w hw ht => magS_f (by omega) (by omega)
  refine ⟨fun t' ht => ?_, hx, fun t' ht => ?_, fun t' ht => ?_, fun t' ht => ?_, fun t' ht => ?_⟩
  · rw [hf t' 0 (by decide) (by decide) (by decide)]; exact i1 t' ht
  · rw [hf t' 1 (by decide) (by decide) (by decide)]; exact i3 t' ht
  · rw [hf t' 2 (by decide) (by decide) (by decide)]; exact i4 t' ht
  · by_cases e : t' = t
    · subst e
      intro hs
      obtain ⟨v, v1, v2, v3⟩ := i4 t' ht
      by_cases a : oc B s t' 6 = 2
      · obtain ⟨p, p1, p2, p3⟩ := i5 t' ht a
        rw [mag_c a]
        obtain ⟨r, r1, r2, r3⟩ := mx_price v1 v2 p1 p2
        exact ⟨r, r1, r2, (if_pos ⟨rfl, rfl, rfl, rfl⟩).trans (by rw [v3, p3]; exact r3)⟩
      · by_cases b : oc B s t' 6 = 0 ∧ oc B s t' 5 < B 6 s 0 0
        · obtain ⟨i, hi, ho⟩ := i1 t' ht
          refine ⟨v, v1, v2, ?_⟩
          unfold magS
          rw [if_neg a, if_pos b]
          show mset (mset (mset B 9 s 0 (11 * t' + 6) 2) 9 s 0 (11 * t' + 8) (oc B s t' 2)) 8 s 0 _ _ 9 s 0 (11 * t' + 8) = _
          rw [mset_k (by decide)]
          exact (if_pos ⟨rfl, rfl, rfl, rfl⟩).trans v3
        · rw [mag_n a b] at hs
          exact absurd hs a
    · rw [hc t' 6 (by decide) e, hc t' 8 (by decide) e]
      exact i5 t' ht
  · by_cases e : t' = t
    · subst e
      by_cases a : oc B s t' 6 = 2
      · refine Or.inr (Or.inr (Or.inl ?_))
        rw [mag_c a]
        exact (mset_s (by omega)).trans a
      · by_cases b : oc B s t' 6 = 0 ∧ oc B s t' 5 < B 6 s 0 0
        · refine Or.inr (Or.inr (Or.inl ?_))
          unfold magS
          rw [if_neg a, if_pos b]
          show mset (mset (mset B 9 s 0 (11 * t' + 6) 2) 9 s 0 (11 * t' + 8) (oc B s t' 2)) 8 s 0 _ _ 9 s 0 (11 * t' + 6) = _
          rw [mset_k (by decide)]
          exact (mset_s (by omega)).trans (if_pos ⟨rfl, rfl, rfl, rfl⟩)
        · rw [mag_n a b]
          exact i6 t' ht
    · rw [hc t' 6 (by decide) e]
      exact i6 t' ht
