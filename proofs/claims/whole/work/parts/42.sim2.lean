/-! side by side: what changes -/
def fw : Nat → Nat
  | 5 => 10
  | 6 => 5
  | 7 => 6
  | j => j
theorem fw_lt : ∀ j, j < 10 → fw j < 11 := by decide
theorem fw_i : ∀ a, a < 10 → ∀ b, b < 10 → fw a = fw b → a = b := by decide
theorem fw_7 : ∀ a, a < 10 → ¬ fw a = 7 := by decide
theorem fw_inj {t' t j' j : Nat} (hj' : j' < 10) (hj : j < 10) (h : 11 * t' + fw j' = 11 * t + fw j) : t' = t ∧ j' = j := by
  have h1 := fw_lt j' hj'
  have h2 := fw_lt j hj
  have e : t' = t := by omega
  subst e
  exact ⟨rfl, fw_i j' hj' j hj (by omega)⟩
theorem simT_iff {A B : Mem} {s t : Nat} : SimT A B s t ↔ ∀ j, j < 10 → A 2 s t j = oc B s t (fw j) := by
  constructor
  · rintro ⟨h0, h1, h2, h3, h4, h5, h6, h7, h8, h9⟩ j hj
    match j, hj with
    | 0, _ => exact h0
    | 1, _ => exact h1
    | 2, _ => exact h2
    | 3, _ => exact h3
    | 4, _ => exact h4
    | 5, _ => exact h5
    | 6, _ => exact h6
    | 7, _ => exact h7
    | 8, _ => exact h8
    | 9, _ => exact h9
  · intro h
    exact ⟨h 0 (by decide), h 1 (by decide), h 2 (by decide), h 3 (by decide), h 4 (by decide), h 5 (by decide), h 6 (by decide), h 7 (by decide), h 8 (by decide), h 9 (by decide)⟩
theorem sim_setT {A B : Mem} {s n cN t j : Nat} {x : Int32} (h : SimD A B s n cN) (hj : j < 10) : SimD (mset A 2 s t j x) (mset B 9 s 0 (11 * t + fw j) x) s n cN := by
  obtain ⟨h0, h1, h2, h3, h4, h5, hC, hT, hp⟩ := h
  refine ⟨h0, h1, h2, h3, h4, h5, hC, fun t' ht' => simT_iff.mpr (fun j' hj' => ?_), hp⟩
  by_cases e : t' = t ∧ j' = j
  · exact (if_pos ⟨rfl, rfl, e.1, e.2⟩).trans (if_pos ⟨rfl, rfl, rfl, by rw [e.1, e.2]⟩).symm
  · exact (if_neg (fun z => e ⟨z.2.2.1, z.2.2.2⟩)).trans ((simT_iff.mp (hT t' ht') j' hj').trans (if_neg (fun z => e (fw_inj hj' hj z.2.2.2))).symm)
/-- the reference's FIRST is its own -/
theorem sim_set7 {A B : Mem} {s n cN t : Nat} {x : Int32} (h : SimD A B s n cN) : SimD A (mset B 9 s 0 (11 * t + 7) x) s n cN := by
  obtain ⟨h0, h1, h2, h3, h4, h5, hC, hT, hp⟩ := h
  refine ⟨h0, h1, h2, h3, h4, h5, hC, fun t' ht' => simT_iff.mpr (fun j' hj' => ?_), hp⟩
  have h1 := fw_lt j' hj'
  have h2 := fw_7 j' hj'
  exact (simT_iff.mp (hT t' ht') j' hj').trans (if_neg (fun z => by have := z.2.2.2; omega)).symm
theorem sim_coins {A B : Mem} {s n cN : Nat} {x : Int32} (h : SimD A B s n cN) : SimD (mset A 0 s 0 1 x) (mset B 6 s 0 1 x) s n cN := by
  obtain ⟨h0, h1, h2, h3, h4, h5, hC, hT, hp⟩ := h
  exact ⟨(mset_s (by decide)).trans (h0.trans (mset_s (by decide)).symm), (if_pos ⟨rfl, rfl, rfl, rfl⟩).trans (if_pos ⟨rfl, rfl, rfl, rfl⟩).symm, (mset_s (by decide)).trans (h2.trans (mset_s (by decide)).symm), (mset_s (by decide)).trans h3, (mset_s (by decide)).trans h4, (mset_s (by decide)).trans h5, hC, hT, hp⟩
theorem sim_day {A B : Mem} {s n cN : Nat} {x : Int32} (h : SimD A B s n cN) : SimD (mset A 0 s 0 0 x) (mset B 6 s 0 0 x) s n cN := by
  obtain ⟨h0, h1, h2, h3, h4, h5, hC, hT, hp⟩ := h
  exact ⟨(if_pos ⟨rfl, rfl, rfl, rfl⟩).trans (if_pos ⟨rfl, rfl, rfl, rfl⟩).symm, (mset_s (by decide)).trans (h1.trans (mset_s (by decide)).symm), (mset_s (by decide)).trans (h2.trans (mset_s (by decide)).symm), (mset_s (by decide)).trans h3, (mset_s (by decide)).trans h4, (mset_s (by decide)).trans h5, hC, hT, hp⟩
theorem sim_int {A B : Mem} {s n cN : Nat} {x : Int32} (h : SimD A B s n cN) : SimD (mset A 0 s 0 2 x) (mset B 6 s 0 3 x) s n cN := by
  obtain ⟨h0, h1, h2, h3, h4, h5, hC, hT, hp⟩ := h
  exact ⟨(mset_s (by decide)).trans (h0.trans (mset_s (by decide)).symm), (mset_s (by decide)).trans (h1.trans (mset_s (by decide)).symm), (if_pos ⟨rfl, rfl, rfl, rfl⟩).trans (if_pos ⟨rfl, rfl, rfl, rfl⟩).symm, (mset_s (by decide)).trans h3, (mset_s (by decide)).trans h4, (mset_s (by decide)).trans h5, hC, hT, hp⟩
theorem sim_own {A B : Mem} {s n cN i : Nat} {x : Int32} (h : SimD A B s n cN) : SimD (mset A 1 s i 0 x) (mset B 7 s 0 i x) s n cN := by
  obtain ⟨h0, h1, h2, h3, h4, h5, hC, hT, hp⟩ := h
  refine ⟨h0, h1, h2, h3, h4, h5, fun i' hi' => ⟨?_, (mset_s (by decide)).trans (hC i' hi').2⟩, hT, hp⟩
  by_cases e : i' = i
  · exact (if_pos ⟨rfl, rfl, e, rfl⟩).trans (if_pos ⟨rfl, rfl, rfl, e⟩).symm
  · exact (if_neg (fun z => e z.2.2.1)).trans ((hC i' hi').1.trans (if_neg (fun z => e z.2.2.2)).symm)
theorem sim_tru {A B : Mem} {s n cN i : Nat} {x : Int32} (h : SimD A B s n cN) : SimD (mset A 1 s i 1 x) (mset B 8 s 0 i x) s n cN := by
  obtain ⟨h0, h1, h2, h3, h4, h5, hC, hT, hp⟩ := h
  refine ⟨h0, h1, h2, h3, h4, h5, fun i' hi' => ⟨(mset_s (by decide)).trans (hC i' hi').1, ?_⟩, hT, hp⟩
  by_cases e : i' = i
  · exact (if_pos ⟨rfl, rfl, e, rfl⟩).trans (if_pos ⟨rfl, rfl, rfl, e⟩).symm
  · exact (if_neg (fun z => e z.2.2.1)).trans ((hC i' hi').2.trans (if_neg (fun z => e z.2.2.2)).symm)
/-- the thing of a ticket is taken away -/
theorem sim_clr {A B : Mem} {s n cN t : Nat} (h : SimD A B s n cN) : SimD (clrM A s (nI t) 3) (takeM B s t) s n cN := by
  unfold takeM
  refine sim_set7 ?_
  obtain ⟨h0, h1, h2, h3, h4, h5, hC, hT, hp⟩ := h
  refine ⟨h0, h1, h2, h3, h4, h5, hC, hT, fun g j hg hj => ?_⟩
  have hf := frN_s hg
  have hf2 := frN_le hg
  have e1 : clrM A s (nI t) 3 4 s g j = clrF (A 4 s g) (nI t) (10 * (g + 1)) j := by
    show (if 4 = 4 ∧ s = s ∧ g < 3 then clrF (A 4 s g) (nI t) (10 * (g + 1)) else A 4 s g) j = _
    rw [if_pos ⟨rfl, rfl, hg⟩]
  rw [e1, rset_cell]
  unfold clrF
  rw [hp g j hg hj]
  by_cases e : B 10 s 0 (frN g + j) = nI t
  · rw [if_pos ⟨hj, e⟩, if_pos ⟨by omega, e⟩]
  · rw [if_neg (fun z => e z.2), if_neg (fun z => e z.2)]
/-- one ticket's part of a day's beginning -/
theorem sim_age1 {A B : Mem} {s n cN t : Nat} (h : SimD A B s n cN) (ht : t < n) (h10 : cN ≤ 10) (how : ∃ i, i < cN ∧ oc B s t 0 = nI i) (htr : ∀ i, i < cN → ∃ q, q ≤ 10 ∧ B 8 s 0 i = nI q) : SimD (ageStep A s t) (magS B s t) s n cN ∧ ∀ i, i < cN → ∃ q, q ≤ 10 ∧ magS B s t 8 s 0 i = nI q := by
  have h2 := h
  obtain ⟨d0, -, -, -, -, -, hC, hT, -⟩ := h2
  obtain ⟨t0, -, t2, -, -, -, t6, t7, t8, -⟩ := hT t ht
  by_cases a : oc B s t 6 = 2
  · rw [age_c (t7.trans a), mag_c a]
    have ev : cheapV (A 2 s t 8) (A 2 s t 2) = mx (oc B s t 2 * 3 / 10) (oc B s t 8 - oc B s t 2 / 20) := by
      rw [t8, t2]
      exact mx_comm _ _
    rw [ev]
    exact ⟨sim_setT (j := 8) h (by decide), htr⟩
  · have a1 : ¬ A 2 s t 7 = 2 := by rw [t7]; exact a
    by_cases b : oc B s t 6 = 0 ∧ oc B s t 5 < B 6 s 0 0
    · obtain ⟨i, hi, ho⟩ := how
      obtain ⟨q, hq, hqe⟩ := htr i hi
      rw [age_y (t7.trans b.1) (by rw [t6, d0]; exact b.2) (t0.trans ho) (by omega), mag_y b.1 b.2 ho (by omega)]
      have ev : trV (A 1 s i 1) (-2) = mx 0 (B 8 s 0 i - 2) := by
        rw [(hC i hi).2, hqe]
        exact tr_down q hq
      rw [ev, t2]
      refine ⟨sim_tru (sim_setT (j := 8) (sim_setT (j := 7) h (by decide)) (by decide)), fun i' hi' => ?_⟩
      by_cases e : i' = i
      · subst e
        obtain ⟨p, hp1, hp2⟩ := (tr_rng q hq).1
        refine ⟨p, hp1, (if_pos ⟨rfl, rfl, rfl, rfl⟩).trans ?_⟩
        rw [hqe, ← tr_down q hq]
        exact hp2
      · obtain ⟨p, hp1, hp2⟩ := htr i' hi'
        exact ⟨p, hp1, (mset_s e).trans hp2⟩
    · rw [age_n1 a1 (by rw [t7, t6, d0]; exact b), mag_n a b]
      exact ⟨h, htr⟩
theorem sim_ageN {A B : Mem} {s n cN : Nat} (h : SimD A B s n cN) (h10 : cN ≤ 10) (how : ∀ t, t < n → ∃ i, i < cN ∧ oc B s t 0 = nI i) (htr : ∀ i, i < cN → ∃ q, q ≤ 10 ∧ B 8 s 0 i = nI q) : ∀ t, t ≤ n → SimD (ageN A s t) (magN B s t) s n cN ∧ ∀ i, i < cN → ∃ q, q ≤ 10 ∧ magN B s t 8 s 0 i = nI q
  | 0, _ => ⟨h, htr⟩
  | t + 1, ht => by
    obtain ⟨h1, h2⟩ := sim_ageN h h10 how htr t (by omega)
    exact sim_age1 h1 (by omega) h10 (by rw [magN_f (by decide) (by decide) (by decide)]; exact how t (by omega)) h2
