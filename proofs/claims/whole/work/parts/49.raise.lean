/-! raise: the dearest first, by a sorted row and by counts -/
theorem ct_ex {f : Nat → Int32} {p : Int32} : ∀ k, 0 < ctF f p k → ∃ j, j < k ∧ f j = p
  | 0, h => absurd h (Nat.lt_irrefl 0)
  | k + 1, h => by
    by_cases e : f k = p
    · exact ⟨k, Nat.lt_succ_self k, e⟩
    · have h2 : 0 < ctF f p k := by
        have h3 : 0 < ctF f p k + (if f k = p then 1 else 0) := h
        rw [if_neg e] at h3
        exact h3
      obtain ⟨j, h1, h2⟩ := ct_ex k h2
      exact ⟨j, by omega, h2⟩
theorem ct_0 {f : Nat → Int32} {p : Int32} {k j : Nat} (h : ctF f p k = 0) (hj : j < k) : ¬ f j = p := by
  induction k with
  | zero => omega
  | succ k ih =>
    have h2 : ctF f p k + (if f k = p then 1 else 0) = 0 := h
    by_cases e : j = k
    · subst e
      intro z
      rw [if_pos z] at h2
      omega
    · exact ih (by omega) (by omega)
theorem outR_congr {x : Int32} {f g : Nat → Nat} : ∀ p m s, (∀ q, 1 ≤ q → q ≤ p → f q = g q) → outR x f p m s = outR x g p m s
  | 0, _, _, _ => rfl
  | p + 1, m, s, h => by
    have e := h (p + 1) (by omega) (Nat.le_refl _)
    cases hi : innR x (p + 1) (f (p + 1)) m s with
    | inl r =>
      rw [outR_l hi, outR_l (by rw [← e]; exact hi)]
    | inr q =>
      rw [outR_r (m' := q.1) (s' := q.2) hi, outR_r (m' := q.1) (s' := q.2) (by rw [← e]; exact hi)]
      exact outR_congr p _ _ (fun q h1 h2 => h q h1 (by omega))
theorem m_step (a : Int32) (k : Nat) : a - nI (k + 1) + 1 = a - nI k := by
  rw [← nI_1, Int32.sub_eq_add_neg, Int32.neg_add, Int32.sub_eq_add_neg, Int32.sub_eq_add_neg, Int32.add_assoc, Int32.add_assoc, Int32.add_left_neg, Int32.add_zero]
theorem rai_eq {f : Nat → Int32} {x : Int32} {T : Nat} : ∀ p k s, p ≤ 500 → Sd f k → (∀ j, j < k → ∃ v, 1 ≤ v ∧ v ≤ p ∧ f j = nI v) → raiF f x T k s = outR x (fun q => ctF f (nI q) k) p (nI T - nI k) s
  | 0, k, s, _, _, hv => by
    cases k with
    | zero => rfl
    | succ k =>
      obtain ⟨v, h1, h2, -⟩ := hv k (Nat.lt_succ_self k)
      omega
  | p + 1, k0, s0, hp, hs0, hv0 => by
    have L : ∀ c k s, Sd f k → (∀ j, j < k → ∃ v, 1 ≤ v ∧ v ≤ p + 1 ∧ f j = nI v) → ctF f (nI (p + 1)) k = c → (∀ q, 1 ≤ q → q ≤ p → ctF f (nI q) k = ctF f (nI q) k0) →
        raiF f x T k s = match innR x (p + 1) c (nI T - nI k) s with
          | .inl r => r
          | .inr q => outR x (fun q => ctF f (nI q) k0) p q.1 q.2 := by
      intro c
      induction c with
      | zero =>
        intro k s hs hv hc hq
        have h9 := rai_eq (f := f) (x := x) (T := T) p k s (by omega) hs (fun j hj => by
          obtain ⟨v, h1, h2, h3⟩ := hv j hj
          refine ⟨v, h1, ?_, h3⟩
          rcases Nat.lt_or_ge p v with z | z
          · have : v = p + 1 := by omega
            subst this
            exact absurd h3 (ct_0 hc hj)
          · exact z)
        rw [h9]
        exact outR_congr p _ _ hq
      | succ c ih =>
        intro k s hs hv hc hq
        obtain ⟨j, hj, hje⟩ := ct_ex k (by rw [hc]; exact Nat.succ_pos c)
        cases k with
        | zero => omega
        | succ k =>
          have hk : f k = nI (p + 1) := by
            obtain ⟨v, h1, h2, h3⟩ := hv k (Nat.lt_succ_self k)
            have h4 := hs j k (by omega) (Nat.lt_succ_self k)
            rw [hje, h3] at h4
            have h5 := nI_ged (by omega) (by omega) h4
            have : v = p + 1 := by omega
            rw [h3, this]
          have hc2 : ctF f (nI (p + 1)) k = c := by
            have h2 : ctF f (nI (p + 1)) k + (if f k = nI (p + 1) then 1 else 0) = c + 1 := hc
            rw [if_pos hk] at h2
            omega
          show (if s + f k < x then raiF f x T k (s + f k) else nI T - nI k) = match (if s + nI (p + 1) < x then innR x (p + 1) c (nI T - nI (k + 1) + 1) (s + nI (p + 1)) else .inl (nI T - nI (k + 1) + 1)) with
            | .inl r => r
            | .inr q => outR x (fun q => ctF f (nI q) k0) p q.1 q.2
          rw [hk, m_step]
          by_cases e : s + nI (p + 1) < x
          · rw [if_pos e, if_pos e]
            exact ih k _ (fun i j hij hj => hs i j hij (by omega)) (fun j hj => hv j (by omega)) hc2 (fun q h1 h2 => by
              rw [← hq q h1 h2]
              show ctF f (nI q) k = ctF f (nI q) k + (if f k = nI q then 1 else 0)
              rw [if_neg (fun z => by have := nI_inj (by omega) (by omega) (hk.symm.trans z); omega)]
              rfl)
          · rw [if_neg e, if_neg e]
    exact L (ctF f (nI (p + 1)) k0) k0 s0 hs0 hv0 rfl (fun _ _ _ => rfl)
