/-! side by side: raise -/
theorem ct_pos {f : Nat → Int32} {j : Nat} : ∀ k, j < k → 0 < ctF f (f j) k
  | 0, h => absurd h (Nat.not_lt_zero j)
  | k + 1, h => by
    show 0 < ctF f (f j) k + (if f k = f j then 1 else 0)
    by_cases e : j = k
    · subst e
      rw [if_pos rfl]
      omega
    · have := ct_pos (f := f) (j := j) k (by omega)
      omega
theorem put_in {sel : Nat → Bool} {val p0 : Nat → Int32} : ∀ n j, j < (putP sel val p0 n).1 → ∃ t, t < n ∧ sel t = true ∧ (putP sel val p0 n).2 j = val t
  | 0, j, h => absurd h (Nat.not_lt_zero j)
  | t + 1, j, h => by
    by_cases e : sel t = true
    · rw [putP_y e] at h ⊢
      by_cases c : j = (putP sel val p0 t).1
      · exact ⟨t, Nat.lt_succ_self t, e, by rw [c]; exact upd_on⟩
      · have h2 : j < (putP sel val p0 t).1 + 1 := h
        obtain ⟨t', h3, h4, h5⟩ := put_in (sel := sel) (val := val) (p0 := p0) t j (by omega)
        exact ⟨t', by omega, h4, (upd_off c).trans h5⟩
    · rw [putP_n e] at h ⊢
      obtain ⟨t', h3, h4, h5⟩ := put_in t j h
      exact ⟨t', by omega, h4, h5⟩
/-- the sorted row of what is picked: in order, the same numbers -/
theorem srt_put (g : Nat → Int32) (T : Nat) : Sd (srtF g (T - 1)) T ∧ (∀ p, ctF (srtF g (T - 1)) p T = ctF g p T) ∧ ∀ j, j < T → ∃ i, i < T ∧ srtF g (T - 1) j = g i := by
  cases T with
  | zero => exact ⟨fun i j _ h => by omega, fun _ => rfl, fun j h => by omega⟩
  | succ T =>
    obtain ⟨h1, h2, -⟩ := srt_all g T
    refine ⟨h1, h2, fun j hj => ?_⟩
    have h3 := ct_pos (f := srtF g T) (j := j) (T + 1) hj
    rw [h2] at h3
    obtain ⟨i, hi, he⟩ := ct_ex (T + 1) h3
    exact ⟨i, hi, he.symm⟩
theorem sim_raise {A B : Mem} {n cN : Nat} {x : Int32} (h : SimD A B 0 n cN) (hI : InvB B 0 n cN) :
    raiF (srtF (putP (fun t => decide (A 2 0 t 7 = 2)) (fun t => A 2 0 t 8) (A 5 0 0) n).2 ((putP (fun t => decide (A 2 0 t 7 = 2)) (fun t => A 2 0 t 8) (A 5 0 0) n).1 - 1)) x (putP (fun t => decide (A 2 0 t 7 = 2)) (fun t => A 2 0 t 8) (A 5 0 0) n).1 (putP (fun t => decide (A 2 0 t 7 = 2)) (fun t => A 2 0 t 8) (A 5 0 0) n).1 0 = mraiV B n x := by
  have hT := h.2.2.2.2.2.2.2.1
  have hc : ∀ q m, m ≤ n → ctF (putP (fun t => decide (A 2 0 t 7 = 2)) (fun t => A 2 0 t 8) (A 5 0 0) m).2 (nI q) (putP (fun t => decide (A 2 0 t 7 = 2)) (fun t => A 2 0 t 8) (A 5 0 0) m).1 = cntN B m q := fun q m => by
    induction m with
    | zero => exact fun _ => rfl
    | succ m ih =>
      intro hm
      obtain ⟨-, -, -, -, -, -, -, t7, t8, -⟩ := hT m (by omega)
      have ih2 := ih (by omega)
      show _ = cntN B m q + (if oc B 0 m 6 = 2 ∧ oc B 0 m 8 = nI q then 1 else 0)
      by_cases e : oc B 0 m 6 = 2
      · rw [putP_y (decide_eq_true (t7.trans e))]
        show ctF (upd _ _ (A 2 0 m 8)) (nI q) _ + (if upd _ _ (A 2 0 m 8) _ = nI q then 1 else 0) = _
        rw [upd_on, ctF_congr (g := (putP (fun t => decide (A 2 0 t 7 = 2)) (fun t => A 2 0 t 8) (A 5 0 0) m).2) _ (fun j hj => upd_off (by omega)), ih2, t8]
        by_cases c : oc B 0 m 8 = nI q
        · rw [if_pos c, if_pos ⟨e, c⟩]
        · rw [if_neg c, if_neg (fun z => c z.2)]
      · rw [putP_n (fun z => e (t7.symm.trans (of_decide_eq_true z))), if_neg (fun z => e z.1), ih2]
        rfl
  have hin : ∀ j, j < (putP (fun t => decide (A 2 0 t 7 = 2)) (fun t => A 2 0 t 8) (A 5 0 0) n).1 → ∃ v, 1 ≤ v ∧ v ≤ 500 ∧ (putP (fun t => decide (A 2 0 t 7 = 2)) (fun t => A 2 0 t 8) (A 5 0 0) n).2 j = nI v := fun j hj => by
    obtain ⟨t, h1, h2, h3⟩ := put_in n j hj
    obtain ⟨-, -, -, -, -, -, -, t7, t8, -⟩ := hT t h1
    obtain ⟨p, p1, p2, p3⟩ := hI.2.2.2.2.1 t h1 (t7.symm.trans (of_decide_eq_true h2))
    exact ⟨p, p1, p2, h3.trans (t8.trans p3)⟩
  have hcn := fun q => hc q n (Nat.le_refl n)
  generalize putP (fun t => decide (A 2 0 t 7 = 2)) (fun t => A 2 0 t 8) (A 5 0 0) n = P at hcn hin ⊢
  obtain ⟨s1, s2, s3⟩ := srt_put P.2 P.1
  rw [rai_eq 500 P.1 0 (Nat.le_refl _) s1 (fun j hj => by
    obtain ⟨i, hi, he⟩ := s3 j hj
    obtain ⟨v, v1, v2, v3⟩ := hin i hi
    exact ⟨v, v1, v2, he.trans v3⟩), Int32.sub_self]
  exact outR_congr 500 0 0 (fun q _ _ => (s2 (nI q)).trans (hcn q))
