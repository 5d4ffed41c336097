/-! the sorted row: counts and order -/
def Sd (f : Nat → Int32) (k : Nat) : Prop := ∀ i j, i ≤ j → j < k → f i ≤ f j
def ctF (f : Nat → Int32) (p : Int32) : Nat → Nat
  | 0 => 0
  | k + 1 => ctF f p k + (if f k = p then 1 else 0)
theorem ctF_congr {f g : Nat → Int32} {p : Int32} : ∀ k, (∀ j, j < k → f j = g j) → ctF f p k = ctF g p k
  | 0, _ => rfl
  | k + 1, h => by
    show ctF f p k + (if f k = p then 1 else 0) = ctF g p k + (if g k = p then 1 else 0)
    rw [ctF_congr k (fun j hj => h j (by omega)), h k (Nat.lt_succ_self k)]
theorem upd_off {f : Nat → Int32} {k j : Nat} {x : Int32} (h : ¬ j = k) : upd f k x j = f j := if_neg h
theorem upd_on {f : Nat → Int32} {k : Nat} {x : Int32} : upd f k x k = x := if_pos rfl
theorem sh_off {x : Int32} : ∀ (t : Nat) (g : Nat → Int32) (j : Nat), t < j → shiftF t g x j = g j
  | 0, g, j, h => upd_off (by omega)
  | t + 1, g, j, h => by
    show (if g t ≤ x then upd g (t + 1) x else shiftF t (upd g (t + 1) (g t)) x) j = g j
    by_cases e : g t ≤ x
    · rw [if_pos e]; exact upd_off (by omega)
    · rw [if_neg e, sh_off t _ j (by omega)]; exact upd_off (by omega)
theorem sh_ct {x p : Int32} : ∀ (t : Nat) (g : Nat → Int32), ctF (shiftF t g x) p (t + 1) = ctF g p t + (if x = p then 1 else 0)
  | 0, g => by
    show 0 + (if upd g 0 x 0 = p then 1 else 0) = 0 + (if x = p then 1 else 0)
    rw [upd_on]
  | t + 1, g => by
    by_cases e : g t ≤ x
    · have e1 : shiftF (t + 1) g x = upd g (t + 1) x := if_pos e
      rw [e1]
      show ctF (upd g (t + 1) x) p (t + 1) + (if upd g (t + 1) x (t + 1) = p then 1 else 0) = _
      rw [upd_on, ctF_congr (t + 1) (fun j hj => upd_off (by omega))]
    · have e1 : shiftF (t + 1) g x = shiftF t (upd g (t + 1) (g t)) x := if_neg e
      rw [e1]
      show ctF (shiftF t (upd g (t + 1) (g t)) x) p (t + 1) + (if shiftF t (upd g (t + 1) (g t)) x (t + 1) = p then 1 else 0) = ctF g p t + (if g t = p then 1 else 0) + (if x = p then 1 else 0)
      rw [sh_ct t, sh_off t _ _ (by omega), upd_on, ctF_congr (g := g) t (fun j hj => upd_off (by omega))]
      omega
theorem sh_le {x b : Int32} (hx : x ≤ b) : ∀ (t : Nat) (g : Nat → Int32), (∀ j, j < t → g j ≤ b) → ∀ j, j ≤ t → shiftF t g x j ≤ b
  | 0, g, _, j, hj => by
    have : j = 0 := by omega
    subst this
    show upd g 0 x 0 ≤ b
    rw [upd_on]; exact hx
  | t + 1, g, hg, j, hj => by
    by_cases e : g t ≤ x
    · have e1 : shiftF (t + 1) g x = upd g (t + 1) x := if_pos e
      rw [e1]
      by_cases c : j = t + 1
      · subst c; rw [upd_on]; exact hx
      · rw [upd_off c]; exact hg j (by omega)
    · have e1 : shiftF (t + 1) g x = shiftF t (upd g (t + 1) (g t)) x := if_neg e
      rw [e1]
      by_cases c : j = t + 1
      · subst c; rw [sh_off t _ _ (by omega), upd_on]; exact hg t (by omega)
      · exact sh_le hx t _ (fun i hi => by rw [upd_off (by omega)]; exact hg i (by omega)) j (by omega)
theorem sh_sd {x : Int32} : ∀ (t : Nat) (g : Nat → Int32), Sd g t → Sd (shiftF t g x) (t + 1)
  | 0, g, _ => fun i j hij hj => by
    have h1 : i = 0 := by omega
    have h2 : j = 0 := by omega
    subst h1; subst h2
    exact Int32.le_refl _
  | t + 1, g, hg => by
    by_cases e : g t ≤ x
    · have e1 : shiftF (t + 1) g x = upd g (t + 1) x := if_pos e
      rw [e1]
      intro i j hij hj
      by_cases c : j = t + 1
      · subst c
        rw [upd_on]
        by_cases c2 : i = t + 1
        · subst c2; rw [upd_on]; exact Int32.le_refl _
        · rw [upd_off c2]; exact Int32.le_trans (hg i t (by omega) (by omega)) e
      · rw [upd_off c, upd_off (by omega)]; exact hg i j hij (by omega)
    · have e1 : shiftF (t + 1) g x = shiftF t (upd g (t + 1) (g t)) x := if_neg e
      rw [e1]
      have hs : Sd (shiftF t (upd g (t + 1) (g t)) x) (t + 1) := sh_sd t _ (fun i j hij hj => by rw [upd_off (by omega), upd_off (by omega)]; exact hg i j hij (by omega))
      have hl := sh_le (b := g t) (Int32.le_of_lt (Int32.not_le.mp e)) t (upd g (t + 1) (g t)) (fun j hj => by rw [upd_off (by omega)]; exact hg j t (by omega) (by omega))
      intro i j hij hj
      by_cases c : j = t + 1
      · subst c
        rw [sh_off t _ (t + 1) (by omega), upd_on]
        by_cases c2 : i = t + 1
        · subst c2; rw [sh_off t _ (t + 1) (by omega), upd_on]; exact Int32.le_refl _
        · exact hl i (by omega)
      · exact hs i j hij (by omega)
/-- the row sorted: k + 1 places in order, the same numbers, the rest as it was -/
theorem srt_all (f : Nat → Int32) : ∀ k, Sd (srtF f k) (k + 1) ∧ (∀ p, ctF (srtF f k) p (k + 1) = ctF f p (k + 1)) ∧ ∀ j, k < j → srtF f k j = f j
  | 0 => ⟨fun i j hij hj => by
      have h1 : i = 0 := by omega
      have h2 : j = 0 := by omega
      subst h1; subst h2
      exact Int32.le_refl _, fun _ => rfl, fun _ _ => rfl⟩
  | k + 1 => by
    obtain ⟨h1, h2, h3⟩ := srt_all f k
    refine ⟨sh_sd (k + 1) _ h1, fun p => ?_, fun j hj => ?_⟩
    · show ctF (shiftF (k + 1) (srtF f k) (srtF f k (k + 1))) p (k + 1 + 1) = ctF f p (k + 1) + (if f (k + 1) = p then 1 else 0)
      rw [sh_ct, h2 p, h3 (k + 1) (by omega)]
    · show shiftF (k + 1) (srtF f k) (srtF f k (k + 1)) j = f j
      rw [sh_off _ _ _ hj, h3 j (by omega)]
/-- what is picked into a row, counted -/
theorem put_ct {sel : Nat → Bool} {val p0 : Nat → Int32} {p : Int32} : ∀ n, ctF (putP sel val p0 n).2 p (putP sel val p0 n).1 = ctF (fun t => if sel t = true then val t else val t) p 0 + (List.range n).countP (fun t => sel t && decide (val t = p))
  | 0 => rfl
  | t + 1 => by
    have ih := put_ct (sel := sel) (val := val) (p0 := p0) (p := p) t
    rw [List.range_succ, List.countP_append]
    by_cases e : sel t = true
    · rw [putP_y e]
      show ctF (upd (putP sel val p0 t).2 (putP sel val p0 t).1 (val t)) p (putP sel val p0 t).1 + (if upd (putP sel val p0 t).2 (putP sel val p0 t).1 (val t) (putP sel val p0 t).1 = p then 1 else 0) = _
      rw [upd_on, ctF_congr _ (fun j hj => upd_off (by omega)), ih, Nat.add_assoc]
      by_cases c : val t = p <;> simp [e, c]
    · rw [putP_n e, ih]
      simp [e]
