/-! side by side: most. The cheapest first, by a sorted row and by repeated choice -/
theorem ct_mono {f : Nat → Int32} {x : Int32} : ∀ {a b : Nat}, a ≤ b → ctF f x a ≤ ctF f x b
  | a, 0, h => by
    have : a = 0 := by omega
    subst this
    exact Nat.le_refl _
  | a, b + 1, h => by
    by_cases e : a = b + 1
    · subst e
      exact Nat.le_refl _
    · have h1 := ct_mono (f := f) (x := x) (a := a) (b := b) (by omega)
      show ctF f x a ≤ ctF f x b + (if f b = x then 1 else 0)
      omega
theorem ct_ex2 {f : Nat → Int32} {x : Int32} {p : Nat} : ∀ T, ctF f x p < ctF f x T → ∃ j, p ≤ j ∧ j < T ∧ f j = x
  | 0, h => absurd h (Nat.not_lt_zero _)
  | T + 1, h => by
    rcases Nat.lt_or_ge T p with c | c
    · have := ct_mono (f := f) (x := x) (a := T + 1) (b := p) (by omega)
      omega
    · by_cases e : f T = x
      · exact ⟨T, c, Nat.lt_succ_self T, e⟩
      · have h2 : ctF f x p < ctF f x T := by
          have h3 : ctF f x p < ctF f x T + (if f T = x then 1 else 0) := h
          rw [if_neg e] at h3
          exact h3
        obtain ⟨j, h4, h5, h6⟩ := ct_ex2 T h2
        exact ⟨j, h4, by omega, h6⟩
def gdP (M : Mem) (i N t : Nat) : Prop := N.testBit t = false ∧ oc M 0 t 0 = nI i ∧ oc M 0 t 6 = 0
def cuN (M : Mem) (i N : Nat) (x : Int32) : Nat → Nat
  | 0 => 0
  | t + 1 => cuN M i N x t + (if (N.testBit t = false ∧ oc M 0 t 0 = nI i ∧ oc M 0 t 6 = 0) ∧ owedV M 0 t = x then 1 else 0)
theorem cu_ex {M : Mem} {i N : Nat} {x : Int32} : ∀ n, 0 < cuN M i N x n → ∃ t, t < n ∧ gdP M i N t ∧ owedV M 0 t = x
  | 0, h => absurd h (Nat.not_lt_zero _)
  | n + 1, h => by
    by_cases e : (N.testBit n = false ∧ oc M 0 n 0 = nI i ∧ oc M 0 n 6 = 0) ∧ owedV M 0 n = x
    · exact ⟨n, Nat.lt_succ_self n, e.1, e.2⟩
    · have h2 : 0 < cuN M i N x n := by
        have h3 : 0 < cuN M i N x n + (if (N.testBit n = false ∧ oc M 0 n 0 = nI i ∧ oc M 0 n 6 = 0) ∧ owedV M 0 n = x then 1 else 0) := h
        rw [if_neg e] at h3
        exact h3
      obtain ⟨t, h4, h5, h6⟩ := cu_ex n h2
      exact ⟨t, by omega, h5, h6⟩
theorem cu_pos {M : Mem} {i N t : Nat} (hg : gdP M i N t) : ∀ n, t < n → 0 < cuN M i N (owedV M 0 t) n
  | 0, h => absurd h (Nat.not_lt_zero _)
  | n + 1, h => by
    show 0 < cuN M i N (owedV M 0 t) n + (if (N.testBit n = false ∧ oc M 0 n 0 = nI i ∧ oc M 0 n 6 = 0) ∧ owedV M 0 n = owedV M 0 t then 1 else 0)
    by_cases e : t = n
    · subst e
      rw [if_pos ⟨hg, rfl⟩]
      omega
    · have := cu_pos hg n (by omega)
      omega
theorem cu_o {M : Mem} {i N q : Nat} {x : Int32} : ∀ n, n ≤ q → cuN M i (N ||| 2 ^ q) x n = cuN M i N x n
  | 0, _ => rfl
  | n + 1, h => by
    show cuN M i (N ||| 2 ^ q) x n + (if ((N ||| 2 ^ q).testBit n = false ∧ oc M 0 n 0 = nI i ∧ oc M 0 n 6 = 0) ∧ owedV M 0 n = x then 1 else 0) = cuN M i N x n + (if (N.testBit n = false ∧ oc M 0 n 0 = nI i ∧ oc M 0 n 6 = 0) ∧ owedV M 0 n = x then 1 else 0)
    rw [cu_o n (by omega), msk_tb, decide_eq_false (by omega), Bool.or_false]
theorem cu_set {M : Mem} {i N q : Nat} {x : Int32} (hg : gdP M i N q) : ∀ n, q < n → cuN M i (N ||| 2 ^ q) x n + (if owedV M 0 q = x then 1 else 0) = cuN M i N x n
  | 0, h => absurd h (Nat.not_lt_zero _)
  | n + 1, h => by
    show cuN M i (N ||| 2 ^ q) x n + (if ((N ||| 2 ^ q).testBit n = false ∧ oc M 0 n 0 = nI i ∧ oc M 0 n 6 = 0) ∧ owedV M 0 n = x then 1 else 0) + _ = cuN M i N x n + (if (N.testBit n = false ∧ oc M 0 n 0 = nI i ∧ oc M 0 n 6 = 0) ∧ owedV M 0 n = x then 1 else 0)
    rw [msk_tb]
    by_cases e : q = n
    · subst e
      rw [cu_o q (Nat.le_refl _), decide_eq_true rfl, Bool.or_true, if_neg (fun z => by cases z.1.1)]
      by_cases c : owedV M 0 q = x
      · rw [if_pos c, if_pos ⟨hg, c⟩]
      · rw [if_neg c, if_neg (fun z => c z.2)]
    · have ih := cu_set (x := x) hg n (by omega)
      rw [decide_eq_false e, Bool.or_false]
      omega
theorem mnext_spec {M : Mem} {i N : Nat} : ∀ (k t : Nat) (b : Option Nat), match mnextF M i N k t b with
    | none => b = none ∧ ∀ q, t ≤ q → q < t + k → ¬ gdP M i N q
    | some q => (b = some q ∨ (gdP M i N q ∧ t ≤ q ∧ q < t + k)) ∧ (∀ p, t ≤ p → p < t + k → gdP M i N p → owedV M 0 q ≤ owedV M 0 p) ∧ ∀ p, b = some p → owedV M 0 q ≤ owedV M 0 p
  | 0, t, none => ⟨rfl, fun q h1 h2 => by omega⟩
  | 0, t, some b => ⟨Or.inl rfl, fun p h1 h2 => by omega, fun p e => by cases e; exact Int32.le_refl _⟩
  | k + 1, t, b => by
    by_cases a : (N.testBit t = false ∧ oc M 0 t 0 = nI i ∧ oc M 0 t 6 = 0) ∧ (b = none ∨ owedV M 0 t < owedV M 0 (b.getD 0))
    · rw [mnext_y a.1 a.2]
      have ih := mnext_spec (M := M) (i := i) (N := N) k (t + 1) (some t)
      cases hr : mnextF M i N k (t + 1) (some t) with
      | none =>
        rw [hr] at ih
        exact absurd ih.1 (fun z => by cases z)
      | some q =>
        rw [hr] at ih
        obtain ⟨i1, i2, i3⟩ := ih
        refine ⟨?_, fun p h1 h2 hg => ?_, fun p e => ?_⟩
        · rcases i1 with e | ⟨e1, e2, e3⟩
          · cases e
            exact Or.inr ⟨a.1, Nat.le_refl _, by omega⟩
          · exact Or.inr ⟨e1, by omega, by omega⟩
        · by_cases c : p = t
          · subst c
            exact i3 p rfl
          · exact i2 p (by omega) (by omega) hg
        · rcases a.2 with z | z
          · rw [z] at e
            cases e
          · rw [e] at z
            exact Int32.le_trans (i3 t rfl) (Int32.le_of_lt z)
    · rw [mnext_n a]
      have ih := mnext_spec (M := M) (i := i) (N := N) k (t + 1) b
      cases hr : mnextF M i N k (t + 1) b with
      | none =>
        rw [hr] at ih
        refine ⟨ih.1, fun q h1 h2 hg => ?_⟩
        by_cases c : q = t
        · subst c
          exact a ⟨hg, Or.inl ih.1⟩
        · exact ih.2 q (by omega) (by omega) hg
      | some q =>
        rw [hr] at ih
        obtain ⟨i1, i2, i3⟩ := ih
        refine ⟨?_, fun p h1 h2 hg => ?_, i3⟩
        · exact i1.imp id (fun z => ⟨z.1, by omega, by omega⟩)
        · by_cases c : p = t
          · subst c
            cases b with
            | none => exact absurd ⟨hg, Or.inl rfl⟩ a
            | some b =>
              have h3 : ¬ owedV M 0 p < owedV M 0 b := fun z => a ⟨hg, Or.inr z⟩
              exact Int32.le_trans (i3 b rfl) (Int32.not_lt.mp h3)
          · exact i2 p (by omega) (by omega) hg
theorem mos_eq {M : Mem} {f : Nat → Int32} {i n T : Nat} (hs : Sd f T) : ∀ (k p F N : Nat) (l : Int32), p + k = T → k < F → (∀ x, cuN M i N x n + ctF f x p = ctF f x T) → mosF f k p l = mmosF M i n F N l (nI p)
  | k, p, 0, N, l, _, hF, _ => absurd hF (Nat.not_lt_zero _)
  | 0, p, F + 1, N, l, hp, _, hc => by
    have hm := mnext_spec (M := M) (i := i) (N := N) n 0 none
    cases hr : mnextF M i N n 0 none with
    | none => exact (mmos_0 hr).symm
    | some q =>
      rw [hr] at hm
      rcases hm.1 with e | ⟨e, -, e3⟩
      · cases e
      · have h1 := cu_pos e n (by omega)
        have h2 := hc (owedV M 0 q)
        have h3 : p = T := by omega
        rw [h3] at h2
        omega
  | k + 1, p, F + 1, N, l, hp, hF, hc => by
    have hm := mnext_spec (M := M) (i := i) (N := N) n 0 none
    have h1 := hc (f p)
    have h2 : ctF f (f p) p + 1 ≤ ctF f (f p) T := by
      have h3 := ct_mono (f := f) (x := f p) (a := p + 1) (b := T) (by omega)
      have h4 : ctF f (f p) (p + 1) = ctF f (f p) p + 1 := by
        show ctF f (f p) p + (if f p = f p then 1 else 0) = _
        rw [if_pos rfl]
      omega
    obtain ⟨t, t1, t2, t3⟩ := cu_ex (M := M) (i := i) (N := N) (x := f p) n (by omega)
    cases hr : mnextF M i N n 0 none with
    | none =>
      rw [hr] at hm
      exact absurd t2 (hm.2 t (Nat.zero_le _) (by omega))
    | some q =>
      rw [hr] at hm
      obtain ⟨m1, m2, -⟩ := hm
      rcases m1 with e | ⟨e1, -, e3⟩
      · cases e
      · have hq : owedV M 0 q = f p := by
          have h5 := m2 t (Nat.zero_le _) (by omega) t2
          rw [t3] at h5
          have h6 := cu_pos e1 n (by omega)
          have h7 := hc (owedV M 0 q)
          obtain ⟨j, j1, j2, j3⟩ := ct_ex2 (f := f) (x := owedV M 0 q) (p := p) T (by omega)
          have h8 := hs p j j1 j2
          rw [j3] at h8
          exact Int32.le_antisymm h5 h8
        show (if l < f p then nI p else mosF f k (p + 1) (l - f p)) = _
        by_cases c : l < f p
        · rw [if_pos c, mmos_1 hr (by rw [hq]; exact c)]
        · rw [if_neg c, mmos_2 hr (by rw [hq]; exact c), hq, nI_1]
          refine mos_eq hs k (p + 1) F (N ||| 2 ^ q) _ (by omega) (by omega) (fun x => ?_)
          have h5 := cu_set (x := x) e1 n (by omega)
          have h6 := hc x
          show cuN M i (N ||| 2 ^ q) x n + (ctF f x p + (if f p = x then 1 else 0)) = _
          rw [hq] at h5
          omega
theorem sim_most {A B : Mem} {n cN i : Nat} (h : SimD A B 0 n cN) (hi : i < cN) :
    mosF (srtF (putP (fun t => decide (A 2 0 t 7 = 0 ∧ A 2 0 t 0 = nI i)) (fun t => debtV A 0 t (A 0 0 0 0)) (A 5 0 0) n).2 ((putP (fun t => decide (A 2 0 t 7 = 0 ∧ A 2 0 t 0 = nI i)) (fun t => debtV A 0 t (A 0 0 0 0)) (A 5 0 0) n).1 - 1)) (putP (fun t => decide (A 2 0 t 7 = 0 ∧ A 2 0 t 0 = nI i)) (fun t => debtV A 0 t (A 0 0 0 0)) (A 5 0 0) n).1 0 (A 1 0 i 0) = mmosF B i n (n + 1) 0 (B 7 0 0 i) 0 := by
  have hT := h.2.2.2.2.2.2.2.1
  have hc : ∀ x m, m ≤ n → cuN B i 0 x m = ctF (putP (fun t => decide (A 2 0 t 7 = 0 ∧ A 2 0 t 0 = nI i)) (fun t => debtV A 0 t (A 0 0 0 0)) (A 5 0 0) m).2 x (putP (fun t => decide (A 2 0 t 7 = 0 ∧ A 2 0 t 0 = nI i)) (fun t => debtV A 0 t (A 0 0 0 0)) (A 5 0 0) m).1 := fun x m => by
    induction m with
    | zero => exact fun _ => rfl
    | succ m ih =>
      intro hm
      obtain ⟨t0, -, -, -, -, -, -, t7, -, -⟩ := hT m (by omega)
      have ih2 := ih (by omega)
      show cuN B i 0 x m + (if ((0 : Nat).testBit m = false ∧ oc B 0 m 0 = nI i ∧ oc B 0 m 6 = 0) ∧ owedV B 0 m = x then 1 else 0) = _
      by_cases e : oc B 0 m 6 = 0 ∧ oc B 0 m 0 = nI i
      · rw [putP_y (decide_eq_true (show A 2 0 m 7 = 0 ∧ A 2 0 m 0 = nI i by rw [t7, t0]; exact e))]
        show _ = ctF (upd _ _ (debtV A 0 m (A 0 0 0 0))) x _ + (if upd _ _ (debtV A 0 m (A 0 0 0 0)) _ = x then 1 else 0)
        rw [upd_on, ctF_congr (g := (putP (fun t => decide (A 2 0 t 7 = 0 ∧ A 2 0 t 0 = nI i)) (fun t => debtV A 0 t (A 0 0 0 0)) (A 5 0 0) m).2) _ (fun j hj => upd_off (by omega)), ← ih2, sim_owed h (show m < n by omega)]
        by_cases c : owedV B 0 m = x
        · rw [if_pos c, if_pos ⟨⟨Nat.zero_testBit m, e.2, e.1⟩, c⟩]
        · rw [if_neg c, if_neg (fun z => c z.2)]
      · rw [putP_n (fun z => e (by have := of_decide_eq_true z; rw [t7, t0] at this; exact this)), if_neg (fun z => e ⟨z.1.2.2, z.1.2.1⟩), ih2]
        rfl
  have hle := putP_le (fun t => decide (A 2 0 t 7 = 0 ∧ A 2 0 t 0 = nI i)) (fun t => debtV A 0 t (A 0 0 0 0)) (A 5 0 0) n
  have hcn := fun x => hc x n (Nat.le_refl n)
  generalize putP (fun t => decide (A 2 0 t 7 = 0 ∧ A 2 0 t 0 = nI i)) (fun t => debtV A 0 t (A 0 0 0 0)) (A 5 0 0) n = P at hcn hle ⊢
  obtain ⟨s1, s2, -⟩ := srt_put P.2 P.1
  rw [mos_eq (M := B) (i := i) (n := n) s1 P.1 0 (n + 1) 0 _ (Nat.zero_add _) (by omega) (fun x => by
    rw [hcn x, s2 x]
    rfl), (h.2.2.2.2.2.2.1 i hi).1]
  rfl
