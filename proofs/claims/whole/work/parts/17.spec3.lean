/-! what changes the shop -/
def ageStep (M : Mem) (s t : Nat) : Mem :=
  if M 2 s t 7 = 2 then mset M 2 s t 8 (cheapV (M 2 s t 8) (M 2 s t 2))
  else if M 2 s t 7 = 0 ∧ M 2 s t 6 < M 0 s 0 0 then mset (mset (mset M 2 s t 7 2) 2 s t 8 (M 2 s t 2)) 1 s (M 2 s t 0).toNatClampNeg 1 (trV (M 1 s (M 2 s t 0).toNatClampNeg 1) (-2))
  else M
def ageN (M : Mem) (s : Nat) : Nat → Mem
  | 0 => M
  | t + 1 => ageStep (ageN M s t) s t
theorem age_c {A : Mem} {s t : Nat} (h : A 2 s t 7 = 2) : ageStep A s t = mset A 2 s t 8 (cheapV (A 2 s t 8) (A 2 s t 2)) := if_pos h
theorem age_n1 {A : Mem} {s t : Nat} (h : ¬ A 2 s t 7 = 2) (h2 : ¬ (A 2 s t 7 = 0 ∧ A 2 s t 6 < A 0 s 0 0)) : ageStep A s t = A := by
  unfold ageStep
  rw [if_neg h, if_neg h2]
theorem age_y {A : Mem} {s t i : Nat} (h : A 2 s t 7 = 0) (h2 : A 2 s t 6 < A 0 s 0 0) (ho : A 2 s t 0 = nI i) (hi : i ≤ 1000) : ageStep A s t = mset (mset (mset A 2 s t 7 2) 2 s t 8 (A 2 s t 2)) 1 s i 1 (trV (A 1 s i 1) (-2)) := by
  unfold ageStep
  rw [if_neg (by rw [h]; decide), if_pos ⟨h, h2⟩, ho, nI_clamp (n31 hi)]
theorem mset_k {M : Mem} {k s i j k' : Nat} {x : Int32} (h : ¬ k' = k) : mset M k s i j x k' = M k' := by
  funext s' i' j'
  exact if_neg (fun z => h z.1)
theorem rset_k {M : Mem} {k s i k' : Nat} {f : Nat → Int32} (h : ¬ k' = k) : rset M k s i f k' = M k' := by
  funext s' i'
  exact if_neg (fun z => h z.1)
theorem shM_k {M : Mem} {s n k' : Nat} {f : Nat → (Nat → Int32) → Nat → Int32} (h : ¬ k' = 4) : shM M s n f k' = M k' := by
  funext s' i'
  exact if_neg (fun z => h z.1)
theorem clrM_k {M : Mem} {s n k' : Nat} {t : Int32} (h : ¬ k' = 4) : clrM M s t n k' = M k' := shM_k h
theorem ageStep_k {A : Mem} {s t k : Nat} (h1 : ¬ k = 1) (h2 : ¬ k = 2) : ageStep A s t k = A k := by
  unfold ageStep
  split
  · exact mset_k h2
  · split
    · rw [mset_k h1, mset_k h2, mset_k h2]
    · rfl
theorem ageN_k {M : Mem} {s k : Nat} (h1 : ¬ k = 1) (h2 : ¬ k = 2) : ∀ t, ageN M s t k = M k
  | 0 => rfl
  | t + 1 => (ageStep_k h1 h2).trans (ageN_k h1 h2 t)
/-- the fields but state and price stay -/
theorem ageStep_f {A : Mem} {s t t' j : Nat} (h7 : ¬ j = 7) (h8 : ¬ j = 8) : ageStep A s t 2 s t' j = A 2 s t' j := by
  unfold ageStep
  split
  · exact if_neg (fun z => h8 z.2.2.2)
  · split
    · rw [mset_k (by decide)]
      exact (if_neg (fun z => h8 z.2.2.2)).trans (if_neg (fun z => h7 z.2.2.2))
    · rfl
theorem ageN_f {M : Mem} {s t' j : Nat} (h7 : ¬ j = 7) (h8 : ¬ j = 8) : ∀ t, ageN M s t 2 s t' j = M 2 s t' j
  | 0 => rfl
  | t + 1 => (ageStep_f h7 h8).trans (ageN_f h7 h8 t)
theorem dear_rng {M : Mem} {s w : Nat} : ∀ {n t : Nat} {d h : Int32}, dearF M s w n t d h = d ∨ ∃ q, t ≤ q ∧ q < t + n ∧ dearF M s w n t d h = nI q
  | 0, t, d, h => Or.inl rfl
  | n + 1, t, d, h => by
    by_cases a : (M 2 s t 7 = 2 ∧ M 2 s t 1 = M 3 s w 0 ∧ M 2 s t 8 ≤ M 3 s w 1) ∧ ¬ M 2 s t 8 ≤ h
    · rw [dear_y a.1 a.2]
      rcases dear_rng (M := M) (s := s) (w := w) (n := n) (t := t + 1) (d := nI t) (h := M 2 s t 8) with e | ⟨q, h1, h2, h3⟩
      · exact Or.inr ⟨t, Nat.le_refl t, by omega, e⟩
      · exact Or.inr ⟨q, by omega, by omega, h3⟩
    · rw [dear_n a]
      rcases dear_rng (M := M) (s := s) (w := w) (n := n) (t := t + 1) (d := d) (h := h) with e | ⟨q, h1, h2, h3⟩
      · exact Or.inl e
      · exact Or.inr ⟨q, by omega, by omega, h3⟩
def sellR (M : Mem) (s n w : Nat) : Int32 × Mem :=
  if dearF M s w n 0 (-1) (-1) = -1 then (0, M)
  else (1, clrM (mset (mset M 2 s (dearF M s w n 0 (-1) (-1)).toNatClampNeg 7 3) 0 s 0 1 (M 0 s 0 1 + M 2 s (dearF M s w n 0 (-1) (-1)).toNatClampNeg 8)) s (nI (dearF M s w n 0 (-1) (-1)).toNatClampNeg) 3)
theorem sell_n {M : Mem} {s n w : Nat} (h : dearF M s w n 0 (-1) (-1) = -1) : sellR M s n w = (0, M) := if_pos h
theorem nI_m1 {t : Nat} (h : t ≤ 1000) : ¬ nI t = -1 := fun z => nI_pos (n31 h) (by rw [z]; decide)
theorem sell_y {M : Mem} {s n w t : Nat} (h : dearF M s w n 0 (-1) (-1) = nI t) (ht : t ≤ 1000) : sellR M s n w = (1, clrM (mset (mset M 2 s t 7 3) 0 s 0 1 (M 0 s 0 1 + M 2 s t 8)) s (nI t) 3) := by
  unfold sellR
  rw [h, if_neg (nI_m1 ht), nI_clamp (n31 ht)]
theorem sell_01 {M : Mem} {s n w : Nat} : (sellR M s n w).1 = 0 ∨ (sellR M s n w).1 = 1 := by
  unfold sellR
  split
  · exact Or.inl rfl
  · exact Or.inr rfl
theorem sell_k {M : Mem} {s n w k : Nat} (h0 : ¬ k = 0) (h2 : ¬ k = 2) (h4 : ¬ k = 4) : (sellR M s n w).2 k = M k := by
  unfold sellR
  split
  · rfl
  · show clrM _ _ _ _ k = M k
    rw [clrM_k h4, mset_k h0, mset_k h2]
theorem sell_0 {M : Mem} {s n w j : Nat} (h : ¬ j = 1) : (sellR M s n w).2 0 s 0 j = M 0 s 0 j := by
  unfold sellR
  split
  · rfl
  · dsimp only
    rw [clrM_k (by decide)]
    refine (if_neg (fun z => h z.2.2.2)).trans ?_
    rw [mset_k (by decide)]
theorem sell_f {M : Mem} {s n w t' j : Nat} (h7 : ¬ j = 7) : (sellR M s n w).2 2 s t' j = M 2 s t' j := by
  unfold sellR
  split
  · rfl
  · dsimp only
    rw [clrM_k (by decide), mset_k (by decide)]
    exact if_neg (fun z => h7 z.2.2.2)
/-- one day -/
def dayR (M : Mem) (s n : Nat) : Int32 × Mem :=
  ((sellR (ageN M s n) s n ((M 0 s 0 0).toNatClampNeg % 7)).1, mset (sellR (ageN M s n) s n ((M 0 s 0 0).toNatClampNeg % 7)).2 0 s 0 0 (M 0 s 0 0 + 1))
def goN (M : Mem) (s n : Nat) : Nat → Int32 × Mem
  | 0 => (0, M)
  | k + 1 => ((goN M s n k).1 + (dayR (goN M s n k).2 s n).1, (dayR (goN M s n k).2 s n).2)
theorem day_0 {M : Mem} {s n j : Nat} (h : ¬ j = 1) (h0 : ¬ j = 0) : (dayR M s n).2 0 s 0 j = M 0 s 0 j := by
  unfold dayR
  dsimp only
  refine (if_neg (fun z => h0 z.2.2.2)).trans ?_
  rw [sell_0 h, ageN_k (by decide) (by decide)]
theorem day_d {M : Mem} {s n : Nat} : (dayR M s n).2 0 s 0 0 = M 0 s 0 0 + 1 := if_pos ⟨rfl, rfl, rfl, rfl⟩
theorem day_f {M : Mem} {s n t' j : Nat} (h7 : ¬ j = 7) (h8 : ¬ j = 8) : (dayR M s n).2 2 s t' j = M 2 s t' j := by
  unfold dayR
  dsimp only
  rw [mset_k (by decide), sell_f h7, ageN_f h7 h8]
theorem goN_0 {M : Mem} {s n j : Nat} (h : ¬ j = 1) (h0 : ¬ j = 0) : ∀ k, (goN M s n k).2 0 s 0 j = M 0 s 0 j
  | 0 => rfl
  | k + 1 => (day_0 h h0).trans (goN_0 h h0 k)
theorem goN_d {M : Mem} {s n d : Nat} (hd : M 0 s 0 0 = nI d) : ∀ k, (goN M s n k).2 0 s 0 0 = nI (d + k)
  | 0 => hd
  | k + 1 => by
    show (dayR _ s n).2 0 s 0 0 = _
    rw [day_d, goN_d hd k, nI_1]
    rfl
theorem goN_f {M : Mem} {s n t' j : Nat} (h7 : ¬ j = 7) (h8 : ¬ j = 8) : ∀ k, (goN M s n k).2 2 s t' j = M 2 s t' j
  | 0 => rfl
  | k + 1 => (day_f h7 h8).trans (goN_f h7 h8 k)
/-- a copy of objects 0 .. n - 1 of kind k, of w slots, from shop s2 to s -/
def cpK (M : Mem) (k s s2 n w : Nat) : Mem := fun k' s' i' j' => if k' = k ∧ s' = s ∧ i' < n ∧ j' < w then M k s2 i' j' else M k' s' i' j'
theorem cpK_0 (M : Mem) (k s s2 w : Nat) : cpK M k s s2 0 w = M := by
  funext k' s' i' j'
  exact if_neg (fun z => Nat.not_lt_zero _ z.2.2.1)
theorem cpK_s (M : Mem) (k s s2 n w : Nat) : cpK M k s s2 (n + 1) w = rset (cpK M k s s2 n w) k s n (fun j => if j < w then M k s2 n j else M k s n j) := by
  funext k' s' i' j'
  unfold cpK rset
  by_cases h1 : k' = k ∧ s' = s
  · obtain ⟨rfl, rfl⟩ := h1
    by_cases e : i' = n
    · subst e
      simp
    · have : (i' < n + 1) = (i' < n) := by simp; omega
      simp [e, this]
  · rw [if_neg (fun z => h1 ⟨z.1, z.2.1⟩), if_neg (fun z => h1 ⟨z.1, z.2.1⟩)]
    exact (if_neg (fun z => h1 ⟨z.1, z.2.1⟩)).symm
theorem cpK_n (M : Mem) (k s s2 n w : Nat) : cpK M k s s2 n w k s n = M k s n := by
  funext j
  exact if_neg (fun z => Nat.lt_irrefl _ z.2.2.1)
theorem cpK_o (M : Mem) {k s s2 n w : Nat} (h : ¬ s2 = s) : cpK M k s s2 n w k s2 = M k s2 := by
  funext i j
  exact if_neg (fun z => h z.2.1)
theorem cpK_k (M : Mem) {k s s2 n w k' : Nat} (h : ¬ k' = k) : cpK M k s s2 n w k' = M k' := by
  funext s' i j
  exact if_neg (fun z => h z.1)
theorem upd2 (f : Nat → Int32) (x y : Int32) : upd (upd f 0 x) 1 y = fun j => if j < 2 then (if j = 0 then x else y) else f j := by
  funext j
  match j with
  | 0 => rfl
  | 1 => rfl
  | n + 2 => simp [upd]; omega
/-- the buyers' copy: a kind of -1 takes the purse 0 -/
def buyK (M : Mem) (s s2 n : Nat) : Mem := fun k' s' i' j' => if k' = 3 ∧ s' = s ∧ i' < n ∧ j' < 2 then (if j' = 0 then M 3 s2 i' 0 else if M 3 s2 i' 0 = -1 then 0 else M 3 s2 i' 1) else M k' s' i' j'
theorem buyK_0 (M : Mem) (s s2 : Nat) : buyK M s s2 0 = M := by
  funext k' s' i' j'
  exact if_neg (fun z => Nat.not_lt_zero _ z.2.2.1)
theorem buyK_s (M : Mem) (s s2 n : Nat) : buyK M s s2 (n + 1) = rset (buyK M s s2 n) 3 s n (fun j => if j < 2 then (if j = 0 then M 3 s2 n 0 else if M 3 s2 n 0 = -1 then 0 else M 3 s2 n 1) else M 3 s n j) := by
  funext k' s' i' j'
  unfold buyK rset
  by_cases h1 : k' = 3 ∧ s' = s
  · obtain ⟨rfl, rfl⟩ := h1
    by_cases e : i' = n
    · subst e
      simp
    · have : (i' < n + 1) = (i' < n) := by simp; omega
      simp [e, this]
  · rw [if_neg (fun z => h1 ⟨z.1, z.2.1⟩), if_neg (fun z => h1 ⟨z.1, z.2.1⟩)]
    exact (if_neg (fun z => h1 ⟨z.1, z.2.1⟩)).symm
theorem buyK_n (M : Mem) (s s2 n : Nat) : buyK M s s2 n 3 s n = M 3 s n := by
  funext j
  exact if_neg (fun z => Nat.lt_irrefl _ z.2.2.1)
theorem buyK_o (M : Mem) {s s2 n : Nat} (h : ¬ s2 = s) : buyK M s s2 n 3 s2 = M 3 s2 := by
  funext i j
  exact if_neg (fun z => h z.2.1)
theorem buyK_k (M : Mem) {s s2 n k' : Nat} (h : ¬ k' = 3) : buyK M s s2 n k' = M k' := by
  funext s' i j
  exact if_neg (fun z => h z.1)
def scaK (M : Mem) (s s2 : Nat) : Mem := cpK M 0 s s2 1 5
theorem upd5 (f g : Nat → Int32) : upd (upd (upd (upd (upd f 0 (g 0)) 1 (g 1)) 2 (g 2)) 3 (g 3)) 4 (g 4) = fun j => if j < 5 then g j else f j := by
  funext j
  match j with
  | 0 => rfl
  | 1 => rfl
  | 2 => rfl
  | 3 => rfl
  | 4 => rfl
  | n + 5 => simp [upd]; omega
/-- the shop s becomes as s2 is, of cN customers and n tickets -/
def shopC (M : Mem) (s s2 cN n : Nat) : Mem := cpyM (buyK (cpK (cpK (scaK M s s2) 1 s s2 cN 2) 2 s s2 n 10) s s2 7) s s2 3
