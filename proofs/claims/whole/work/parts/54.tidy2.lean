/-! tidying: the class's cells and the reference's things -/
theorem push_congr {L : Nat} : ∀ (n k : Nat) (m l : Int32) (to : Nat) (p q : Nat → Int32), k + n ≤ L → to ≤ k → (∀ j, j < L → p j = q j) → (pushF n k m l to p).1 = (pushF n k m l to q).1 ∧ ∀ j, j < L → (pushF n k m l to p).2 j = (pushF n k m l to q).2 j
  | 0, _, _, _, _, _, _, _, _, h => ⟨rfl, h⟩
  | n + 1, k, m, l, to, p, q, h1, h2, h => by
    have hk := h k (by omega)
    have hu : ∀ j, j < L → upd (upd p k (-1)) to (q k) j = upd (upd q k (-1)) to (q k) j := fun j hj => by
      unfold upd
      rw [h j hj]
    by_cases e : p k = -1
    · rw [push_n e, push_n (hk.symm.trans e)]
      exact push_congr n (k + 1) m l to p q (by omega) (by omega) h
    · have e2 : ¬ q k = -1 := fun z => e (hk.trans z)
      by_cases c : p k = l ∨ k ≤ to
      · rw [push_a e c, push_a e2 (by rw [← hk]; exact c), hk]
        exact push_congr n (k + 1) m (q k) (to + 1) _ _ (by omega) (by omega) hu
      · have c1 : ¬ p k = l := fun z => c (Or.inl z)
        have c3 : to < k := by omega
        rw [push_b e c1 c3, push_b e2 (by rw [← hk]; exact c1) c3, hk]
        exact push_congr n (k + 1) (m + 1) (q k) (to + 1) _ _ (by omega) (by omega) hu
theorem push_m : ∀ (n k : Nat) (m l : Int32) (to : Nat) (p : Nat → Int32), (pushF n k m l to p).1 = m + (pushF n k 0 l to p).1 ∧ (pushF n k m l to p).2 = (pushF n k 0 l to p).2
  | 0, _, m, _, _, _ => ⟨(Int32.add_zero m).symm, rfl⟩
  | n + 1, k, m, l, to, p => by
    by_cases e : p k = -1
    · rw [push_n e, push_n e]
      exact push_m n (k + 1) m l to p
    · by_cases c : p k = l ∨ k ≤ to
      · rw [push_a e c, push_a e c]
        exact push_m n (k + 1) m _ _ _
      · have c1 : ¬ p k = l := fun z => c (Or.inl z)
        have c3 : to < k := by omega
        rw [push_b e c1 c3, push_b e c1 c3]
        obtain ⟨a1, a2⟩ := push_m n (k + 1) (m + 1) (p k) (to + 1) (upd (upd p k (-1)) to (p k))
        obtain ⟨b1, b2⟩ := push_m n (k + 1) (0 + 1) (p k) (to + 1) (upd (upd p k (-1)) to (p k))
        refine ⟨?_, a2.trans b2.symm⟩
        rw [a1, b1, Int32.zero_add, Int32.add_assoc]
def blkF (p : Nat → Int32) (k W to : Nat) (x : Int32) : Nat → Int32 := fun j => if to ≤ j ∧ j < to + W then x else if k ≤ j ∧ j < k + W then -1 else p j
theorem blk_0 (p : Nat → Int32) (k to : Nat) (x : Int32) : blkF p k 0 to x = p := by
  funext j
  unfold blkF
  rw [if_neg (fun z => by omega), if_neg (fun z => by omega)]
theorem blk_s {p : Nat → Int32} {k V to : Nat} {x : Int32} (h : to ≤ k) : blkF (upd (upd p k (-1)) to x) (k + 1) V (to + 1) x = blkF p k (V + 1) to x := by
  funext j
  unfold blkF upd
  by_cases a : to + 1 ≤ j ∧ j < to + 1 + V
  · rw [if_pos a, if_pos (by omega)]
  · rw [if_neg a]
    by_cases b : k + 1 ≤ j ∧ j < k + 1 + V
    · rw [if_pos b, if_neg (by omega), if_pos (by omega)]
    · rw [if_neg b]
      by_cases c : j = to
      · rw [if_pos c, if_pos (by omega)]
      · rw [if_neg c]
        by_cases d : j = k
        · rw [if_pos d, if_neg (by omega), if_pos (by omega)]
        · rw [if_neg d, if_neg (by omega), if_neg (by omega)]
theorem blk_id {p : Nat → Int32} {k W : Nat} {x : Int32} (h : ∀ j, k ≤ j → j < k + W → p j = x) : blkF p k W k x = p := by
  funext j
  unfold blkF
  by_cases a : k ≤ j ∧ j < k + W
  · rw [if_pos a, h j a.1 a.2]
  · rw [if_neg a, if_neg a]
theorem push_run {x : Int32} (hx : ¬ x = -1) : ∀ (V c k : Nat) (m : Int32) (to : Nat) (p : Nat → Int32), to ≤ k → (∀ j, k ≤ j → j < k + V → p j = x) → pushF (V + c) k m x to p = pushF c (k + V) m x (to + V) (blkF p k V to x)
  | 0, c, k, m, to, p, _, _ => by rw [blk_0, Nat.zero_add]; rfl
  | V + 1, c, k, m, to, p, h1, h => by
    have hk := h k (Nat.le_refl k) (by omega)
    rw [show V + 1 + c = (V + c) + 1 by omega, push_a (by rw [hk]; exact hx) (Or.inl hk), hk, push_run hx V c (k + 1) m (to + 1) _ (by omega) (fun j h2 h3 => by
      by_cases e : j = to
      · rw [e]; exact upd_on
      · rw [upd_off e, upd_off (by omega)]
        exact h j (by omega) (by omega)), blk_s h1, show k + 1 + V = k + (V + 1) by omega, show to + 1 + V = to + (V + 1) by omega]
theorem push_blk {x l : Int32} {V c k to : Nat} {m : Int32} {p : Nat → Int32} (hx : ¬ x = -1) (hl : ¬ x = l) (h1 : to ≤ k) (h : ∀ j, k ≤ j → j < k + (V + 1) → p j = x) : pushF (V + 1 + c) k m l to p = pushF c (k + (V + 1)) (if to < k then m + 1 else m) x (to + (V + 1)) (blkF p k (V + 1) to x) := by
  have hk := h k (Nat.le_refl k) (by omega)
  have hq : ∀ j, k + 1 ≤ j → j < k + 1 + V → upd (upd p k (-1)) to x j = x := fun j h2 h3 => by
    by_cases e : j = to
    · rw [e]; exact upd_on
    · rw [upd_off e, upd_off (by omega)]
      exact h j (by omega) (by omega)
  by_cases a : to < k
  · rw [show V + 1 + c = (V + c) + 1 by omega, push_b (by rw [hk]; exact hx) (by rw [hk]; exact hl) a, hk, push_run hx V c (k + 1) (m + 1) (to + 1) _ (by omega) hq, blk_s h1, show k + 1 + V = k + (V + 1) by omega, show to + 1 + V = to + (V + 1) by omega, if_pos a]
  · rw [show V + 1 + c = (V + c) + 1 by omega, push_a (by rw [hk]; exact hx) (Or.inr (by omega)), hk, push_run hx V c (k + 1) m (to + 1) _ (by omega) hq, blk_s h1, show k + 1 + V = k + (V + 1) by omega, show to + 1 + V = to + (V + 1) by omega, if_neg a]
/-! where things lie, in the reference alone -/
def rowM (M : Mem) (i : Nat) : Nat → Int32 := fun j => M 10 0 0 (frN i + j)
def LieAt (M : Mem) (t g q W : Nat) : Prop := g < 3 ∧ 1 ≤ W ∧ W ≤ 10 ∧ q + W ≤ 10 * (g + 1) ∧ oc M 0 t 7 = nI (frN g + q) ∧ oc M 0 t 3 = nI W ∧ ∀ k, k < 60 → (M 10 0 0 k = nI t ↔ frN g + q ≤ k ∧ k < frN g + q + W)
def LieN (M : Mem) (t : Nat) : Prop := (oc M 0 t 7 = -1 ∧ ∀ k, k < 60 → ¬ M 10 0 0 k = nI t) ∨ ∃ g q W, LieAt M t g q W
def RW (M : Mem) (n : Nat) : Prop := (∀ k, k < 60 → M 10 0 0 k = -1 ∨ ∃ t, t < n ∧ M 10 0 0 k = nI t) ∧ ∀ t, t < n → LieN M t
def KeepT (M M' : Mem) : Prop := (∀ k, ¬ k = 9 → ¬ k = 10 → M' k = M k) ∧ ∀ t j, j < 11 → ¬ j = 7 → oc M' 0 t j = oc M 0 t j
theorem KeepT.refl (M : Mem) : KeepT M M := ⟨fun _ _ _ => rfl, fun _ _ _ _ => rfl⟩
theorem KeepT.tr {M M1 M2 : Mem} (h : KeepT M M1) (h2 : KeepT M1 M2) : KeepT M M2 := ⟨fun k a b => (h2.1 k a b).trans (h.1 k a b), fun t j a b => (h2.2 t j a b).trans (h.2 t j a b)⟩
theorem mov_keep (M : Mem) (t a W : Nat) : KeepT M (mlayM (takeM M 0 t) 0 t a W) := ⟨fun k h9 h10 => by
    unfold mlayM
    rw [rset_k h10, mset_k h9, takeM_k h9 h10], fun t' j h1 h2 => (oc_lay h1 h2).trans (oc_take h1 h2)⟩
theorem mov_cell {M : Mem} {t a W k : Nat} (hk : k < 60) : mlayM (takeM M 0 t) 0 t a W 10 0 0 k = if a ≤ k ∧ k < a + W then nI t else if M 10 0 0 k = nI t then -1 else M 10 0 0 k := by
  unfold mlayM
  rw [rset_cell]
  unfold layN
  have e : takeM M 0 t 10 0 0 k = if M 10 0 0 k = nI t then -1 else M 10 0 0 k := by
    unfold takeM
    rw [mset_k (by decide), rset_cell]
    unfold clrF
    by_cases c : M 10 0 0 k = nI t
    · rw [if_pos c, if_pos ⟨hk, c⟩]
    · rw [if_neg c, if_neg (fun z => c z.2)]
  rw [e]
theorem mov_7 (M : Mem) (t a W : Nat) : oc (mlayM (takeM M 0 t) 0 t a W) 0 t 7 = nI a := by
  show rset (mset (takeM M 0 t) 9 0 0 (11 * t + 7) (nI a)) 10 0 0 _ 9 0 0 (11 * t + 7) = _
  rw [rset_k (by decide)]
  exact if_pos ⟨rfl, rfl, rfl, rfl⟩
theorem mov_7o {M : Mem} {t t' a W : Nat} (h : ¬ t' = t) : oc (mlayM (takeM M 0 t) 0 t a W) 0 t' 7 = oc M 0 t' 7 := by
  show rset (mset (takeM M 0 t) 9 0 0 (11 * t + 7) (nI a)) 10 0 0 _ 9 0 0 (11 * t' + 7) = _
  rw [rset_k (by decide), mset_s (by omega)]
  show mset (rset M 10 0 0 _) 9 0 0 (11 * t + 7) (-1) 9 0 0 (11 * t' + 7) = _
  rw [mset_s (by omega), rset_k (by decide)]
theorem fr_u {g i j : Nat} (hg : g < 3) (hi : i < 3) (h1 : frN g ≤ j) (h2 : j < frN g + 10 * (g + 1)) (h3 : frN i ≤ j) (h4 : j < frN i + 10 * (i + 1)) : g = i := by
  match g, i, hg, hi with
  | 0, 0, _, _ => rfl
  | 1, 1, _, _ => rfl
  | 2, 2, _, _ => rfl
  | 0, 1, _, _ => have h5 : 10 ≤ j := h3; have h6 : j < 0 + 10 := h2; omega
  | 0, 2, _, _ => have h5 : 30 ≤ j := h3; have h6 : j < 0 + 10 := h2; omega
  | 1, 0, _, _ => have h5 : 10 ≤ j := h1; have h6 : j < 0 + 10 := h4; omega
  | 1, 2, _, _ => have h5 : 30 ≤ j := h3; have h6 : j < 10 + 20 := h2; omega
  | 2, 0, _, _ => have h5 : 30 ≤ j := h1; have h6 : j < 0 + 10 := h4; omega
  | 2, 1, _, _ => have h5 : 30 ≤ j := h1; have h6 : j < 10 + 20 := h4; omega
/-- a thing is moved to the left over free places -/
theorem mov_rw {M : Mem} {n t i q W a : Nat} (hR : RW M n) (hn : n ≤ 40) (ht : t < n) (hl : LieAt M t i q W) (ha : frN i ≤ a) (haq : a ≤ frN i + q) (hf : ∀ j, a ≤ j → j < frN i + q → M 10 0 0 j = -1) : RW (mlayM (takeM M 0 t) 0 t a W) n ∧ LieAt (mlayM (takeM M 0 t) 0 t a W) t i (a - frN i) W := by
  obtain ⟨l1, l2, l3, l4, l5, l6, l7⟩ := hl
  have hf2 := frN_s l1
  have hf3 := frN_le l1
  have hne : ∀ t', t' < n → ¬ t' = t → ¬ nI t = nI t' := fun t' ht' e z => e (nI_inj (by omega) (by omega) z).symm
  have hA : LieAt (mlayM (takeM M 0 t) 0 t a W) t i (a - frN i) W := by
    refine ⟨l1, l2, l3, by omega, ?_, ((mov_keep M t a W).2 t 3 (by decide) (by decide)).trans l6, fun k hk => ?_⟩
    · rw [mov_7, show frN i + (a - frN i) = a by omega]
    · rw [mov_cell hk, show frN i + (a - frN i) = a by omega]
      by_cases c : a ≤ k ∧ k < a + W
      · rw [if_pos c]
        exact ⟨fun _ => c, fun _ => rfl⟩
      · rw [if_neg c]
        by_cases d : M 10 0 0 k = nI t
        · rw [if_pos d]
          exact ⟨fun z => absurd z.symm (nI_m1 (by omega)), fun z => absurd z c⟩
        · rw [if_neg d]
          exact ⟨fun z => absurd z d, fun z => absurd z c⟩
  refine ⟨⟨fun k hk => ?_, fun t' ht' => ?_⟩, hA⟩
  · rw [mov_cell hk]
    by_cases c : a ≤ k ∧ k < a + W
    · rw [if_pos c]
      exact Or.inr ⟨t, ht, rfl⟩
    · rw [if_neg c]
      by_cases d : M 10 0 0 k = nI t
      · rw [if_pos d]
        exact Or.inl rfl
      · rw [if_neg d]
        exact hR.1 k hk
  · by_cases e : t' = t
    · rw [e]
      exact Or.inr ⟨i, a - frN i, W, hA⟩
    · have hc : ∀ k, k < 60 → (mlayM (takeM M 0 t) 0 t a W 10 0 0 k = nI t' ↔ M 10 0 0 k = nI t') := fun k hk => by
        rw [mov_cell hk]
        by_cases c : a ≤ k ∧ k < a + W
        · rw [if_pos c]
          refine ⟨fun z => absurd z (hne t' ht' e), fun z => ?_⟩
          rcases Nat.lt_or_ge k (frN i + q) with d | d
          · exact absurd ((hf k c.1 d).symm.trans z).symm (nI_m1 (by omega))
          · exact absurd (((l7 k hk).mpr ⟨d, by omega⟩).symm.trans z) (hne t' ht' e)
        · rw [if_neg c]
          by_cases d : M 10 0 0 k = nI t
          · rw [if_pos d, d]
            exact ⟨fun z => absurd z.symm (nI_m1 (by omega)), fun z => absurd z (hne t' ht' e)⟩
          · rw [if_neg d]
      rcases hR.2 t' ht' with ⟨b1, b2⟩ | ⟨g, q', W', b1, b2, b3, b4, b5, b6, b7⟩
      · exact Or.inl ⟨(mov_7o e).trans b1, fun k hk z => b2 k hk ((hc k hk).mp z)⟩
      · exact Or.inr ⟨g, q', W', b1, b2, b3, b4, (mov_7o e).trans b5, ((mov_keep M t a W).2 t' 3 (by decide) (by decide)).trans b6, fun k hk => (hc k hk).trans (b7 k hk)⟩
/-- at a border: what is done lies left of v -/
def BI (M : Mem) (n i u v : Nat) : Prop := v ≤ u ∧ ∀ t, t < n → ∀ q W, LieAt M t i q W → q < u → q + W ≤ v
theorem bi_at {M : Mem} {n i u v j : Nat} (hi : i < 3) (hR : RW M n) (hn : n ≤ 40) (hB : BI M n i u v) (h1 : v ≤ j) (h2 : j < 10 * (i + 1)) (h3 : j ≤ u) : M 10 0 0 (frN i + j) = -1 ∨ ∃ t W, t < n ∧ M 10 0 0 (frN i + j) = nI t ∧ j = u ∧ LieAt M t i u W := by
  have hf2 := frN_s hi
  have hf3 := frN_le hi
  rcases hR.1 (frN i + j) (by omega) with e | ⟨t, ht, e⟩
  · exact Or.inl e
  · rcases hR.2 t ht with ⟨-, b2⟩ | ⟨g, q, W, hl⟩
    · exact absurd e (b2 _ (by omega))
    · obtain ⟨b1, b2, b3, b4, b5, b6, b7⟩ := id hl
      have b8 := (b7 (frN i + j) (by omega)).mp e
      have hg : g = i := fr_u b1 hi (by omega : frN g ≤ frN i + j) (by omega) (by omega) (by omega)
      subst hg
      by_cases c : q < u
      · have := hB.2 t ht q W hl c
        omega
      · have h5 : q = u := by omega
        have h6 : j = u := by omega
        rw [h5] at hl
        exact Or.inr ⟨t, W, ht, e, h6, hl⟩
theorem tid_skip : ∀ (V c k nx : Nat) (m : Int32) (M : Mem) (P : Int32 → Mem → Prop), (∀ j, k ≤ j → j < k + V → M 10 0 0 j = -1 ∨ ∃ t W, t < 40 ∧ W ≤ 10 ∧ M 10 0 0 j = nI t ∧ oc M 0 t 3 = nI W ∧ ¬ oc M 0 t 7 = nI j) → TidR c (k + V) nx m M P → TidR (V + c) k nx m M P
  | 0, c, k, nx, m, M, P, _, h => by rw [Nat.zero_add]; exact h
  | V + 1, c, k, nx, m, M, P, h, hR => by
    rw [show V + 1 + c = (V + c) + 1 by omega]
    have ih := tid_skip V c (k + 1) nx m M P (fun j h1 h2 => h j (by omega) (by omega)) (by rw [show k + 1 + V = k + (V + 1) by omega]; exact hR)
    rcases h k (Nat.le_refl k) (by omega) with e | ⟨t, W, h1, h2, h3, h4, h5⟩
    · exact Or.inl ⟨e, ih⟩
    · exact Or.inr ⟨t, W, h1, h2, h3, h4, Or.inl ⟨h5, ih⟩⟩
