/-! the whole's invariant: what holds between two calls -/
def Inv2 (A B : Mem) (n cN d c : Nat) : Prop :=
  SimD A B 0 n cN ∧ InvB B 0 n cN ∧ BuyS A B 0 ∧ (∀ w, w < 7 → B 12 0 0 w = -1 → B 13 0 0 w = 0) ∧ RW B n ∧ n ≤ 40 ∧ cN ≤ 10 ∧ B 11 0 0 1 = nI cN ∧ (∀ i, i < n → ∃ r, r ≤ 3 ∧ oc B 0 i 9 = nI r) ∧ A 0 0 0 0 = nI d ∧ d ≤ 200 * c
def EqA (A A' : Mem) : Prop := ∀ k, k ≤ 4 → A' k 0 = A k 0
def EqB (B B' : Mem) : Prop := (∀ k, 6 ≤ k → k ≤ 13 → ¬ k = 11 → B' k 0 = B k 0) ∧ B' 11 0 0 1 = B 11 0 0 1
theorem EqA.refl (A : Mem) : EqA A A := fun _ _ => rfl
theorem EqB.refl (B : Mem) : EqB B B := ⟨fun _ _ _ _ => rfl, rfl⟩
theorem EqA.tr {A B C : Mem} (h : EqA A B) (h2 : EqA B C) : EqA A C := fun k hk => (h2 k hk).trans (h k hk)
theorem EqB.tr {A B C : Mem} (h : EqB A B) (h2 : EqB B C) : EqB A C := ⟨fun k a b e => (h2.1 k a b e).trans (h.1 k a b e), h2.2.trans h.2⟩
theorem simD_k0 {A A' B B' : Mem} {n cN : Nat} (h : SimD A B 0 n cN) (a : EqA A A') (b : EqB B B') : SimD A' B' 0 n cN := by
  have a0 : ∀ i j, A' 0 0 i j = A 0 0 i j := fun i j => by rw [a 0 (by decide)]
  have a1 : ∀ i j, A' 1 0 i j = A 1 0 i j := fun i j => by rw [a 1 (by decide)]
  have a2 : ∀ i j, A' 2 0 i j = A 2 0 i j := fun i j => by rw [a 2 (by decide)]
  have a4 : ∀ i j, A' 4 0 i j = A 4 0 i j := fun i j => by rw [a 4 (by decide)]
  have b6 : ∀ i j, B' 6 0 i j = B 6 0 i j := fun i j => by rw [b.1 6 (by decide) (by decide) (by decide)]
  have b7 : ∀ i j, B' 7 0 i j = B 7 0 i j := fun i j => by rw [b.1 7 (by decide) (by decide) (by decide)]
  have b8 : ∀ i j, B' 8 0 i j = B 8 0 i j := fun i j => by rw [b.1 8 (by decide) (by decide) (by decide)]
  have b9 : ∀ i j, B' 9 0 i j = B 9 0 i j := fun i j => by rw [b.1 9 (by decide) (by decide) (by decide)]
  have b10 : ∀ i j, B' 10 0 i j = B 10 0 i j := fun i j => by rw [b.1 10 (by decide) (by decide) (by decide)]
  obtain ⟨h0, h1, h2, h3, h4, h5, hC, hT, hp⟩ := h
  refine ⟨by rw [a0, b6]; exact h0, by rw [a0, b6]; exact h1, by rw [a0, b6]; exact h2, by rw [a0]; exact h3, by rw [a0]; exact h4, by rw [b6]; exact h5, fun i hi => by rw [a1, a1, b7, b8]; exact hC i hi, fun t ht => simT_iff.mpr (fun j hj => ?_), fun g j hg hj => by rw [a4, b10]; exact hp g j hg hj⟩
  show A' 2 0 t j = B' 9 0 0 (11 * t + fw j)
  rw [a2, b9]
  exact simT_iff.mp (hT t ht) j hj
theorem rw_c {B B' : Mem} {n : Nat} (hR : RW B n) (hc : ∀ k, k < 60 → B' 10 0 0 k = B 10 0 0 k) (h3 : ∀ t, t < n → oc B' 0 t 3 = oc B 0 t 3) (h7 : ∀ t, t < n → oc B' 0 t 7 = oc B 0 t 7) : RW B' n := by
  refine ⟨fun k hk => by rw [hc k hk]; exact hR.1 k hk, fun t ht => ?_⟩
  rcases hR.2 t ht with ⟨b1, b2⟩ | ⟨g, q, W, b1, b2, b3, b4, b5, b6, b7⟩
  · exact Or.inl ⟨(h7 t ht).trans b1, fun k hk z => b2 k hk ((hc k hk).symm.trans z)⟩
  · exact Or.inr ⟨g, q, W, b1, b2, b3, b4, (h7 t ht).trans b5, (h3 t ht).trans b6, fun k hk => by rw [hc k hk]; exact b7 k hk⟩
theorem inv2_k {A A' B B' : Mem} {n cN d c : Nat} (h : Inv2 A B n cN d c) (a : EqA A A') (b : EqB B B') : Inv2 A' B' n cN d c := by
  have b9 : ∀ j, B' 9 0 0 j = B 9 0 0 j := fun j => by rw [b.1 9 (by decide) (by decide) (by decide)]
  have b8 : ∀ j, B' 8 0 0 j = B 8 0 0 j := fun j => by rw [b.1 8 (by decide) (by decide) (by decide)]
  have b10 : ∀ j, B' 10 0 0 j = B 10 0 0 j := fun j => by rw [b.1 10 (by decide) (by decide) (by decide)]
  have b12 : ∀ j, B' 12 0 0 j = B 12 0 0 j := fun j => by rw [b.1 12 (by decide) (by decide) (by decide)]
  have b13 : ∀ j, B' 13 0 0 j = B 13 0 0 j := fun j => by rw [b.1 13 (by decide) (by decide) (by decide)]
  have a0 : ∀ i j, A' 0 0 i j = A 0 0 i j := fun i j => by rw [a 0 (by decide)]
  have a3 : ∀ i j, A' 3 0 i j = A 3 0 i j := fun i j => by rw [a 3 (by decide)]
  have e : ∀ t w, oc B' 0 t w = oc B 0 t w := fun t w => b9 _
  obtain ⟨hS, ⟨i1, i2, i3, i4, i5, i6⟩, hb, hz, hR, h40, h10, hc, hr, hd, hdc⟩ := h
  refine ⟨simD_k0 hS a b, ⟨fun t ht => by rw [e]; exact i1 t ht, fun i hi => by rw [b8]; exact i2 i hi, fun t ht => by rw [e]; exact i3 t ht, fun t ht => by rw [e]; exact i4 t ht, fun t ht hs => by rw [e] at hs ⊢; exact i5 t ht hs, fun t ht => by rw [e]; exact i6 t ht⟩, fun w hw => by rw [a3, a3, b12, b13]; exact hb w hw, fun w hw => by rw [b12, b13]; exact hz w hw, rw_c hR (fun k _ => b10 k) (fun t _ => e t 3) (fun t _ => e t 7), h40, h10, b.2.trans hc, fun i hi => by rw [e]; exact hr i hi, by rw [a0]; exact hd, hdc⟩
theorem Inv2.up {A B : Mem} {n cN d c : Nat} (h : Inv2 A B n cN d c) : Inv2 A B n cN d (c + 1) := by
  obtain ⟨hS, hV, hb, hz, hR, h40, h10, hc, hr, hd, hdc⟩ := h
  exact ⟨hS, hV, hb, hz, hR, h40, h10, hc, hr, hd, by omega⟩
/-- what a call of the law's wrapper, and of the reference, leaves -/
def WPost (M : Mem) (P : Int32 → Mem → Prop) (K : Nat) (k9 : Int32) (M' : Mem) : Prop := (k9 = 0 ∧ ∃ v9 M1, P v9 M1 ∧ M' = mset M1 21 0 0 0 v9) ∨ (M' = M ∧ ¬ K = 0 ∧ k9 = nI K)
def MPost (M : Mem) (P : Int32 → Mem → Prop) (K : Nat) (r : Int32) (M' : Mem) : Prop := (K = 0 ∧ P r M') ∨ (¬ K = 0 ∧ M' = mset M 11 0 0 0 (nI K))
/-- what the law wants of a call -/
def Res (M2 : Mem) (c : Nat) (k9 r : Int32) : Prop := (∃ n cN d, Inv2 M2 M2 n cN d (c + 1)) ∧ M2 11 0 0 0 = k9 ∧ (k9 = 0 → M2 21 0 0 0 = r)
theorem eqB_11 (M : Mem) (x : Int32) : EqB M (mset M 11 0 0 0 x) := ⟨fun k _ _ h => by rw [mset_k h], mset_s (by decide)⟩
theorem eqA_11 (M : Mem) (x : Int32) : EqA M (mset M 11 0 0 0 x) := fun k hk => by rw [mset_k (by omega)]
theorem eqB_21 (M : Mem) (x : Int32) : EqB M (mset M 21 0 0 0 x) := ⟨fun k h1 h2 _ => by rw [mset_k (by omega)], by rw [mset_k (by decide)]⟩
theorem eqA_21 (M : Mem) (x : Int32) : EqA M (mset M 21 0 0 0 x) := fun k hk => by rw [mset_k (by omega)]
theorem wp_eqB {M M1 : Mem} {P : Int32 → Mem → Prop} {K : Nat} {k9 : Int32} (h1 : WPost M P K k9 M1) (hP : ∀ v Mc, P v Mc → EqB M Mc) : EqB M M1 := by
  rcases h1 with ⟨-, v, Mc, hp, rfl⟩ | ⟨rfl, -, -⟩
  · exact (hP v Mc hp).tr (eqB_21 _ _)
  · exact EqB.refl _
theorem st_gen {M M1 M2 : Mem} {P Q : Int32 → Mem → Prop} {K K2 n cN d c : Nat} {k9 r : Int32} (hI : Inv2 M M n cN d c) (h1 : WPost M P K k9 M1) (h2 : MPost M1 Q K2 r M2) (hK : K2 = K) (h3 : K ≤ 1000) (hP0 : ∀ v Mc, P v Mc → K = 0)
    (hok : ∀ v Mc, P v Mc → M1 = mset Mc 21 0 0 0 v → Q r M2 → M2 11 0 0 0 = 0 ∧ v = r ∧ M2 21 0 0 0 = v ∧ ∃ n' cN' d', Inv2 M2 M2 n' cN' d' (c + 1)) : Res M2 c k9 r := by
  rcases h1 with ⟨rfl, v, Mc, hp, he⟩ | ⟨rfl, hk, rfl⟩
  · rcases h2 with ⟨-, hq⟩ | ⟨hk, -⟩
    · obtain ⟨g1, g2, g3, g4⟩ := hok v Mc hp he hq
      exact ⟨g4, g1, fun _ => g3.trans g2⟩
    · exact absurd (hK.trans (hP0 v Mc hp)) hk
  · rcases h2 with ⟨h0, -⟩ | ⟨-, rfl⟩
    · exact absurd (hK.symm.trans h0) hk
    · refine ⟨⟨n, cN, d, (inv2_k hI (eqA_11 _ _) (eqB_11 _ _)).up⟩, ?_, fun z => absurd (nI_inj (b := 0) h3 (by decide) z) hk⟩
      rw [hK]
      exact if_pos ⟨rfl, rfl, rfl, rfl⟩
/-- a call that only tells: both memories stay but for the numbers of the call -/
theorem st_tell {M M1 M2 : Mem} {n cN d c : Nat} {v : Int32} (hI : Inv2 M M n cN d c) (hM1 : M1 = mset M 21 0 0 0 v) (hM2 : M2 = mset M1 11 0 0 0 0) : M2 11 0 0 0 = 0 ∧ M2 21 0 0 0 = v ∧ ∃ n' cN' d', Inv2 M2 M2 n' cN' d' (c + 1) := by
  subst hM2
  subst hM1
  refine ⟨if_pos ⟨rfl, rfl, rfl, rfl⟩, ?_, n, cN, d, (inv2_k hI ((eqA_21 _ _).tr (eqA_11 _ _)) ((eqB_21 _ _).tr (eqB_11 _ _))).up⟩
  rw [mset_k (by decide)]
  exact if_pos ⟨rfl, rfl, rfl, rfl⟩
theorem lie_of {A B : Mem} {n cN t : Nat} (h : SimD A B 0 n cN) (hL : LieN B t) : LieS A B 0 t := by
  have hp := h.2.2.2.2.2.2.2.2
  rcases hL with ⟨b1, b2⟩ | ⟨g, q, W, b1, b2, b3, b4, b5, b6, b7⟩
  · refine Or.inl ⟨b1, fun g j hg hj z => ?_⟩
    have hf := frN_s hg
    have hf2 := frN_le hg
    exact b2 (frN g + j) (by omega) ((hp g j hg hj).symm.trans z)
  · refine Or.inr ⟨g, q, W, b1, b2, b4, b5, fun g' j hg hj => ?_⟩
    have hf := frN_s hg
    have hf2 := frN_le hg
    rw [hp g' j hg hj, b7 (frN g' + j) (by omega)]
    by_cases e : g' = g
    · subst e
      constructor
      · intro z; exact ⟨rfl, by omega, by omega⟩
      · intro z; omega
    · constructor
      · intro z; exact absurd z (frN_far b1 hg hj b4 e)
      · intro z; exact absurd z.1 e
theorem rw_7 {B : Mem} {n t : Nat} (hR : RW B n) (ht : t < n) : oc B 0 t 7 = -1 ∨ ∃ q, q < 60 ∧ oc B 0 t 7 = nI q := by
  rcases hR.2 t ht with ⟨b1, -⟩ | ⟨g, q, W, b1, b2, b3, b4, b5, -, -⟩
  · exact Or.inl b1
  · have hf := frN_s b1
    have hf2 := frN_le b1
    exact Or.inr ⟨frN g + q, by omega, b5⟩
