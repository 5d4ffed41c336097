/-! tidying a shelf, side by side -/
theorem rowM_eq {M M' : Mem} {i : Nat} (h : ∀ j, M' 10 0 0 (frN i + j) = M 10 0 0 (frN i + j)) : rowM M' i = rowM M i := funext h
/-- what holds of a shelf tidied from the border u, v on -/
def TidP (M : Mem) (n i c u v : Nat) (m l : Int32) (P : Int32 → Mem → Prop) : Prop := ∀ M', RW M' n → KeepT M M' → (∀ j, j < 60 → (j < frN i ∨ frN (i + 1) ≤ j) → M' 10 0 0 j = M 10 0 0 j) → (∀ j, j < 10 * (i + 1) → M' 10 0 0 (frN i + j) = (pushF c u m l v (rowM M i)).2 j) → P (pushF c u m l v (rowM M i)).1 M'
theorem tid_sh {n i : Nat} (hn : n ≤ 40) (hi : i < 3) : ∀ (N c u v : Nat) (m l : Int32) (M : Mem) (P : Int32 → Mem → Prop), c ≤ N → u + c = 10 * (i + 1) → RW M n → BI M n i u v → (∀ j, u ≤ j → j < 10 * (i + 1) → M 10 0 0 (frN i + j) = -1 ∨ ¬ M 10 0 0 (frN i + j) = l) → TidP M n i c u v m l P → TidR c (frN i + u) (frN i + v) m M P
  | _, 0, u, v, m, l, M, P, _, _, hR, _, _, hP => hP M hR (KeepT.refl M) (fun _ _ _ => rfl) (fun _ _ => rfl)
  | 0, c + 1, _, _, _, _, _, _, h, _, _, _, _, _ => by omega
  | N + 1, c + 1, u, v, m, l, M, P, hcN, hc, hR, hB, hl, hP => by
    have hf2 := frN_s hi
    have hf3 := frN_le hi
    rcases bi_at (j := u) hi hR hn hB hB.1 (by omega) (Nat.le_refl u) with e | ⟨t, W, ht, e, -, hL⟩
    · refine Or.inl ⟨e, ?_⟩
      have e2 : pushF (c + 1) u m l v (rowM M i) = pushF c (u + 1) m l v (rowM M i) := push_n e
      unfold TidP at hP
      rw [e2] at hP
      refine tid_sh hn hi N c (u + 1) v m l M P (by omega) (by omega) hR ⟨by have := hB.1; omega, fun t ht q W hq hqu => ?_⟩ (fun j h1 h2 => hl j (by omega) h2) hP
      rcases Nat.lt_or_ge q u with d | d
      · exact hB.2 t ht q W hq d
      · have d2 : q = u := by omega
        subst d2
        obtain ⟨b1, b2, b3, b4, b5, b6, b7⟩ := hq
        exact absurd (((b7 (frN i + q) (by omega)).mpr ⟨Nat.le_refl _, by omega⟩).symm.trans e) (nI_m1 (by omega))
    · obtain ⟨b1, b2, b3, b4, b5, b6, b7⟩ := id hL
      obtain ⟨V, rfl⟩ : ∃ V, W = V + 1 := ⟨W - 1, by omega⟩
      obtain ⟨c1, rfl⟩ : ∃ c1, c = V + c1 := ⟨c - V, by omega⟩
      have hv := hB.1
      have hx : ¬ nI t = -1 := nI_m1 (by omega)
      have hcell : ∀ j, u ≤ j → j < u + (V + 1) → rowM M i j = nI t := fun j h1 h2 => (b7 (frN i + j) (by omega)).mpr ⟨by omega, by omega⟩
      have hxl : ¬ nI t = l := by
        rcases hl u (Nat.le_refl u) (by omega) with z | z
        · exact absurd (e.symm.trans z) hx
        · rw [← e]; exact z
      have hpu := push_blk (l := l) (V := V) (c := c1) (k := u) (to := v) (m := m) (p := rowM M i) hx hxl hv hcell
      unfold TidP at hP
      rw [show V + c1 + 1 = V + 1 + c1 by omega, hpu] at hP
      refine Or.inr ⟨t, V + 1, by omega, b3, e, b6, Or.inr ⟨b5, by omega, ?_⟩⟩
      by_cases a : v < u
      · refine Or.inl ⟨by omega, ?_⟩
        rw [if_pos a] at hP
        have hfree : ∀ j, frN i + v ≤ j → j < frN i + u → M 10 0 0 j = -1 := fun j h1 h2 => by
          rcases bi_at (j := j - frN i) hi hR hn hB (by omega) (by omega) (by omega) with z | ⟨t2, W2, -, -, z, -⟩
          · rw [show frN i + (j - frN i) = j by omega] at z
            exact z
          · omega
        obtain ⟨r1, r2⟩ := mov_rw (a := frN i + v) hR hn ht hL (by omega) (by omega) hfree
        rw [show frN i + v - frN i = v by omega] at r2
        have hk1 := mov_keep M t (frN i + v) (V + 1)
        have hcl : ∀ k, k < 60 → mlayM (takeM M 0 t) 0 t (frN i + v) (V + 1) 10 0 0 k = if frN i + v ≤ k ∧ k < frN i + v + (V + 1) then nI t else if M 10 0 0 k = nI t then -1 else M 10 0 0 k := fun k hk => mov_cell hk
        have h7 : ∀ t', ¬ t' = t → oc (mlayM (takeM M 0 t) 0 t (frN i + v) (V + 1)) 0 t' 7 = oc M 0 t' 7 := fun t' h => mov_7o h
        have h7t := mov_7 M t (frN i + v) (V + 1)
        generalize hM1 : mlayM (takeM M 0 t) 0 t (frN i + v) (V + 1) = M1 at r1 r2 hk1 hcl h7 h7t ⊢
        have hrow : ∀ j, j < 10 * (i + 1) → rowM M1 i j = blkF (rowM M i) u (V + 1) v (nI t) j := fun j hj => by
          show M1 10 0 0 (frN i + j) = _
          rw [hcl _ (by omega)]
          unfold blkF
          by_cases d : v ≤ j ∧ j < v + (V + 1)
          · rw [if_pos (by omega), if_pos d]
          · rw [if_neg (by omega), if_neg d]
            by_cases f : u ≤ j ∧ j < u + (V + 1)
            · have h9 : M 10 0 0 (frN i + j) = nI t := hcell j f.1 f.2
              rw [if_pos f, if_pos h9]
            · rw [if_neg f, if_neg (fun z => f (by have := (b7 (frN i + j) (by omega)).mp z; omega))]
              rfl
        obtain ⟨p1, p2⟩ := push_congr (L := 10 * (i + 1)) c1 (u + (V + 1)) (m + 1) (nI t) (v + (V + 1)) (rowM M1 i) (blkF (rowM M i) u (V + 1) v (nI t)) (by omega) (by omega) hrow
        rw [show V + c1 = V + c1 from rfl]
        refine tid_skip V c1 (frN i + u + 1) (frN i + v + (V + 1)) (m + 1) M1 P (fun j h1 h2 => ?_) ?_
        · rw [hcl j (by omega)]
          by_cases d : frN i + v ≤ j ∧ j < frN i + v + (V + 1)
          · rw [if_pos d]
            exact Or.inr ⟨t, V + 1, by omega, b3, rfl, r2.2.2.2.2.2.1, fun z => by have := nI_inj (by omega) (by omega) (h7t.symm.trans z); omega⟩
          · rw [if_neg d]
            exact Or.inl (if_pos ((b7 j (by omega)).mpr ⟨by omega, by omega⟩))
        · rw [show frN i + u + 1 + V = frN i + (u + (V + 1)) by omega, show frN i + v + (V + 1) = frN i + (v + (V + 1)) by omega]
          refine tid_sh hn hi N c1 (u + (V + 1)) (v + (V + 1)) (m + 1) (nI t) M1 P (by omega) (by omega) r1 ⟨by omega, fun t' ht' q W' hq hqu => ?_⟩ (fun j h1 h2 => ?_) ?_
          · by_cases d : t' = t
            · subst d
              have z1 := nI_inj (by have := hq.2.2.2.1; omega) (by omega) (hq.2.2.2.2.1.symm.trans r2.2.2.2.2.1)
              have z2 := nI_inj (by have := hq.2.2.1; omega) (by omega) (hq.2.2.2.2.2.1.symm.trans r2.2.2.2.2.2.1)
              omega
            · have hq0 : LieAt M t' i q W' := by
                rcases hR.2 t' ht' with ⟨y1, -⟩ | ⟨g', q', W2, y⟩
                · exact absurd (hq.2.2.2.2.1.symm.trans ((h7 t' d).trans y1)) (nI_m1 (by have := hq.2.2.2.1; omega))
                · obtain ⟨y1, y2, y3, y4, y5, y6, y7⟩ := id y
                  have hfg := frN_s y1
                  have hfg3 := frN_le y1
                  have hq4 := hq.2.2.2.1
                  have hq2 := hq.2.1
                  have hq3 := hq.2.2.1
                  have z1 : frN i + q = frN g' + q' := nI_inj (by omega) (by omega) (hq.2.2.2.2.1.symm.trans ((h7 t' d).trans y5))
                  have z2 : W' = W2 := nI_inj (by omega) (by omega) (hq.2.2.2.2.2.1.symm.trans ((hk1.2 t' 3 (by decide) (by decide)).trans y6))
                  have z3 : g' = i := fr_u y1 hi (by omega : frN g' ≤ frN i + q) (by omega) (by omega) (by omega)
                  subst z3
                  have z4 : q' = q := by omega
                  rw [z4, ← z2] at y
                  exact y
              rcases Nat.lt_or_ge q u with f | f
              · have := hB.2 t' ht' q W' hq0 f
                omega
              · obtain ⟨y1, y2, y3, y4, y5, y6, y7⟩ := hq0
                have z1 := (y7 (frN i + q) (by omega)).mpr ⟨Nat.le_refl _, by omega⟩
                have z2 := (b7 (frN i + q) (by omega)).mpr ⟨by omega, by omega⟩
                exact absurd (nI_inj (by omega) (by omega) (z1.symm.trans z2)) d
          · rw [hcl _ (by omega), if_neg (by omega)]
            by_cases f : M 10 0 0 (frN i + j) = nI t
            · exact Or.inl (if_pos f)
            · rw [if_neg f]
              exact Or.inr f
          · intro M' q1 q2 q3 q4
            rw [p1]
            refine hP M' q1 (hk1.tr q2) (fun j hj ho => ?_) (fun j hj => (q4 j hj).trans (p2 j hj))
            rw [q3 j hj ho, hcl j hj, if_neg (by omega), if_neg (fun z => by have := (b7 j hj).mp z; omega)]
      · have hvu : v = u := by omega
        subst hvu
        refine Or.inr ⟨by omega, ?_⟩
        rw [if_neg a, blk_id hcell] at hP
        refine tid_skip V c1 (frN i + v + 1) (frN i + v + (V + 1)) m M P (fun j h1 h2 => ?_) ?_
        · exact Or.inr ⟨t, V + 1, by omega, b3, (b7 j (by omega)).mpr ⟨by omega, by omega⟩, b6, fun z => by have := nI_inj (by omega) (by omega) (b5.symm.trans z); omega⟩
        · rw [show frN i + v + 1 + V = frN i + (v + (V + 1)) by omega, show frN i + v + (V + 1) = frN i + (v + (V + 1)) by omega]
          refine tid_sh hn hi N c1 (v + (V + 1)) (v + (V + 1)) m (nI t) M P (by omega) (by omega) hR ⟨Nat.le_refl _, fun t' ht' q W' hq hqu => ?_⟩ (fun j h1 h2 => ?_) hP
          · rcases Nat.lt_or_ge q v with f | f
            · have := hB.2 t' ht' q W' hq f
              omega
            · by_cases d : t' = t
              · subst d
                have z1 := nI_inj (by have := hq.2.2.2.1; omega) (by omega) (hq.2.2.2.2.1.symm.trans b5)
                have z2 := nI_inj (by have := hq.2.2.1; omega) (by omega) (hq.2.2.2.2.2.1.symm.trans b6)
                omega
              · obtain ⟨y1, y2, y3, y4, y5, y6, y7⟩ := hq
                have z1 := (y7 (frN i + q) (by omega)).mpr ⟨Nat.le_refl _, by omega⟩
                have z2 := (b7 (frN i + q) (by omega)).mpr ⟨by omega, by omega⟩
                exact absurd (nI_inj (by omega) (by omega) (z1.symm.trans z2)) d
          · exact Or.inr (fun z => by have := (b7 (frN i + j) (by omega)).mp z; omega)
theorem tid_all {A B : Mem} {n cN : Nat} (h : SimD A B 0 n cN) (hn : n ≤ 40) (P : Int32 → Mem → Prop) (hP : ∀ B', RW B' n → KeepT B B' → SimD (pushM A 0 3) B' 0 n cN → P (fsum 3 (fun i => (pushS A 0 i).1)) B') :
    ∀ (c i : Nat) (m : Int32) (M : Mem), i + c = 3 → RW M n → KeepT B M → (∀ g j, g < 3 → j < 10 * (g + 1) → M 10 0 0 (frN g + j) = if g < i then (pushS A 0 g).2 j else A 4 0 g j) → m = fsum i (fun i => (pushS A 0 i).1) → TidA c i m M P
  | 0, i, m, M, hi, hR, hK, hrow, hm => by
    obtain rfl : i = 3 := by omega
    subst hm
    refine hP M hR hK ?_
    obtain ⟨h0, h1, h2, h3, h4, h5, hC, hT, hp⟩ := h
    refine ⟨?_, ?_, ?_, ?_, ?_, ?_, fun a ha => ?_, fun t ht => simT_iff.mpr (fun j hj => ?_), fun g j hg hj => ?_⟩
    · rw [hK.1 6 (by decide) (by decide)]; exact h0
    · rw [hK.1 6 (by decide) (by decide)]; exact h1
    · rw [hK.1 6 (by decide) (by decide)]; exact h2
    · exact h3
    · exact h4
    · rw [hK.1 6 (by decide) (by decide)]; exact h5
    · rw [hK.1 7 (by decide) (by decide), hK.1 8 (by decide) (by decide)]; exact hC a ha
    · exact (simT_iff.mp (hT t ht) j hj).trans (hK.2 t (fw j) (fw_lt j hj) (fw_7 j hj)).symm
    · rw [hrow g j hg hj, if_pos hg]
      show (if 4 = 4 ∧ 0 = 0 ∧ g < 3 then (pushF (10 * (g + 1)) 0 0 (-1) 0 (A 4 0 g)).2 else A 4 0 g) j = _
      rw [if_pos ⟨rfl, rfl, hg⟩]
      rfl
  | c + 1, i, m, M, hi, hR, hK, hrow, hm => by
    have h3 : i < 3 := by omega
    have hf2 := frN_s h3
    have hf3 := frN_le h3
    have hr : ∀ j, j < 10 * (i + 1) → rowM M i j = A 4 0 i j := fun j hj => (hrow i j h3 hj).trans (if_neg (Nat.lt_irrefl i))
    obtain ⟨p1, p2⟩ := push_congr (L := 10 * (i + 1)) (10 * (i + 1)) 0 m (-1) 0 (rowM M i) (A 4 0 i) (by omega) (by omega) hr
    obtain ⟨m1, m2⟩ := push_m (10 * (i + 1)) 0 m (-1) 0 (A 4 0 i)
    refine tid_sh hn h3 (10 * (i + 1)) (10 * (i + 1)) 0 0 m (-1) M _ (Nat.le_refl _) (by omega) hR ⟨Nat.le_refl 0, fun t ht q W _ hq => absurd hq (Nat.not_lt_zero q)⟩ (fun j _ _ => Decidable.em _) (fun M' q1 q2 q3 q4 => ?_)
    refine tid_all h hn P hP c (i + 1) _ M' (by omega) q1 (hK.tr q2) (fun g j hg hj => ?_) ?_
    · by_cases e : g = i
      · subst e
        rw [q4 j hj, p2 j hj, m2, if_pos (Nat.lt_succ_self g)]
        rfl
      · have hfg := frN_s hg
        have hfg3 := frN_le hg
        rw [q3 (frN g + j) (by omega) (by
          rcases Nat.lt_or_ge (frN g + j) (frN i) with z | z
          · exact Or.inl z
          · refine Or.inr ?_
            rcases Nat.lt_or_ge (frN g + j) (frN (i + 1)) with y | y
            · exact absurd (fr_u hg h3 (by omega : frN g ≤ frN g + j) (by omega) z (by omega)) e
            · exact y), hrow g j hg hj]
        by_cases d : g < i
        · rw [if_pos d, if_pos (by omega)]
        · rw [if_neg d, if_neg (by omega)]
    · rw [p1, m1, hm]
      rfl
theorem sim_tidy {A B : Mem} {n cN : Nat} (h : SimD A B 0 n cN) (hn : n ≤ 40) (hR : RW B n) (P : Int32 → Mem → Prop) (hP : ∀ B', RW B' n → KeepT B B' → SimD (pushM A 0 3) B' 0 n cN → P (fsum 3 (fun i => (pushS A 0 i).1)) B') : TidA 3 0 0 B P :=
  tid_all h hn P hP 3 0 0 B rfl hR (KeepT.refl B) (fun g j hg hj => by rw [if_neg (Nat.not_lt_zero g)]; exact (h.2.2.2.2.2.2.2.2 g j hg hj).symm) rfl
