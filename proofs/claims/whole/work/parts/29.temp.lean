/-! the whole world as a list; arrays of a method's own; copying -/
theorem cells_all : (List.range 154).all (fun o => match cellsT[o]? with
  | some t => decide (t.1 < 22) && (decide (t.2.1 < nsh t.1) && (decide (t.2.2 < cnt t.1) && decide (off t.1 t.2.1 t.2.2 = o)))
  | none => false) = true := by decide +kernel
theorem cells_len : cellsT.length = 154 := by decide +kernel
theorem cells_at {o : Nat} {t : Nat × Nat × Nat} (h : cellsT[o]? = some t) : okc t.1 t.2.1 t.2.2 ∧ off t.1 t.2.1 t.2.2 = o := by
  have ho : o < 154 := cells_len ▸ (List.getElem?_eq_some_iff.mp h).1
  have h1 := List.all_eq_true.mp cells_all o (List.mem_range.mpr ho)
  rw [h] at h1
  simp only [Bool.and_eq_true, decide_eq_true_eq] at h1
  exact ⟨⟨h1.1, h1.2.1, h1.2.2.1⟩, h1.2.2.2⟩
def allW (G : GT) (M : Mem) : va_W := cellsT.map (fun t => (ad G t.1 t.2.1 t.2.2, conV G t.1 t.2.1 t.2.2 (M t.1 t.2.1 t.2.2)))
theorem allW_len (G : GT) (M : Mem) : (allW G M).length = 154 := by
  unfold allW
  rw [List.length_map]
  exact cells_len
theorem allW_at {G : GT} {M : Mem} {k s i : Nat} (ho : okc k s i) : (allW G M)[off k s i]? = some (ad G k s i, conV G k s i (M k s i)) := by
  unfold allW
  rw [List.getElem?_map, off_inv k ho.1 s ho.2.1 i ho.2.2]
  rfl
theorem allW_of {G : GT} {M : Mem} {n : Nat} {q : Nat × va_E} (h : (allW G M)[n]? = some q) : ∃ k s i, okc k s i ∧ off k s i = n ∧ q = (ad G k s i, conV G k s i (M k s i)) := by
  unfold allW at h
  rw [List.getElem?_map] at h
  cases ht : cellsT[n]? with
  | none => rw [ht] at h; cases h
  | some t =>
    rw [ht] at h
    cases h
    exact ⟨t.1, t.2.1, t.2.2, (cells_at ht).1, (cells_at ht).2, rfl⟩
theorem PW.all {G : GT} {M : Mem} {H : Heap} (h : PW G M H) : va_P G.1 vwCl (allW G M) H := by
  intro n q hq
  obtain ⟨k, s, i, ho, -, rfl⟩ := allW_of hq
  exact h k s i ho
section ZT
variable {X : PX} {G : GT} {T : Nat × Nat} {cc : ByteArray} {nL : Nat} {own : String} {rt : Option FieldType} {d mc ms : Nat} {Q : State → Prop} {pc : Nat} {lv r : List (Option Value)} {st : List Value} {M : Mem} {cells slots : Nat}
variable {idx k s i j n : Nat}
theorem z_dup2 (E : EF X G cc nL own rt d mc ms) (hd : decode cc pc = .ok (.dup2, 1)) {a b : Value} (ha : a.category = 1) (hb : b.category = 1) (kk : Z X G T Q (pc + 1) lv (a :: b :: a :: b :: st) M cells slots) : Z X G T Q pc lv (a :: b :: st) M cells slots := fun ls H locs hl hP hT hS => lv_dup2_11 E.ex E.cb hd ha hb (kk ls H locs hl hP hT hS)
theorem PW.r22 {H : Heap} {f : Nat → Int32} (h : PW G M H) : PW G (rset M 22 0 0 f) H := fun k s i ho => by
  rw [rset_off M f (fun z => by have := ho.1; omega)]
  exact h k s i ho
/-- a new array of ints, the method's own -/
theorem z_newi (E : EF X G cc nL own rt d mc ms) {x : Int32} (hd : decode cc pc = .ok (.newarray .int, 2)) (hx : x = nI n) (hn : n ≤ 1000) (hc : cells + 1 ≤ mc) (hs : slots + n ≤ ms)
    (kk : ∀ a, (xS X).heap.size ≤ a → Z X G (a, n) Q (pc + 2) lv (.ref a :: st) (rset M 22 0 0 (fun _ => 0)) (cells + 1) (slots + n)) : Z X G T Q pc lv (.int x :: st) M cells slots := fun ls H locs hl hP hT hS => by
  subst hx
  refine va_newaK E.ex E.cb (atype := .int) (E.ts _ ac_int) (g := F0 (xM X) pc ls (.int (nI n) :: st)) rfl hd (rest := st) rfl (nI_pos (n31 hn)) (nI_clamp (n31 hn)) (by show n * 4 ≤ _; omega) (by rw [E.rm]; exact hc) (by rw [E.rm]; exact hs) rfl (fun H' cA h1 h2 h3 h4 h5 => ?_)
  have hcA : cA = G.2.1 0 := Option.some.inj (h5.symm.trans (E.kk.2 0 _ rfl).2)
  subst hcA
  refine kk H.size hS.1 ls H' locs hl (PW.r22 (hP.kept h3)) (Or.inr ⟨by have h9 : G.2.2 0 + 153 < H.size := (hP 21 0 0 ok21).lt; omega, ?_⟩) ⟨by rw [h2]; exact Nat.le_succ_of_le hS.1, fun q g1 g2 => (h3 q (Nat.lt_of_lt_of_le g1 hS.1)).trans (hS.2.1 q g1 g2), hS.2.2⟩
  show H'[H.size]? = some (vp_cell _ _)
  rw [h1, rset_cell, vp_cell_i]
  rfl
theorem TW.cell {a : Nat} {H : Heap} (hT : TW G (a, n) M H) (hn : 0 < n) : va_P G.1 vwCl [(a, .inl (G.2.1 0, (n, .inl (M 22 0 0))))] H := by
  rcases hT with h | ⟨-, h⟩
  · exact absurd (show n = 0 from h) (by omega)
  · intro m q hq
    cases m with
    | zero => cases hq; exact h
    | succ m => simp at hq
theorem z_ttald {a : Nat} (E : EF X G cc nL own rt d mc ms) {ix : Int32} (hd : decode cc pc = .ok (.iaload, 1)) (hj : ix = nI j) (hlt : j < n) (hn : n ≤ 1000) (kk : Z X G (a, n) Q (pc + 1) lv (.int (M 22 0 0 j) :: st) M cells slots) : Z X G (a, n) Q pc lv (.int ix :: .ref a :: st) M cells slots := fun ls H locs hl hP hT hS => by
  subst hj
  refine va_iald E.ex E.cb E.kk (hT.cell (by omega)) 0 0 rfl rfl (vp_in_nI hlt (n31 hn)) hd ?_
  rw [nI_clamp (Nat.lt_trans hlt (n31 hn))]
  exact kk ls H locs hl hP hT hS
theorem z_ttast {a : Nat} (E : EF X G cc nL own rt d mc ms) (ha : (xS X).heap.size ≤ a) {ix x : Int32} (hd : decode cc pc = .ok (.iastore, 1)) (hj : ix = nI j) (hlt : j < n) (hn : n ≤ 1000) (kk : Z X G (a, n) Q (pc + 1) lv st (mset M 22 0 0 j x) cells slots) : Z X G (a, n) Q pc lv (.int x :: .int ix :: .ref a :: st) M cells slots := fun ls H locs hl hP hT hS => by
  subst hj
  refine W.iast E.ex E.cb (hT.cell (by omega) 0 _ rfl) ((E.kk.2 0 _ rfl).1 n (fun j => .int (M 22 0 0 j))) (fun q => by cases q) (by show ¬ (_ < 0 ∨ (arrV _ _ _).slots.size ≤ _); rw [arrV_size]; exact vp_in_nI hlt (n31 hn)) rfl rfl hd fun H1 e z oq => ?_
  have hz : G.2.2 0 + 154 ≤ a := hT.elim (fun h => absurd (show n = 0 from h) (by omega)) (fun h => h.1)
  refine kk ls H1 _ hl (fun k s i ho => ?_) (Or.inr ⟨hz, ?_⟩) (hS.put z oq (Or.inr ha))
  · rw [mset_off M j x (fun z => by have := ho.1; omega)]
    exact (hP k s i ho).kept (oq _ (fun z => by have := ad_lt (G := G) ho; have z2 : ad G k s i = a := z; omega))
  · rw [nI_clamp (Nat.lt_trans hlt (n31 hn))] at e
    show H1[a]? = some (vp_cell _ _)
    rw [e, vp_cell_i, vp_cell_i, arrV_store, mset_cell]
    congr 2
    funext q
    by_cases hq : q = j
    · subst hq
      simp [updV, upd]
    · simp [updV, upd, hq]
/-- System.arraycopy of ints into an array of the world -/
theorem z_copyG (E : EF X G cc nL own rt d mc ms) {ex : va_W} {q0 a0 n0 n1 : Nat} {f : Nat → Int32} (hd : decode cc pc = .ok (.invokestatic idx, 3)) (hm : Cond.methodLink own idx arraycopyName ∈ GW)
    (hex : ∀ H, TW G T M H → va_P G.1 vwCl ex H) (hex1 : ex.length ≤ 1) (hexA : ∀ (n : Nat) (q : Nat × va_E), ex[n]? = some q → (xS X).heap.size ≤ q.1) (hexB : ∀ H, TW G T M H → ∀ (n : Nat) (q : Nat × va_E), ex[n]? = some q → G.2.2 0 + 154 ≤ q.1)
    (h0 : (allW G M ++ ex)[q0]? = some (a0, .inl (G.2.1 0, (n0, .inl f)))) (ho : okc k s i) (hc : ∀ g, conV G k s i g = .inl (G.2.1 0, (n1, .inl g)))
    {sp dp n : Nat} (h4 : sp + n ≤ n0) (h5 : dp + n ≤ n1) (hb0 : n0 ≤ 1000) (hb1 : n1 ≤ 1000) (hcat : (st.map fun v => v.category).sum ≤ 8) (hlv : lv.length = nL) (hdd : 1 ≤ d)
    (kk : Z X G (0, 0) Q (pc + 3) lv st (rset M k s i (va_cpy f (M k s i) sp dp n)) cells slots) : Z X G T Q pc lv (.int (nI n) :: .int (nI dp) :: .ref (ad G k s i) :: .int (nI sp) :: .ref a0 :: st) M cells slots := fun ls H locs hl hP hT hS => by
  have hL := allW_len G M
  have hoff := off_lt ho
  have hin : ∀ (m : Nat) (q : Nat × va_E), (allW G M ++ ex)[m]? = some q → (m < 154 ∧ (allW G M)[m]? = some q) ∨ (m = 154 ∧ ex[0]? = some q) := fun m q h => by
    rcases Nat.lt_or_ge m 154 with g | g
    · rw [List.getElem?_append_left (by omega)] at h
      exact Or.inl ⟨g, h⟩
    · rw [List.getElem?_append_right (by omega), hL] at h
      have h9 := (List.getElem?_eq_some_iff.mp h).1
      have e0 : m - 154 = 0 := by omega
      rw [e0] at h
      exact Or.inr ⟨by omega, h⟩
  have hPP : va_P G.1 vwCl (allW G M ++ ex) H := fun m q h => by
    rcases hin m q h with ⟨-, g⟩ | ⟨-, g⟩
    · exact hP.all m q g
    · exact hex H hT 0 q g
  have hsrc : (allW G M ++ ex)[off k s i]? = some (ad G k s i, .inl (G.2.1 0, (n1, .inl (M k s i)))) := by
    rw [List.getElem?_append_left (by omega), allW_at ho, hc]
  have hD : va_D (Aw G (xS X).heap.size) (allW G M ++ ex) := by
    refine ⟨fun m1 m2 p q hp hq e => ?_, fun m q hq => ?_⟩
    · rcases hin m1 p hp with ⟨g1, hp⟩ | ⟨rfl, hp⟩ <;> rcases hin m2 q hq with ⟨g2, hq⟩ | ⟨rfl, hq⟩
      · obtain ⟨k1, s1, i1, o1, f1, rfl⟩ := allW_of hp
        obtain ⟨k2, s2, i2, o2, f2, rfl⟩ := allW_of hq
        obtain ⟨rfl, rfl, rfl⟩ := ad_inj o1 o2 e
        exact f1.symm.trans f2
      · obtain ⟨k1, s1, i1, o1, f1, rfl⟩ := allW_of hp
        have := ad_lt (G := G) o1
        have h9 := hexB H hT 0 q hq
        have e9 : ad G k1 s1 i1 = q.1 := e
        omega
      · obtain ⟨k1, s1, i1, o1, f1, rfl⟩ := allW_of hq
        have := ad_lt (G := G) o1
        have h9 := hexB H hT 0 p hp
        have e9 : p.1 = ad G k1 s1 i1 := e
        omega
      · rfl
    · rcases hin m q hq with ⟨-, hq⟩ | ⟨-, hq⟩
      · obtain ⟨k1, s1, i1, o1, f1, rfl⟩ := allW_of hq
        exact Aw.ad o1
      · exact Or.inr (hexA 0 q hq)
  refine va_copyi E.ex E.cb (by rw [E.ml, hl.1, hlv]) E.ow (E.ts _ hm) (E.ts _ nt_arraycopy) (E.ts _ st_arraycopy) (E.ts _ inJ10) E.kk hPP hD hS q0 (off k s i) 0 0 h0 hsrc rfl rfl rfl (nI_pos (n31 (by omega))) (nI_pos (n31 (by omega))) (nI_pos (n31 (by omega)))
    (by rw [nI_clamp (n31 (by omega)), nI_clamp (n31 (by omega))]; exact h4) (by rw [nI_clamp (n31 (by omega)), nI_clamp (n31 (by omega))]; exact h5) (fun _ _ => rfl) (by rw [E.rm]; exact hdd) (by rw [E.rm]; show _ + (7 + 11) ≤ 30 * d; omega) hd (fun H1 locs1 hP1 hD1 hS1 => ?_)
  rw [nI_clamp (n31 (by omega)), nI_clamp (n31 (by omega)), nI_clamp (n31 (by omega))] at hP1
  refine kk ls H1 locs1 hl (fun k' s' i' ho' => ?_) (Or.inl rfl) hS1
  by_cases e : k' = k ∧ s' = s ∧ i' = i
  · obtain ⟨rfl, rfl, rfl⟩ := e
    have h9 := hP1 (off k' s' i') _ (by rw [List.getElem?_set_self (by rw [List.length_append]; omega)])
    rw [rset_cell, hc]
    exact h9
  · rw [rset_off M _ e]
    have hne : off k s i ≠ off k' s' i' := fun z => e (ad_inj (G := G) ho' ho (by show G.2.2 0 + _ = G.2.2 0 + _; rw [z]))
    refine hP1 (off k' s' i') _ ?_
    rw [List.getElem?_set_ne hne, List.getElem?_append_left (by have := off_lt ho'; omega)]
    exact allW_at ho'
theorem z_copyW (E : EF X G cc nL own rt d mc ms) {k0 s0 i0 n0 n1 : Nat} (hd : decode cc pc = .ok (.invokestatic idx, 3)) (hm : Cond.methodLink own idx arraycopyName ∈ GW) (ho0 : okc k0 s0 i0) (hc0 : conV G k0 s0 i0 (M k0 s0 i0) = .inl (G.2.1 0, (n0, .inl (M k0 s0 i0)))) (ho : okc k s i) (hc : ∀ g, conV G k s i g = .inl (G.2.1 0, (n1, .inl g)))
    {sp dp n : Nat} (h4 : sp + n ≤ n0) (h5 : dp + n ≤ n1) (hb0 : n0 ≤ 1000) (hb1 : n1 ≤ 1000) (hcat : (st.map fun v => v.category).sum ≤ 8) (hlv : lv.length = nL) (hdd : 1 ≤ d)
    (kk : Z X G (0, 0) Q (pc + 3) lv st (rset M k s i (va_cpy (M k0 s0 i0) (M k s i) sp dp n)) cells slots) : Z X G T Q pc lv (.int (nI n) :: .int (nI dp) :: .ref (ad G k s i) :: .int (nI sp) :: .ref (ad G k0 s0 i0) :: st) M cells slots :=
  z_copyG E (ex := []) (q0 := off k0 s0 i0) hd hm (fun _ _ _ _ h => by simp at h) (Nat.zero_le 1) (fun _ _ h => by simp at h) (fun _ _ _ _ h => by simp at h) (by rw [List.append_nil, allW_at ho0, hc0]) ho hc h4 h5 hb0 hb1 hcat hlv hdd kk
theorem z_copyT {a : Nat} (E : EF X G cc nL own rt d mc ms) (ha : (xS X).heap.size ≤ a) {n0 n1 : Nat} (hd : decode cc pc = .ok (.invokestatic idx, 3)) (hm : Cond.methodLink own idx arraycopyName ∈ GW) (ho : okc k s i) (hc : ∀ g, conV G k s i g = .inl (G.2.1 0, (n1, .inl g)))
    {sp dp n : Nat} (hn0 : 0 < n0) (h4 : sp + n ≤ n0) (h5 : dp + n ≤ n1) (hb0 : n0 ≤ 1000) (hb1 : n1 ≤ 1000) (hcat : (st.map fun v => v.category).sum ≤ 8) (hlv : lv.length = nL) (hdd : 1 ≤ d)
    (kk : Z X G (0, 0) Q (pc + 3) lv st (rset M k s i (va_cpy (M 22 0 0) (M k s i) sp dp n)) cells slots) : Z X G (a, n0) Q pc lv (.int (nI n) :: .int (nI dp) :: .ref (ad G k s i) :: .int (nI sp) :: .ref a :: st) M cells slots :=
  z_copyG E (ex := [(a, .inl (G.2.1 0, (n0, .inl (M 22 0 0))))]) (q0 := 154) hd hm (fun H hT => hT.cell hn0) (Nat.le_refl 1) (fun m q h => by
    cases m with
    | zero => cases h; exact ha
    | succ m => simp at h) (fun H hT m q h => by
    cases m with
    | zero => cases h; exact hT.elim (fun z => absurd (show n0 = 0 from z) (by omega)) (fun z => z.1)
    | succ m => simp at h) (by rw [List.getElem?_append_right (by rw [allW_len]; exact Nat.le_refl _), allW_len]; rfl) ho hc h4 h5 hb0 hb1 hcat hlv hdd kk
/-- the array of a method's own is no longer known -/
theorem z_noT (kk : Z X G (0, 0) Q pc lv st M cells slots) : Z X G T Q pc lv st M cells slots := fun ls H locs hl hP _ hS => kk ls H locs hl hP (Or.inl rfl) hS
end ZT
