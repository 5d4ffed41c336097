/-! the memory: the ints of all objects, by kind, shop, index and slot; all else of them never changes -/
abbrev Mem : Type := Nat → Nat → Nat → Nat → Int32
abbrev GT : Type := va_G × (Nat → ClassId) × (Nat → Nat)
def off (k s i : Nat) : Nat := match k with
  | 0 => 1 + 69 * s
  | 1 => 13 + 69 * s + i
  | 2 => 23 + 69 * s + i
  | 3 => 63 + 69 * s + i
  | 4 => 8 + 69 * s + 2 * i
  | 5 => 139
  | 6 => 143 + 5 * s
  | 7 => 144 + 5 * s
  | 8 => 145 + 5 * s
  | 9 => 146 + 5 * s
  | 10 => 147 + 5 * s
  | 11 => 140
  | 12 => 141
  | 13 => 142
  | 14 => 0
  | 15 => 5 + 69 * s
  | 16 => 7 + 69 * s + 2 * i
  | 17 => 2 + 69 * s
  | 18 => 3 + 69 * s
  | 19 => 4 + 69 * s
  | 20 => 6 + 69 * s
  | _ => 153
def cnt (k : Nat) : Nat := match k with
  | 1 => 10
  | 2 => 40
  | 3 => 7
  | 4 => 3
  | 16 => 3
  | _ => 1
def nsh (k : Nat) : Nat := match k with
  | 5 => 1
  | 11 => 1
  | 12 => 1
  | 13 => 1
  | 14 => 1
  | 21 => 1
  | _ => 2
def okc (k s i : Nat) : Prop := k < 22 ∧ s < nsh k ∧ i < cnt k
def ad (G : GT) (k s i : Nat) : Nat := G.2.2 0 + off k s i
def cellsT : List (Nat × Nat × Nat) := [(14, 0, 0), (0, 0, 0), (17, 0, 0), (18, 0, 0), (19, 0, 0), (15, 0, 0), (20, 0, 0), (16, 0, 0), (4, 0, 0), (16, 0, 1), (4, 0, 1), (16, 0, 2), (4, 0, 2), (1, 0, 0), (1, 0, 1), (1, 0, 2), (1, 0, 3), (1, 0, 4), (1, 0, 5), (1, 0, 6), (1, 0, 7), (1, 0, 8), (1, 0, 9), (2, 0, 0), (2, 0, 1), (2, 0, 2), (2, 0, 3), (2, 0, 4), (2, 0, 5), (2, 0, 6), (2, 0, 7), (2, 0, 8), (2, 0, 9), (2, 0, 10), (2, 0, 11), (2, 0, 12), (2, 0, 13), (2, 0, 14), (2, 0, 15), (2, 0, 16), (2, 0, 17), (2, 0, 18), (2, 0, 19), (2, 0, 20), (2, 0, 21), (2, 0, 22), (2, 0, 23), (2, 0, 24), (2, 0, 25), (2, 0, 26), (2, 0, 27), (2, 0, 28), (2, 0, 29), (2, 0, 30), (2, 0, 31), (2, 0, 32), (2, 0, 33), (2, 0, 34), (2, 0, 35), (2, 0, 36), (2, 0, 37), (2, 0, 38), (2, 0, 39), (3, 0, 0), (3, 0, 1), (3, 0, 2), (3, 0, 3), (3, 0, 4), (3, 0, 5), (3, 0, 6), (0, 1, 0), (17, 1, 0), (18, 1, 0), (19, 1, 0), (15, 1, 0), (20, 1, 0), (16, 1, 0), (4, 1, 0), (16, 1, 1), (4, 1, 1), (16, 1, 2), (4, 1, 2), (1, 1, 0), (1, 1, 1), (1, 1, 2), (1, 1, 3), (1, 1, 4), (1, 1, 5), (1, 1, 6), (1, 1, 7), (1, 1, 8), (1, 1, 9), (2, 1, 0), (2, 1, 1), (2, 1, 2), (2, 1, 3), (2, 1, 4), (2, 1, 5), (2, 1, 6), (2, 1, 7), (2, 1, 8), (2, 1, 9), (2, 1, 10), (2, 1, 11), (2, 1, 12), (2, 1, 13), (2, 1, 14), (2, 1, 15), (2, 1, 16), (2, 1, 17), (2, 1, 18), (2, 1, 19), (2, 1, 20), (2, 1, 21), (2, 1, 22), (2, 1, 23), (2, 1, 24), (2, 1, 25), (2, 1, 26), (2, 1, 27), (2, 1, 28), (2, 1, 29), (2, 1, 30), (2, 1, 31), (2, 1, 32), (2, 1, 33), (2, 1, 34), (2, 1, 35), (2, 1, 36), (2, 1, 37), (2, 1, 38), (2, 1, 39), (3, 1, 0), (3, 1, 1), (3, 1, 2), (3, 1, 3), (3, 1, 4), (3, 1, 5), (3, 1, 6), (5, 0, 0), (11, 0, 0), (12, 0, 0), (13, 0, 0), (6, 0, 0), (7, 0, 0), (8, 0, 0), (9, 0, 0), (10, 0, 0), (6, 1, 0), (7, 1, 0), (8, 1, 0), (9, 1, 0), (10, 1, 0), (21, 0, 0)]
theorem off_inv0 : (List.range 22).all (fun k => (List.range (nsh k)).all (fun s => (List.range (cnt k)).all (fun i => decide (cellsT[off k s i]? = some (k, s, i))))) = true := by decide +kernel
theorem off_inv (k : Nat) (hk : k < 22) (s : Nat) (hs : s < nsh k) (i : Nat) (hi : i < cnt k) : cellsT[off k s i]? = some (k, s, i) := by
  have h1 := List.all_eq_true.mp off_inv0 k (List.mem_range.mpr hk)
  have h2 := List.all_eq_true.mp h1 s (List.mem_range.mpr hs)
  have h3 := List.all_eq_true.mp h2 i (List.mem_range.mpr hi)
  exact of_decide_eq_true h3
theorem off_lt {k s i : Nat} (h : okc k s i) : off k s i < 154 := by
  have h1 := off_inv k h.1 s h.2.1 i h.2.2
  have h2 := (List.getElem?_eq_some_iff.mp h1).1
  exact h2
theorem ad_inj {G : GT} {k s i k' s' i' : Nat} (h : okc k s i) (h' : okc k' s' i') (e : ad G k s i = ad G k' s' i') : k = k' ∧ s = s' ∧ i = i' := by
  have h1 := off_inv k h.1 s h.2.1 i h.2.2
  have h2 := off_inv k' h'.1 s' h'.2.1 i' h'.2.2
  have e1 : off k s i = off k' s' i' := Nat.add_left_cancel e
  rw [e1] at h1
  have e2 := Option.some.inj (h1.symm.trans h2)
  exact ⟨congrArg Prod.fst e2, congrArg (fun q => q.2.1) e2, congrArg (fun q => q.2.2) e2⟩
def mset (M : Mem) (k s i j : Nat) (x : Int32) : Mem := fun k' s' i' j' => if k' = k ∧ s' = s ∧ i' = i ∧ j' = j then x else M k' s' i' j'
theorem mset_cell (M : Mem) (k s i j : Nat) (x : Int32) : mset M k s i j x k s i = upd (M k s i) j x := by
  funext j'
  simp [mset, upd]
theorem mset_off (M : Mem) {k s i k' s' i' : Nat} (j : Nat) (x : Int32) (h : ¬ (k' = k ∧ s' = s ∧ i' = i)) : mset M k s i j x k' s' i' = M k' s' i' := by
  funext j'
  exact if_neg (fun z => h ⟨z.1, z.2.1, z.2.2.1⟩)
def conV (G : GT) (k s i : Nat) (f : Nat → Int32) : va_E := match k with
  | 0 => .inr (4, [.int (f 0), .int (f 1), .int (f 2), .int (f 3), .int (f 4), .ref (ad G 17 s 0), .ref (ad G 18 s 0), .ref (ad G 19 s 0), .ref (ad G 15 s 0)])
  | 1 => .inr (1, [.int (f 0), .int (f 1)])
  | 2 => .inr (5, [.int (f 0), .int (f 1), .int (f 2), .int (f 3), .int (f 4), .int (f 5), .int (f 6), .int (f 7), .int (f 8), .int (f 9)])
  | 3 => .inr (0, [.int (f 0), .int (f 1)])
  | 4 => .inl (G.2.1 0, (10 * (i + 1), .inl f))
  | 5 => .inl (G.2.1 0, (40, .inl f))
  | 6 => .inr (7, [.int (f 0), .int (f 1), .int (f 2), .int (f 3), .ref (ad G 7 s 0), .ref (ad G 8 s 0), .ref (ad G 9 s 0), .ref (ad G 10 s 0), .ref (ad G 11 0 0)])
  | 7 => .inl (G.2.1 0, (10, .inl f))
  | 8 => .inl (G.2.1 0, (10, .inl f))
  | 9 => .inl (G.2.1 0, (440, .inl f))
  | 10 => .inl (G.2.1 0, (60, .inl f))
  | 11 => .inr (8, [.int (f 0), .int (f 1), .ref (ad G 12 0 0), .ref (ad G 13 0 0), .ref (ad G 6 0 0), .ref (ad G 6 1 0)])
  | 12 => .inl (G.2.1 0, (7, .inl f))
  | 13 => .inl (G.2.1 0, (7, .inl f))
  | 14 => .inr (6, [.ref (ad G 0 0 0), .ref (ad G 0 1 0), .ref (ad G 5 0 0)])
  | 15 => .inr (2, [.ref (ad G 20 s 0)])
  | 16 => .inr (3, [.ref (ad G 4 s i)])
  | 17 => .inl (G.2.1 2, (10, .inr (.inr (.inr (.inr (fun j => some (ad G 1 s j)))))))
  | 18 => .inl (G.2.1 4, (40, .inr (.inr (.inr (.inr (fun j => some (ad G 2 s j)))))))
  | 19 => .inl (G.2.1 1, (7, .inr (.inr (.inr (.inr (fun j => some (ad G 3 s j)))))))
  | 20 => .inl (G.2.1 3, (3, .inr (.inr (.inr (.inr (fun j => some (ad G 16 s j)))))))
  | _ => .inl (G.2.1 5, (1, .inr (.inl (fun _ => (f 0).toInt64))))
def tys (G : GT) : List (ClassId × FieldType) := [(G.2.1 0, .int), (G.2.1 1, .object RX0), (G.2.1 2, .object RX1), (G.2.1 3, .object RX3), (G.2.1 4, .object RX5), (G.2.1 5, .long)]
/-- the world's cells in the heap -/
def PW (G : GT) (M : Mem) (H : Heap) : Prop := ∀ k s i, okc k s i → va_at G.1 vwCl (ad G k s i, conV G k s i (M k s i)) H
theorem PW.one {G : GT} {M : Mem} {H : Heap} {k s i : Nat} (h : PW G M H) (ho : okc k s i) : va_P G.1 vwCl [(ad G k s i, conV G k s i (M k s i))] H := by
  intro n q hq
  cases n with
  | zero => cases hq; exact h k s i ho
  | succ n => simp at hq
theorem PW.one' {G : GT} {M : Mem} {H : Heap} {k s i : Nat} {e : va_E} (h : PW G M H) (ho : okc k s i) (hc : conV G k s i (M k s i) = e) : va_P G.1 vwCl [(ad G k s i, e)] H := by
  rw [← hc]; exact h.one ho
theorem PW.put {G : GT} {M : Mem} {H H1 : Heap} {k s i j : Nat} {x : Int32} (h : PW G M H) (ho : okc k s i) (he : va_at G.1 vwCl (ad G k s i, conV G k s i (upd (M k s i) j x)) H1) (oq : ∀ q : Nat, q ≠ ad G k s i → H1[q]? = H[q]?) : PW G (mset M k s i j x) H1 := by
  intro k' s' i' ho'
  by_cases e : k' = k ∧ s' = s ∧ i' = i
  · obtain ⟨rfl, rfl, rfl⟩ := e
    rw [mset_cell]; exact he
  · rw [mset_off M j x e]
    exact (h k' s' i' ho').kept (oq _ (fun z => e (ad_inj ho' ho z)))
theorem PW.put' {G : GT} {M M' : Mem} {H H1 : Heap} {k s i : Nat} (h : PW G M H) (ho : okc k s i) (he : va_at G.1 vwCl (ad G k s i, conV G k s i (M' k s i)) H1) (hM : ∀ k' s' i', ¬ (k' = k ∧ s' = s ∧ i' = i) → M' k' s' i' = M k' s' i') (oq : ∀ q : Nat, q ≠ ad G k s i → H1[q]? = H[q]?) : PW G M' H1 := by
  intro k' s' i' ho'
  by_cases e : k' = k ∧ s' = s ∧ i' = i
  · obtain ⟨rfl, rfl, rfl⟩ := e
    exact he
  · rw [hM k' s' i' e]
    exact (h k' s' i' ho').kept (oq _ (fun z => e (ad_inj ho' ho z)))
/-- a temporary int array of a method's own, at T.1, of T.2 places; none where T.2 = 0 -/
def TW (G : GT) (T : Nat × Nat) (M : Mem) (H : Heap) : Prop := T.2 = 0 ∨ (G.2.2 0 + 154 ≤ T.1 ∧ va_at G.1 vwCl (T.1, .inl (G.2.1 0, (T.2, .inl (M 22 0 0)))) H)
theorem ad_lt {G : GT} {k s i : Nat} (h : okc k s i) : ad G k s i < G.2.2 0 + 154 := Nat.add_lt_add_left (off_lt h) _
theorem TW.kept {G : GT} {T : Nat × Nat} {M M' : Mem} {H H1 : Heap} (h : TW G T M H) (hM : M' 22 0 0 = M 22 0 0) (oq : G.2.2 0 + 154 ≤ T.1 → T.1 < H.size → H1[T.1]? = H[T.1]?) : TW G T M' H1 := by
  rcases h with h | ⟨h1, h2⟩
  · exact Or.inl h
  · refine Or.inr ⟨h1, ?_⟩
    rw [hM]
    exact h2.kept (oq h1 h2.lt)
theorem TW.put {G : GT} {T : Nat × Nat} {M : Mem} {H H1 : Heap} {k s i j : Nat} {x : Int32} (h : TW G T M H) (ho : okc k s i) (oq : ∀ q : Nat, q ≠ ad G k s i → H1[q]? = H[q]?) : TW G T (mset M k s i j x) H1 := by
  refine h.kept (mset_off M j x (fun z => ?_)) (fun h1 _ => oq _ (fun z => ?_))
  · have := ho.1
    omega
  · have := ad_lt (G := G) ho
    omega
/-- which cells may change: the world's, and new ones -/
def Aw (G : GT) (sz : Nat) : Nat → Prop := fun q => (G.2.2 0 ≤ q ∧ q < G.2.2 0 + 154) ∨ sz ≤ q
theorem Aw.ad {G : GT} {sz k s i : Nat} (h : okc k s i) : Aw G sz (ad G k s i) := Or.inl ⟨Nat.le_add_right _ _, Nat.add_lt_add_left (off_lt h) _⟩
theorem Aw.mono {G : GT} {a b : Nat} (h : a ≤ b) : ∀ q, Aw G b q → Aw G a q := fun q hq => hq.elim Or.inl (fun z => Or.inr (Nat.le_trans h z))
def NWm : List (String × Nat × MethodName × String) := [("PawnRack$Shop", 35, (⟨"PawnRack$Rack", "<init>", "()V"⟩ : MethodName), "PawnRack"), ("PawnRack$Shop", 40, (⟨"PawnRack$Customer", "<init>", "()V"⟩ : MethodName), "PawnRack"), ("PawnRack$Shop", 41, (⟨"PawnRack$Ticket", "<init>", "()V"⟩ : MethodName), "PawnRack"), ("PawnRack$Shop", 42, (⟨"PawnRack$Buyer", "<init>", "()V"⟩ : MethodName), "PawnRack"), ("PawnRack$Shop", 46, (⟨"PawnRack", "isWithin", "(III)Z"⟩ : MethodName), "PawnRack"), ("PawnRack$Rack", 20, (⟨"PawnRack", "isWithin", "(III)Z"⟩ : MethodName), "PawnRack")]
def NWf : List (String × Nat × String × String × String × String) := [("PawnRackModel", 77, "PawnRackModel$State", "day", "I", "PawnRackModel"), ("PawnRackModel", 74, "PawnRackModel$State", "coins", "I", "PawnRackModel"), ("PawnRackModel", 39, "PawnRackModel$State", "tickets", "I", "PawnRackModel"), ("PawnRackModel", 105, "PawnRackModel$State", "interest", "I", "PawnRackModel"), ("PawnRackModel", 46, "PawnRackModel$State", "own", "[I", "PawnRackModel"), ("PawnRackModel", 49, "PawnRackModel$State", "trust", "[I", "PawnRackModel"), ("PawnRackModel", 80, "PawnRackModel$State", "of", "[I", "PawnRackModel"), ("PawnRackModel", 125, "PawnRackModel$State", "at", "[I", "PawnRackModel"), ("PawnRackModel$State", 71, "PawnRackModel", "wants", "[I", "PawnRackModel"), ("PawnRackModel$State", 74, "PawnRackModel", "purse", "[I", "PawnRackModel"), ("PawnRackModel$State", 51, "PawnRackModel", "FROM", "[I", "PawnRackModel")]
def NWd : List MethodName := [(⟨"java/lang/RuntimeException", "<init>", "()V"⟩ : MethodName), (⟨"java/lang/RuntimeException", "<init>", "(Ljava/lang/String;)V"⟩ : MethodName), (⟨"java/lang/Exception", "<init>", "()V"⟩ : MethodName), (⟨"java/lang/Exception", "<init>", "(Ljava/lang/String;)V"⟩ : MethodName), (⟨"java/lang/Throwable", "<init>", "()V"⟩ : MethodName), (⟨"java/lang/Throwable", "<init>", "(Ljava/lang/String;)V"⟩ : MethodName)]
def NWc : List String := ["java/lang/IllegalArgumentException", "java/lang/IllegalStateException", "java/lang/IndexOutOfBoundsException"]
def NWn : List (String × String) := [("java/lang/IllegalArgumentException", "java/lang/IllegalStateException"), ("java/lang/IllegalArgumentException", "java/lang/IndexOutOfBoundsException"), ("java/lang/IllegalStateException", "java/lang/IllegalArgumentException"), ("java/lang/IllegalStateException", "java/lang/IndexOutOfBoundsException"), ("java/lang/IndexOutOfBoundsException", "java/lang/IllegalArgumentException"), ("java/lang/IndexOutOfBoundsException", "java/lang/IllegalStateException")]
def NWa : List String := [RX0, RX1, RX3, RX5]
def fromV (j : Nat) : Int32 := match j with
  | 0 => 0
  | 1 => 10
  | 2 => 30
  | _ => 60
/-- what the tables and the old cells say, at a state U with the heap H -/
def WF (G : GT) (A : Nat → Prop) (U : State) (H : Heap) : Prop :=
  va_K G.1 vwCl (tys G) U ∧ (∀ q ∈ NWm, va_Nw (.methodLinkNest q.1 q.2.1 q.2.2.1 q.2.2.2) U) ∧ (∀ q ∈ NWf, va_Nw (.fieldLinkNest q.1 q.2.1 q.2.2.1 q.2.2.2.1 q.2.2.2.2.1 q.2.2.2.2.2) U) ∧
  va_Z RX8 "FROM" "[I" (.ref (G.2.2 1)) A U H ∧ va_T .int (G.2.2 1) 4 (fun j => .int (fromV j)) A U H ∧
  vx_Zq Bundle.tN "UNASSIGNED_STACK" Bundle.steD A U H ∧ vx_Zq Bundle.tN "SUPPRESSED_SENTINEL" Bundle.listD A U H ∧
  vk_R RX6 200 "not in the range" (G.2.2 2) U ∧ vk_R RX6 205 "not possible now" (G.2.2 3) U ∧ vk_R RX6 193 "no such number" (G.2.2 4) U ∧
  (∀ q ∈ NWc, va_Nw (.castable q q) U) ∧ (∀ q ∈ NWd, va_Nw (.declares q) U) ∧ (∀ q ∈ NWn, va_Nc q.1 q.2 U) ∧ (∀ q ∈ NWa, va_AO q U)
theorem WF.warm {G : GT} {A B : Nat → Prop} {s U : State} {H0 H : Heap} (h : WF G A s H0) (hW : s.WarmedH U.vm) (hq : ∀ a : Nat, a < H0.size → ¬ A a → H[a]? = H0[a]?) (hAB : ∀ q, B q → A q) : WF G B U H := by
  obtain ⟨h1, h2, h3, h4, h5, h6, h7, h8, h9, h10, h11, h12, h13, h14⟩ := h
  exact ⟨va_K.moved hW.alike h1, fun q hq => va_Nw.warmM hW (h2 q hq), fun q hq => va_Nw.warmF hW (h3 q hq), ((va_Z.moved hW.alike h4).kept hq).narrow hAB, ((va_T.moved hW.alike h5).kept hq).narrow hAB,
    ((vx_Zq.moved hW.alike h6).kept hq).narrow hAB, ((vx_Zq.moved hW.alike h7).kept hq).narrow hAB, vk_R.warm hW h8, vk_R.warm hW h9, vk_R.warm hW h10, fun q hq => va_Nw.warmC hW (h11 q hq), fun q hq => va_Nw.warmD hW (h12 q hq), fun q hq => va_Nc.moved hW.alike (h13 q hq), fun q hq => va_AO.moved hW.alike (h14 q hq)⟩
theorem WF.same {G : GT} {A : Nat → Prop} {s U : State} {H : Heap} (h : WF G A s H) (hv : U.vm = s.vm) : WF G A U H := by
  obtain ⟨h1, h2, h3, h4, h5, h6, h7, h8, h9, h10, h11, h12, h13, h14⟩ := h
  have hA : s.vm.Alike U.vm := by rw [hv]; exact Vm.Alike.refl s.vm
  exact ⟨va_K.moved hA h1, fun q hq => va_Nw.same rfl hv.symm (h2 q hq), fun q hq => va_Nw.same rfl hv.symm (h3 q hq), va_Z.moved hA h4, va_T.moved hA h5,
    vx_Zq.moved hA h6, vx_Zq.moved hA h7, vk_R.same hv h8, vk_R.same hv h9, vk_R.same hv h10, fun q hq => va_Nw.same rfl hv.symm (h11 q hq), fun q hq => va_Nw.same rfl hv.symm (h12 q hq), fun q hq => va_Nc.moved hA (h13 q hq), fun q hq => va_AO.moved hA (h14 q hq)⟩
/-- a method's start -/
def WI (G : GT) (M : Mem) (U : State) : Prop := G.2.2 0 + 154 ≤ U.heap.size ∧ PW G M U.heap ∧ WF G (Aw G U.heap.size) U U.heap
theorem WI.blind {G : GT} {M : Mem} {U : State} (h : WI G M U) (g : JFrame) (mk : MethodId) (a : Array Value) : WI G M (U.calling g mk a) := ⟨h.1, h.2.1, h.2.2.same rfl⟩
/-- what stands fixed in a walk -/
abbrev PX : Type := Program × Launch × Env × Room × State × MethodId × Array Value × List Frame × Method × Code
abbrev xP (X : PX) : Program := X.1
abbrev xL (X : PX) : Launch := X.2.1
abbrev xE (X : PX) : Env := X.2.2.1
abbrev xR (X : PX) : Room := X.2.2.2.1
abbrev xS (X : PX) : State := X.2.2.2.2.1
abbrev xM (X : PX) : MethodId := X.2.2.2.2.2.1
abbrev xA (X : PX) : Array Value := X.2.2.2.2.2.2.1
abbrev xB (X : PX) : List Frame := X.2.2.2.2.2.2.2.1
abbrev xMe (X : PX) : Method := X.2.2.2.2.2.2.2.2.1
abbrev xC (X : PX) : Code := X.2.2.2.2.2.2.2.2.2
def rmd (d mc ms : Nat) : Room := { frames := d, cells := mc, slots := ms, locals := 30 * d }
def EF (X : PX) (G : GT) (cc : ByteArray) (nL : Nat) (own : String) (rt : Option FieldType) (d mc ms : Nat) : Prop :=
  (xP X).tables.exec = Jvm.exec ∧ (xC X).code = cc ∧ (xC X).maxLocals = nL ∧ (xS X).vm.findClass own = some (xM X).cls ∧ (∀ w ∈ GW, w.before (xA X) (xS X) = true) ∧ (xMe X).locks = false ∧ (xMe X).sig.returnType = rt ∧
  True ∧ WF G (Aw G (xS X).heap.size) (xS X) (xS X).heap ∧ xR X = rmd d mc ms
section EFs
variable {X : PX} {G : GT} {cc : ByteArray} {nL : Nat} {own : String} {rt : Option FieldType} {d mc ms : Nat}
theorem EF.ex (E : EF X G cc nL own rt d mc ms) : (xP X).tables.exec = Jvm.exec := E.1
theorem EF.cb (E : EF X G cc nL own rt d mc ms) : (xC X).code = cc := E.2.1
theorem EF.ml (E : EF X G cc nL own rt d mc ms) : (xC X).maxLocals = nL := E.2.2.1
theorem EF.ow (E : EF X G cc nL own rt d mc ms) : (xS X).vm.findClass own = some (xM X).cls := E.2.2.2.1
theorem EF.ts (E : EF X G cc nL own rt d mc ms) : ∀ w ∈ GW, w.before (xA X) (xS X) = true := E.2.2.2.2.1
theorem EF.lk (E : EF X G cc nL own rt d mc ms) : (xMe X).locks = false := E.2.2.2.2.2.1
theorem EF.ret (E : EF X G cc nL own rt d mc ms) : (xMe X).sig.returnType = rt := E.2.2.2.2.2.2.1
theorem EF.wf (E : EF X G cc nL own rt d mc ms) : WF G (Aw G (xS X).heap.size) (xS X) (xS X).heap := E.2.2.2.2.2.2.2.2.1
theorem EF.rm (E : EF X G cc nL own rt d mc ms) : xR X = rmd d mc ms := E.2.2.2.2.2.2.2.2.2
theorem EF.kk (E : EF X G cc nL own rt d mc ms) : va_K G.1 vwCl (tys G) (xS X) := E.wf.1
end EFs
/-! locals, one place each -/
def lget : List (Option Value) → Nat → Option Value
  | [], _ => none
  | a :: _, 0 => a
  | _ :: r, n + 1 => lget r n
def lset : List (Option Value) → Nat → Option Value → List (Option Value)
  | [], _, _ => []
  | _ :: r, 0, v => v :: r
  | a :: r, n + 1, v => a :: lset r n v
theorem lget_lt : ∀ {lv : List (Option Value)} {i : Nat} {v : Value}, lget lv i = some v → i < lv.length
  | [], _, _, h => by cases h
  | _ :: _, 0, _, _ => Nat.succ_pos _
  | _ :: r, n + 1, v, h => Nat.succ_lt_succ (lget_lt (lv := r) h)
theorem lset_len : ∀ (lv : List (Option Value)) (i : Nat) (v : Option Value), (lset lv i v).length = lv.length
  | [], _, _ => rfl
  | _ :: _, 0, _ => rfl
  | _ :: r, n + 1, v => congrArg (· + 1) (lset_len r n v)
theorem lget_set : ∀ {lv : List (Option Value)} {i j : Nat} {v : Option Value}, i < lv.length → lget (lset lv i v) j = if j = i then v else lget lv j
  | [], _, _, _, h => absurd h (Nat.not_lt_zero _)
  | _ :: _, 0, 0, _, _ => rfl
  | _ :: _, 0, j + 1, _, _ => by simp [lset, lget]
  | _ :: _, i + 1, 0, _, _ => by simp [lset, lget]
  | _ :: r, i + 1, j + 1, v, h => by
    have := lget_set (lv := r) (i := i) (j := j) (v := v) (Nat.lt_of_succ_lt_succ h)
    simp only [lset, lget, this]
    by_cases e : j = i <;> simp [e]
def c2 (v : Option Value) : Bool := match v with
  | some w => w.category == 2
  | none => false
def hasL (ls : Array Slot) (lv : List (Option Value)) : Prop := ls.size = lv.length ∧ lv_wf ls ∧ ∀ (i : Nat) (v : Value), lget lv i = some v → ls[i]? = some (.val v)
def cvL (lv : List (Option Value)) : List (Nat × Value) := (List.range lv.length).filterMap (fun j => (lget lv j).map (fun w => (j, w)))
theorem cvL_mem {lv : List (Option Value)} {i : Nat} {v : Value} : (i, v) ∈ cvL lv ↔ lget lv i = some v := by
  constructor
  · intro h
    obtain ⟨j, -, h2⟩ := List.mem_filterMap.mp h
    cases hg : lget lv j with
    | none => rw [hg] at h2; cases h2
    | some w =>
      rw [hg] at h2
      cases h2
      exact hg
  · intro h
    exact List.mem_filterMap.mpr ⟨i, List.mem_range.mpr (lget_lt h), by rw [h]; rfl⟩
theorem hasL.cv {ls : Array Slot} {lv : List (Option Value)} (h : hasL ls lv) : lv_has ls lv.length (cvL lv) := ⟨h.1, h.2.1, fun q hq => h.2.2 q.1 q.2 (cvL_mem.mp hq)⟩
theorem hasL.cv1 {ls : Array Slot} {lv : List (Option Value)} (h : hasL ls lv) {i : Nat} {v : Value} (hi : lget lv i = some v) : lv_has ls lv.length ((i, v) :: cvL lv) := ⟨h.1, h.2.1, fun q hq => by
  rcases List.mem_cons.mp hq with rfl | hq
  · exact h.2.2 i v hi
  · exact h.2.2 q.1 q.2 (cvL_mem.mp hq)⟩
theorem hasL_st1 {ls' : Array Slot} {lv : List (Option Value)} {l : List (Nat × Value)} {i : Nat} {v : Value} (hi : i < lv.length) (hp : ∀ j w, j + 1 = i → lget lv j = some w → (w.category == 2) = false) (hl : ∀ j w, lget lv j = some w → (j, w) ∈ l)
    (h' : lv_has ls' lv.length ((i, v) :: l.filter (fun q => !(q.1 == i) && !(q.1 + 1 == i && q.2.category == 2)))) : hasL ls' (lset lv i (some v)) := by
  refine ⟨by rw [lset_len]; exact h'.1, h'.2.1, fun j w hj => ?_⟩
  rw [lget_set hi] at hj
  by_cases e : j = i
  · rw [if_pos e] at hj
    cases hj
    subst e
    exact h'.2.2 (j, v) List.mem_cons_self
  · rw [if_neg e] at hj
    refine h'.2.2 (j, w) (List.mem_cons_of_mem _ (List.mem_filter.mpr ⟨hl j w hj, ?_⟩))
    by_cases e2 : j + 1 = i
    · simp [e, hp j w e2 hj]
    · simp [e, e2]
theorem hasL_st2 {ls' : Array Slot} {lv : List (Option Value)} {l : List (Nat × Value)} {i : Nat} {v : Value} (hi : i + 1 < lv.length) (hp : ∀ j w, j + 1 = i → lget lv j = some w → (w.category == 2) = false) (hl : ∀ j w, lget lv j = some w → (j, w) ∈ l)
    (h' : lv_has ls' lv.length ((i, v) :: l.filter (fun q => !(q.1 == i) && (!(q.1 == i + 1) && !(q.1 + 1 == i && q.2.category == 2))))) : hasL ls' (lset (lset lv i (some v)) (i + 1) none) := by
  refine ⟨by rw [lset_len, lset_len]; exact h'.1, h'.2.1, fun j w hj => ?_⟩
  rw [lget_set (by rw [lset_len]; exact hi), lget_set (Nat.lt_of_succ_lt hi)] at hj
  by_cases e1 : j = i + 1
  · rw [if_pos e1] at hj; cases hj
  · rw [if_neg e1] at hj
    by_cases e : j = i
    · rw [if_pos e] at hj
      cases hj
      subst e
      exact h'.2.2 (j, v) List.mem_cons_self
    · rw [if_neg e] at hj
      refine h'.2.2 (j, w) (List.mem_cons_of_mem _ (List.mem_filter.mpr ⟨hl j w hj, ?_⟩))
      by_cases e2 : j + 1 = i
      · simp [e, e1, hp j w e2 hj]
      · simp [e, e1, e2]
theorem lv_args_in : ∀ (vs : List Value) (k n : Nat), (∀ v ∈ vs, v.category = 1) → ∀ (i : Nat) (v : Value), lget (vs.map some ++ List.replicate n none) i = some v → (k + i, v) ∈ lv_args k vs
  | [], k, n, _, i, v, h => by
    exfalso
    have : ∀ (n i : Nat), lget (List.replicate n none) i = (none : Option Value) := by
      intro n
      induction n with
      | zero => intro i; rfl
      | succ n ih =>
        intro i
        cases i with
        | zero => rfl
        | succ i => exact ih i
    rw [List.map_nil, List.nil_append, this] at h
    cases h
  | u :: vs, k, n, hc, 0, v, h => by
    cases h
    exact List.mem_cons_self
  | u :: vs, k, n, hc, i + 1, v, h => by
    have h1 := lv_args_in vs (k + 1) n (fun w hw => hc w (List.mem_cons_of_mem _ hw)) i v h
    have hu : ¬ u.category = 2 := by rw [hc u List.mem_cons_self]; decide
    refine List.mem_cons_of_mem _ ?_
    rw [if_neg hu, show k + (i + 1) = k + 1 + i by omega]
    exact h1
theorem hasL_entry (vs : List Value) {n : Nat} (hc : ∀ v ∈ vs, v.category = 1) (hn : vs.length ≤ n) : hasL ((lg_sl vs ++ List.replicate (n - (lg_sl vs).length) Slot.unset).toArray) (vs.map some ++ List.replicate (n - vs.length) none) := by
  have hlen : (lg_sl vs).length = vs.length := by
    clear hn
    induction vs with
    | nil => rfl
    | cons u vs ih =>
      have hu : ¬ u.category = 2 := by rw [hc u List.mem_cons_self]; decide
      have h1 := ih (fun w hw => hc w (List.mem_cons_of_mem _ hw))
      simp only [lg_sl, List.flatMap_cons, List.length_append, List.length_cons] at h1 ⊢
      rw [h1]
      simp [hu]
      omega
  have h := lv_entry vs (n := n) (by rw [hlen]; exact hn)
  refine ⟨by rw [h.1]; simp; omega, h.2.1, fun i v hi => ?_⟩
  have h2 := lv_args_in vs 0 (n - vs.length) hc i v hi
  rw [Nat.zero_add] at h2
  exact h.2.2 (i, v) h2
theorem c2_of {a : Option Value} {w : Value} (hc : c2 a = false) (h : a = some w) : (w.category == 2) = false := by subst h; exact hc
/-- THE JUDGEMENT: from pc, with these locals, this stack and this memory, the machine comes to Q -/
def Z (X : PX) (G : GT) (T : Nat × Nat) (Q : State → Prop) (pc : Nat) (lv : List (Option Value)) (st : List Value) (M : Mem) (cells slots : Nat) : Prop :=
  ∀ (ls : Array Slot) (H : Heap) (locs : List Loc), hasL ls lv → PW G M H → TW G T M H → va_S (Aw G (xS X).heap.size) (xS X).heap H locs → W (xP X) (xL X) (xE X) (xR X) (xS X) (xM X) (xA X) (xB X) (xMe X) (xC X) H locs cells slots Q (F0 (xM X) pc ls st)
section ZR
variable {X : PX} {G : GT} {T : Nat × Nat} {cc : ByteArray} {nL : Nat} {own : String} {rt : Option FieldType} {d mc ms : Nat} {Q : State → Prop} {pc : Nat} {lv r : List (Option Value)} {st : List Value} {M : Mem} {cells slots : Nat}
theorem z_mem {M' : Mem} (h : M' = M) (k : Z X G T Q pc lv st M' cells slots) : Z X G T Q pc lv st M cells slots := h ▸ k
theorem z_top {x y : Int32} (h : y = x) (k : Z X G T Q pc lv (.int y :: st) M cells slots) : Z X G T Q pc lv (.int x :: st) M cells slots := h ▸ k
theorem z_pc {pc' : Nat} (h : pc' = pc) (k : Z X G T Q pc' lv st M cells slots) : Z X G T Q pc lv st M cells slots := h ▸ k
theorem z_widen {c1 s1 : Nat} (h1 : cells ≤ c1) (h2 : slots ≤ s1) (k : Z X G T Q pc lv st M c1 s1) : Z X G T Q pc lv st M cells slots := fun ls H locs hl hP hT hS => W.widen h1 h2 (k ls H locs hl hP hT hS)
/-- fewer locals known -/
theorem z_loc {lv' : List (Option Value)} (hn : lv'.length = lv.length) (h : ∀ i v, lget lv' i = some v → lget lv i = some v) (k : Z X G T Q pc lv' st M cells slots) : Z X G T Q pc lv st M cells slots := fun ls H locs hl hP hT hS => k ls H locs ⟨by rw [hn]; exact hl.1, hl.2.1, fun i v hi => hl.2.2 i v (h i v hi)⟩ hP hT hS
theorem z_iadd (E : EF X G cc nL own rt d mc ms) (hd : decode cc pc = .ok (.iadd, 1)) {x y : Int32} (k : Z X G T Q (pc + 1) lv (.int (x + y) :: st) M cells slots) : Z X G T Q pc lv (.int y :: .int x :: st) M cells slots := fun ls H locs hl hP hT hS => lv_iadd E.ex E.cb hd (k ls H locs hl hP hT hS)
theorem z_isub (E : EF X G cc nL own rt d mc ms) (hd : decode cc pc = .ok (.isub, 1)) {x y : Int32} (k : Z X G T Q (pc + 1) lv (.int (x - y) :: st) M cells slots) : Z X G T Q pc lv (.int y :: .int x :: st) M cells slots := fun ls H locs hl hP hT hS => lv_isub E.ex E.cb hd (k ls H locs hl hP hT hS)
theorem z_imul (E : EF X G cc nL own rt d mc ms) (hd : decode cc pc = .ok (.imul, 1)) {x y : Int32} (k : Z X G T Q (pc + 1) lv (.int (x * y) :: st) M cells slots) : Z X G T Q pc lv (.int y :: .int x :: st) M cells slots := fun ls H locs hl hP hT hS => lv_imul E.ex E.cb hd (k ls H locs hl hP hT hS)
theorem z_iand (E : EF X G cc nL own rt d mc ms) (hd : decode cc pc = .ok (.iand, 1)) {x y : Int32} (k : Z X G T Q (pc + 1) lv (.int (x &&& y) :: st) M cells slots) : Z X G T Q pc lv (.int y :: .int x :: st) M cells slots := fun ls H locs hl hP hT hS => lv_iand E.ex E.cb hd (k ls H locs hl hP hT hS)
theorem z_ixor (E : EF X G cc nL own rt d mc ms) (hd : decode cc pc = .ok (.ixor, 1)) {x y : Int32} (k : Z X G T Q (pc + 1) lv (.int (x ^^^ y) :: st) M cells slots) : Z X G T Q pc lv (.int y :: .int x :: st) M cells slots := fun ls H locs hl hP hT hS => lv_ixor E.ex E.cb hd (k ls H locs hl hP hT hS)
theorem z_ladd (E : EF X G cc nL own rt d mc ms) (hd : decode cc pc = .ok (.ladd, 1)) {x y : Int64} (k : Z X G T Q (pc + 1) lv (.long (x + y) :: st) M cells slots) : Z X G T Q pc lv (.long y :: .long x :: st) M cells slots := fun ls H locs hl hP hT hS => lv_ladd E.ex E.cb hd (k ls H locs hl hP hT hS)
theorem z_lmul (E : EF X G cc nL own rt d mc ms) (hd : decode cc pc = .ok (.lmul, 1)) {x y : Int64} (k : Z X G T Q (pc + 1) lv (.long (x * y) :: st) M cells slots) : Z X G T Q pc lv (.long y :: .long x :: st) M cells slots := fun ls H locs hl hP hT hS => lv_lmul E.ex E.cb hd (k ls H locs hl hP hT hS)
theorem z_land (E : EF X G cc nL own rt d mc ms) (hd : decode cc pc = .ok (.land, 1)) {x y : Int64} (k : Z X G T Q (pc + 1) lv (.long (x &&& y) :: st) M cells slots) : Z X G T Q pc lv (.long y :: .long x :: st) M cells slots := fun ls H locs hl hP hT hS => lv_land E.ex E.cb hd (k ls H locs hl hP hT hS)
theorem z_lor (E : EF X G cc nL own rt d mc ms) (hd : decode cc pc = .ok (.lor, 1)) {x y : Int64} (k : Z X G T Q (pc + 1) lv (.long (x ||| y) :: st) M cells slots) : Z X G T Q pc lv (.long y :: .long x :: st) M cells slots := fun ls H locs hl hP hT hS => lv_lor E.ex E.cb hd (k ls H locs hl hP hT hS)
theorem z_idiv (E : EF X G cc nL own rt d mc ms) (hd : decode cc pc = .ok (.idiv, 1)) {x y : Int32} (hne : ¬ y = 0) (k : Z X G T Q (pc + 1) lv (.int (x / y) :: st) M cells slots) : Z X G T Q pc lv (.int y :: .int x :: st) M cells slots := fun ls H locs hl hP hT hS => lv_idiv E.ex E.cb hd hne (k ls H locs hl hP hT hS)
theorem z_irem (E : EF X G cc nL own rt d mc ms) (hd : decode cc pc = .ok (.irem, 1)) {x y : Int32} (hne : ¬ y = 0) (k : Z X G T Q (pc + 1) lv (.int (x - x / y * y) :: st) M cells slots) : Z X G T Q pc lv (.int y :: .int x :: st) M cells slots := fun ls H locs hl hP hT hS => lv_irem E.ex E.cb hd hne (k ls H locs hl hP hT hS)
theorem z_lcmp (E : EF X G cc nL own rt d mc ms) (hd : decode cc pc = .ok (.lcmp, 1)) {x y : Int64} (k : Z X G T Q (pc + 1) lv (.int (lg_cmp x y) :: st) M cells slots) : Z X G T Q pc lv (.long y :: .long x :: st) M cells slots := fun ls H locs hl hP hT hS => W.lcmp E.ex E.cb hd (k ls H locs hl hP hT hS)
theorem z_i2l (E : EF X G cc nL own rt d mc ms) (hd : decode cc pc = .ok (.i2l, 1)) {x : Int32} (k : Z X G T Q (pc + 1) lv (.long x.toInt64 :: st) M cells slots) : Z X G T Q pc lv (.int x :: st) M cells slots := fun ls H locs hl hP hT hS => lv_i2l E.ex E.cb hd rfl (k ls H locs hl hP hT hS)
theorem z_lshl (E : EF X G cc nL own rt d mc ms) (hd : decode cc pc = .ok (.lshl, 1)) {x : Int64} {y : Int32} (k : Z X G T Q (pc + 1) lv (.long (x <<< (y.toInt64 &&& 63)) :: st) M cells slots) : Z X G T Q pc lv (.int y :: .long x :: st) M cells slots := fun ls H locs hl hP hT hS => lv_lshl E.ex E.cb hd rfl (k ls H locs hl hP hT hS)
theorem z_lshr (E : EF X G cc nL own rt d mc ms) (hd : decode cc pc = .ok (.lshr, 1)) {x : Int64} {y : Int32} (k : Z X G T Q (pc + 1) lv (.long (x >>> (y.toInt64 &&& 63)) :: st) M cells slots) : Z X G T Q pc lv (.int y :: .long x :: st) M cells slots := fun ls H locs hl hP hT hS => lv_lshr E.ex E.cb hd rfl (k ls H locs hl hP hT hS)
theorem z_i2d (E : EF X G cc nL own rt d mc ms) (hd : decode cc pc = .ok (.i2d, 1)) {x : Int32} (k : Z X G T Q (pc + 1) lv (.double (FP.i2d x) :: st) M cells slots) : Z X G T Q pc lv (.int x :: st) M cells slots := fun ls H locs hl hP hT hS => lv_i2d E.ex E.cb hd (k ls H locs hl hP hT hS)
theorem z_ddiv (E : EF X G cc nL own rt d mc ms) (hd : decode cc pc = .ok (.ddiv, 1)) {x y : UInt64} (hne : vf_n64 (FP.ddiv x y)) (k : Z X G T Q (pc + 1) lv (.double (FP.ddiv x y) :: st) M cells slots) : Z X G T Q pc lv (.double y :: .double x :: st) M cells slots := fun ls H locs hl hP hT hS => lv_ddiv E.ex E.cb hd hne (k ls H locs hl hP hT hS)
theorem z_dup (E : EF X G cc nL own rt d mc ms) (hd : decode cc pc = .ok (.dup, 1)) {a : Value} (hc : a.category = 1) (k : Z X G T Q (pc + 1) lv (a :: a :: st) M cells slots) : Z X G T Q pc lv (a :: st) M cells slots := fun ls H locs hl hP hT hS => lv_dup E.ex E.cb hd hc (k ls H locs hl hP hT hS)
theorem z_iconst (E : EF X G cc nL own rt d mc ms) {n : Int} {v : Int32} (hd : decode cc pc = .ok (.iconst n, 1)) (hv : Int32.ofInt n = v) (k : Z X G T Q (pc + 1) lv (.int v :: st) M cells slots) : Z X G T Q pc lv (st) M cells slots := fun ls H locs hl hP hT hS => lv_iconst E.ex E.cb hd hv (k ls H locs hl hP hT hS)
theorem z_bipush (E : EF X G cc nL own rt d mc ms) {n : Int} {v : Int32} (hd : decode cc pc = .ok (.bipush n, 2)) (hv : (Int8.ofInt n).toInt32 = v) (k : Z X G T Q (pc + 2) lv (.int v :: st) M cells slots) : Z X G T Q pc lv (st) M cells slots := fun ls H locs hl hP hT hS => lv_bipush E.ex E.cb hd hv (k ls H locs hl hP hT hS)
theorem z_sipush (E : EF X G cc nL own rt d mc ms) {n : Int} {v : Int32} (hd : decode cc pc = .ok (.sipush n, 3)) (hv : (Int16.ofInt n).toInt32 = v) (k : Z X G T Q (pc + 3) lv (.int v :: st) M cells slots) : Z X G T Q pc lv (st) M cells slots := fun ls H locs hl hP hT hS => lv_sipush E.ex E.cb hd hv (k ls H locs hl hP hT hS)
theorem z_lconst (E : EF X G cc nL own rt d mc ms) {n : Fin 2} {v : Int64} (hd : decode cc pc = .ok (.lconst n, 1)) (hv : Int64.ofNat (n : Nat) = v) (k : Z X G T Q (pc + 1) lv (.long v :: st) M cells slots) : Z X G T Q pc lv (st) M cells slots := fun ls H locs hl hP hT hS => lv_lconst E.ex E.cb hd hv (k ls H locs hl hP hT hS)
theorem z_ldc2 (E : EF X G cc nL own rt d mc ms) {i : Nat} {v : Int64} (hd : decode cc pc = .ok (.ldc2_w i, 3)) (hv : Cond.constantLong own i v ∈ GW) (k : Z X G T Q (pc + 3) lv (.long v :: st) M cells slots) : Z X G T Q pc lv (st) M cells slots := fun ls H locs hl hP hT hS => lv_ldc2 E.ex E.cb E.ow (E.ts _ hv) hd (k ls H locs hl hP hT hS)
theorem z_goto (E : EF X G cc nL own rt d mc ms) {o : Int} {tgt : Nat} (hd : decode cc pc = .ok (.goto o, 3)) (ht : (pc : Int) + o = (tgt : Int)) (k : Z X G T Q tgt lv st M cells slots) : Z X G T Q pc lv st M cells slots := fun ls H locs hl hP hT hS => lv_goto E.ex E.cb hd ht (k ls H locs hl hP hT hS)
theorem z_icmp_eq (E : EF X G cc nL own rt d mc ms) {o : Int} {tgt : Nat} (hd : decode cc pc = .ok (.if_icmp .eq o, 3)) (ht : (pc : Int) + o = (tgt : Int)) {x y : Int32} (kt : (x = y) → Z X G T Q tgt lv st M cells slots) (kf : ¬ (x = y) → Z X G T Q (pc + 3) lv st M cells slots) : Z X G T Q pc lv (.int y :: .int x :: st) M cells slots := fun ls H locs hl hP hT hS => lv_icmp_eq E.ex E.cb hd ht (fun h => kt h ls H locs hl hP hT hS) (fun h => kf h ls H locs hl hP hT hS)
theorem z_icmp_ne (E : EF X G cc nL own rt d mc ms) {o : Int} {tgt : Nat} (hd : decode cc pc = .ok (.if_icmp .ne o, 3)) (ht : (pc : Int) + o = (tgt : Int)) {x y : Int32} (kt : (¬ x = y) → Z X G T Q tgt lv st M cells slots) (kf : x = y → Z X G T Q (pc + 3) lv st M cells slots) : Z X G T Q pc lv (.int y :: .int x :: st) M cells slots := fun ls H locs hl hP hT hS => lv_icmp_ne E.ex E.cb hd ht (fun h => kt h ls H locs hl hP hT hS) (fun h => kf h ls H locs hl hP hT hS)
theorem z_icmp_lt (E : EF X G cc nL own rt d mc ms) {o : Int} {tgt : Nat} (hd : decode cc pc = .ok (.if_icmp .lt o, 3)) (ht : (pc : Int) + o = (tgt : Int)) {x y : Int32} (kt : (x < y) → Z X G T Q tgt lv st M cells slots) (kf : ¬ (x < y) → Z X G T Q (pc + 3) lv st M cells slots) : Z X G T Q pc lv (.int y :: .int x :: st) M cells slots := fun ls H locs hl hP hT hS => lv_icmp_lt E.ex E.cb hd ht (fun h => kt h ls H locs hl hP hT hS) (fun h => kf h ls H locs hl hP hT hS)
theorem z_icmp_ge (E : EF X G cc nL own rt d mc ms) {o : Int} {tgt : Nat} (hd : decode cc pc = .ok (.if_icmp .ge o, 3)) (ht : (pc : Int) + o = (tgt : Int)) {x y : Int32} (kt : (y ≤ x) → Z X G T Q tgt lv st M cells slots) (kf : ¬ (y ≤ x) → Z X G T Q (pc + 3) lv st M cells slots) : Z X G T Q pc lv (.int y :: .int x :: st) M cells slots := fun ls H locs hl hP hT hS => lv_icmp_ge E.ex E.cb hd ht (fun h => kt h ls H locs hl hP hT hS) (fun h => kf h ls H locs hl hP hT hS)
theorem z_icmp_gt (E : EF X G cc nL own rt d mc ms) {o : Int} {tgt : Nat} (hd : decode cc pc = .ok (.if_icmp .gt o, 3)) (ht : (pc : Int) + o = (tgt : Int)) {x y : Int32} (kt : (y < x) → Z X G T Q tgt lv st M cells slots) (kf : ¬ (y < x) → Z X G T Q (pc + 3) lv st M cells slots) : Z X G T Q pc lv (.int y :: .int x :: st) M cells slots := fun ls H locs hl hP hT hS => lv_icmp_gt E.ex E.cb hd ht (fun h => kt h ls H locs hl hP hT hS) (fun h => kf h ls H locs hl hP hT hS)
theorem z_icmp_le (E : EF X G cc nL own rt d mc ms) {o : Int} {tgt : Nat} (hd : decode cc pc = .ok (.if_icmp .le o, 3)) (ht : (pc : Int) + o = (tgt : Int)) {x y : Int32} (kt : (x ≤ y) → Z X G T Q tgt lv st M cells slots) (kf : ¬ (x ≤ y) → Z X G T Q (pc + 3) lv st M cells slots) : Z X G T Q pc lv (.int y :: .int x :: st) M cells slots := fun ls H locs hl hP hT hS => lv_icmp_le E.ex E.cb hd ht (fun h => kt h ls H locs hl hP hT hS) (fun h => kf h ls H locs hl hP hT hS)
theorem z_if_eq (E : EF X G cc nL own rt d mc ms) {o : Int} {tgt : Nat} (hd : decode cc pc = .ok (.ifCond .eq o, 3)) (ht : (pc : Int) + o = (tgt : Int)) {x : Int32} (kt : (x = 0) → Z X G T Q tgt lv st M cells slots) (kf : (¬ (x = 0)) → Z X G T Q (pc + 3) lv st M cells slots) : Z X G T Q pc lv (.int x :: st) M cells slots := fun ls H locs hl hP hT hS => lv_if_eq E.ex E.cb hd ht (fun h => kt h ls H locs hl hP hT hS) (fun h => kf h ls H locs hl hP hT hS)
theorem z_if_ne (E : EF X G cc nL own rt d mc ms) {o : Int} {tgt : Nat} (hd : decode cc pc = .ok (.ifCond .ne o, 3)) (ht : (pc : Int) + o = (tgt : Int)) {x : Int32} (kt : (¬ x = 0) → Z X G T Q tgt lv st M cells slots) (kf : (x = 0) → Z X G T Q (pc + 3) lv st M cells slots) : Z X G T Q pc lv (.int x :: st) M cells slots := fun ls H locs hl hP hT hS => lv_if_ne E.ex E.cb hd ht (fun h => kt h ls H locs hl hP hT hS) (fun h => kf h ls H locs hl hP hT hS)
theorem z_if_lt (E : EF X G cc nL own rt d mc ms) {o : Int} {tgt : Nat} (hd : decode cc pc = .ok (.ifCond .lt o, 3)) (ht : (pc : Int) + o = (tgt : Int)) {x : Int32} (kt : (x < 0) → Z X G T Q tgt lv st M cells slots) (kf : (¬ (x < 0)) → Z X G T Q (pc + 3) lv st M cells slots) : Z X G T Q pc lv (.int x :: st) M cells slots := fun ls H locs hl hP hT hS => lv_if_lt E.ex E.cb hd ht (fun h => kt h ls H locs hl hP hT hS) (fun h => kf h ls H locs hl hP hT hS)
theorem z_if_ge (E : EF X G cc nL own rt d mc ms) {o : Int} {tgt : Nat} (hd : decode cc pc = .ok (.ifCond .ge o, 3)) (ht : (pc : Int) + o = (tgt : Int)) {x : Int32} (kt : (0 ≤ x) → Z X G T Q tgt lv st M cells slots) (kf : (¬ (0 ≤ x)) → Z X G T Q (pc + 3) lv st M cells slots) : Z X G T Q pc lv (.int x :: st) M cells slots := fun ls H locs hl hP hT hS => lv_if_ge E.ex E.cb hd ht (fun h => kt h ls H locs hl hP hT hS) (fun h => kf h ls H locs hl hP hT hS)
theorem z_if_gt (E : EF X G cc nL own rt d mc ms) {o : Int} {tgt : Nat} (hd : decode cc pc = .ok (.ifCond .gt o, 3)) (ht : (pc : Int) + o = (tgt : Int)) {x : Int32} (kt : (0 < x) → Z X G T Q tgt lv st M cells slots) (kf : (¬ (0 < x)) → Z X G T Q (pc + 3) lv st M cells slots) : Z X G T Q pc lv (.int x :: st) M cells slots := fun ls H locs hl hP hT hS => lv_if_gt E.ex E.cb hd ht (fun h => kt h ls H locs hl hP hT hS) (fun h => kf h ls H locs hl hP hT hS)
theorem z_if_le (E : EF X G cc nL own rt d mc ms) {o : Int} {tgt : Nat} (hd : decode cc pc = .ok (.ifCond .le o, 3)) (ht : (pc : Int) + o = (tgt : Int)) {x : Int32} (kt : (x ≤ 0) → Z X G T Q tgt lv st M cells slots) (kf : (¬ (x ≤ 0)) → Z X G T Q (pc + 3) lv st M cells slots) : Z X G T Q pc lv (.int x :: st) M cells slots := fun ls H locs hl hP hT hS => lv_if_le E.ex E.cb hd ht (fun h => kt h ls H locs hl hP hT hS) (fun h => kf h ls H locs hl hP hT hS)
theorem z_iload_0 (E : EF X G cc nL own rt d mc ms) {x : Int32} (hd : decode cc pc = .ok (.iload_n 0, 1)) (k : Z X G T Q (pc + 1) (some (.int x) :: r) (.int x :: st) M cells slots) : Z X G T Q pc (some (.int x) :: r) st M cells slots := fun ls H locs hl hP hT hS => lv_iload_n (i := 0) E.ex E.cb hd rfl (hl.2.2 0 _ rfl) (k ls H locs hl hP hT hS)
theorem z_aload_0 (E : EF X G cc nL own rt d mc ms) {x : Nat} (hd : decode cc pc = .ok (.aload_n 0, 1)) (k : Z X G T Q (pc + 1) (some (.ref x) :: r) (.ref x :: st) M cells slots) : Z X G T Q pc (some (.ref x) :: r) st M cells slots := fun ls H locs hl hP hT hS => lv_aload_n (i := 0) E.ex E.cb hd rfl (hl.2.2 0 _ rfl) (k ls H locs hl hP hT hS)
theorem z_lload_0 (E : EF X G cc nL own rt d mc ms) {x : Int64} (hd : decode cc pc = .ok (.lload_n 0, 1)) (k : Z X G T Q (pc + 1) (some (.long x) :: r) (.long x :: st) M cells slots) : Z X G T Q pc (some (.long x) :: r) st M cells slots := fun ls H locs hl hP hT hS => lv_lload_n (i := 0) E.ex E.cb hd rfl (hl.2.2 0 _ rfl) (k ls H locs hl hP hT hS)
theorem z_dload_0 (E : EF X G cc nL own rt d mc ms) {x : UInt64} (hd : decode cc pc = .ok (.dload_n 0, 1)) (k : Z X G T Q (pc + 1) (some (.double x) :: r) (.double x :: st) M cells slots) : Z X G T Q pc (some (.double x) :: r) st M cells slots := fun ls H locs hl hP hT hS => lv_dload_n (i := 0) E.ex E.cb hd rfl (hl.2.2 0 _ rfl) (k ls H locs hl hP hT hS)
theorem z_istore_0 (E : EF X G cc nL own rt d mc ms) {a0 : Option Value} {x : Int32} (hd : decode cc pc = .ok (.istore_n 0, 1)) (k : Z X G T Q (pc + 1) (some (.int x) :: r) st M cells slots) : Z X G T Q pc (a0 :: r) (.int x :: st) M cells slots := fun ls H locs hl hP hT hS => lv_istore_n (i := 0) E.ex E.cb hd rfl hl.cv (by simp) rfl (fun ls9 h9 => k ls9 H locs (hasL_st1 (i := 0) (by simp) (fun j w e h => absurd e (Nat.succ_ne_zero j)) (fun j w h => cvL_mem.mpr h) h9) hP hT hS)
theorem z_astore_0 (E : EF X G cc nL own rt d mc ms) {a0 : Option Value} {x : Nat} (hd : decode cc pc = .ok (.astore_n 0, 1)) (k : Z X G T Q (pc + 1) (some (.ref x) :: r) st M cells slots) : Z X G T Q pc (a0 :: r) (.ref x :: st) M cells slots := fun ls H locs hl hP hT hS => lv_astore_n (i := 0) E.ex E.cb hd rfl hl.cv (by simp) rfl (fun ls9 h9 => k ls9 H locs (hasL_st1 (i := 0) (by simp) (fun j w e h => absurd e (Nat.succ_ne_zero j)) (fun j w h => cvL_mem.mpr h) h9) hP hT hS)
theorem z_iinc_0 (E : EF X G cc nL own rt d mc ms) {x v : Int32} {n : Int} (hd : decode cc pc = .ok (.iinc 0 n, 3)) (hv : x + Int32.ofInt n = v) (k : Z X G T Q (pc + 3) (some (.int v) :: r) st M cells slots) : Z X G T Q pc (some (.int x) :: r) st M cells slots := fun ls H locs hl hP hT hS => lv_iinc E.ex E.cb hd (hl.cv1 (i := 0) rfl) (k := 0) rfl hv (by simp) rfl (fun ls9 h9 => k ls9 H locs (hasL_st1 (lv := some (.int x) :: r) (i := 0) (by simp) (fun j w e h => absurd e (Nat.succ_ne_zero j)) (fun j w h => List.mem_cons_of_mem _ (cvL_mem.mpr h)) h9) hP hT hS)
theorem z_lstore_0 (E : EF X G cc nL own rt d mc ms) {a0 a1 : Option Value} {x : Int64} (hd : decode cc pc = .ok (.lstore_n 0, 1)) (k : Z X G T Q (pc + 1) (some (.long x) :: none :: r) st M cells slots) : Z X G T Q pc (a0 :: a1 :: r) (.long x :: st) M cells slots := fun ls H locs hl hP hT hS => lv_lstore_n (i := 0) E.ex E.cb hd rfl hl.cv (by simp) rfl (fun ls9 h9 => k ls9 H locs (hasL_st2 (i := 0) (by simp) (fun j w e h => absurd e (Nat.succ_ne_zero j)) (fun j w h => cvL_mem.mpr h) h9) hP hT hS)
theorem z_dstore_0 (E : EF X G cc nL own rt d mc ms) {a0 a1 : Option Value} {x : UInt64} (hd : decode cc pc = .ok (.dstore_n 0, 1)) (k : Z X G T Q (pc + 1) (some (.double x) :: none :: r) st M cells slots) : Z X G T Q pc (a0 :: a1 :: r) (.double x :: st) M cells slots := fun ls H locs hl hP hT hS => lv_dstore_n (i := 0) E.ex E.cb hd rfl hl.cv (by simp) rfl (fun ls9 h9 => k ls9 H locs (hasL_st2 (i := 0) (by simp) (fun j w e h => absurd e (Nat.succ_ne_zero j)) (fun j w h => cvL_mem.mpr h) h9) hP hT hS)
theorem z_iload_1 (E : EF X G cc nL own rt d mc ms) {a0 : Option Value} {x : Int32} (hd : decode cc pc = .ok (.iload_n 1, 1)) (k : Z X G T Q (pc + 1) (a0 :: some (.int x) :: r) (.int x :: st) M cells slots) : Z X G T Q pc (a0 :: some (.int x) :: r) st M cells slots := fun ls H locs hl hP hT hS => lv_iload_n (i := 1) E.ex E.cb hd rfl (hl.2.2 1 _ rfl) (k ls H locs hl hP hT hS)
theorem z_aload_1 (E : EF X G cc nL own rt d mc ms) {a0 : Option Value} {x : Nat} (hd : decode cc pc = .ok (.aload_n 1, 1)) (k : Z X G T Q (pc + 1) (a0 :: some (.ref x) :: r) (.ref x :: st) M cells slots) : Z X G T Q pc (a0 :: some (.ref x) :: r) st M cells slots := fun ls H locs hl hP hT hS => lv_aload_n (i := 1) E.ex E.cb hd rfl (hl.2.2 1 _ rfl) (k ls H locs hl hP hT hS)
theorem z_lload_1 (E : EF X G cc nL own rt d mc ms) {a0 : Option Value} {x : Int64} (hd : decode cc pc = .ok (.lload_n 1, 1)) (k : Z X G T Q (pc + 1) (a0 :: some (.long x) :: r) (.long x :: st) M cells slots) : Z X G T Q pc (a0 :: some (.long x) :: r) st M cells slots := fun ls H locs hl hP hT hS => lv_lload_n (i := 1) E.ex E.cb hd rfl (hl.2.2 1 _ rfl) (k ls H locs hl hP hT hS)
theorem z_dload_1 (E : EF X G cc nL own rt d mc ms) {a0 : Option Value} {x : UInt64} (hd : decode cc pc = .ok (.dload_n 1, 1)) (k : Z X G T Q (pc + 1) (a0 :: some (.double x) :: r) (.double x :: st) M cells slots) : Z X G T Q pc (a0 :: some (.double x) :: r) st M cells slots := fun ls H locs hl hP hT hS => lv_dload_n (i := 1) E.ex E.cb hd rfl (hl.2.2 1 _ rfl) (k ls H locs hl hP hT hS)
theorem z_istore_1 (E : EF X G cc nL own rt d mc ms) {a0 a1 : Option Value} {x : Int32} (hd : decode cc pc = .ok (.istore_n 1, 1)) (hc : c2 a0 = false) (k : Z X G T Q (pc + 1) (a0 :: some (.int x) :: r) st M cells slots) : Z X G T Q pc (a0 :: a1 :: r) (.int x :: st) M cells slots := fun ls H locs hl hP hT hS => lv_istore_n (i := 1) E.ex E.cb hd rfl hl.cv (by simp) rfl (fun ls9 h9 => k ls9 H locs (hasL_st1 (i := 1) (by simp) (fun j w e h => by cases (show j = 0 by omega); exact c2_of hc h) (fun j w h => cvL_mem.mpr h) h9) hP hT hS)
theorem z_astore_1 (E : EF X G cc nL own rt d mc ms) {a0 a1 : Option Value} {x : Nat} (hd : decode cc pc = .ok (.astore_n 1, 1)) (hc : c2 a0 = false) (k : Z X G T Q (pc + 1) (a0 :: some (.ref x) :: r) st M cells slots) : Z X G T Q pc (a0 :: a1 :: r) (.ref x :: st) M cells slots := fun ls H locs hl hP hT hS => lv_astore_n (i := 1) E.ex E.cb hd rfl hl.cv (by simp) rfl (fun ls9 h9 => k ls9 H locs (hasL_st1 (i := 1) (by simp) (fun j w e h => by cases (show j = 0 by omega); exact c2_of hc h) (fun j w h => cvL_mem.mpr h) h9) hP hT hS)
theorem z_iinc_1 (E : EF X G cc nL own rt d mc ms) {a0 : Option Value} {x v : Int32} {n : Int} (hd : decode cc pc = .ok (.iinc 1 n, 3)) (hv : x + Int32.ofInt n = v) (hc : c2 a0 = false) (k : Z X G T Q (pc + 3) (a0 :: some (.int v) :: r) st M cells slots) : Z X G T Q pc (a0 :: some (.int x) :: r) st M cells slots := fun ls H locs hl hP hT hS => lv_iinc E.ex E.cb hd (hl.cv1 (i := 1) rfl) (k := 0) rfl hv (by simp) rfl (fun ls9 h9 => k ls9 H locs (hasL_st1 (lv := a0 :: some (.int x) :: r) (i := 1) (by simp) (fun j w e h => by cases (show j = 0 by omega); exact c2_of hc h) (fun j w h => List.mem_cons_of_mem _ (cvL_mem.mpr h)) h9) hP hT hS)
theorem z_lstore_1 (E : EF X G cc nL own rt d mc ms) {a0 a1 a2 : Option Value} {x : Int64} (hd : decode cc pc = .ok (.lstore_n 1, 1)) (hc : c2 a0 = false) (k : Z X G T Q (pc + 1) (a0 :: some (.long x) :: none :: r) st M cells slots) : Z X G T Q pc (a0 :: a1 :: a2 :: r) (.long x :: st) M cells slots := fun ls H locs hl hP hT hS => lv_lstore_n (i := 1) E.ex E.cb hd rfl hl.cv (by simp) rfl (fun ls9 h9 => k ls9 H locs (hasL_st2 (i := 1) (by simp) (fun j w e h => by cases (show j = 0 by omega); exact c2_of hc h) (fun j w h => cvL_mem.mpr h) h9) hP hT hS)
theorem z_dstore_1 (E : EF X G cc nL own rt d mc ms) {a0 a1 a2 : Option Value} {x : UInt64} (hd : decode cc pc = .ok (.dstore_n 1, 1)) (hc : c2 a0 = false) (k : Z X G T Q (pc + 1) (a0 :: some (.double x) :: none :: r) st M cells slots) : Z X G T Q pc (a0 :: a1 :: a2 :: r) (.double x :: st) M cells slots := fun ls H locs hl hP hT hS => lv_dstore_n (i := 1) E.ex E.cb hd rfl hl.cv (by simp) rfl (fun ls9 h9 => k ls9 H locs (hasL_st2 (i := 1) (by simp) (fun j w e h => by cases (show j = 0 by omega); exact c2_of hc h) (fun j w h => cvL_mem.mpr h) h9) hP hT hS)
theorem z_iload_2 (E : EF X G cc nL own rt d mc ms) {a0 a1 : Option Value} {x : Int32} (hd : decode cc pc = .ok (.iload_n 2, 1)) (k : Z X G T Q (pc + 1) (a0 :: a1 :: some (.int x) :: r) (.int x :: st) M cells slots) : Z X G T Q pc (a0 :: a1 :: some (.int x) :: r) st M cells slots := fun ls H locs hl hP hT hS => lv_iload_n (i := 2) E.ex E.cb hd rfl (hl.2.2 2 _ rfl) (k ls H locs hl hP hT hS)
theorem z_aload_2 (E : EF X G cc nL own rt d mc ms) {a0 a1 : Option Value} {x : Nat} (hd : decode cc pc = .ok (.aload_n 2, 1)) (k : Z X G T Q (pc + 1) (a0 :: a1 :: some (.ref x) :: r) (.ref x :: st) M cells slots) : Z X G T Q pc (a0 :: a1 :: some (.ref x) :: r) st M cells slots := fun ls H locs hl hP hT hS => lv_aload_n (i := 2) E.ex E.cb hd rfl (hl.2.2 2 _ rfl) (k ls H locs hl hP hT hS)
theorem z_lload_2 (E : EF X G cc nL own rt d mc ms) {a0 a1 : Option Value} {x : Int64} (hd : decode cc pc = .ok (.lload_n 2, 1)) (k : Z X G T Q (pc + 1) (a0 :: a1 :: some (.long x) :: r) (.long x :: st) M cells slots) : Z X G T Q pc (a0 :: a1 :: some (.long x) :: r) st M cells slots := fun ls H locs hl hP hT hS => lv_lload_n (i := 2) E.ex E.cb hd rfl (hl.2.2 2 _ rfl) (k ls H locs hl hP hT hS)
theorem z_dload_2 (E : EF X G cc nL own rt d mc ms) {a0 a1 : Option Value} {x : UInt64} (hd : decode cc pc = .ok (.dload_n 2, 1)) (k : Z X G T Q (pc + 1) (a0 :: a1 :: some (.double x) :: r) (.double x :: st) M cells slots) : Z X G T Q pc (a0 :: a1 :: some (.double x) :: r) st M cells slots := fun ls H locs hl hP hT hS => lv_dload_n (i := 2) E.ex E.cb hd rfl (hl.2.2 2 _ rfl) (k ls H locs hl hP hT hS)
theorem z_istore_2 (E : EF X G cc nL own rt d mc ms) {a0 a1 a2 : Option Value} {x : Int32} (hd : decode cc pc = .ok (.istore_n 2, 1)) (hc : c2 a1 = false) (k : Z X G T Q (pc + 1) (a0 :: a1 :: some (.int x) :: r) st M cells slots) : Z X G T Q pc (a0 :: a1 :: a2 :: r) (.int x :: st) M cells slots := fun ls H locs hl hP hT hS => lv_istore_n (i := 2) E.ex E.cb hd rfl hl.cv (by simp) rfl (fun ls9 h9 => k ls9 H locs (hasL_st1 (i := 2) (by simp) (fun j w e h => by cases (show j = 1 by omega); exact c2_of hc h) (fun j w h => cvL_mem.mpr h) h9) hP hT hS)
theorem z_astore_2 (E : EF X G cc nL own rt d mc ms) {a0 a1 a2 : Option Value} {x : Nat} (hd : decode cc pc = .ok (.astore_n 2, 1)) (hc : c2 a1 = false) (k : Z X G T Q (pc + 1) (a0 :: a1 :: some (.ref x) :: r) st M cells slots) : Z X G T Q pc (a0 :: a1 :: a2 :: r) (.ref x :: st) M cells slots := fun ls H locs hl hP hT hS => lv_astore_n (i := 2) E.ex E.cb hd rfl hl.cv (by simp) rfl (fun ls9 h9 => k ls9 H locs (hasL_st1 (i := 2) (by simp) (fun j w e h => by cases (show j = 1 by omega); exact c2_of hc h) (fun j w h => cvL_mem.mpr h) h9) hP hT hS)
theorem z_iinc_2 (E : EF X G cc nL own rt d mc ms) {a0 a1 : Option Value} {x v : Int32} {n : Int} (hd : decode cc pc = .ok (.iinc 2 n, 3)) (hv : x + Int32.ofInt n = v) (hc : c2 a1 = false) (k : Z X G T Q (pc + 3) (a0 :: a1 :: some (.int v) :: r) st M cells slots) : Z X G T Q pc (a0 :: a1 :: some (.int x) :: r) st M cells slots := fun ls H locs hl hP hT hS => lv_iinc E.ex E.cb hd (hl.cv1 (i := 2) rfl) (k := 0) rfl hv (by simp) rfl (fun ls9 h9 => k ls9 H locs (hasL_st1 (lv := a0 :: a1 :: some (.int x) :: r) (i := 2) (by simp) (fun j w e h => by cases (show j = 1 by omega); exact c2_of hc h) (fun j w h => List.mem_cons_of_mem _ (cvL_mem.mpr h)) h9) hP hT hS)
theorem z_lstore_2 (E : EF X G cc nL own rt d mc ms) {a0 a1 a2 a3 : Option Value} {x : Int64} (hd : decode cc pc = .ok (.lstore_n 2, 1)) (hc : c2 a1 = false) (k : Z X G T Q (pc + 1) (a0 :: a1 :: some (.long x) :: none :: r) st M cells slots) : Z X G T Q pc (a0 :: a1 :: a2 :: a3 :: r) (.long x :: st) M cells slots := fun ls H locs hl hP hT hS => lv_lstore_n (i := 2) E.ex E.cb hd rfl hl.cv (by simp) rfl (fun ls9 h9 => k ls9 H locs (hasL_st2 (i := 2) (by simp) (fun j w e h => by cases (show j = 1 by omega); exact c2_of hc h) (fun j w h => cvL_mem.mpr h) h9) hP hT hS)
theorem z_dstore_2 (E : EF X G cc nL own rt d mc ms) {a0 a1 a2 a3 : Option Value} {x : UInt64} (hd : decode cc pc = .ok (.dstore_n 2, 1)) (hc : c2 a1 = false) (k : Z X G T Q (pc + 1) (a0 :: a1 :: some (.double x) :: none :: r) st M cells slots) : Z X G T Q pc (a0 :: a1 :: a2 :: a3 :: r) (.double x :: st) M cells slots := fun ls H locs hl hP hT hS => lv_dstore_n (i := 2) E.ex E.cb hd rfl hl.cv (by simp) rfl (fun ls9 h9 => k ls9 H locs (hasL_st2 (i := 2) (by simp) (fun j w e h => by cases (show j = 1 by omega); exact c2_of hc h) (fun j w h => cvL_mem.mpr h) h9) hP hT hS)
theorem z_iload_3 (E : EF X G cc nL own rt d mc ms) {a0 a1 a2 : Option Value} {x : Int32} (hd : decode cc pc = .ok (.iload_n 3, 1)) (k : Z X G T Q (pc + 1) (a0 :: a1 :: a2 :: some (.int x) :: r) (.int x :: st) M cells slots) : Z X G T Q pc (a0 :: a1 :: a2 :: some (.int x) :: r) st M cells slots := fun ls H locs hl hP hT hS => lv_iload_n (i := 3) E.ex E.cb hd rfl (hl.2.2 3 _ rfl) (k ls H locs hl hP hT hS)
theorem z_aload_3 (E : EF X G cc nL own rt d mc ms) {a0 a1 a2 : Option Value} {x : Nat} (hd : decode cc pc = .ok (.aload_n 3, 1)) (k : Z X G T Q (pc + 1) (a0 :: a1 :: a2 :: some (.ref x) :: r) (.ref x :: st) M cells slots) : Z X G T Q pc (a0 :: a1 :: a2 :: some (.ref x) :: r) st M cells slots := fun ls H locs hl hP hT hS => lv_aload_n (i := 3) E.ex E.cb hd rfl (hl.2.2 3 _ rfl) (k ls H locs hl hP hT hS)
theorem z_lload_3 (E : EF X G cc nL own rt d mc ms) {a0 a1 a2 : Option Value} {x : Int64} (hd : decode cc pc = .ok (.lload_n 3, 1)) (k : Z X G T Q (pc + 1) (a0 :: a1 :: a2 :: some (.long x) :: r) (.long x :: st) M cells slots) : Z X G T Q pc (a0 :: a1 :: a2 :: some (.long x) :: r) st M cells slots := fun ls H locs hl hP hT hS => lv_lload_n (i := 3) E.ex E.cb hd rfl (hl.2.2 3 _ rfl) (k ls H locs hl hP hT hS)
theorem z_dload_3 (E : EF X G cc nL own rt d mc ms) {a0 a1 a2 : Option Value} {x : UInt64} (hd : decode cc pc = .ok (.dload_n 3, 1)) (k : Z X G T Q (pc + 1) (a0 :: a1 :: a2 :: some (.double x) :: r) (.double x :: st) M cells slots) : Z X G T Q pc (a0 :: a1 :: a2 :: some (.double x) :: r) st M cells slots := fun ls H locs hl hP hT hS => lv_dload_n (i := 3) E.ex E.cb hd rfl (hl.2.2 3 _ rfl) (k ls H locs hl hP hT hS)
theorem z_istore_3 (E : EF X G cc nL own rt d mc ms) {a0 a1 a2 a3 : Option Value} {x : Int32} (hd : decode cc pc = .ok (.istore_n 3, 1)) (hc : c2 a2 = false) (k : Z X G T Q (pc + 1) (a0 :: a1 :: a2 :: some (.int x) :: r) st M cells slots) : Z X G T Q pc (a0 :: a1 :: a2 :: a3 :: r) (.int x :: st) M cells slots := fun ls H locs hl hP hT hS => lv_istore_n (i := 3) E.ex E.cb hd rfl hl.cv (by simp) rfl (fun ls9 h9 => k ls9 H locs (hasL_st1 (i := 3) (by simp) (fun j w e h => by cases (show j = 2 by omega); exact c2_of hc h) (fun j w h => cvL_mem.mpr h) h9) hP hT hS)
theorem z_astore_3 (E : EF X G cc nL own rt d mc ms) {a0 a1 a2 a3 : Option Value} {x : Nat} (hd : decode cc pc = .ok (.astore_n 3, 1)) (hc : c2 a2 = false) (k : Z X G T Q (pc + 1) (a0 :: a1 :: a2 :: some (.ref x) :: r) st M cells slots) : Z X G T Q pc (a0 :: a1 :: a2 :: a3 :: r) (.ref x :: st) M cells slots := fun ls H locs hl hP hT hS => lv_astore_n (i := 3) E.ex E.cb hd rfl hl.cv (by simp) rfl (fun ls9 h9 => k ls9 H locs (hasL_st1 (i := 3) (by simp) (fun j w e h => by cases (show j = 2 by omega); exact c2_of hc h) (fun j w h => cvL_mem.mpr h) h9) hP hT hS)
theorem z_iinc_3 (E : EF X G cc nL own rt d mc ms) {a0 a1 a2 : Option Value} {x v : Int32} {n : Int} (hd : decode cc pc = .ok (.iinc 3 n, 3)) (hv : x + Int32.ofInt n = v) (hc : c2 a2 = false) (k : Z X G T Q (pc + 3) (a0 :: a1 :: a2 :: some (.int v) :: r) st M cells slots) : Z X G T Q pc (a0 :: a1 :: a2 :: some (.int x) :: r) st M cells slots := fun ls H locs hl hP hT hS => lv_iinc E.ex E.cb hd (hl.cv1 (i := 3) rfl) (k := 0) rfl hv (by simp) rfl (fun ls9 h9 => k ls9 H locs (hasL_st1 (lv := a0 :: a1 :: a2 :: some (.int x) :: r) (i := 3) (by simp) (fun j w e h => by cases (show j = 2 by omega); exact c2_of hc h) (fun j w h => List.mem_cons_of_mem _ (cvL_mem.mpr h)) h9) hP hT hS)
theorem z_lstore_3 (E : EF X G cc nL own rt d mc ms) {a0 a1 a2 a3 a4 : Option Value} {x : Int64} (hd : decode cc pc = .ok (.lstore_n 3, 1)) (hc : c2 a2 = false) (k : Z X G T Q (pc + 1) (a0 :: a1 :: a2 :: some (.long x) :: none :: r) st M cells slots) : Z X G T Q pc (a0 :: a1 :: a2 :: a3 :: a4 :: r) (.long x :: st) M cells slots := fun ls H locs hl hP hT hS => lv_lstore_n (i := 3) E.ex E.cb hd rfl hl.cv (by simp) rfl (fun ls9 h9 => k ls9 H locs (hasL_st2 (i := 3) (by simp) (fun j w e h => by cases (show j = 2 by omega); exact c2_of hc h) (fun j w h => cvL_mem.mpr h) h9) hP hT hS)
theorem z_dstore_3 (E : EF X G cc nL own rt d mc ms) {a0 a1 a2 a3 a4 : Option Value} {x : UInt64} (hd : decode cc pc = .ok (.dstore_n 3, 1)) (hc : c2 a2 = false) (k : Z X G T Q (pc + 1) (a0 :: a1 :: a2 :: some (.double x) :: none :: r) st M cells slots) : Z X G T Q pc (a0 :: a1 :: a2 :: a3 :: a4 :: r) (.double x :: st) M cells slots := fun ls H locs hl hP hT hS => lv_dstore_n (i := 3) E.ex E.cb hd rfl hl.cv (by simp) rfl (fun ls9 h9 => k ls9 H locs (hasL_st2 (i := 3) (by simp) (fun j w e h => by cases (show j = 2 by omega); exact c2_of hc h) (fun j w h => cvL_mem.mpr h) h9) hP hT hS)
theorem z_iload_4 (E : EF X G cc nL own rt d mc ms) {a0 a1 a2 a3 : Option Value} {x : Int32} (hd : decode cc pc = .ok (.iload 4, 2)) (k : Z X G T Q (pc + 2) (a0 :: a1 :: a2 :: a3 :: some (.int x) :: r) (.int x :: st) M cells slots) : Z X G T Q pc (a0 :: a1 :: a2 :: a3 :: some (.int x) :: r) st M cells slots := fun ls H locs hl hP hT hS => lv_iload E.ex E.cb hd (hl.2.2 4 _ rfl) (k ls H locs hl hP hT hS)
theorem z_aload_4 (E : EF X G cc nL own rt d mc ms) {a0 a1 a2 a3 : Option Value} {x : Nat} (hd : decode cc pc = .ok (.aload 4, 2)) (k : Z X G T Q (pc + 2) (a0 :: a1 :: a2 :: a3 :: some (.ref x) :: r) (.ref x :: st) M cells slots) : Z X G T Q pc (a0 :: a1 :: a2 :: a3 :: some (.ref x) :: r) st M cells slots := fun ls H locs hl hP hT hS => lv_aload E.ex E.cb hd (hl.2.2 4 _ rfl) (k ls H locs hl hP hT hS)
theorem z_lload_4 (E : EF X G cc nL own rt d mc ms) {a0 a1 a2 a3 : Option Value} {x : Int64} (hd : decode cc pc = .ok (.lload 4, 2)) (k : Z X G T Q (pc + 2) (a0 :: a1 :: a2 :: a3 :: some (.long x) :: r) (.long x :: st) M cells slots) : Z X G T Q pc (a0 :: a1 :: a2 :: a3 :: some (.long x) :: r) st M cells slots := fun ls H locs hl hP hT hS => lv_lload E.ex E.cb hd (hl.2.2 4 _ rfl) (k ls H locs hl hP hT hS)
theorem z_dload_4 (E : EF X G cc nL own rt d mc ms) {a0 a1 a2 a3 : Option Value} {x : UInt64} (hd : decode cc pc = .ok (.dload 4, 2)) (k : Z X G T Q (pc + 2) (a0 :: a1 :: a2 :: a3 :: some (.double x) :: r) (.double x :: st) M cells slots) : Z X G T Q pc (a0 :: a1 :: a2 :: a3 :: some (.double x) :: r) st M cells slots := fun ls H locs hl hP hT hS => lv_dload E.ex E.cb hd (hl.2.2 4 _ rfl) (k ls H locs hl hP hT hS)
theorem z_istore_4 (E : EF X G cc nL own rt d mc ms) {a0 a1 a2 a3 a4 : Option Value} {x : Int32} (hd : decode cc pc = .ok (.istore 4, 2)) (hc : c2 a3 = false) (k : Z X G T Q (pc + 2) (a0 :: a1 :: a2 :: a3 :: some (.int x) :: r) st M cells slots) : Z X G T Q pc (a0 :: a1 :: a2 :: a3 :: a4 :: r) (.int x :: st) M cells slots := fun ls H locs hl hP hT hS => lv_istore E.ex E.cb hd hl.cv (by simp) rfl (fun ls9 h9 => k ls9 H locs (hasL_st1 (i := 4) (by simp) (fun j w e h => by cases (show j = 3 by omega); exact c2_of hc h) (fun j w h => cvL_mem.mpr h) h9) hP hT hS)
theorem z_astore_4 (E : EF X G cc nL own rt d mc ms) {a0 a1 a2 a3 a4 : Option Value} {x : Nat} (hd : decode cc pc = .ok (.astore 4, 2)) (hc : c2 a3 = false) (k : Z X G T Q (pc + 2) (a0 :: a1 :: a2 :: a3 :: some (.ref x) :: r) st M cells slots) : Z X G T Q pc (a0 :: a1 :: a2 :: a3 :: a4 :: r) (.ref x :: st) M cells slots := fun ls H locs hl hP hT hS => lv_astore E.ex E.cb hd hl.cv (by simp) rfl (fun ls9 h9 => k ls9 H locs (hasL_st1 (i := 4) (by simp) (fun j w e h => by cases (show j = 3 by omega); exact c2_of hc h) (fun j w h => cvL_mem.mpr h) h9) hP hT hS)
theorem z_iinc_4 (E : EF X G cc nL own rt d mc ms) {a0 a1 a2 a3 : Option Value} {x v : Int32} {n : Int} (hd : decode cc pc = .ok (.iinc 4 n, 3)) (hv : x + Int32.ofInt n = v) (hc : c2 a3 = false) (k : Z X G T Q (pc + 3) (a0 :: a1 :: a2 :: a3 :: some (.int v) :: r) st M cells slots) : Z X G T Q pc (a0 :: a1 :: a2 :: a3 :: some (.int x) :: r) st M cells slots := fun ls H locs hl hP hT hS => lv_iinc E.ex E.cb hd (hl.cv1 (i := 4) rfl) (k := 0) rfl hv (by simp) rfl (fun ls9 h9 => k ls9 H locs (hasL_st1 (lv := a0 :: a1 :: a2 :: a3 :: some (.int x) :: r) (i := 4) (by simp) (fun j w e h => by cases (show j = 3 by omega); exact c2_of hc h) (fun j w h => List.mem_cons_of_mem _ (cvL_mem.mpr h)) h9) hP hT hS)
theorem z_lstore_4 (E : EF X G cc nL own rt d mc ms) {a0 a1 a2 a3 a4 a5 : Option Value} {x : Int64} (hd : decode cc pc = .ok (.lstore 4, 2)) (hc : c2 a3 = false) (k : Z X G T Q (pc + 2) (a0 :: a1 :: a2 :: a3 :: some (.long x) :: none :: r) st M cells slots) : Z X G T Q pc (a0 :: a1 :: a2 :: a3 :: a4 :: a5 :: r) (.long x :: st) M cells slots := fun ls H locs hl hP hT hS => lv_lstore E.ex E.cb hd hl.cv (by simp) rfl (fun ls9 h9 => k ls9 H locs (hasL_st2 (i := 4) (by simp) (fun j w e h => by cases (show j = 3 by omega); exact c2_of hc h) (fun j w h => cvL_mem.mpr h) h9) hP hT hS)
theorem z_dstore_4 (E : EF X G cc nL own rt d mc ms) {a0 a1 a2 a3 a4 a5 : Option Value} {x : UInt64} (hd : decode cc pc = .ok (.dstore 4, 2)) (hc : c2 a3 = false) (k : Z X G T Q (pc + 2) (a0 :: a1 :: a2 :: a3 :: some (.double x) :: none :: r) st M cells slots) : Z X G T Q pc (a0 :: a1 :: a2 :: a3 :: a4 :: a5 :: r) (.double x :: st) M cells slots := fun ls H locs hl hP hT hS => lv_dstore E.ex E.cb hd hl.cv (by simp) rfl (fun ls9 h9 => k ls9 H locs (hasL_st2 (i := 4) (by simp) (fun j w e h => by cases (show j = 3 by omega); exact c2_of hc h) (fun j w h => cvL_mem.mpr h) h9) hP hT hS)
theorem z_iload_5 (E : EF X G cc nL own rt d mc ms) {a0 a1 a2 a3 a4 : Option Value} {x : Int32} (hd : decode cc pc = .ok (.iload 5, 2)) (k : Z X G T Q (pc + 2) (a0 :: a1 :: a2 :: a3 :: a4 :: some (.int x) :: r) (.int x :: st) M cells slots) : Z X G T Q pc (a0 :: a1 :: a2 :: a3 :: a4 :: some (.int x) :: r) st M cells slots := fun ls H locs hl hP hT hS => lv_iload E.ex E.cb hd (hl.2.2 5 _ rfl) (k ls H locs hl hP hT hS)
theorem z_aload_5 (E : EF X G cc nL own rt d mc ms) {a0 a1 a2 a3 a4 : Option Value} {x : Nat} (hd : decode cc pc = .ok (.aload 5, 2)) (k : Z X G T Q (pc + 2) (a0 :: a1 :: a2 :: a3 :: a4 :: some (.ref x) :: r) (.ref x :: st) M cells slots) : Z X G T Q pc (a0 :: a1 :: a2 :: a3 :: a4 :: some (.ref x) :: r) st M cells slots := fun ls H locs hl hP hT hS => lv_aload E.ex E.cb hd (hl.2.2 5 _ rfl) (k ls H locs hl hP hT hS)
theorem z_lload_5 (E : EF X G cc nL own rt d mc ms) {a0 a1 a2 a3 a4 : Option Value} {x : Int64} (hd : decode cc pc = .ok (.lload 5, 2)) (k : Z X G T Q (pc + 2) (a0 :: a1 :: a2 :: a3 :: a4 :: some (.long x) :: r) (.long x :: st) M cells slots) : Z X G T Q pc (a0 :: a1 :: a2 :: a3 :: a4 :: some (.long x) :: r) st M cells slots := fun ls H locs hl hP hT hS => lv_lload E.ex E.cb hd (hl.2.2 5 _ rfl) (k ls H locs hl hP hT hS)
theorem z_dload_5 (E : EF X G cc nL own rt d mc ms) {a0 a1 a2 a3 a4 : Option Value} {x : UInt64} (hd : decode cc pc = .ok (.dload 5, 2)) (k : Z X G T Q (pc + 2) (a0 :: a1 :: a2 :: a3 :: a4 :: some (.double x) :: r) (.double x :: st) M cells slots) : Z X G T Q pc (a0 :: a1 :: a2 :: a3 :: a4 :: some (.double x) :: r) st M cells slots := fun ls H locs hl hP hT hS => lv_dload E.ex E.cb hd (hl.2.2 5 _ rfl) (k ls H locs hl hP hT hS)
theorem z_istore_5 (E : EF X G cc nL own rt d mc ms) {a0 a1 a2 a3 a4 a5 : Option Value} {x : Int32} (hd : decode cc pc = .ok (.istore 5, 2)) (hc : c2 a4 = false) (k : Z X G T Q (pc + 2) (a0 :: a1 :: a2 :: a3 :: a4 :: some (.int x) :: r) st M cells slots) : Z X G T Q pc (a0 :: a1 :: a2 :: a3 :: a4 :: a5 :: r) (.int x :: st) M cells slots := fun ls H locs hl hP hT hS => lv_istore E.ex E.cb hd hl.cv (by simp) rfl (fun ls9 h9 => k ls9 H locs (hasL_st1 (i := 5) (by simp) (fun j w e h => by cases (show j = 4 by omega); exact c2_of hc h) (fun j w h => cvL_mem.mpr h) h9) hP hT hS)
theorem z_astore_5 (E : EF X G cc nL own rt d mc ms) {a0 a1 a2 a3 a4 a5 : Option Value} {x : Nat} (hd : decode cc pc = .ok (.astore 5, 2)) (hc : c2 a4 = false) (k : Z X G T Q (pc + 2) (a0 :: a1 :: a2 :: a3 :: a4 :: some (.ref x) :: r) st M cells slots) : Z X G T Q pc (a0 :: a1 :: a2 :: a3 :: a4 :: a5 :: r) (.ref x :: st) M cells slots := fun ls H locs hl hP hT hS => lv_astore E.ex E.cb hd hl.cv (by simp) rfl (fun ls9 h9 => k ls9 H locs (hasL_st1 (i := 5) (by simp) (fun j w e h => by cases (show j = 4 by omega); exact c2_of hc h) (fun j w h => cvL_mem.mpr h) h9) hP hT hS)
theorem z_iinc_5 (E : EF X G cc nL own rt d mc ms) {a0 a1 a2 a3 a4 : Option Value} {x v : Int32} {n : Int} (hd : decode cc pc = .ok (.iinc 5 n, 3)) (hv : x + Int32.ofInt n = v) (hc : c2 a4 = false) (k : Z X G T Q (pc + 3) (a0 :: a1 :: a2 :: a3 :: a4 :: some (.int v) :: r) st M cells slots) : Z X G T Q pc (a0 :: a1 :: a2 :: a3 :: a4 :: some (.int x) :: r) st M cells slots := fun ls H locs hl hP hT hS => lv_iinc E.ex E.cb hd (hl.cv1 (i := 5) rfl) (k := 0) rfl hv (by simp) rfl (fun ls9 h9 => k ls9 H locs (hasL_st1 (lv := a0 :: a1 :: a2 :: a3 :: a4 :: some (.int x) :: r) (i := 5) (by simp) (fun j w e h => by cases (show j = 4 by omega); exact c2_of hc h) (fun j w h => List.mem_cons_of_mem _ (cvL_mem.mpr h)) h9) hP hT hS)
theorem z_lstore_5 (E : EF X G cc nL own rt d mc ms) {a0 a1 a2 a3 a4 a5 a6 : Option Value} {x : Int64} (hd : decode cc pc = .ok (.lstore 5, 2)) (hc : c2 a4 = false) (k : Z X G T Q (pc + 2) (a0 :: a1 :: a2 :: a3 :: a4 :: some (.long x) :: none :: r) st M cells slots) : Z X G T Q pc (a0 :: a1 :: a2 :: a3 :: a4 :: a5 :: a6 :: r) (.long x :: st) M cells slots := fun ls H locs hl hP hT hS => lv_lstore E.ex E.cb hd hl.cv (by simp) rfl (fun ls9 h9 => k ls9 H locs (hasL_st2 (i := 5) (by simp) (fun j w e h => by cases (show j = 4 by omega); exact c2_of hc h) (fun j w h => cvL_mem.mpr h) h9) hP hT hS)
theorem z_dstore_5 (E : EF X G cc nL own rt d mc ms) {a0 a1 a2 a3 a4 a5 a6 : Option Value} {x : UInt64} (hd : decode cc pc = .ok (.dstore 5, 2)) (hc : c2 a4 = false) (k : Z X G T Q (pc + 2) (a0 :: a1 :: a2 :: a3 :: a4 :: some (.double x) :: none :: r) st M cells slots) : Z X G T Q pc (a0 :: a1 :: a2 :: a3 :: a4 :: a5 :: a6 :: r) (.double x :: st) M cells slots := fun ls H locs hl hP hT hS => lv_dstore E.ex E.cb hd hl.cv (by simp) rfl (fun ls9 h9 => k ls9 H locs (hasL_st2 (i := 5) (by simp) (fun j w e h => by cases (show j = 4 by omega); exact c2_of hc h) (fun j w h => cvL_mem.mpr h) h9) hP hT hS)
theorem z_iload_6 (E : EF X G cc nL own rt d mc ms) {a0 a1 a2 a3 a4 a5 : Option Value} {x : Int32} (hd : decode cc pc = .ok (.iload 6, 2)) (k : Z X G T Q (pc + 2) (a0 :: a1 :: a2 :: a3 :: a4 :: a5 :: some (.int x) :: r) (.int x :: st) M cells slots) : Z X G T Q pc (a0 :: a1 :: a2 :: a3 :: a4 :: a5 :: some (.int x) :: r) st M cells slots := fun ls H locs hl hP hT hS => lv_iload E.ex E.cb hd (hl.2.2 6 _ rfl) (k ls H locs hl hP hT hS)
theorem z_aload_6 (E : EF X G cc nL own rt d mc ms) {a0 a1 a2 a3 a4 a5 : Option Value} {x : Nat} (hd : decode cc pc = .ok (.aload 6, 2)) (k : Z X G T Q (pc + 2) (a0 :: a1 :: a2 :: a3 :: a4 :: a5 :: some (.ref x) :: r) (.ref x :: st) M cells slots) : Z X G T Q pc (a0 :: a1 :: a2 :: a3 :: a4 :: a5 :: some (.ref x) :: r) st M cells slots := fun ls H locs hl hP hT hS => lv_aload E.ex E.cb hd (hl.2.2 6 _ rfl) (k ls H locs hl hP hT hS)
theorem z_lload_6 (E : EF X G cc nL own rt d mc ms) {a0 a1 a2 a3 a4 a5 : Option Value} {x : Int64} (hd : decode cc pc = .ok (.lload 6, 2)) (k : Z X G T Q (pc + 2) (a0 :: a1 :: a2 :: a3 :: a4 :: a5 :: some (.long x) :: r) (.long x :: st) M cells slots) : Z X G T Q pc (a0 :: a1 :: a2 :: a3 :: a4 :: a5 :: some (.long x) :: r) st M cells slots := fun ls H locs hl hP hT hS => lv_lload E.ex E.cb hd (hl.2.2 6 _ rfl) (k ls H locs hl hP hT hS)
theorem z_dload_6 (E : EF X G cc nL own rt d mc ms) {a0 a1 a2 a3 a4 a5 : Option Value} {x : UInt64} (hd : decode cc pc = .ok (.dload 6, 2)) (k : Z X G T Q (pc + 2) (a0 :: a1 :: a2 :: a3 :: a4 :: a5 :: some (.double x) :: r) (.double x :: st) M cells slots) : Z X G T Q pc (a0 :: a1 :: a2 :: a3 :: a4 :: a5 :: some (.double x) :: r) st M cells slots := fun ls H locs hl hP hT hS => lv_dload E.ex E.cb hd (hl.2.2 6 _ rfl) (k ls H locs hl hP hT hS)
theorem z_istore_6 (E : EF X G cc nL own rt d mc ms) {a0 a1 a2 a3 a4 a5 a6 : Option Value} {x : Int32} (hd : decode cc pc = .ok (.istore 6, 2)) (hc : c2 a5 = false) (k : Z X G T Q (pc + 2) (a0 :: a1 :: a2 :: a3 :: a4 :: a5 :: some (.int x) :: r) st M cells slots) : Z X G T Q pc (a0 :: a1 :: a2 :: a3 :: a4 :: a5 :: a6 :: r) (.int x :: st) M cells slots := fun ls H locs hl hP hT hS => lv_istore E.ex E.cb hd hl.cv (by simp) rfl (fun ls9 h9 => k ls9 H locs (hasL_st1 (i := 6) (by simp) (fun j w e h => by cases (show j = 5 by omega); exact c2_of hc h) (fun j w h => cvL_mem.mpr h) h9) hP hT hS)
theorem z_astore_6 (E : EF X G cc nL own rt d mc ms) {a0 a1 a2 a3 a4 a5 a6 : Option Value} {x : Nat} (hd : decode cc pc = .ok (.astore 6, 2)) (hc : c2 a5 = false) (k : Z X G T Q (pc + 2) (a0 :: a1 :: a2 :: a3 :: a4 :: a5 :: some (.ref x) :: r) st M cells slots) : Z X G T Q pc (a0 :: a1 :: a2 :: a3 :: a4 :: a5 :: a6 :: r) (.ref x :: st) M cells slots := fun ls H locs hl hP hT hS => lv_astore E.ex E.cb hd hl.cv (by simp) rfl (fun ls9 h9 => k ls9 H locs (hasL_st1 (i := 6) (by simp) (fun j w e h => by cases (show j = 5 by omega); exact c2_of hc h) (fun j w h => cvL_mem.mpr h) h9) hP hT hS)
theorem z_iinc_6 (E : EF X G cc nL own rt d mc ms) {a0 a1 a2 a3 a4 a5 : Option Value} {x v : Int32} {n : Int} (hd : decode cc pc = .ok (.iinc 6 n, 3)) (hv : x + Int32.ofInt n = v) (hc : c2 a5 = false) (k : Z X G T Q (pc + 3) (a0 :: a1 :: a2 :: a3 :: a4 :: a5 :: some (.int v) :: r) st M cells slots) : Z X G T Q pc (a0 :: a1 :: a2 :: a3 :: a4 :: a5 :: some (.int x) :: r) st M cells slots := fun ls H locs hl hP hT hS => lv_iinc E.ex E.cb hd (hl.cv1 (i := 6) rfl) (k := 0) rfl hv (by simp) rfl (fun ls9 h9 => k ls9 H locs (hasL_st1 (lv := a0 :: a1 :: a2 :: a3 :: a4 :: a5 :: some (.int x) :: r) (i := 6) (by simp) (fun j w e h => by cases (show j = 5 by omega); exact c2_of hc h) (fun j w h => List.mem_cons_of_mem _ (cvL_mem.mpr h)) h9) hP hT hS)
theorem z_lstore_6 (E : EF X G cc nL own rt d mc ms) {a0 a1 a2 a3 a4 a5 a6 a7 : Option Value} {x : Int64} (hd : decode cc pc = .ok (.lstore 6, 2)) (hc : c2 a5 = false) (k : Z X G T Q (pc + 2) (a0 :: a1 :: a2 :: a3 :: a4 :: a5 :: some (.long x) :: none :: r) st M cells slots) : Z X G T Q pc (a0 :: a1 :: a2 :: a3 :: a4 :: a5 :: a6 :: a7 :: r) (.long x :: st) M cells slots := fun ls H locs hl hP hT hS => lv_lstore E.ex E.cb hd hl.cv (by simp) rfl (fun ls9 h9 => k ls9 H locs (hasL_st2 (i := 6) (by simp) (fun j w e h => by cases (show j = 5 by omega); exact c2_of hc h) (fun j w h => cvL_mem.mpr h) h9) hP hT hS)
theorem z_dstore_6 (E : EF X G cc nL own rt d mc ms) {a0 a1 a2 a3 a4 a5 a6 a7 : Option Value} {x : UInt64} (hd : decode cc pc = .ok (.dstore 6, 2)) (hc : c2 a5 = false) (k : Z X G T Q (pc + 2) (a0 :: a1 :: a2 :: a3 :: a4 :: a5 :: some (.double x) :: none :: r) st M cells slots) : Z X G T Q pc (a0 :: a1 :: a2 :: a3 :: a4 :: a5 :: a6 :: a7 :: r) (.double x :: st) M cells slots := fun ls H locs hl hP hT hS => lv_dstore E.ex E.cb hd hl.cv (by simp) rfl (fun ls9 h9 => k ls9 H locs (hasL_st2 (i := 6) (by simp) (fun j w e h => by cases (show j = 5 by omega); exact c2_of hc h) (fun j w h => cvL_mem.mpr h) h9) hP hT hS)
theorem z_iload_7 (E : EF X G cc nL own rt d mc ms) {a0 a1 a2 a3 a4 a5 a6 : Option Value} {x : Int32} (hd : decode cc pc = .ok (.iload 7, 2)) (k : Z X G T Q (pc + 2) (a0 :: a1 :: a2 :: a3 :: a4 :: a5 :: a6 :: some (.int x) :: r) (.int x :: st) M cells slots) : Z X G T Q pc (a0 :: a1 :: a2 :: a3 :: a4 :: a5 :: a6 :: some (.int x) :: r) st M cells slots := fun ls H locs hl hP hT hS => lv_iload E.ex E.cb hd (hl.2.2 7 _ rfl) (k ls H locs hl hP hT hS)
theorem z_aload_7 (E : EF X G cc nL own rt d mc ms) {a0 a1 a2 a3 a4 a5 a6 : Option Value} {x : Nat} (hd : decode cc pc = .ok (.aload 7, 2)) (k : Z X G T Q (pc + 2) (a0 :: a1 :: a2 :: a3 :: a4 :: a5 :: a6 :: some (.ref x) :: r) (.ref x :: st) M cells slots) : Z X G T Q pc (a0 :: a1 :: a2 :: a3 :: a4 :: a5 :: a6 :: some (.ref x) :: r) st M cells slots := fun ls H locs hl hP hT hS => lv_aload E.ex E.cb hd (hl.2.2 7 _ rfl) (k ls H locs hl hP hT hS)
theorem z_lload_7 (E : EF X G cc nL own rt d mc ms) {a0 a1 a2 a3 a4 a5 a6 : Option Value} {x : Int64} (hd : decode cc pc = .ok (.lload 7, 2)) (k : Z X G T Q (pc + 2) (a0 :: a1 :: a2 :: a3 :: a4 :: a5 :: a6 :: some (.long x) :: r) (.long x :: st) M cells slots) : Z X G T Q pc (a0 :: a1 :: a2 :: a3 :: a4 :: a5 :: a6 :: some (.long x) :: r) st M cells slots := fun ls H locs hl hP hT hS => lv_lload E.ex E.cb hd (hl.2.2 7 _ rfl) (k ls H locs hl hP hT hS)
theorem z_dload_7 (E : EF X G cc nL own rt d mc ms) {a0 a1 a2 a3 a4 a5 a6 : Option Value} {x : UInt64} (hd : decode cc pc = .ok (.dload 7, 2)) (k : Z X G T Q (pc + 2) (a0 :: a1 :: a2 :: a3 :: a4 :: a5 :: a6 :: some (.double x) :: r) (.double x :: st) M cells slots) : Z X G T Q pc (a0 :: a1 :: a2 :: a3 :: a4 :: a5 :: a6 :: some (.double x) :: r) st M cells slots := fun ls H locs hl hP hT hS => lv_dload E.ex E.cb hd (hl.2.2 7 _ rfl) (k ls H locs hl hP hT hS)
theorem z_istore_7 (E : EF X G cc nL own rt d mc ms) {a0 a1 a2 a3 a4 a5 a6 a7 : Option Value} {x : Int32} (hd : decode cc pc = .ok (.istore 7, 2)) (hc : c2 a6 = false) (k : Z X G T Q (pc + 2) (a0 :: a1 :: a2 :: a3 :: a4 :: a5 :: a6 :: some (.int x) :: r) st M cells slots) : Z X G T Q pc (a0 :: a1 :: a2 :: a3 :: a4 :: a5 :: a6 :: a7 :: r) (.int x :: st) M cells slots := fun ls H locs hl hP hT hS => lv_istore E.ex E.cb hd hl.cv (by simp) rfl (fun ls9 h9 => k ls9 H locs (hasL_st1 (i := 7) (by simp) (fun j w e h => by cases (show j = 6 by omega); exact c2_of hc h) (fun j w h => cvL_mem.mpr h) h9) hP hT hS)
theorem z_astore_7 (E : EF X G cc nL own rt d mc ms) {a0 a1 a2 a3 a4 a5 a6 a7 : Option Value} {x : Nat} (hd : decode cc pc = .ok (.astore 7, 2)) (hc : c2 a6 = false) (k : Z X G T Q (pc + 2) (a0 :: a1 :: a2 :: a3 :: a4 :: a5 :: a6 :: some (.ref x) :: r) st M cells slots) : Z X G T Q pc (a0 :: a1 :: a2 :: a3 :: a4 :: a5 :: a6 :: a7 :: r) (.ref x :: st) M cells slots := fun ls H locs hl hP hT hS => lv_astore E.ex E.cb hd hl.cv (by simp) rfl (fun ls9 h9 => k ls9 H locs (hasL_st1 (i := 7) (by simp) (fun j w e h => by cases (show j = 6 by omega); exact c2_of hc h) (fun j w h => cvL_mem.mpr h) h9) hP hT hS)
theorem z_iinc_7 (E : EF X G cc nL own rt d mc ms) {a0 a1 a2 a3 a4 a5 a6 : Option Value} {x v : Int32} {n : Int} (hd : decode cc pc = .ok (.iinc 7 n, 3)) (hv : x + Int32.ofInt n = v) (hc : c2 a6 = false) (k : Z X G T Q (pc + 3) (a0 :: a1 :: a2 :: a3 :: a4 :: a5 :: a6 :: some (.int v) :: r) st M cells slots) : Z X G T Q pc (a0 :: a1 :: a2 :: a3 :: a4 :: a5 :: a6 :: some (.int x) :: r) st M cells slots := fun ls H locs hl hP hT hS => lv_iinc E.ex E.cb hd (hl.cv1 (i := 7) rfl) (k := 0) rfl hv (by simp) rfl (fun ls9 h9 => k ls9 H locs (hasL_st1 (lv := a0 :: a1 :: a2 :: a3 :: a4 :: a5 :: a6 :: some (.int x) :: r) (i := 7) (by simp) (fun j w e h => by cases (show j = 6 by omega); exact c2_of hc h) (fun j w h => List.mem_cons_of_mem _ (cvL_mem.mpr h)) h9) hP hT hS)
theorem z_lstore_7 (E : EF X G cc nL own rt d mc ms) {a0 a1 a2 a3 a4 a5 a6 a7 a8 : Option Value} {x : Int64} (hd : decode cc pc = .ok (.lstore 7, 2)) (hc : c2 a6 = false) (k : Z X G T Q (pc + 2) (a0 :: a1 :: a2 :: a3 :: a4 :: a5 :: a6 :: some (.long x) :: none :: r) st M cells slots) : Z X G T Q pc (a0 :: a1 :: a2 :: a3 :: a4 :: a5 :: a6 :: a7 :: a8 :: r) (.long x :: st) M cells slots := fun ls H locs hl hP hT hS => lv_lstore E.ex E.cb hd hl.cv (by simp) rfl (fun ls9 h9 => k ls9 H locs (hasL_st2 (i := 7) (by simp) (fun j w e h => by cases (show j = 6 by omega); exact c2_of hc h) (fun j w h => cvL_mem.mpr h) h9) hP hT hS)
theorem z_dstore_7 (E : EF X G cc nL own rt d mc ms) {a0 a1 a2 a3 a4 a5 a6 a7 a8 : Option Value} {x : UInt64} (hd : decode cc pc = .ok (.dstore 7, 2)) (hc : c2 a6 = false) (k : Z X G T Q (pc + 2) (a0 :: a1 :: a2 :: a3 :: a4 :: a5 :: a6 :: some (.double x) :: none :: r) st M cells slots) : Z X G T Q pc (a0 :: a1 :: a2 :: a3 :: a4 :: a5 :: a6 :: a7 :: a8 :: r) (.double x :: st) M cells slots := fun ls H locs hl hP hT hS => lv_dstore E.ex E.cb hd hl.cv (by simp) rfl (fun ls9 h9 => k ls9 H locs (hasL_st2 (i := 7) (by simp) (fun j w e h => by cases (show j = 6 by omega); exact c2_of hc h) (fun j w h => cvL_mem.mpr h) h9) hP hT hS)
theorem z_iload_8 (E : EF X G cc nL own rt d mc ms) {a0 a1 a2 a3 a4 a5 a6 a7 : Option Value} {x : Int32} (hd : decode cc pc = .ok (.iload 8, 2)) (k : Z X G T Q (pc + 2) (a0 :: a1 :: a2 :: a3 :: a4 :: a5 :: a6 :: a7 :: some (.int x) :: r) (.int x :: st) M cells slots) : Z X G T Q pc (a0 :: a1 :: a2 :: a3 :: a4 :: a5 :: a6 :: a7 :: some (.int x) :: r) st M cells slots := fun ls H locs hl hP hT hS => lv_iload E.ex E.cb hd (hl.2.2 8 _ rfl) (k ls H locs hl hP hT hS)
theorem z_aload_8 (E : EF X G cc nL own rt d mc ms) {a0 a1 a2 a3 a4 a5 a6 a7 : Option Value} {x : Nat} (hd : decode cc pc = .ok (.aload 8, 2)) (k : Z X G T Q (pc + 2) (a0 :: a1 :: a2 :: a3 :: a4 :: a5 :: a6 :: a7 :: some (.ref x) :: r) (.ref x :: st) M cells slots) : Z X G T Q pc (a0 :: a1 :: a2 :: a3 :: a4 :: a5 :: a6 :: a7 :: some (.ref x) :: r) st M cells slots := fun ls H locs hl hP hT hS => lv_aload E.ex E.cb hd (hl.2.2 8 _ rfl) (k ls H locs hl hP hT hS)
theorem z_lload_8 (E : EF X G cc nL own rt d mc ms) {a0 a1 a2 a3 a4 a5 a6 a7 : Option Value} {x : Int64} (hd : decode cc pc = .ok (.lload 8, 2)) (k : Z X G T Q (pc + 2) (a0 :: a1 :: a2 :: a3 :: a4 :: a5 :: a6 :: a7 :: some (.long x) :: r) (.long x :: st) M cells slots) : Z X G T Q pc (a0 :: a1 :: a2 :: a3 :: a4 :: a5 :: a6 :: a7 :: some (.long x) :: r) st M cells slots := fun ls H locs hl hP hT hS => lv_lload E.ex E.cb hd (hl.2.2 8 _ rfl) (k ls H locs hl hP hT hS)
theorem z_dload_8 (E : EF X G cc nL own rt d mc ms) {a0 a1 a2 a3 a4 a5 a6 a7 : Option Value} {x : UInt64} (hd : decode cc pc = .ok (.dload 8, 2)) (k : Z X G T Q (pc + 2) (a0 :: a1 :: a2 :: a3 :: a4 :: a5 :: a6 :: a7 :: some (.double x) :: r) (.double x :: st) M cells slots) : Z X G T Q pc (a0 :: a1 :: a2 :: a3 :: a4 :: a5 :: a6 :: a7 :: some (.double x) :: r) st M cells slots := fun ls H locs hl hP hT hS => lv_dload E.ex E.cb hd (hl.2.2 8 _ rfl) (k ls H locs hl hP hT hS)
theorem z_istore_8 (E : EF X G cc nL own rt d mc ms) {a0 a1 a2 a3 a4 a5 a6 a7 a8 : Option Value} {x : Int32} (hd : decode cc pc = .ok (.istore 8, 2)) (hc : c2 a7 = false) (k : Z X G T Q (pc + 2) (a0 :: a1 :: a2 :: a3 :: a4 :: a5 :: a6 :: a7 :: some (.int x) :: r) st M cells slots) : Z X G T Q pc (a0 :: a1 :: a2 :: a3 :: a4 :: a5 :: a6 :: a7 :: a8 :: r) (.int x :: st) M cells slots := fun ls H locs hl hP hT hS => lv_istore E.ex E.cb hd hl.cv (by simp) rfl (fun ls9 h9 => k ls9 H locs (hasL_st1 (i := 8) (by simp) (fun j w e h => by cases (show j = 7 by omega); exact c2_of hc h) (fun j w h => cvL_mem.mpr h) h9) hP hT hS)
theorem z_astore_8 (E : EF X G cc nL own rt d mc ms) {a0 a1 a2 a3 a4 a5 a6 a7 a8 : Option Value} {x : Nat} (hd : decode cc pc = .ok (.astore 8, 2)) (hc : c2 a7 = false) (k : Z X G T Q (pc + 2) (a0 :: a1 :: a2 :: a3 :: a4 :: a5 :: a6 :: a7 :: some (.ref x) :: r) st M cells slots) : Z X G T Q pc (a0 :: a1 :: a2 :: a3 :: a4 :: a5 :: a6 :: a7 :: a8 :: r) (.ref x :: st) M cells slots := fun ls H locs hl hP hT hS => lv_astore E.ex E.cb hd hl.cv (by simp) rfl (fun ls9 h9 => k ls9 H locs (hasL_st1 (i := 8) (by simp) (fun j w e h => by cases (show j = 7 by omega); exact c2_of hc h) (fun j w h => cvL_mem.mpr h) h9) hP hT hS)
theorem z_iinc_8 (E : EF X G cc nL own rt d mc ms) {a0 a1 a2 a3 a4 a5 a6 a7 : Option Value} {x v : Int32} {n : Int} (hd : decode cc pc = .ok (.iinc 8 n, 3)) (hv : x + Int32.ofInt n = v) (hc : c2 a7 = false) (k : Z X G T Q (pc + 3) (a0 :: a1 :: a2 :: a3 :: a4 :: a5 :: a6 :: a7 :: some (.int v) :: r) st M cells slots) : Z X G T Q pc (a0 :: a1 :: a2 :: a3 :: a4 :: a5 :: a6 :: a7 :: some (.int x) :: r) st M cells slots := fun ls H locs hl hP hT hS => lv_iinc E.ex E.cb hd (hl.cv1 (i := 8) rfl) (k := 0) rfl hv (by simp) rfl (fun ls9 h9 => k ls9 H locs (hasL_st1 (lv := a0 :: a1 :: a2 :: a3 :: a4 :: a5 :: a6 :: a7 :: some (.int x) :: r) (i := 8) (by simp) (fun j w e h => by cases (show j = 7 by omega); exact c2_of hc h) (fun j w h => List.mem_cons_of_mem _ (cvL_mem.mpr h)) h9) hP hT hS)
end ZR
