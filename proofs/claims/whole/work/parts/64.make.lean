/-! the world in the making: nC cells stand, in the order of off; F tells what each holds -/
def BH (G : GT) (nC : Nat) (F : Nat → va_E) (H : Heap) : Prop := H.size = G.2.2 0 + nC ∧ ∀ j, j < nC → va_at G.1 vwCl (G.2.2 0 + j, F j) H
def fup (F : Nat → va_E) (o : Nat) (e : va_E) : Nat → va_E := fun j => if j = o then e else F j
theorem fup_on {F : Nat → va_E} {o : Nat} {e : va_E} : fup F o e o = e := if_pos rfl
theorem fup_off {F : Nat → va_E} {o j : Nat} {e : va_E} (h : ¬ j = o) : fup F o e j = F j := if_neg h
theorem BH.one {G : GT} {nC o : Nat} {F : Nat → va_E} {H : Heap} {e : va_E} (h : BH G nC F H) (ho : o < nC) (hc : F o = e) : va_P G.1 vwCl [(G.2.2 0 + o, e)] H := by
  intro n q hq
  cases n with
  | zero => cases hq; rw [← hc]; exact h.2 o ho
  | succ n => simp at hq
theorem BH.put {G : GT} {nC o : Nat} {F : Nat → va_E} {H H1 : Heap} {e : va_E} (h : BH G nC F H) (he : va_at G.1 vwCl (G.2.2 0 + o, e) H1) (hz : H1.size = H.size) (oq : ∀ q : Nat, q ≠ G.2.2 0 + o → H1[q]? = H[q]?) : BH G nC (fup F o e) H1 := by
  refine ⟨hz.trans h.1, fun j hj => ?_⟩
  by_cases c : j = o
  · subst c
    rw [fup_on]
    exact he
  · rw [fup_off c]
    exact (h.2 j hj).kept (oq _ (fun z => c (Nat.add_left_cancel z)))
theorem BH.push {G : GT} {nC : Nat} {F : Nat → va_E} {H H1 : Heap} {e : va_E} (h : BH G nC F H) (he : va_at G.1 vwCl (G.2.2 0 + nC, e) H1) (hz : H1.size = H.size + 1) (oq : ∀ q : Nat, q < H.size → H1[q]? = H[q]?) : BH G (nC + 1) (fup F nC e) H1 := by
  refine ⟨by rw [hz, h.1]; omega, fun j hj => ?_⟩
  by_cases c : j = nC
  · subst c
    rw [fup_on]
    exact he
  · rw [fup_off c]
    exact (h.2 j (by omega)).kept (oq _ (by show G.2.2 0 + j < H.size; rw [h.1]; omega))
/-- two contents that say the same of a cell -/
def VE (e e' : va_E) : Prop := ∀ (D : va_G) (cl : List vw_C) (a : Nat) (H : Heap), va_at D cl (a, e) H → va_at D cl (a, e') H
theorem VE.rf (e : va_E) : VE e e := fun _ _ _ _ h => h
theorem VE.of {e e' : va_E} (h : e = e') : VE e e' := h ▸ VE.rf e
theorem arr_ext {cA : ClassId} {N : Nat} {f g : Nat → Value} (h : ∀ j, j < N → f j = g j) : arrV cA N f = arrV cA N g := by
  have e : (fun j : Fin N => f j.val) = (fun j : Fin N => g j.val) := funext (fun j => h j.val j.isLt)
  show ({ cls := cA, slots := Array.ofFn (fun j : Fin N => f j.val), vm := .none } : Cell) = { cls := cA, slots := Array.ofFn (fun j : Fin N => g j.val), vm := .none }
  rw [e]
theorem VE.arr {cA : ClassId} {N : Nat} {f g : Nat → Option Nat} (h : ∀ j, j < N → f j = g j) : VE (.inl (cA, (N, .inr (.inr (.inr (.inr f)))))) (.inl (cA, (N, .inr (.inr (.inr (.inr g)))))) := fun D cl a H z => by
  show H[a]? = some (vp_cell _ _)
  have z2 : H[a]? = some (vp_cell cA (N, .inr (.inr (.inr (.inr f))))) := z
  rw [z2, vp_cell_q, vp_cell_q, arr_ext (fun j hj => by rw [h j hj])]
theorem VE.ari {cA : ClassId} {N : Nat} {f g : Nat → Int32} (h : ∀ j, j < N → f j = g j) : VE (.inl (cA, (N, .inl f))) (.inl (cA, (N, .inl g))) := fun D cl a H z => by
  show H[a]? = some (vp_cell _ _)
  have z2 : H[a]? = some (vp_cell cA (N, .inl f)) := z
  rw [z2, vp_cell_i, vp_cell_i, arr_ext (fun j hj => by rw [h j hj])]
theorem BH.ve {G : GT} {nC : Nat} {F F' : Nat → va_E} {H : Heap} (h : BH G nC F H) (hv : ∀ j, j < nC → VE (F j) (F' j)) : BH G nC F' H := ⟨h.1, fun j hj => hv j hj _ _ _ _ (h.2 j hj)⟩
def V (X : PX) (G : GT) (Q : State → Prop) (pc : Nat) (lv : List (Option Value)) (st : List Value) (nC : Nat) (F : Nat → va_E) (cells slots : Nat) : Prop :=
  ∀ (ls : Array Slot) (H : Heap) (locs : List Loc), hasL ls lv → BH G nC F H → va_S (Aw G (xS X).heap.size) (xS X).heap H locs → W (xP X) (xL X) (xE X) (xR X) (xS X) (xM X) (xA X) (xB X) (xMe X) (xC X) H locs cells slots Q (F0 (xM X) pc ls st)
def Fq (Tf : u_T) (N kf : Nat) (fin : Bool) (ty : FieldType) : Prop := (∃ ty0 : Nat → FieldType, ∀ k, k < N → parseFieldDescriptor (Tf k).2.2.1 = some (ty0 k)) ∧ (∀ a, a < N → ∀ b, b < N → a ≠ b → (Tf a).2.1 ≠ (Tf b).2.1) ∧ (Tf kf).2.2.2 = fin ∧ parseFieldDescriptor (Tf kf).2.2.1 = some ty
def CalI (y : MethodName) (cy : ByteArray) (nLy n : Nat) : Prop := y.name = "<init>" ∧ (y.cls ≠ "java/lang/invoke/MethodHandle" ∧ y.cls ≠ "java/lang/invoke/VarHandle") ∧ (parseMethodDescriptor y.desc).map (fun d => d.parameters.length) = some n ∧ Cond.instanceMethod y ∈ GW ∧ Cond.initialized y.cls ∈ GW ∧ Cond.code y cy nLy none ∈ GW
def CN (G : GT) (y : MethodName) (cy : ByteArray) (nLy dy my sy : Nat) (av : List Value) (nC : Nat) (F : Nat → va_E) (n' : Nat) (F' : Nat → va_E) : Prop := ∀ l : Launch, Met l y (ws_ y cy nLy none) (rmd dy my sy) (va_Pc av (fun U => BH G nC F U.heap ∧ WF G (Aw G U.heap.size) U U.heap)) (va_Qv (fun _ : Unit => True) (fun _ t => BH G n' F' t.heap) (Aw G (G.2.2 0 + nC))) my sy (Aw G (G.2.2 0 + nC))
def QN (X : PX) (G : GT) (n' : Nat) (F' : Nat → va_E) (my sy : Nat) : State → Prop := MQ (xB X) (va_Qv (fun _ : Unit => True) (fun _ t => BH G n' F' t.heap) (Aw G (xS X).heap.size)) (xA X) (xS X) my sy (Aw G (xS X).heap.size)
section VR
variable {X : PX} {G : GT} {cc : ByteArray} {nL : Nat} {own : String} {rt : Option FieldType} {d mc ms : Nat} {Q : State → Prop} {pc : Nat} {lv r : List (Option Value)} {st : List Value} {nC : Nat} {F : Nat → va_E} {cells slots : Nat}
variable {idx ci kf N o j t0 : Nat} {C : String} {Tf : u_T} {fs : List Value}
theorem v_F {F' : Nat → va_E} (hv : ∀ j, j < nC → VE (F j) (F' j)) (k : V X G Q pc lv st nC F' cells slots) : V X G Q pc lv st nC F cells slots := fun ls H locs hl hB hS => k ls H locs hl (hB.ve hv) hS
theorem v_widen {c1 s1 : Nat} (h1 : cells ≤ c1) (h2 : slots ≤ s1) (k : V X G Q pc lv st nC F c1 s1) : V X G Q pc lv st nC F cells slots := fun ls H locs hl hB hS => W.widen h1 h2 (k ls H locs hl hB hS)
theorem v_loc {lv' : List (Option Value)} (hn : lv'.length = lv.length) (h : ∀ i v, lget lv' i = some v → lget lv i = some v) (k : V X G Q pc lv' st nC F cells slots) : V X G Q pc lv st nC F cells slots := fun ls H locs hl hB hS => k ls H locs ⟨by rw [hn]; exact hl.1, hl.2.1, fun i v hi => hl.2.2 i v (h i v hi)⟩ hB hS
theorem v_dup (E : EF X G cc nL own rt d mc ms) (hd : decode cc pc = .ok (.dup, 1)) {a : Value} (hc : a.category = 1) (k : V X G Q (pc + 1) lv (a :: a :: st) nC F cells slots) : V X G Q pc lv (a :: st) nC F cells slots := fun ls H locs hl hB hS => lv_dup E.ex E.cb hd hc (k ls H locs hl hB hS)
theorem v_iconst (E : EF X G cc nL own rt d mc ms) {n : Int} {v : Int32} (hd : decode cc pc = .ok (.iconst n, 1)) (hv : Int32.ofInt n = v) (k : V X G Q (pc + 1) lv (.int v :: st) nC F cells slots) : V X G Q pc lv (st) nC F cells slots := fun ls H locs hl hB hS => lv_iconst E.ex E.cb hd hv (k ls H locs hl hB hS)
theorem v_bipush (E : EF X G cc nL own rt d mc ms) {n : Int} {v : Int32} (hd : decode cc pc = .ok (.bipush n, 2)) (hv : (Int8.ofInt n).toInt32 = v) (k : V X G Q (pc + 2) lv (.int v :: st) nC F cells slots) : V X G Q pc lv (st) nC F cells slots := fun ls H locs hl hB hS => lv_bipush E.ex E.cb hd hv (k ls H locs hl hB hS)
theorem v_sipush (E : EF X G cc nL own rt d mc ms) {n : Int} {v : Int32} (hd : decode cc pc = .ok (.sipush n, 3)) (hv : (Int16.ofInt n).toInt32 = v) (k : V X G Q (pc + 3) lv (.int v :: st) nC F cells slots) : V X G Q pc lv (st) nC F cells slots := fun ls H locs hl hB hS => lv_sipush E.ex E.cb hd hv (k ls H locs hl hB hS)
theorem v_goto (E : EF X G cc nL own rt d mc ms) {o : Int} {tgt : Nat} (hd : decode cc pc = .ok (.goto o, 3)) (ht : (pc : Int) + o = (tgt : Int)) (k : V X G Q tgt lv st nC F cells slots) : V X G Q pc lv st nC F cells slots := fun ls H locs hl hB hS => lv_goto E.ex E.cb hd ht (k ls H locs hl hB hS)
theorem v_icmp_ge (E : EF X G cc nL own rt d mc ms) {o : Int} {tgt : Nat} (hd : decode cc pc = .ok (.if_icmp .ge o, 3)) (ht : (pc : Int) + o = (tgt : Int)) {x y : Int32} (kt : (y ≤ x) → V X G Q tgt lv st nC F cells slots) (kf : ¬ (y ≤ x) → V X G Q (pc + 3) lv st nC F cells slots) : V X G Q pc lv (.int y :: .int x :: st) nC F cells slots := fun ls H locs hl hB hS => lv_icmp_ge E.ex E.cb hd ht (fun h => kt h ls H locs hl hB hS) (fun h => kf h ls H locs hl hB hS)
theorem v_iload_1 (E : EF X G cc nL own rt d mc ms) {a0 : Option Value} {x : Int32} (hd : decode cc pc = .ok (.iload_n 1, 1)) (k : V X G Q (pc + 1) (a0 :: some (.int x) :: r) (.int x :: st) nC F cells slots) : V X G Q pc (a0 :: some (.int x) :: r) st nC F cells slots := fun ls H locs hl hB hS => lv_iload_n (i := 1) E.ex E.cb hd rfl (hl.2.2 1 _ rfl) (k ls H locs hl hB hS)
theorem v_iload_2 (E : EF X G cc nL own rt d mc ms) {a0 a1 : Option Value} {x : Int32} (hd : decode cc pc = .ok (.iload_n 2, 1)) (k : V X G Q (pc + 1) (a0 :: a1 :: some (.int x) :: r) (.int x :: st) nC F cells slots) : V X G Q pc (a0 :: a1 :: some (.int x) :: r) st nC F cells slots := fun ls H locs hl hB hS => lv_iload_n (i := 2) E.ex E.cb hd rfl (hl.2.2 2 _ rfl) (k ls H locs hl hB hS)
theorem v_aload_0 (E : EF X G cc nL own rt d mc ms) {x : Nat} (hd : decode cc pc = .ok (.aload_n 0, 1)) (k : V X G Q (pc + 1) (some (.ref x) :: r) (.ref x :: st) nC F cells slots) : V X G Q pc (some (.ref x) :: r) st nC F cells slots := fun ls H locs hl hB hS => lv_aload_n (i := 0) E.ex E.cb hd rfl (hl.2.2 0 _ rfl) (k ls H locs hl hB hS)
theorem v_aload_1 (E : EF X G cc nL own rt d mc ms) {a0 : Option Value} {x : Nat} (hd : decode cc pc = .ok (.aload_n 1, 1)) (k : V X G Q (pc + 1) (a0 :: some (.ref x) :: r) (.ref x :: st) nC F cells slots) : V X G Q pc (a0 :: some (.ref x) :: r) st nC F cells slots := fun ls H locs hl hB hS => lv_aload_n (i := 1) E.ex E.cb hd rfl (hl.2.2 1 _ rfl) (k ls H locs hl hB hS)
theorem v_istore_1 (E : EF X G cc nL own rt d mc ms) {a0 a1 : Option Value} {x : Int32} (hd : decode cc pc = .ok (.istore_n 1, 1)) (hc : c2 a0 = false) (k : V X G Q (pc + 1) (a0 :: some (.int x) :: r) st nC F cells slots) : V X G Q pc (a0 :: a1 :: r) (.int x :: st) nC F cells slots := fun ls H locs hl hB hS => lv_istore_n (i := 1) E.ex E.cb hd rfl hl.cv (by simp) rfl (fun ls9 h9 => k ls9 H locs (hasL_st1 (i := 1) (by simp) (fun j w e h => by cases (show j = 0 by omega); exact c2_of hc h) (fun j w h => cvL_mem.mpr h) h9) hB hS)
theorem v_istore_2 (E : EF X G cc nL own rt d mc ms) {a0 a1 a2 : Option Value} {x : Int32} (hd : decode cc pc = .ok (.istore_n 2, 1)) (hc : c2 a1 = false) (k : V X G Q (pc + 1) (a0 :: a1 :: some (.int x) :: r) st nC F cells slots) : V X G Q pc (a0 :: a1 :: a2 :: r) (.int x :: st) nC F cells slots := fun ls H locs hl hB hS => lv_istore_n (i := 2) E.ex E.cb hd rfl hl.cv (by simp) rfl (fun ls9 h9 => k ls9 H locs (hasL_st1 (i := 2) (by simp) (fun j w e h => by cases (show j = 1 by omega); exact c2_of hc h) (fun j w h => cvL_mem.mpr h) h9) hB hS)
theorem v_astore_1 (E : EF X G cc nL own rt d mc ms) {a0 a1 : Option Value} {x : Nat} (hd : decode cc pc = .ok (.astore_n 1, 1)) (hc : c2 a0 = false) (k : V X G Q (pc + 1) (a0 :: some (.ref x) :: r) st nC F cells slots) : V X G Q pc (a0 :: a1 :: r) (.ref x :: st) nC F cells slots := fun ls H locs hl hB hS => lv_astore_n (i := 1) E.ex E.cb hd rfl hl.cv (by simp) rfl (fun ls9 h9 => k ls9 H locs (hasL_st1 (i := 1) (by simp) (fun j w e h => by cases (show j = 0 by omega); exact c2_of hc h) (fun j w h => cvL_mem.mpr h) h9) hB hS)
theorem v_astore_2 (E : EF X G cc nL own rt d mc ms) {a0 a1 a2 : Option Value} {x : Nat} (hd : decode cc pc = .ok (.astore_n 2, 1)) (hc : c2 a1 = false) (k : V X G Q (pc + 1) (a0 :: a1 :: some (.ref x) :: r) st nC F cells slots) : V X G Q pc (a0 :: a1 :: a2 :: r) (.ref x :: st) nC F cells slots := fun ls H locs hl hB hS => lv_astore_n (i := 2) E.ex E.cb hd rfl hl.cv (by simp) rfl (fun ls9 h9 => k ls9 H locs (hasL_st1 (i := 2) (by simp) (fun j w e h => by cases (show j = 1 by omega); exact c2_of hc h) (fun j w h => cvL_mem.mpr h) h9) hB hS)
theorem v_astore_3 (E : EF X G cc nL own rt d mc ms) {a0 a1 a2 a3 : Option Value} {x : Nat} (hd : decode cc pc = .ok (.astore_n 3, 1)) (hc : c2 a2 = false) (k : V X G Q (pc + 1) (a0 :: a1 :: a2 :: some (.ref x) :: r) st nC F cells slots) : V X G Q pc (a0 :: a1 :: a2 :: a3 :: r) (.ref x :: st) nC F cells slots := fun ls H locs hl hB hS => lv_astore_n (i := 3) E.ex E.cb hd rfl hl.cv (by simp) rfl (fun ls9 h9 => k ls9 H locs (hasL_st1 (i := 3) (by simp) (fun j w e h => by cases (show j = 2 by omega); exact c2_of hc h) (fun j w h => cvL_mem.mpr h) h9) hB hS)
theorem v_iinc_1 (E : EF X G cc nL own rt d mc ms) {a0 : Option Value} {x v : Int32} {n : Int} (hd : decode cc pc = .ok (.iinc 1 n, 3)) (hv : x + Int32.ofInt n = v) (hc : c2 a0 = false) (k : V X G Q (pc + 3) (a0 :: some (.int v) :: r) st nC F cells slots) : V X G Q pc (a0 :: some (.int x) :: r) st nC F cells slots := fun ls H locs hl hB hS => lv_iinc E.ex E.cb hd (hl.cv1 (i := 1) rfl) (k := 0) rfl hv (by simp) rfl (fun ls9 h9 => k ls9 H locs (hasL_st1 (lv := a0 :: some (.int x) :: r) (i := 1) (by simp) (fun j w e h => by cases (show j = 0 by omega); exact c2_of hc h) (fun j w h => List.mem_cons_of_mem _ (cvL_mem.mpr h)) h9) hB hS)
theorem v_iinc_2 (E : EF X G cc nL own rt d mc ms) {a0 a1 : Option Value} {x v : Int32} {n : Int} (hd : decode cc pc = .ok (.iinc 2 n, 3)) (hv : x + Int32.ofInt n = v) (hc : c2 a1 = false) (k : V X G Q (pc + 3) (a0 :: a1 :: some (.int v) :: r) st nC F cells slots) : V X G Q pc (a0 :: a1 :: some (.int x) :: r) st nC F cells slots := fun ls H locs hl hB hS => lv_iinc E.ex E.cb hd (hl.cv1 (i := 2) rfl) (k := 0) rfl hv (by simp) rfl (fun ls9 h9 => k ls9 H locs (hasL_st1 (lv := a0 :: a1 :: some (.int x) :: r) (i := 2) (by simp) (fun j w e h => by cases (show j = 1 by omega); exact c2_of hc h) (fun j w h => List.mem_cons_of_mem _ (cvL_mem.mpr h)) h9) hB hS)
theorem v_get (E : EF X G cc nL own rt d mc ms) {v : Value} (hd : decode cc pc = .ok (.getfield idx, 3)) (hf : Fi own idx ci C Tf N kf) (ho : o < nC) (hc : F o = .inr (ci, fs)) (hv : fs[kf]? = some v) (kk : V X G Q (pc + 3) lv (v :: st) nC F cells slots) : V X G Q pc lv (.ref (G.2.2 0 + o) :: st) nC F cells slots := fun ls H locs hl hB hS =>
  va_get E.ex E.cb E.ts hf.2.2.2 E.ow E.kk (hB.one ho hc) 0 rfl hf.1 kf hf.2.1 (E.ts _ hf.2.2.1) (fun _ h => h) hv hd (kk ls H locs hl hB hS)
theorem v_put (E : EF X G cc nL own rt d mc ms) {v : Value} {ty : FieldType} (hd : decode cc pc = .ok (.putfield idx, 3)) (hf : Fi own idx ci C Tf N kf) (hp : Fq Tf N kf false ty) (hn : narrow ty v = v) (hfit : fits ty v = true) (ho : o < nC) (h154 : nC ≤ 154) (hc : F o = .inr (ci, fs)) (hl9 : kf < fs.length) (kk : V X G Q (pc + 3) lv st nC (fup F o (.inr (ci, fs.set kf v))) cells slots) : V X G Q pc lv (v :: .ref (G.2.2 0 + o) :: st) nC F cells slots := by
  refine fun ls H locs hl hB hS => ?_
  obtain ⟨⟨ty0, hty⟩, hnm, hfin, hdd⟩ := hp
  have hap := va_apart (own := own) E.ts hf.2.2.2 ty0 hty hnm E.kk hf.1
  obtain ⟨r, h1, cell, q1, q2, q3, q4⟩ := hB.one ho hc 0 _ rfl
  have hr : r = (C, Tf, N) := Option.some.inj (h1.symm.trans hf.1)
  subst hr
  obtain ⟨hS', hfc, kC, hkC, hkind⟩ := E.kk.1 ci _ hf.1
  obtain ⟨cf, kf', fi, f, hi, hsl⟩ := hS' kf hf.2.1
  have hlay := E.ts _ (hf.2.2.2 _ (u_in_lay hf.2.1))
  unfold u_lay at hlay
  rw [if_neg (by rw [hfin]; decide)] at hlay
  have hst := (u_facts hfc hkC (u_lays E.ts hf.2.2.2 hf.2.1) hi).1
  have h6 := u_store hfc hkC hkind hlay hi hdd hn hfit
  refine W.putK E.ex E.cb (f := f) ⟨E.ow, E.ts _ hf.2.2.1, ⟨_, _, _, hi⟩, hst⟩ (by rw [q2]; exact h6) q1 q3 (by rw [hsl]; exact k2_hasslot (q4 kf hf.2.1)) rfl rfl hd fun H' e1 e2 e3 => ?_
  rw [hsl] at e1 ⊢
  refine kk ls H' _ hl (hB.put ?_ e2 e3) (hS.put e2 e3 (Or.inl ⟨Nat.le_add_right _ _, by omega⟩))
  exact ⟨_, hf.1, t_OB.to (V := updV (vp_V fs) kf v) ⟨_, e1, q2, q3, t_set q4 hap hf.2.1 v⟩ (fun j _ => vp_updV_set hl9 v j)⟩
theorem v_putF (E : EF X G cc nL own rt d mc ms) (hin2 : (xMe X).name = "<init>") (hdecl : (Tf kf).1 = own) {v : Value} {ty : FieldType} (hd : decode cc pc = .ok (.putfield idx, 3)) (hf : Fi own idx ci C Tf N kf) (hp : Fq Tf N kf true ty) (hn : narrow ty v = v) (hfit : fits ty v = true) (ho : o < nC) (h154 : nC ≤ 154) (hc : F o = .inr (ci, fs)) (hl9 : kf < fs.length) (kk : V X G Q (pc + 3) lv st nC (fup F o (.inr (ci, fs.set kf v))) cells slots) : V X G Q pc lv (v :: .ref (G.2.2 0 + o) :: st) nC F cells slots := by
  refine fun ls H locs hl hB hS => ?_
  obtain ⟨⟨ty0, hty⟩, hnm, hfin, hdd⟩ := hp
  have hap := va_apart (own := own) E.ts hf.2.2.2 ty0 hty hnm E.kk hf.1
  obtain ⟨r, h1, cell, q1, q2, q3, q4⟩ := hB.one ho hc 0 _ rfl
  have hr : r = (C, Tf, N) := Option.some.inj (h1.symm.trans hf.1)
  subst hr
  obtain ⟨hS', hfc, kC, hkC, hkind⟩ := E.kk.1 ci _ hf.1
  obtain ⟨cf, kf', fi, f, hi, hsl⟩ := hS' kf hf.2.1
  have hlay := E.ts _ (hf.2.2.2 _ (u_in_lay hf.2.1))
  unfold u_lay at hlay
  rw [if_pos hfin] at hlay
  have hst := (u_facts hfc hkC (u_lays E.ts hf.2.2.2 hf.2.1) hi).1
  have hcf : (xM X).cls = cf := by
    obtain ⟨_, _, c', _, _, _, -, -, hf', -, -, -, hown2, -⟩ := Cond.laysFinal_spec hlay
    have e1 : c' = cf := by have := hi.symm.trans hf'; simp at this; exact this.1.symm
    rw [hdecl] at hown2
    rw [← e1]; exact Option.some.inj (E.ow.symm.trans hown2)
  have h6 := u_fits hfc hkC hkind (Or.inr hlay) hi hdd hn hfit
  refine W.putFinK E.ex E.cb E.ow (E.ts _ hf.2.2.1) hi hst hcf hin2 (by rw [q2]; exact h6) q1 q3 (by rw [hsl]; exact k2_hasslot (q4 kf hf.2.1)) rfl rfl hd fun H' e1 e2 e3 => ?_
  rw [hsl] at e1 ⊢
  refine kk ls H' _ hl (hB.put ?_ e2 e3) (hS.put e2 e3 (Or.inl ⟨Nat.le_add_right _ _, by omega⟩))
  exact ⟨_, hf.1, t_OB.to (V := updV (vp_V fs) kf v) ⟨_, e1, q2, q3, t_set q4 hap hf.2.1 v⟩ (fun j _ => vp_updV_set hl9 v j)⟩
/-- a new object -/
theorem v_new (E : EF X G cc nL own rt d mc ms) (ty : Nat → FieldType) (hty : ∀ k, k < N → parseFieldDescriptor (Tf k).2.2.1 = some (ty k)) (hfs : ∀ j, j < N → defaultValue (ty j) = vp_V fs j) (hd : decode cc pc = .ok (.new idx, 3)) (hcl : Cond.classLink own idx C ∈ GW) (hinst : Cond.instantiable C N ∈ GW) (hini : Cond.initialized C ∈ GW) (hin : ∀ w ∈ u_ws C Tf N, w ∈ GW) (hc : vwCl[ci]? = some (C, Tf, N)) (hcm : cells + 1 ≤ mc ∧ slots + N ≤ ms)
    (kk : V X G Q (pc + 3) lv (.ref (G.2.2 0 + nC) :: st) (nC + 1) (fup F nC (.inr (ci, fs))) (cells + 1) (slots + N)) : V X G Q pc lv st nC F cells slots := by
  refine fun ls H locs hl hB hS => ?_
  have hKn := E.kk.1 ci _ hc
  refine W.newcK E.ex E.cb E.ow (E.ts _ hcl) (E.ts _ hinst) (E.ts _ hini) rfl hd (by rw [E.rm]; exact hcm.1) (by rw [E.rm]; exact hcm.2) hKn.2.1 hB.1 fun H1 kC hkC e1 z1 o1 => ?_
  rw [← hB.1] at z1
  refine kk ls H1 locs hl (hB.push ⟨_, hc, (u_born ty E.ts hin hKn hkC e1 hty).to hfs⟩ z1 (fun q hq => o1 q (by rw [← hB.1]; exact hq))) ⟨Nat.le_trans hS.1 (by omega), fun x h1 h2 => (o1 x (by rw [← hB.1]; exact Nat.lt_of_lt_of_le h1 hS.1)).trans (hS.2.1 x h1 h2), hS.2.2⟩
/-- a new array of ints -/
theorem v_newi (E : EF X G cc nL own rt d mc ms) {x : Int32} {n : Nat} (hd : decode cc pc = .ok (.newarray .int, 2)) (hx : x = nI n) (hn : n ≤ 1000) (hcm : cells + 1 ≤ mc ∧ slots + n ≤ ms)
    (kk : V X G Q (pc + 2) lv (.ref (G.2.2 0 + nC) :: st) (nC + 1) (fup F nC (.inl (G.2.1 0, (n, .inl (fun _ => 0))))) (cells + 1) (slots + n)) : V X G Q pc lv (.int x :: st) nC F cells slots := fun ls H locs hl hB hS => by
  subst hx
  refine va_newaK E.ex E.cb (atype := .int) (E.ts _ ac_int) (g := F0 (xM X) pc ls (.int (nI n) :: st)) rfl hd (rest := st) rfl (nI_pos (n31 hn)) (nI_clamp (n31 hn)) (by show n * 4 ≤ _; omega) (by rw [E.rm]; exact hcm.1) (by rw [E.rm]; exact hcm.2) hB.1 (fun H' cA h1 h2 h3 h4 h5 => ?_)
  have hcA : cA = G.2.1 0 := Option.some.inj (h5.symm.trans (E.kk.2 0 _ rfl).2)
  subst hcA
  rw [← hB.1] at h2
  refine kk ls H' locs hl (hB.push ?_ h2 (fun q hq => h3 q (by rw [← hB.1]; exact hq))) ⟨Nat.le_trans hS.1 (by omega), fun q g1 g2 => (h3 q (by rw [← hB.1]; exact Nat.lt_of_lt_of_le g1 hS.1)).trans (hS.2.1 q g1 g2), hS.2.2⟩
  show H'[G.2.2 0 + nC]? = some (vp_cell _ _)
  rw [h1, vp_cell_i]
  rfl
/-- a new array of one long -/
theorem v_newl (E : EF X G cc nL own rt d mc ms) {x : Int32} {n : Nat} (hd : decode cc pc = .ok (.newarray .long, 2)) (hx : x = nI n) (hn : n ≤ 1000) (hcm : cells + 1 ≤ mc ∧ slots + n ≤ ms)
    (kk : V X G Q (pc + 2) lv (.ref (G.2.2 0 + nC) :: st) (nC + 1) (fup F nC (.inl (G.2.1 5, (n, .inr (.inl (fun _ => 0)))))) (cells + 1) (slots + n)) : V X G Q pc lv (.int x :: st) nC F cells slots := fun ls H locs hl hB hS => by
  subst hx
  refine va_newaK E.ex E.cb (atype := .long) (E.ts _ ac_long) (g := F0 (xM X) pc ls (.int (nI n) :: st)) rfl hd (rest := st) rfl (nI_pos (n31 hn)) (nI_clamp (n31 hn)) (by show n * 8 ≤ _; omega) (by rw [E.rm]; exact hcm.1) (by rw [E.rm]; exact hcm.2) hB.1 (fun H' cA h1 h2 h3 h4 h5 => ?_)
  have hcA : cA = G.2.1 5 := Option.some.inj (h5.symm.trans (E.kk.2 5 _ rfl).2)
  subst hcA
  rw [← hB.1] at h2
  refine kk ls H' locs hl (hB.push ?_ h2 (fun q hq => h3 q (by rw [← hB.1]; exact hq))) ⟨Nat.le_trans hS.1 (by omega), fun q g1 g2 => (h3 q (by rw [← hB.1]; exact Nat.lt_of_lt_of_le g1 hS.1)).trans (hS.2.1 q g1 g2), hS.2.2⟩
  show H'[G.2.2 0 + nC]? = some (vp_cell _ _)
  rw [h1]
  rfl
/-- a new array of references -/
theorem v_anew (E : EF X G cc nL own rt d mc ms) {x : Int32} {n : Nat} {cA : ClassId} (hd : decode cc pc = .ok (.anewarray idx, 3)) (hcl : Cond.classLink own idx C ∈ GW) (hao : C ∈ NWa) (ht : (tys G)[t0]? = some (cA, .object C)) (hx : x = nI n) (hn : n ≤ 1000) (hcm : cells + 1 ≤ mc ∧ slots + n ≤ ms)
    (kk : V X G Q (pc + 3) lv (.ref (G.2.2 0 + nC) :: st) (nC + 1) (fup F nC (.inl (cA, (n, .inr (.inr (.inr (.inr (fun _ => none)))))))) (cells + 1) (slots + n)) : V X G Q pc lv (.int x :: st) nC F cells slots := fun ls H locs hl hB hS => by
  subst hx
  have hcl2 : (nI n).toNatClampNeg = n := nI_clamp (n31 hn)
  refine W.anew E.ex E.cb E.ow (E.ts _ hcl) (va_AO.use (E.wf.2.2.2.2.2.2.2.2.2.2.2.2.2 _ hao)) rfl hd rfl (nI_pos (n31 hn)) (by rw [hcl2]; omega) (by rw [E.rm]; exact hcm.1) (by rw [E.rm, hcl2]; exact hcm.2) fun cA' kA comp f1 f2 f3 f4 => ?_
  rw [hcl2]
  obtain ⟨kA0, comp0, k1, k2, k3, k4⟩ := (E.kk.2 t0 _ ht).2
  have hcA : cA' = cA := Option.some.inj (f1.symm.trans k4)
  subst hcA
  generalize hH1 : H.push ({ cls := cA', slots := Array.replicate n .null, vm := .none } : Cell) = H1
  have z1 : H1.size = H.size + 1 := by rw [← hH1, Array.size_push]
  have e1 : H1[H.size]? = some (arrV cA' n (fun _ => .null)) := by rw [← hH1, Array.getElem?_push_size, ← arrV_new]
  have o1 : ∀ q : Nat, q < H.size → H1[q]? = H[q]? := fun q hq => by rw [← hH1, Array.getElem?_push, if_neg (Nat.ne_of_lt hq)]
  rw [hB.1]
  rw [hB.1] at e1
  refine kk ls H1 locs hl (hB.push ?_ z1 o1) ⟨Nat.le_trans hS.1 (by omega), fun x h1 h2 => (o1 x (Nat.lt_of_lt_of_le h1 hS.1)).trans (hS.2.1 x h1 h2), hS.2.2⟩
  show H1[G.2.2 0 + nC]? = some (vp_cell _ _)
  rw [e1]
  rfl
theorem v_iast (E : EF X G cc nL own rt d mc ms) {ix x : Int32} {n : Nat} {f : Nat → Int32} (hd : decode cc pc = .ok (.iastore, 1)) (ho : o < nC) (h154 : nC ≤ 154) (hc : F o = .inl (G.2.1 0, (n, .inl f))) (hj : ix = nI j) (hlt : j < n) (hn : n ≤ 1000) (kk : V X G Q (pc + 1) lv st nC (fup F o (.inl (G.2.1 0, (n, .inl (upd f j x))))) cells slots) : V X G Q pc lv (.int x :: .int ix :: .ref (G.2.2 0 + o) :: st) nC F cells slots := fun ls H locs hl hB hS => by
  subst hj
  refine W.iast E.ex E.cb (hB.one ho hc 0 _ rfl) ((E.kk.2 0 _ rfl).1 n (fun j => .int (f j))) (fun q => by cases q) (by show ¬ (_ < 0 ∨ (arrV _ _ _).slots.size ≤ _); rw [arrV_size]; exact vp_in_nI hlt (n31 hn)) rfl rfl hd fun H1 e z oq => ?_
  refine kk ls H1 _ hl (hB.put ?_ z oq) (hS.put z oq (Or.inl ⟨Nat.le_add_right _ _, by show G.2.2 0 + o < _; omega⟩))
  rw [nI_clamp (Nat.lt_trans hlt (n31 hn))] at e
  show H1[G.2.2 0 + o]? = some (vp_cell _ _)
  rw [e, vp_cell_i, vp_cell_i, arrV_store]
  congr 2
  funext q
  by_cases hq : q = j
  · subst hq
    simp [updV, upd]
  · simp [updV, upd, hq]
theorem v_aast (E : EF X G cc nL own rt d mc ms) {ix : Int32} {cA : ClassId} {n o2 : Nat} {f : Nat → Option Nat} (hd : decode cc pc = .ok (.aastore, 1)) (ho : o < nC) (ho2 : o2 < nC) (h154 : nC ≤ 154) (hc : F o = .inl (cA, (n, .inr (.inr (.inr (.inr f)))))) (hc2 : F o2 = .inr (ci, fs)) (ht : (tys G)[t0]? = some (cA, .object C)) (hcc : vwCl[ci]? = some (C, Tf, N)) (hj : ix = nI j) (hlt : j < n) (hn : n ≤ 1000)
    (kk : V X G Q (pc + 1) lv st nC (fup F o (.inl (cA, (n, .inr (.inr (.inr (.inr (va_up f j (some (G.2.2 0 + o2))))))))) ) cells slots) : V X G Q pc lv (.ref (G.2.2 0 + o2) :: .int ix :: .ref (G.2.2 0 + o) :: st) nC F cells slots := fun ls H locs hl hB hS => by
  subst hj
  have hcl2 : (nI j).toNatClampNeg = j := nI_clamp (Nat.lt_trans hlt (n31 hn))
  obtain ⟨r', hr', cellV, g1, g2, g3, -⟩ := hB.one ho2 hc2 0 _ rfl
  have hcls := (E.kk.1 ci _ hcc).2
  obtain ⟨kA, comp, k1, k2, k3, -⟩ := (E.kk.2 t0 _ ht).2
  have hcomp : comp = G.1.1 ci := Option.some.inj (k3.symm.trans hcls.1)
  subst hcomp
  obtain ⟨kC, hkC, -⟩ := hcls.2
  refine W.aast E.ex E.cb (hB.one ho hc 0 _ rfl) (fun q h => by cases h) (fun h => by cases h) k1 k2 rfl hkC ⟨nI_pos (Nat.lt_trans hlt (n31 hn)), by show _ < (arrV _ _ _).slots.size; rw [arrV_size, hcl2]; exact hlt⟩ g1 (fun q h => by rw [g3] at h; cases h) (by rw [g2]; exact hkC) (by rw [g2]; exact va_assign hcls) rfl rfl hd fun H1 e z oq => ?_
  refine kk ls H1 _ hl (hB.put ?_ z oq) (hS.put z oq (Or.inl ⟨Nat.le_add_right _ _, by show G.2.2 0 + o < _; omega⟩))
  show H1[G.2.2 0 + o]? = some (vp_cell _ _)
  rw [e, hcl2, vp_cell_q, vp_cell_q, arrV_store]
  congr 2
  funext q
  by_cases hq : q = j
  · subst hq
    simp [updV, va_up, va_rf]
  · simp [updV, va_up, hq]
/-- Object's own constructor -/
theorem v_oi (E : EF X G cc nL own rt d mc ms) {a : Nat} (hd : decode cc pc = .ok (.invokespecial idx, 3)) (hm : Cond.methodLink own idx objectInit ∈ GW) (hlv : lv.length = nL) (hcat : (st.map fun v => v.category).sum ≤ 8) (hdd : 1 ≤ d) (kk : V X G Q (pc + 3) lv st nC F cells slots) : V X G Q pc lv (.ref a :: st) nC F cells slots := fun ls H locs hl hB hS =>
  W.objInit E.ex E.cb E.ow (E.ts _ hm) (E.ts _ imObj_init) (E.ts _ cdObj_init) (g := F0 (xM X) pc ls (.ref a :: st)) rfl (by rw [E.ml]; show ls.size = nL; rw [hl.1, hlv]) rfl hd (by rw [E.rm]; exact hdd) (by rw [E.rm]; show 2 * 0 + _ + 12 ≤ 30 * d; omega) (kk ls H locs hl hB hS)
theorem bw_blind {av : List Value} : FrameBlind (va_Pc av (fun U => BH G nC F U.heap ∧ WF G (Aw G U.heap.size) U U.heap)) := fun a U g mk q => ⟨q.1, q.2.1, q.2.2.same rfl⟩
theorem v_ci (E : EF X G cc nL own rt d mc ms) {y : MethodName} {cy : ByteArray} {nLy dy my sy b n n' : Nat} {F' : Nat → va_E} {As st0 : List Value} (hM : CN G y cy nLy dy my sy (.ref b :: As) nC F n' F') (hst : st0 = As.reverse ++ .ref b :: st) (hy : CalI y cy nLy n) (hm : Cond.methodLink own idx y ∈ GW) (hd : decode cc pc = .ok (.invokespecial idx, 3)) (hn : As.length = n) (hcat : (st.map fun v => v.category).sum ≤ 8) (hlv : lv.length = nL) (hdd : dy + 1 ≤ d) (hnl : nLy ≤ 11) (hcm : cells + my ≤ mc ∧ slots + sy ≤ ms)
    (kk : V X G Q (pc + 3) lv st n' F' (cells + my) (slots + sy)) : V X G Q pc lv st0 nC F cells slots := by
  refine fun ls H locs hl hB hS => ?_
  have hz : (xS X).heap.size ≤ G.2.2 0 + nC := by rw [← hB.1]; exact hS.1
  obtain ⟨hy1, hy2, hy3, hy4, hy5, hy6⟩ := hy
  refine va_callv (va_runI (As := As) (rest := st) ⟨E.ex, E.cb, E.ml, E.ow, E.ts⟩ (hM (xL X)) (cwI n E.ts (good_ws hy6) rfl rfl rfl (E.ts _ hy5) (E.ts _ hm) (E.ts _ hy4) hy1 ⟨hy2.1, hy2.2, hy3⟩ ⟨by rw [E.rm]; exact hdd, by rw [E.rm]; show 8 + (nLy + 11) + 30 * dy ≤ 30 * d; omega⟩) ⟨bw_blind, fun U hU hW => ⟨rfl, by rw [hU]; exact hB, by rw [hU]; exact E.wf.warm hW hS.2.1 (Aw.mono hS.1)⟩⟩ rfl hn (hl.1.trans hlv) hst (lv_room hcat) hd ⟨by rw [E.rm]; exact hcm.1, by rw [E.rm]; exact hcm.2⟩) hS (fun q _ h => Aw.mono hz q h) (fun q h => Aw.mono hz q h) (fun u t H1 locs1 ht hvm hw hB1 hz1 hk1 hS1 => ?_)
  exact kk ls H1 locs1 hl (by rw [← ht]; exact hB1) hS1
theorem v_cn (E : EF X G cc nL own rt d mc ms) {y : MethodName} {cy : ByteArray} {nLy dy my sy b n n' : Nat} {host : String} {F' : Nat → va_E} {As st0 : List Value} (hM : CN G y cy nLy dy my sy (.ref b :: As) nC F n' F') (hst : st0 = As.reverse ++ .ref b :: st) (hy : CalI y cy nLy n) (hm : (own, idx, y, host) ∈ NWm) (hd : decode cc pc = .ok (.invokespecial idx, 3)) (hn : As.length = n) (hcat : (st.map fun v => v.category).sum ≤ 8) (hlv : lv.length = nL) (hdd : dy + 1 ≤ d) (hnl : nLy ≤ 11) (hcm : cells + my ≤ mc ∧ slots + sy ≤ ms)
    (kk : V X G Q (pc + 3) lv st n' F' (cells + my) (slots + sy)) : V X G Q pc lv st0 nC F cells slots := by
  refine fun ls H locs hl hB hS => ?_
  have hz : (xS X).heap.size ≤ G.2.2 0 + nC := by rw [← hB.1]; exact hS.1
  obtain ⟨hy1, hy2, hy3, hy4, hy5, hy6⟩ := hy
  refine va_callv (va_runIN (As := As) (rest := st) ⟨E.ex, E.cb, E.ml, E.ow, E.ts⟩ (hM (xL X)) ⟨va_cnB n E.ts (good_ws hy6) rfl rfl rfl (E.wf.2.1 _ hm) (E.ts _ hy5) ⟨hy2.1, hy2.2, hy3⟩ ⟨by rw [E.rm]; exact hdd, by rw [E.rm]; show 8 + (nLy + 11) + 30 * dy ≤ 30 * d; omega⟩, hy1, E.ts _ hy4⟩ ⟨bw_blind, fun U hU hW => ⟨rfl, by rw [hU]; exact hB, by rw [hU]; exact E.wf.warm hW hS.2.1 (Aw.mono hS.1)⟩⟩ rfl hn (hl.1.trans hlv) hst (lv_room hcat) hd ⟨by rw [E.rm]; exact hcm.1, by rw [E.rm]; exact hcm.2⟩) hS (fun q _ h => Aw.mono hz q h) (fun q h => Aw.mono hz q h) (fun u t H1 locs1 ht hvm hw hB1 hz1 hk1 hS1 => ?_)
  exact kk ls H1 locs1 hl (by rw [← ht]; exact hB1) hS1
theorem v_ret (E : EF X G cc nL own none d mc ms) (hd : decode cc pc = .ok (.return_, 1)) : V X G (QN X G nC F cells slots) pc lv [] nC F cells slots := fun ls H locs hl hB hS =>
  W.vret E.ex E.cb E.ret (fun t ht hW => ⟨⟨(), rfl, trivial, by show BH G nC F t.heap; rw [ht]; exact hB⟩, hS.F ht⟩) hS.2.2 hd E.lk
end VR
theorem CN.mk {G : GT} {y : MethodName} {cc : ByteArray} {nL dy my sy nC n' : Nat} {own : String} {av : List Value} {F F' : Nat → va_E} (hy : plainFor y = true) (hown : y.cls = own) (hnm : y.name = "<init>") (hcat : av.all (fun v => v.category == 1) = true) (hlen : av.length ≤ nL) {lv0 : List (Option Value)} (hlv : av.map some ++ List.replicate (nL - av.length) none = lv0)
    (body : ∀ X, EF X G cc nL own none dy my sy → (xMe X).name = "<init>" → V X G (QN X G n' F' my sy) 0 lv0 [] nC F 0 0) : CN G y cc nL dy my sy av nC F n' F' := by
  intro l
  refine met_ofWF (cc := cc) (maxL := nL) (ret := none) hy rfl ?_
  intro p e s m args below meth c s₁ B hml hv
  obtain ⟨rfl, hB, hF⟩ := hv
  rw [← hB.1]
  have hts := atoms_spec (ws := ws_ y cc nL none) B.pre
  have E : EF (p, l, e, rmd dy my sy, s, m, av.toArray, below, meth, c) G cc nL own none dy my sy := ⟨B.exec, B.bytes, hml, by rw [← hown]; exact findClass_of_methodNamed B.named, fun w hw => hts w (List.mem_cons_of_mem _ hw), B.notSynchronized, B.returns, trivial, hF, rfl⟩
  rw [lg_entry_eq]
  have hl := hasL_entry av (n := nL) (fun v hv => by simpa using List.all_eq_true.mp hcat v hv) hlen
  rw [hlv] at hl
  exact body _ E ((name_of_methodNamed B.named B.method).1.trans hnm) _ s.heap [] hl hB va_S.rf
