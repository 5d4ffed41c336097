/-! rules for fields, arrays, calls, returns -/
def Fi (own : String) (idx ci : Nat) (C : String) (Tf : u_T) (N kf : Nat) : Prop := vwCl[ci]? = some (C, Tf, N) ∧ kf < N ∧ Cond.fieldLink own idx (Tf kf).1 (Tf kf).2.1 (Tf kf).2.2.1 ∈ GW ∧ (∀ w ∈ u_ws C Tf N, w ∈ GW)
def FiN (own : String) (idx ci : Nat) (C : String) (Tf : u_T) (N kf : Nat) (host : String) : Prop := vwCl[ci]? = some (C, Tf, N) ∧ kf < N ∧ (own, idx, (Tf kf).1, (Tf kf).2.1, (Tf kf).2.2.1, host) ∈ NWf ∧ (∀ w ∈ u_ws C Tf N, w ∈ GW)
def Fp (Tf : u_T) (N kf : Nat) : Prop := ∃ ty0 : Nat → FieldType, (∀ k, k < N → parseFieldDescriptor (Tf k).2.2.1 = some (ty0 k)) ∧ (∀ a, a < N → ∀ b, b < N → a ≠ b → (Tf a).2.1 ≠ (Tf b).2.1) ∧ (Tf kf).2.2.2 = false ∧ parseFieldDescriptor (Tf kf).2.2.1 = some .int
section ZF
variable {X : PX} {G : GT} {T : Nat × Nat} {cc : ByteArray} {nL : Nat} {own : String} {rt : Option FieldType} {d mc ms : Nat} {Q : State → Prop} {pc : Nat} {lv r : List (Option Value)} {st : List Value} {M : Mem} {cells slots : Nat}
variable {idx ci kf N k s i n j t0 : Nat} {C : String} {Tf : u_T} {fs : List Value}
theorem z_get (E : EF X G cc nL own rt d mc ms) {v : Value} (hd : decode cc pc = .ok (.getfield idx, 3)) (hf : Fi own idx ci C Tf N kf) (ho : okc k s i) (hc : conV G k s i (M k s i) = .inr (ci, fs)) (hv : fs[kf]? = some v) (kk : Z X G T Q (pc + 3) lv (v :: st) M cells slots) : Z X G T Q pc lv (.ref (ad G k s i) :: st) M cells slots := fun ls H locs hl hP hT hS =>
  va_get E.ex E.cb E.ts hf.2.2.2 E.ow E.kk (hP.one' ho hc) 0 rfl hf.1 kf hf.2.1 (E.ts _ hf.2.2.1) (fun _ h => h) hv hd (kk ls H locs hl hP hT hS)
theorem z_getN (E : EF X G cc nL own rt d mc ms) {v : Value} {host : String} (hd : decode cc pc = .ok (.getfield idx, 3)) (hf : FiN own idx ci C Tf N kf host) (ho : okc k s i) (hc : conV G k s i (M k s i) = .inr (ci, fs)) (hv : fs[kf]? = some v) (kk : Z X G T Q (pc + 3) lv (v :: st) M cells slots) : Z X G T Q pc lv (.ref (ad G k s i) :: st) M cells slots := fun ls H locs hl hP hT hS =>
  va_getN E.ex E.cb E.ts hf.2.2.2 E.ow E.kk (hP.one' ho hc) 0 rfl hf.1 kf hf.2.1 (va_Nw.use rfl (E.wf.2.2.1 _ hf.2.2.1)) (fun _ h => h) hv hd (kk ls H locs hl hP hT hS)
theorem z_put (E : EF X G cc nL own rt d mc ms) {x : Int32} (hd : decode cc pc = .ok (.putfield idx, 3)) (hf : Fi own idx ci C Tf N kf) (hp : Fp Tf N kf) (ho : okc k s i) (hc : conV G k s i (M k s i) = .inr (ci, fs)) (hs : conV G k s i (upd (M k s i) kf x) = .inr (ci, fs.set kf (.int x))) (hl9 : kf < fs.length) (kk : Z X G T Q (pc + 3) lv st (mset M k s i kf x) cells slots) : Z X G T Q pc lv (.int x :: .ref (ad G k s i) :: st) M cells slots := by
  refine fun ls H locs hl hP hT hS => ?_
  obtain ⟨ty0, hty, hnm, hfin, hdd⟩ := hp
  have hP1 := hP.one' ho hc
  have hap := va_apart (own := own) E.ts hf.2.2.2 ty0 hty hnm E.kk hf.1
  obtain ⟨r, h1, cell, q1, q2, q3, q4⟩ := hP1 0 _ rfl
  have hr : r = (C, Tf, N) := Option.some.inj (h1.symm.trans hf.1)
  subst hr
  obtain ⟨hS', hfc, kC, hkC, hkind⟩ := E.kk.1 ci _ hf.1
  obtain ⟨cf, kf', fi, f, hi, hsl⟩ := hS' kf hf.2.1
  have hlay := E.ts _ (hf.2.2.2 _ (u_in_lay hf.2.1))
  unfold u_lay at hlay
  rw [if_neg (by rw [hfin]; decide)] at hlay
  have hst := (u_facts hfc hkC (u_lays E.ts hf.2.2.2 hf.2.1) hi).1
  have h6 := u_store hfc hkC hkind hlay hi hdd (v := .int x) (vp_nar_int x) rfl
  refine W.putK E.ex E.cb (f := f) ⟨E.ow, E.ts _ hf.2.2.1, ⟨_, _, _, hi⟩, hst⟩ (by rw [q2]; exact h6) q1 q3 (by rw [hsl]; exact k2_hasslot (q4 kf hf.2.1)) rfl rfl hd fun H' e1 e2 e3 => ?_
  rw [hsl] at e1 ⊢
  refine kk ls H' _ hl (hP.put ho ?_ e3) (hT.put ho e3) (hS.put e2 e3 (Aw.ad ho))
  rw [hs]
  exact ⟨_, hf.1, t_OB.to (V := updV (vp_V fs) kf (.int x)) ⟨_, e1, q2, q3, t_set q4 hap hf.2.1 (.int x)⟩ (fun j _ => vp_updV_set hl9 (.int x) j)⟩
theorem z_putN (E : EF X G cc nL own rt d mc ms) {x : Int32} {host : String} (hd : decode cc pc = .ok (.putfield idx, 3)) (hf : FiN own idx ci C Tf N kf host) (hp : Fp Tf N kf) (ho : okc k s i) (hc : conV G k s i (M k s i) = .inr (ci, fs)) (hs : conV G k s i (upd (M k s i) kf x) = .inr (ci, fs.set kf (.int x))) (hl9 : kf < fs.length) (kk : Z X G T Q (pc + 3) lv st (mset M k s i kf x) cells slots) : Z X G T Q pc lv (.int x :: .ref (ad G k s i) :: st) M cells slots := by
  refine fun ls H locs hl hP hT hS => ?_
  obtain ⟨ty0, hty, hnm, hfin, hdd⟩ := hp
  have hP1 := hP.one' ho hc
  have hap := va_apart (own := own) E.ts hf.2.2.2 ty0 hty hnm E.kk hf.1
  obtain ⟨r, h1, cell, q1, q2, q3, q4⟩ := hP1 0 _ rfl
  have hr : r = (C, Tf, N) := Option.some.inj (h1.symm.trans hf.1)
  subst hr
  obtain ⟨hS', hfc, kC, hkC, hkind⟩ := E.kk.1 ci _ hf.1
  obtain ⟨cf, kf', fi, f, hi, hsl⟩ := hS' kf hf.2.1
  have hlay := E.ts _ (hf.2.2.2 _ (u_in_lay hf.2.1))
  unfold u_lay at hlay
  rw [if_neg (by rw [hfin]; decide)] at hlay
  have hst := (u_facts hfc hkC (u_lays E.ts hf.2.2.2 hf.2.1) hi).1
  have h6 := u_store hfc hkC hkind hlay hi hdd (v := .int x) (vp_nar_int x) rfl
  refine va_WputK E.ex E.cb (f := f) E.ow (va_Nw.use rfl (E.wf.2.2.1 _ hf.2.2.1)) hi hst (by rw [q2]; exact h6) q1 q3 (by rw [hsl]; exact k2_hasslot (q4 kf hf.2.1)) rfl rfl hd fun H' e1 e2 e3 => ?_
  rw [hsl] at e1 ⊢
  refine kk ls H' _ hl (hP.put ho ?_ e3) (hT.put ho e3) (hS.put e2 e3 (Aw.ad ho))
  rw [hs]
  exact ⟨_, hf.1, t_OB.to (V := updV (vp_V fs) kf (.int x)) ⟨_, e1, q2, q3, t_set q4 hap hf.2.1 (.int x)⟩ (fun j _ => vp_updV_set hl9 (.int x) j)⟩
theorem n31 {n : Nat} (h : n ≤ 1000) : n < 2 ^ 31 := Nat.lt_of_le_of_lt h (by decide)
theorem z_iald (E : EF X G cc nL own rt d mc ms) {ix : Int32} (hd : decode cc pc = .ok (.iaload, 1)) (ho : okc k s i) (hc : conV G k s i (M k s i) = .inl (G.2.1 0, (n, .inl (M k s i)))) (hj : ix = nI j) (hlt : j < n) (hn : n ≤ 1000) (kk : Z X G T Q (pc + 1) lv (.int (M k s i j) :: st) M cells slots) : Z X G T Q pc lv (.int ix :: .ref (ad G k s i) :: st) M cells slots := by
  refine fun ls H locs hl hP hT hS => ?_
  subst hj
  refine va_iald E.ex E.cb E.kk (hP.one' ho hc) 0 0 rfl rfl (vp_in_nI hlt (n31 hn)) hd ?_
  rw [nI_clamp (Nat.lt_trans hlt (n31 hn))]
  exact kk ls H locs hl hP hT hS
theorem z_iast (E : EF X G cc nL own rt d mc ms) {ix x : Int32} (hd : decode cc pc = .ok (.iastore, 1)) (ho : okc k s i) (hc : ∀ f, conV G k s i f = .inl (G.2.1 0, (n, .inl f))) (hj : ix = nI j) (hlt : j < n) (hn : n ≤ 1000) (kk : Z X G T Q (pc + 1) lv st (mset M k s i j x) cells slots) : Z X G T Q pc lv (.int x :: .int ix :: .ref (ad G k s i) :: st) M cells slots := by
  refine fun ls H locs hl hP hT hS => ?_
  subst hj
  refine W.iast E.ex E.cb (hP.one' ho (hc _) 0 _ rfl) ((E.kk.2 0 _ rfl).1 n (fun j => .int (M k s i j))) (fun q => by cases q) (by show ¬ (_ < 0 ∨ (arrV _ _ _).slots.size ≤ _); rw [arrV_size]; exact vp_in_nI hlt (n31 hn)) rfl rfl hd fun H1 e z oq => ?_
  refine kk ls H1 _ hl (hP.put ho ?_ oq) (hT.put ho oq) (hS.put z oq (Aw.ad ho))
  rw [hc]
  rw [nI_clamp (Nat.lt_trans hlt (n31 hn))] at e
  show H1[ad G k s i]? = some (vp_cell _ _)
  rw [e, vp_cell_i, vp_cell_i, arrV_store]
  congr 2
  funext q
  by_cases hq : q = j
  · subst hq
    simp [updV, upd]
  · simp [updV, upd, hq]
theorem z_alen (E : EF X G cc nL own rt d mc ms) {cA : ClassId} {ty : FieldType} {x : vp_A} {v : Int32} (hd : decode cc pc = .ok (.arraylength, 1)) (ho : okc k s i) (hc : conV G k s i (M k s i) = .inl (cA, x)) (ht : (tys G)[t0]? = some (cA, ty)) (hv : Int32.ofNat x.1 = v) (kk : Z X G T Q (pc + 1) lv (.int v :: st) M cells slots) : Z X G T Q pc lv (.ref (ad G k s i) :: st) M cells slots := fun ls H locs hl hP hT hS =>
  va_alen E.ex E.cb E.kk (hP.one' ho hc) 0 t0 rfl ht hv hd (kk ls H locs hl hP hT hS)
theorem z_aald (E : EF X G cc nL own rt d mc ms) {ix : Int32} {cA : ClassId} {a : Nat} {g : Nat → Option Nat} (hd : decode cc pc = .ok (.aaload, 1)) (ho : okc k s i) (hc : conV G k s i (M k s i) = .inl (cA, (n, .inr (.inr (.inr (.inr g)))))) (ht : (tys G)[t0]? = some (cA, .object C)) (hj : ix = nI j) (hlt : j < n) (hn : n ≤ 1000) (hg : g j = some a) (kk : Z X G T Q (pc + 1) lv (.ref a :: st) M cells slots) : Z X G T Q pc lv (.int ix :: .ref (ad G k s i) :: st) M cells slots := by
  refine fun ls H locs hl hP hT hS => ?_
  subst hj
  refine va_aldq E.ex E.cb E.kk (hP.one' ho hc) 0 t0 rfl ht (vp_in_nI hlt (n31 hn)) hd ?_
  rw [nI_clamp (Nat.lt_trans hlt (n31 hn)), hg]
  exact kk ls H locs hl hP hT hS
/-- the table FROM -/
theorem z_from8 (E : EF X G cc nL RX8 rt d mc ms) (hd : decode cc pc = .ok (.getstatic idx, 3)) (hf : Cond.fieldLink RX8 idx RX8 "FROM" "[I" ∈ GW) (kk : Z X G T Q (pc + 3) lv (.ref (G.2.2 1) :: st) M cells slots) : Z X G T Q pc lv st M cells slots := fun ls H locs hl hP hT hS =>
  va_gets E.ex E.cb E.wf.2.2.2.1 hS E.ow (E.ts _ hf) (fun _ h => h) hd (kk ls H locs hl hP hT hS)
theorem z_from7 (E : EF X G cc nL own rt d mc ms) {host : String} (hd : decode cc pc = .ok (.getstatic idx, 3)) (hf : (own, idx, RX8, "FROM", "[I", host) ∈ NWf) (kk : Z X G T Q (pc + 3) lv (.ref (G.2.2 1) :: st) M cells slots) : Z X G T Q pc lv st M cells slots := fun ls H locs hl hP hT hS =>
  va_getsN E.ex E.cb E.wf.2.2.2.1 hS E.ow (va_Nw.use rfl (E.wf.2.2.1 _ hf)) (fun _ h => h) hd (kk ls H locs hl hP hT hS)
theorem z_tald (E : EF X G cc nL own rt d mc ms) {ix : Int32} (hd : decode cc pc = .ok (.iaload, 1)) (hj : ix = nI j) (hlt : j < 4) (kk : Z X G T Q (pc + 1) lv (.int (fromV j) :: st) M cells slots) : Z X G T Q pc lv (.int ix :: .ref (G.2.2 1) :: st) M cells slots := by
  refine fun ls H locs hl hP hT hS => ?_
  subst hj
  refine va_ti E.ex E.cb E.wf.2.2.2.2.1 hS (vp_in_nI hlt (by decide)) ?_ hd (kk ls H locs hl hP hT hS)
  rw [nI_clamp (Nat.lt_trans hlt (by decide))]
/-- Math.max, Math.min -/
theorem z_max (E : EF X G cc nL own rt d mc ms) {x y : Int32} (hd : decode cc pc = .ok (.invokestatic idx, 3)) (hm : Cond.methodLink own idx yJ9_max_7cf53 ∈ GW) (hlv : lv.length = nL) (hdd : 1 ≤ d) (hcat : (st.map fun v => v.category).sum ≤ 8) (hcm : cells ≤ mc ∧ slots ≤ ms) (kk : Z X G T Q (pc + 3) lv (.int (if x < y then y else x) :: st) M cells slots) : Z X G T Q pc lv (.int y :: .int x :: st) M cells slots := fun ls H locs hl hP hT hS =>
  va_mmax E.ex E.cb (by rw [E.ml, hl.1, hlv]) E.ow (E.ts _ hm) (E.ts _ stJ9_max_7cf53) (E.ts _ inJ9) (E.ts _ cdJ9_max_7cf53) (by rw [E.rm]; exact hdd) (by rw [E.rm]; show _ + 13 ≤ 30 * d; omega) (by rw [E.rm]; exact hcm.1) (by rw [E.rm]; exact hcm.2) hd (kk ls H locs hl hP hT hS)
theorem z_min (E : EF X G cc nL own rt d mc ms) {x y : Int32} (hd : decode cc pc = .ok (.invokestatic idx, 3)) (hm : Cond.methodLink own idx yJ9_min_7cf53 ∈ GW) (hlv : lv.length = nL) (hdd : 1 ≤ d) (hcat : (st.map fun v => v.category).sum ≤ 8) (hcm : cells ≤ mc ∧ slots ≤ ms) (kk : Z X G T Q (pc + 3) lv (.int (if y < x then y else x) :: st) M cells slots) : Z X G T Q pc lv (.int y :: .int x :: st) M cells slots := fun ls H locs hl hP hT hS =>
  va_mmin E.ex E.cb (by rw [E.ml, hl.1, hlv]) E.ow (E.ts _ hm) (E.ts _ stJ9_min_7cf53) (E.ts _ inJ9) (E.ts _ cdJ9_min_7cf53) (by rw [E.rm]; exact hdd) (by rw [E.rm]; show _ + 13 ≤ 30 * d; omega) (by rw [E.rm]; exact hcm.1) (by rw [E.rm]; exact hcm.2) hd (kk ls H locs hl hP hT hS)
/-! contracts -/
def Cal (y : MethodName) (C : String) (cy : ByteArray) (nLy : Nat) (rty : Option FieldType) (n : Nat) : Prop := y.cls = C ∧ (y.cls ≠ "java/lang/invoke/MethodHandle" ∧ y.cls ≠ "java/lang/invoke/VarHandle") ∧ (parseMethodDescriptor y.desc).map (fun d => d.parameters.length) = some n ∧ Cond.instanceMethod y ∈ GW ∧ Cond.selects C y y ∈ GW ∧ Cond.initialized C ∈ GW ∧ Cond.code y cy nLy rty ∈ GW
def CalS (y : MethodName) (C : String) (cy : ByteArray) (nLy : Nat) (rty : Option FieldType) (n : Nat) : Prop := y.cls = C ∧ (y.cls ≠ "java/lang/invoke/MethodHandle" ∧ y.cls ≠ "java/lang/invoke/VarHandle") ∧ (parseMethodDescriptor y.desc).map (fun d => d.parameters.length) = some n ∧ Cond.static y ∈ GW ∧ Cond.initialized C ∈ GW ∧ Cond.code y cy nLy rty ∈ GW
theorem good_ws {y : MethodName} {cy : ByteArray} {nLy : Nat} {rty : Option FieldType} (h : Cond.code y cy nLy rty ∈ GW) : GoodIn GW (ws_ y cy nLy rty) := fun w hw => by
  rcases List.mem_cons.mp hw with rfl | hw
  · exact ⟨h, gw_good h⟩
  · exact ⟨hw, gw_good hw⟩
theorem good_V {own : String} {idx : Nat} {y : MethodName} {C : String} {cy : ByteArray} {nLy n : Nat} {rty : Option FieldType} (hy : Cal y C cy nLy rty n) (hm : Cond.methodLink own idx y ∈ GW) : GoodIn GW (wsV own idx C y (ws_ y cy nLy rty)) := by
  obtain ⟨-, -, -, h1, h2, h3, h4⟩ := hy
  intro w hw
  simp only [wsV, List.cons_append, List.nil_append, List.mem_cons] at hw
  rcases hw with rfl | rfl | rfl | rfl | hw
  · exact ⟨hm, gw_good hm⟩
  · exact ⟨h1, gw_good h1⟩
  · exact ⟨h2, gw_good h2⟩
  · exact ⟨h3, gw_good h3⟩
  · exact good_ws h4 w hw
theorem good_S {own : String} {idx : Nat} {y : MethodName} {C : String} {cy : ByteArray} {nLy n : Nat} {rty : Option FieldType} (hy : CalS y C cy nLy rty n) (hm : Cond.methodLink own idx y ∈ GW) : GoodIn GW (va_wsS own idx y (ws_ y cy nLy rty)) := by
  obtain ⟨rfl, -, -, h1, h3, h4⟩ := hy
  intro w hw
  simp only [va_wsS, List.cons_append, List.nil_append, List.mem_cons] at hw
  rcases hw with rfl | rfl | rfl | hw
  · exact ⟨hm, gw_good hm⟩
  · exact ⟨h1, gw_good h1⟩
  · exact ⟨h3, gw_good h3⟩
  · exact good_ws h4 w hw
abbrev PcW (G : GT) (M : Mem) (av : List Value) (sz : Nat) : Array Value → State → Prop := va_Pc av (fun U => U.heap.size = sz ∧ WI G M U)
theorem pcw_blind {G : GT} {M : Mem} {av : List Value} {sz : Nat} : FrameBlind (PcW G M av sz) := fun a U g mk q => ⟨q.1, q.2.1, q.2.2.blind g mk a⟩
theorem EF.wi (E : EF X G cc nL own rt d mc ms) {H : Heap} {locs : List Loc} (hP : PW G M H) (hS : va_S (Aw G (xS X).heap.size) (xS X).heap H locs) {U : State} (hU : U.heap = H) (hW : (xS X).WarmedH U.vm) : U.heap.size = H.size ∧ WI G M U := by
  subst hU
  exact ⟨rfl, by have h9 : G.2.2 0 + 153 < U.heap.size := (hP 21 0 0 ⟨by decide, by decide, by decide⟩).lt; omega, hP, E.wf.warm hW hS.2.1 (Aw.mono hS.1)⟩
theorem TW.call {H H1 : Heap} {M' : Mem} (hT : TW G T M H) (h22 : T.2 = 0 ∨ M' 22 0 0 = M 22 0 0) (hk : ∀ q : Nat, q < H.size → ¬ Aw G H.size q → H1[q]? = H[q]?) : TW G T M' H1 := by
  rcases h22 with h | h
  · exact Or.inl h
  · exact hT.kept h (fun h1 h2 => hk _ h2 (fun z => by rcases z with ⟨-, z⟩ | z <;> omega))
theorem met_ofWF {l : Launch} {y : MethodName} {ws ws' : List Cond} {rm : Room} {Pc : Array Value → State → Prop} {Qc : Array Value → State → Outcome → State → Prop} {mc ms : Nat} {free : Addr → Prop} {cc : ByteArray} {maxL : Nat} {ret : Option FieldType}
    (hy : plainFor y = true) (hw : ws = Cond.code y cc maxL ret :: ws')
    (body : ∀ p e s m args below meth c s₁, BodyLoose p l y (headSpec ws rm) cc maxL ret e s m args below meth c s₁ → c.maxLocals = maxL → Pc args s →
      W p l e (headSpec ws rm).room s m args below meth c s.heap [] 0 0 (MQ below Qc args s mc ms free) (entryFrame m args maxL)) : Met l y ws rm Pc Qc mc ms free := by
  refine MetFree.of_bodySF (code := cc) (maxLocals := maxL) (ret := ret) hy ?_ ?_
  · intro args s m h hn
    obtain ⟨meth, c, h1, h2, h3, h4, h5, h6, -, -⟩ := Cond.code_spec hn (atoms_spec (ws := ws) h _ (by rw [hw]; exact List.mem_cons_self))
    exact ⟨meth, c, h1, h2, h3, h4, h5, h6⟩
  · intro p e s m args below meth c s₁ B hml hP _
    have hh0 : s₁.heap = s.heap := by rw [B.state]; rfl
    obtain ⟨t, a1, o, b1, b2, b3⟩ := body p e s m args below meth c s₁ B hml hP s₁ hh0 (Stand.of_body B)
    exact ⟨t, o, a1, b1, b2, ⟨b3.1, b3.2⟩⟩
def CI (y : MethodName) (cy : ByteArray) (nLy : Nat) (rty : Option FieldType) (dy my sy : Nat) (av : GT → List Value) (M : Mem) (post : Int32 → Mem → Prop) : Prop := ∀ (l : Launch) (G : GT) (sz : Nat), Met l y (ws_ y cy nLy rty) (rmd dy my sy) (PcW G M (av G) sz) (va_Qi post (fun M' t => PW G M' t.heap) (Aw G sz)) my sy (Aw G sz)
def QI (X : PX) (G : GT) (post : Int32 → Mem → Prop) (my sy : Nat) : State → Prop := MQ (xB X) (va_Qi post (fun M' t => PW G M' t.heap) (Aw G (xS X).heap.size)) (xA X) (xS X) my sy (Aw G (xS X).heap.size)
theorem CI.mk {y : MethodName} {dy my sy : Nat} {av : GT → List Value} {post : Int32 → Mem → Prop} (hy : plainFor y = true) (hown : y.cls = own) (hcat : ∀ G, (av G).all (fun v => v.category == 1) = true) (hlen : ∀ G, (av G).length ≤ nL) {lv0 : GT → List (Option Value)} (hlv : ∀ G, (av G).map some ++ List.replicate (nL - (av G).length) none = lv0 G)
    (body : ∀ X G, EF X G cc nL own rt dy my sy → Z X G (0, 0) (QI X G post my sy) 0 (lv0 G) [] M 0 0) : CI y cc nL rt dy my sy av M post := by
  intro l G sz
  refine met_ofWF (cc := cc) (maxL := nL) (ret := rt) hy rfl ?_
  intro p e s m args below meth c s₁ B hml hv
  obtain ⟨rfl, hsz, h1, hP, hF⟩ := hv
  subst hsz
  have hts := atoms_spec (ws := ws_ y cc nL rt) B.pre
  have E : EF (p, l, e, rmd dy my sy, s, m, (av G).toArray, below, meth, c) G cc nL own rt dy my sy := ⟨B.exec, B.bytes, hml, by rw [← hown]; exact findClass_of_methodNamed B.named, fun w hw => hts w (List.mem_cons_of_mem _ hw), B.notSynchronized, B.returns, trivial, hF, rfl⟩
  rw [lg_entry_eq]
  have hl := hasL_entry (av G) (n := nL) (fun v hv => by simpa using List.all_eq_true.mp (hcat G) v hv) (hlen G)
  rw [hlv] at hl
  exact body _ G E _ s.heap [] hl hP (Or.inl rfl) va_S.rf
theorem z_iv (E : EF X G cc nL own rt d mc ms) {y : MethodName} {cy : ByteArray} {nLy dy my sy : Nat} {rty : Option FieldType} {av : GT → List Value} {post : Int32 → Mem → Prop} {As st0 : List Value} (hM : CI y cy nLy rty dy my sy av M post) (hav : av G = .ref (ad G k s i) :: As) (hst : st0 = As.reverse ++ .ref (ad G k s i) :: st) (hy : Cal y C cy nLy rty n) (hm : Cond.methodLink own idx y ∈ GW) (hd : decode cc pc = .ok (.invokevirtual idx, 3)) (ho : okc k s i) (hc : conV G k s i (M k s i) = .inr (ci, fs)) (hcl : vwCl[ci]? = some (C, Tf, N)) (hn : As.length = n) (hcat : (st.map fun v => v.category).sum ≤ 8) (hlv : lv.length = nL) (hdd : dy + 1 ≤ d) (hnl : nLy ≤ 11) (hcm : cells + my ≤ mc ∧ slots + sy ≤ ms) (h22 : ∀ (r : Int32) (M' : Mem), post r M' → T.2 = 0 ∨ M' 22 0 0 = M 22 0 0)
    (kk : ∀ (r : Int32) (M' : Mem), post r M' → Z X G T Q (pc + 3) lv (.int r :: st) M' (cells + my) (slots + sy)) : Z X G T Q pc lv st0 M cells slots := by
  refine fun ls H locs hl hP hT hS => ?_
  refine va_calli (va_runV (As := As) (rest := st) ⟨E.ex, E.cb, E.ml, E.ow, E.ts⟩ (hM (xL X) G H.size) (cwV n E.ts (good_V hy hm) rfl rfl rfl ⟨hy.1, hy.2.1.1, hy.2.1.2, hy.2.2.1⟩ ⟨by rw [E.rm]; exact hdd, by rw [E.rm]; show 8 + (nLy + 11) + 30 * dy ≤ 30 * d; omega⟩) ⟨pcw_blind, va_recv (q0 := 0) E.kk (hP.one' ho hc) hcl rfl, fun U hU hW => ⟨by rw [hav], E.wi hP hS hU hW⟩⟩ rfl hn (hl.1.trans hlv) hst (lv_room hcat) hd ⟨by rw [E.rm]; exact hcm.1, by rw [E.rm]; exact hcm.2⟩) hS (fun q _ h => Aw.mono hS.1 q h) (fun q h => Aw.mono hS.1 q h) (fun r M' t H1 locs1 ht hvm hw hB hz1 hk1 hS1 => ?_)
  exact kk r M' hw ls H1 locs1 hl (by rw [← ht]; exact hB) (hT.call (h22 r M' hw) hk1) hS1
theorem z_is (E : EF X G cc nL own rt d mc ms) {y : MethodName} {cy : ByteArray} {nLy dy my sy : Nat} {rty : Option FieldType} {av : GT → List Value} {post : Int32 → Mem → Prop} {As st0 : List Value} (hM : CI y cy nLy rty dy my sy av M post) (hav : av G = As) (hst : st0 = As.reverse ++ st) (hy : CalS y C cy nLy rty n) (hm : Cond.methodLink own idx y ∈ GW) (hd : decode cc pc = .ok (.invokestatic idx, 3)) (hn : As.length = n) (hcat : (st.map fun v => v.category).sum ≤ 8) (hlv : lv.length = nL) (hdd : dy + 1 ≤ d) (hnl : nLy ≤ 11) (hcm : cells + my ≤ mc ∧ slots + sy ≤ ms) (h22 : ∀ (r : Int32) (M' : Mem), post r M' → T.2 = 0 ∨ M' 22 0 0 = M 22 0 0)
    (kk : ∀ (r : Int32) (M' : Mem), post r M' → Z X G T Q (pc + 3) lv (.int r :: st) M' (cells + my) (slots + sy)) : Z X G T Q pc lv st0 M cells slots := by
  refine fun ls H locs hl hP hT hS => ?_
  refine va_calli (va_runS (As := As) (rest := st) ⟨E.ex, E.cb, E.ml, E.ow, E.ts⟩ (hM (xL X) G H.size) (va_cwS n E.ts (good_S hy hm) rfl rfl rfl ⟨hy.2.1.1, hy.2.1.2, hy.2.2.1⟩ ⟨by rw [E.rm]; exact hdd, by rw [E.rm]; show 8 + (nLy + 11) + 30 * dy ≤ 30 * d; omega⟩) ⟨pcw_blind, fun U hU hW => ⟨by rw [hav], E.wi hP hS hU hW⟩⟩ rfl hn (hl.1.trans hlv) hst (lv_room hcat) hd ⟨by rw [E.rm]; exact hcm.1, by rw [E.rm]; exact hcm.2⟩) hS (fun q _ h => Aw.mono hS.1 q h) (fun q h => Aw.mono hS.1 q h) (fun r M' t H1 locs1 ht hvm hw hB hz1 hk1 hS1 => ?_)
  exact kk r M' hw ls H1 locs1 hl (by rw [← ht]; exact hB) (hT.call (h22 r M' hw) hk1) hS1
theorem z_isN (E : EF X G cc nL own rt d mc ms) {host : String} {y : MethodName} {cy : ByteArray} {nLy dy my sy : Nat} {rty : Option FieldType} {av : GT → List Value} {post : Int32 → Mem → Prop} {As st0 : List Value} (hM : CI y cy nLy rty dy my sy av M post) (hav : av G = As) (hst : st0 = As.reverse ++ st) (hy : CalS y C cy nLy rty n) (hm : (own, idx, y, host) ∈ NWm) (hd : decode cc pc = .ok (.invokestatic idx, 3)) (hn : As.length = n) (hcat : (st.map fun v => v.category).sum ≤ 8) (hlv : lv.length = nL) (hdd : dy + 1 ≤ d) (hnl : nLy ≤ 11) (hcm : cells + my ≤ mc ∧ slots + sy ≤ ms) (h22 : ∀ (r : Int32) (M' : Mem), post r M' → T.2 = 0 ∨ M' 22 0 0 = M 22 0 0)
    (kk : ∀ (r : Int32) (M' : Mem), post r M' → Z X G T Q (pc + 3) lv (.int r :: st) M' (cells + my) (slots + sy)) : Z X G T Q pc lv st0 M cells slots := by
  refine fun ls H locs hl hP hT hS => ?_
  refine va_calli (va_runSN (As := As) (rest := st) ⟨E.ex, E.cb, E.ml, E.ow, E.ts⟩ (hM (xL X) G H.size) ⟨va_cnB n E.ts (good_ws hy.2.2.2.2.2) rfl rfl rfl (E.wf.2.1 _ hm) (by rw [hy.1]; exact E.ts _ hy.2.2.2.2.1) ⟨hy.2.1.1, hy.2.1.2, hy.2.2.1⟩ ⟨by rw [E.rm]; exact hdd, by rw [E.rm]; show 8 + (nLy + 11) + 30 * dy ≤ 30 * d; omega⟩, E.ts _ hy.2.2.2.1, trivial⟩ ⟨pcw_blind, fun U hU hW => ⟨by rw [hav], E.wi hP hS hU hW⟩⟩ rfl hn (hl.1.trans hlv) hst (lv_room hcat) hd ⟨by rw [E.rm]; exact hcm.1, by rw [E.rm]; exact hcm.2⟩) hS (fun q _ h => Aw.mono hS.1 q h) (fun q h => Aw.mono hS.1 q h) (fun r M' t H1 locs1 ht hvm hw hB hz1 hk1 hS1 => ?_)
  exact kk r M' hw ls H1 locs1 hl (by rw [← ht]; exact hB) (hT.call (h22 r M' hw) hk1) hS1
def CV (y : MethodName) (cy : ByteArray) (nLy : Nat) (rty : Option FieldType) (dy my sy : Nat) (av : GT → List Value) (M : Mem) (post : Mem → Prop) : Prop := ∀ (l : Launch) (G : GT) (sz : Nat), Met l y (ws_ y cy nLy rty) (rmd dy my sy) (PcW G M (av G) sz) (va_Qv post (fun M' t => PW G M' t.heap) (Aw G sz)) my sy (Aw G sz)
def QV (X : PX) (G : GT) (post : Mem → Prop) (my sy : Nat) : State → Prop := MQ (xB X) (va_Qv post (fun M' t => PW G M' t.heap) (Aw G (xS X).heap.size)) (xA X) (xS X) my sy (Aw G (xS X).heap.size)
theorem CV.mk {y : MethodName} {dy my sy : Nat} {av : GT → List Value} {post : Mem → Prop} (hy : plainFor y = true) (hown : y.cls = own) (hcat : ∀ G, (av G).all (fun v => v.category == 1) = true) (hlen : ∀ G, (av G).length ≤ nL) {lv0 : GT → List (Option Value)} (hlv : ∀ G, (av G).map some ++ List.replicate (nL - (av G).length) none = lv0 G)
    (body : ∀ X G, EF X G cc nL own rt dy my sy → Z X G (0, 0) (QV X G post my sy) 0 (lv0 G) [] M 0 0) : CV y cc nL rt dy my sy av M post := by
  intro l G sz
  refine met_ofWF (cc := cc) (maxL := nL) (ret := rt) hy rfl ?_
  intro p e s m args below meth c s₁ B hml hv
  obtain ⟨rfl, hsz, h1, hP, hF⟩ := hv
  subst hsz
  have hts := atoms_spec (ws := ws_ y cc nL rt) B.pre
  have E : EF (p, l, e, rmd dy my sy, s, m, (av G).toArray, below, meth, c) G cc nL own rt dy my sy := ⟨B.exec, B.bytes, hml, by rw [← hown]; exact findClass_of_methodNamed B.named, fun w hw => hts w (List.mem_cons_of_mem _ hw), B.notSynchronized, B.returns, trivial, hF, rfl⟩
  rw [lg_entry_eq]
  have hl := hasL_entry (av G) (n := nL) (fun v hv => by simpa using List.all_eq_true.mp (hcat G) v hv) (hlen G)
  rw [hlv] at hl
  exact body _ G E _ s.heap [] hl hP (Or.inl rfl) va_S.rf
theorem z_vv (E : EF X G cc nL own rt d mc ms) {y : MethodName} {cy : ByteArray} {nLy dy my sy : Nat} {rty : Option FieldType} {av : GT → List Value} {post : Mem → Prop} {As st0 : List Value} (hM : CV y cy nLy rty dy my sy av M post) (hav : av G = .ref (ad G k s i) :: As) (hst : st0 = As.reverse ++ .ref (ad G k s i) :: st) (hy : Cal y C cy nLy rty n) (hm : Cond.methodLink own idx y ∈ GW) (hd : decode cc pc = .ok (.invokevirtual idx, 3)) (ho : okc k s i) (hc : conV G k s i (M k s i) = .inr (ci, fs)) (hcl : vwCl[ci]? = some (C, Tf, N)) (hn : As.length = n) (hcat : (st.map fun v => v.category).sum ≤ 8) (hlv : lv.length = nL) (hdd : dy + 1 ≤ d) (hnl : nLy ≤ 11) (hcm : cells + my ≤ mc ∧ slots + sy ≤ ms) (h22 : ∀ (M' : Mem), post M' → T.2 = 0 ∨ M' 22 0 0 = M 22 0 0)
    (kk : ∀ (M' : Mem), post M' → Z X G T Q (pc + 3) lv ( st) M' (cells + my) (slots + sy)) : Z X G T Q pc lv st0 M cells slots := by
  refine fun ls H locs hl hP hT hS => ?_
  refine va_callv (va_runV (As := As) (rest := st) ⟨E.ex, E.cb, E.ml, E.ow, E.ts⟩ (hM (xL X) G H.size) (cwV n E.ts (good_V hy hm) rfl rfl rfl ⟨hy.1, hy.2.1.1, hy.2.1.2, hy.2.2.1⟩ ⟨by rw [E.rm]; exact hdd, by rw [E.rm]; show 8 + (nLy + 11) + 30 * dy ≤ 30 * d; omega⟩) ⟨pcw_blind, va_recv (q0 := 0) E.kk (hP.one' ho hc) hcl rfl, fun U hU hW => ⟨by rw [hav], E.wi hP hS hU hW⟩⟩ rfl hn (hl.1.trans hlv) hst (lv_room hcat) hd ⟨by rw [E.rm]; exact hcm.1, by rw [E.rm]; exact hcm.2⟩) hS (fun q _ h => Aw.mono hS.1 q h) (fun q h => Aw.mono hS.1 q h) (fun M' t H1 locs1 ht hvm hw hB hz1 hk1 hS1 => ?_)
  exact kk M' hw ls H1 locs1 hl (by rw [← ht]; exact hB) (hT.call (h22 M' hw) hk1) hS1
theorem z_vs (E : EF X G cc nL own rt d mc ms) {y : MethodName} {cy : ByteArray} {nLy dy my sy : Nat} {rty : Option FieldType} {av : GT → List Value} {post : Mem → Prop} {As st0 : List Value} (hM : CV y cy nLy rty dy my sy av M post) (hav : av G = As) (hst : st0 = As.reverse ++ st) (hy : CalS y C cy nLy rty n) (hm : Cond.methodLink own idx y ∈ GW) (hd : decode cc pc = .ok (.invokestatic idx, 3)) (hn : As.length = n) (hcat : (st.map fun v => v.category).sum ≤ 8) (hlv : lv.length = nL) (hdd : dy + 1 ≤ d) (hnl : nLy ≤ 11) (hcm : cells + my ≤ mc ∧ slots + sy ≤ ms) (h22 : ∀ (M' : Mem), post M' → T.2 = 0 ∨ M' 22 0 0 = M 22 0 0)
    (kk : ∀ (M' : Mem), post M' → Z X G T Q (pc + 3) lv ( st) M' (cells + my) (slots + sy)) : Z X G T Q pc lv st0 M cells slots := by
  refine fun ls H locs hl hP hT hS => ?_
  refine va_callv (va_runS (As := As) (rest := st) ⟨E.ex, E.cb, E.ml, E.ow, E.ts⟩ (hM (xL X) G H.size) (va_cwS n E.ts (good_S hy hm) rfl rfl rfl ⟨hy.2.1.1, hy.2.1.2, hy.2.2.1⟩ ⟨by rw [E.rm]; exact hdd, by rw [E.rm]; show 8 + (nLy + 11) + 30 * dy ≤ 30 * d; omega⟩) ⟨pcw_blind, fun U hU hW => ⟨by rw [hav], E.wi hP hS hU hW⟩⟩ rfl hn (hl.1.trans hlv) hst (lv_room hcat) hd ⟨by rw [E.rm]; exact hcm.1, by rw [E.rm]; exact hcm.2⟩) hS (fun q _ h => Aw.mono hS.1 q h) (fun q h => Aw.mono hS.1 q h) (fun M' t H1 locs1 ht hvm hw hB hz1 hk1 hS1 => ?_)
  exact kk M' hw ls H1 locs1 hl (by rw [← ht]; exact hB) (hT.call (h22 M' hw) hk1) hS1
theorem z_vsN (E : EF X G cc nL own rt d mc ms) {host : String} {y : MethodName} {cy : ByteArray} {nLy dy my sy : Nat} {rty : Option FieldType} {av : GT → List Value} {post : Mem → Prop} {As st0 : List Value} (hM : CV y cy nLy rty dy my sy av M post) (hav : av G = As) (hst : st0 = As.reverse ++ st) (hy : CalS y C cy nLy rty n) (hm : (own, idx, y, host) ∈ NWm) (hd : decode cc pc = .ok (.invokestatic idx, 3)) (hn : As.length = n) (hcat : (st.map fun v => v.category).sum ≤ 8) (hlv : lv.length = nL) (hdd : dy + 1 ≤ d) (hnl : nLy ≤ 11) (hcm : cells + my ≤ mc ∧ slots + sy ≤ ms) (h22 : ∀ (M' : Mem), post M' → T.2 = 0 ∨ M' 22 0 0 = M 22 0 0)
    (kk : ∀ (M' : Mem), post M' → Z X G T Q (pc + 3) lv ( st) M' (cells + my) (slots + sy)) : Z X G T Q pc lv st0 M cells slots := by
  refine fun ls H locs hl hP hT hS => ?_
  refine va_callv (va_runSN (As := As) (rest := st) ⟨E.ex, E.cb, E.ml, E.ow, E.ts⟩ (hM (xL X) G H.size) ⟨va_cnB n E.ts (good_ws hy.2.2.2.2.2) rfl rfl rfl (E.wf.2.1 _ hm) (by rw [hy.1]; exact E.ts _ hy.2.2.2.2.1) ⟨hy.2.1.1, hy.2.1.2, hy.2.2.1⟩ ⟨by rw [E.rm]; exact hdd, by rw [E.rm]; show 8 + (nLy + 11) + 30 * dy ≤ 30 * d; omega⟩, E.ts _ hy.2.2.2.1, trivial⟩ ⟨pcw_blind, fun U hU hW => ⟨by rw [hav], E.wi hP hS hU hW⟩⟩ rfl hn (hl.1.trans hlv) hst (lv_room hcat) hd ⟨by rw [E.rm]; exact hcm.1, by rw [E.rm]; exact hcm.2⟩) hS (fun q _ h => Aw.mono hS.1 q h) (fun q h => Aw.mono hS.1 q h) (fun M' t H1 locs1 ht hvm hw hB hz1 hk1 hS1 => ?_)
  exact kk M' hw ls H1 locs1 hl (by rw [← ht]; exact hB) (hT.call (h22 M' hw) hk1) hS1
def CL (y : MethodName) (cy : ByteArray) (nLy : Nat) (rty : Option FieldType) (dy my sy : Nat) (av : GT → List Value) (M : Mem) (post : Int64 → Mem → Prop) : Prop := ∀ (l : Launch) (G : GT) (sz : Nat), Met l y (ws_ y cy nLy rty) (rmd dy my sy) (PcW G M (av G) sz) (va_Ql post (fun M' t => PW G M' t.heap) (Aw G sz)) my sy (Aw G sz)
def QL (X : PX) (G : GT) (post : Int64 → Mem → Prop) (my sy : Nat) : State → Prop := MQ (xB X) (va_Ql post (fun M' t => PW G M' t.heap) (Aw G (xS X).heap.size)) (xA X) (xS X) my sy (Aw G (xS X).heap.size)
theorem CL.mk {y : MethodName} {dy my sy : Nat} {av : GT → List Value} {post : Int64 → Mem → Prop} (hy : plainFor y = true) (hown : y.cls = own) (hcat : ∀ G, (av G).all (fun v => v.category == 1) = true) (hlen : ∀ G, (av G).length ≤ nL) {lv0 : GT → List (Option Value)} (hlv : ∀ G, (av G).map some ++ List.replicate (nL - (av G).length) none = lv0 G)
    (body : ∀ X G, EF X G cc nL own rt dy my sy → Z X G (0, 0) (QL X G post my sy) 0 (lv0 G) [] M 0 0) : CL y cc nL rt dy my sy av M post := by
  intro l G sz
  refine met_ofWF (cc := cc) (maxL := nL) (ret := rt) hy rfl ?_
  intro p e s m args below meth c s₁ B hml hv
  obtain ⟨rfl, hsz, h1, hP, hF⟩ := hv
  subst hsz
  have hts := atoms_spec (ws := ws_ y cc nL rt) B.pre
  have E : EF (p, l, e, rmd dy my sy, s, m, (av G).toArray, below, meth, c) G cc nL own rt dy my sy := ⟨B.exec, B.bytes, hml, by rw [← hown]; exact findClass_of_methodNamed B.named, fun w hw => hts w (List.mem_cons_of_mem _ hw), B.notSynchronized, B.returns, trivial, hF, rfl⟩
  rw [lg_entry_eq]
  have hl := hasL_entry (av G) (n := nL) (fun v hv => by simpa using List.all_eq_true.mp (hcat G) v hv) (hlen G)
  rw [hlv] at hl
  exact body _ G E _ s.heap [] hl hP (Or.inl rfl) va_S.rf
theorem z_lv (E : EF X G cc nL own rt d mc ms) {y : MethodName} {cy : ByteArray} {nLy dy my sy : Nat} {rty : Option FieldType} {av : GT → List Value} {post : Int64 → Mem → Prop} {As st0 : List Value} (hM : CL y cy nLy rty dy my sy av M post) (hav : av G = .ref (ad G k s i) :: As) (hst : st0 = As.reverse ++ .ref (ad G k s i) :: st) (hy : Cal y C cy nLy rty n) (hm : Cond.methodLink own idx y ∈ GW) (hd : decode cc pc = .ok (.invokevirtual idx, 3)) (ho : okc k s i) (hc : conV G k s i (M k s i) = .inr (ci, fs)) (hcl : vwCl[ci]? = some (C, Tf, N)) (hn : As.length = n) (hcat : (st.map fun v => v.category).sum ≤ 8) (hlv : lv.length = nL) (hdd : dy + 1 ≤ d) (hnl : nLy ≤ 11) (hcm : cells + my ≤ mc ∧ slots + sy ≤ ms) (h22 : ∀ (r : Int64) (M' : Mem), post r M' → T.2 = 0 ∨ M' 22 0 0 = M 22 0 0)
    (kk : ∀ (r : Int64) (M' : Mem), post r M' → Z X G T Q (pc + 3) lv (.long r :: st) M' (cells + my) (slots + sy)) : Z X G T Q pc lv st0 M cells slots := by
  refine fun ls H locs hl hP hT hS => ?_
  refine va_calll (va_runV (As := As) (rest := st) ⟨E.ex, E.cb, E.ml, E.ow, E.ts⟩ (hM (xL X) G H.size) (cwV n E.ts (good_V hy hm) rfl rfl rfl ⟨hy.1, hy.2.1.1, hy.2.1.2, hy.2.2.1⟩ ⟨by rw [E.rm]; exact hdd, by rw [E.rm]; show 8 + (nLy + 11) + 30 * dy ≤ 30 * d; omega⟩) ⟨pcw_blind, va_recv (q0 := 0) E.kk (hP.one' ho hc) hcl rfl, fun U hU hW => ⟨by rw [hav], E.wi hP hS hU hW⟩⟩ rfl hn (hl.1.trans hlv) hst (lv_room hcat) hd ⟨by rw [E.rm]; exact hcm.1, by rw [E.rm]; exact hcm.2⟩) hS (fun q _ h => Aw.mono hS.1 q h) (fun q h => Aw.mono hS.1 q h) (fun r M' t H1 locs1 ht hvm hw hB hz1 hk1 hS1 => ?_)
  exact kk r M' hw ls H1 locs1 hl (by rw [← ht]; exact hB) (hT.call (h22 r M' hw) hk1) hS1
theorem z_ls (E : EF X G cc nL own rt d mc ms) {y : MethodName} {cy : ByteArray} {nLy dy my sy : Nat} {rty : Option FieldType} {av : GT → List Value} {post : Int64 → Mem → Prop} {As st0 : List Value} (hM : CL y cy nLy rty dy my sy av M post) (hav : av G = As) (hst : st0 = As.reverse ++ st) (hy : CalS y C cy nLy rty n) (hm : Cond.methodLink own idx y ∈ GW) (hd : decode cc pc = .ok (.invokestatic idx, 3)) (hn : As.length = n) (hcat : (st.map fun v => v.category).sum ≤ 8) (hlv : lv.length = nL) (hdd : dy + 1 ≤ d) (hnl : nLy ≤ 11) (hcm : cells + my ≤ mc ∧ slots + sy ≤ ms) (h22 : ∀ (r : Int64) (M' : Mem), post r M' → T.2 = 0 ∨ M' 22 0 0 = M 22 0 0)
    (kk : ∀ (r : Int64) (M' : Mem), post r M' → Z X G T Q (pc + 3) lv (.long r :: st) M' (cells + my) (slots + sy)) : Z X G T Q pc lv st0 M cells slots := by
  refine fun ls H locs hl hP hT hS => ?_
  refine va_calll (va_runS (As := As) (rest := st) ⟨E.ex, E.cb, E.ml, E.ow, E.ts⟩ (hM (xL X) G H.size) (va_cwS n E.ts (good_S hy hm) rfl rfl rfl ⟨hy.2.1.1, hy.2.1.2, hy.2.2.1⟩ ⟨by rw [E.rm]; exact hdd, by rw [E.rm]; show 8 + (nLy + 11) + 30 * dy ≤ 30 * d; omega⟩) ⟨pcw_blind, fun U hU hW => ⟨by rw [hav], E.wi hP hS hU hW⟩⟩ rfl hn (hl.1.trans hlv) hst (lv_room hcat) hd ⟨by rw [E.rm]; exact hcm.1, by rw [E.rm]; exact hcm.2⟩) hS (fun q _ h => Aw.mono hS.1 q h) (fun q h => Aw.mono hS.1 q h) (fun r M' t H1 locs1 ht hvm hw hB hz1 hk1 hS1 => ?_)
  exact kk r M' hw ls H1 locs1 hl (by rw [← ht]; exact hB) (hT.call (h22 r M' hw) hk1) hS1
theorem z_lsN (E : EF X G cc nL own rt d mc ms) {host : String} {y : MethodName} {cy : ByteArray} {nLy dy my sy : Nat} {rty : Option FieldType} {av : GT → List Value} {post : Int64 → Mem → Prop} {As st0 : List Value} (hM : CL y cy nLy rty dy my sy av M post) (hav : av G = As) (hst : st0 = As.reverse ++ st) (hy : CalS y C cy nLy rty n) (hm : (own, idx, y, host) ∈ NWm) (hd : decode cc pc = .ok (.invokestatic idx, 3)) (hn : As.length = n) (hcat : (st.map fun v => v.category).sum ≤ 8) (hlv : lv.length = nL) (hdd : dy + 1 ≤ d) (hnl : nLy ≤ 11) (hcm : cells + my ≤ mc ∧ slots + sy ≤ ms) (h22 : ∀ (r : Int64) (M' : Mem), post r M' → T.2 = 0 ∨ M' 22 0 0 = M 22 0 0)
    (kk : ∀ (r : Int64) (M' : Mem), post r M' → Z X G T Q (pc + 3) lv (.long r :: st) M' (cells + my) (slots + sy)) : Z X G T Q pc lv st0 M cells slots := by
  refine fun ls H locs hl hP hT hS => ?_
  refine va_calll (va_runSN (As := As) (rest := st) ⟨E.ex, E.cb, E.ml, E.ow, E.ts⟩ (hM (xL X) G H.size) ⟨va_cnB n E.ts (good_ws hy.2.2.2.2.2) rfl rfl rfl (E.wf.2.1 _ hm) (by rw [hy.1]; exact E.ts _ hy.2.2.2.2.1) ⟨hy.2.1.1, hy.2.1.2, hy.2.2.1⟩ ⟨by rw [E.rm]; exact hdd, by rw [E.rm]; show 8 + (nLy + 11) + 30 * dy ≤ 30 * d; omega⟩, E.ts _ hy.2.2.2.1, trivial⟩ ⟨pcw_blind, fun U hU hW => ⟨by rw [hav], E.wi hP hS hU hW⟩⟩ rfl hn (hl.1.trans hlv) hst (lv_room hcat) hd ⟨by rw [E.rm]; exact hcm.1, by rw [E.rm]; exact hcm.2⟩) hS (fun q _ h => Aw.mono hS.1 q h) (fun q h => Aw.mono hS.1 q h) (fun r M' t H1 locs1 ht hvm hw hB hz1 hk1 hS1 => ?_)
  exact kk r M' hw ls H1 locs1 hl (by rw [← ht]; exact hB) (hT.call (h22 r M' hw) hk1) hS1
def CD (y : MethodName) (cy : ByteArray) (nLy : Nat) (rty : Option FieldType) (dy my sy : Nat) (av : GT → List Value) (M : Mem) (post : UInt64 → Mem → Prop) : Prop := ∀ (l : Launch) (G : GT) (sz : Nat), Met l y (ws_ y cy nLy rty) (rmd dy my sy) (PcW G M (av G) sz) (va_Qd post (fun M' t => PW G M' t.heap) (Aw G sz)) my sy (Aw G sz)
def QD (X : PX) (G : GT) (post : UInt64 → Mem → Prop) (my sy : Nat) : State → Prop := MQ (xB X) (va_Qd post (fun M' t => PW G M' t.heap) (Aw G (xS X).heap.size)) (xA X) (xS X) my sy (Aw G (xS X).heap.size)
theorem CD.mk {y : MethodName} {dy my sy : Nat} {av : GT → List Value} {post : UInt64 → Mem → Prop} (hy : plainFor y = true) (hown : y.cls = own) (hcat : ∀ G, (av G).all (fun v => v.category == 1) = true) (hlen : ∀ G, (av G).length ≤ nL) {lv0 : GT → List (Option Value)} (hlv : ∀ G, (av G).map some ++ List.replicate (nL - (av G).length) none = lv0 G)
    (body : ∀ X G, EF X G cc nL own rt dy my sy → Z X G (0, 0) (QD X G post my sy) 0 (lv0 G) [] M 0 0) : CD y cc nL rt dy my sy av M post := by
  intro l G sz
  refine met_ofWF (cc := cc) (maxL := nL) (ret := rt) hy rfl ?_
  intro p e s m args below meth c s₁ B hml hv
  obtain ⟨rfl, hsz, h1, hP, hF⟩ := hv
  subst hsz
  have hts := atoms_spec (ws := ws_ y cc nL rt) B.pre
  have E : EF (p, l, e, rmd dy my sy, s, m, (av G).toArray, below, meth, c) G cc nL own rt dy my sy := ⟨B.exec, B.bytes, hml, by rw [← hown]; exact findClass_of_methodNamed B.named, fun w hw => hts w (List.mem_cons_of_mem _ hw), B.notSynchronized, B.returns, trivial, hF, rfl⟩
  rw [lg_entry_eq]
  have hl := hasL_entry (av G) (n := nL) (fun v hv => by simpa using List.all_eq_true.mp (hcat G) v hv) (hlen G)
  rw [hlv] at hl
  exact body _ G E _ s.heap [] hl hP (Or.inl rfl) va_S.rf
theorem z_dv (E : EF X G cc nL own rt d mc ms) {y : MethodName} {cy : ByteArray} {nLy dy my sy : Nat} {rty : Option FieldType} {av : GT → List Value} {post : UInt64 → Mem → Prop} {As st0 : List Value} (hM : CD y cy nLy rty dy my sy av M post) (hav : av G = .ref (ad G k s i) :: As) (hst : st0 = As.reverse ++ .ref (ad G k s i) :: st) (hy : Cal y C cy nLy rty n) (hm : Cond.methodLink own idx y ∈ GW) (hd : decode cc pc = .ok (.invokevirtual idx, 3)) (ho : okc k s i) (hc : conV G k s i (M k s i) = .inr (ci, fs)) (hcl : vwCl[ci]? = some (C, Tf, N)) (hn : As.length = n) (hcat : (st.map fun v => v.category).sum ≤ 8) (hlv : lv.length = nL) (hdd : dy + 1 ≤ d) (hnl : nLy ≤ 11) (hcm : cells + my ≤ mc ∧ slots + sy ≤ ms) (h22 : ∀ (r : UInt64) (M' : Mem), post r M' → T.2 = 0 ∨ M' 22 0 0 = M 22 0 0)
    (kk : ∀ (r : UInt64) (M' : Mem), post r M' → Z X G T Q (pc + 3) lv (.double r :: st) M' (cells + my) (slots + sy)) : Z X G T Q pc lv st0 M cells slots := by
  refine fun ls H locs hl hP hT hS => ?_
  refine va_calld (va_runV (As := As) (rest := st) ⟨E.ex, E.cb, E.ml, E.ow, E.ts⟩ (hM (xL X) G H.size) (cwV n E.ts (good_V hy hm) rfl rfl rfl ⟨hy.1, hy.2.1.1, hy.2.1.2, hy.2.2.1⟩ ⟨by rw [E.rm]; exact hdd, by rw [E.rm]; show 8 + (nLy + 11) + 30 * dy ≤ 30 * d; omega⟩) ⟨pcw_blind, va_recv (q0 := 0) E.kk (hP.one' ho hc) hcl rfl, fun U hU hW => ⟨by rw [hav], E.wi hP hS hU hW⟩⟩ rfl hn (hl.1.trans hlv) hst (lv_room hcat) hd ⟨by rw [E.rm]; exact hcm.1, by rw [E.rm]; exact hcm.2⟩) hS (fun q _ h => Aw.mono hS.1 q h) (fun q h => Aw.mono hS.1 q h) (fun r M' t H1 locs1 ht hvm hw hB hz1 hk1 hS1 => ?_)
  exact kk r M' hw ls H1 locs1 hl (by rw [← ht]; exact hB) (hT.call (h22 r M' hw) hk1) hS1
theorem z_ds (E : EF X G cc nL own rt d mc ms) {y : MethodName} {cy : ByteArray} {nLy dy my sy : Nat} {rty : Option FieldType} {av : GT → List Value} {post : UInt64 → Mem → Prop} {As st0 : List Value} (hM : CD y cy nLy rty dy my sy av M post) (hav : av G = As) (hst : st0 = As.reverse ++ st) (hy : CalS y C cy nLy rty n) (hm : Cond.methodLink own idx y ∈ GW) (hd : decode cc pc = .ok (.invokestatic idx, 3)) (hn : As.length = n) (hcat : (st.map fun v => v.category).sum ≤ 8) (hlv : lv.length = nL) (hdd : dy + 1 ≤ d) (hnl : nLy ≤ 11) (hcm : cells + my ≤ mc ∧ slots + sy ≤ ms) (h22 : ∀ (r : UInt64) (M' : Mem), post r M' → T.2 = 0 ∨ M' 22 0 0 = M 22 0 0)
    (kk : ∀ (r : UInt64) (M' : Mem), post r M' → Z X G T Q (pc + 3) lv (.double r :: st) M' (cells + my) (slots + sy)) : Z X G T Q pc lv st0 M cells slots := by
  refine fun ls H locs hl hP hT hS => ?_
  refine va_calld (va_runS (As := As) (rest := st) ⟨E.ex, E.cb, E.ml, E.ow, E.ts⟩ (hM (xL X) G H.size) (va_cwS n E.ts (good_S hy hm) rfl rfl rfl ⟨hy.2.1.1, hy.2.1.2, hy.2.2.1⟩ ⟨by rw [E.rm]; exact hdd, by rw [E.rm]; show 8 + (nLy + 11) + 30 * dy ≤ 30 * d; omega⟩) ⟨pcw_blind, fun U hU hW => ⟨by rw [hav], E.wi hP hS hU hW⟩⟩ rfl hn (hl.1.trans hlv) hst (lv_room hcat) hd ⟨by rw [E.rm]; exact hcm.1, by rw [E.rm]; exact hcm.2⟩) hS (fun q _ h => Aw.mono hS.1 q h) (fun q h => Aw.mono hS.1 q h) (fun r M' t H1 locs1 ht hvm hw hB hz1 hk1 hS1 => ?_)
  exact kk r M' hw ls H1 locs1 hl (by rw [← ht]; exact hB) (hT.call (h22 r M' hw) hk1) hS1
theorem z_dsN (E : EF X G cc nL own rt d mc ms) {host : String} {y : MethodName} {cy : ByteArray} {nLy dy my sy : Nat} {rty : Option FieldType} {av : GT → List Value} {post : UInt64 → Mem → Prop} {As st0 : List Value} (hM : CD y cy nLy rty dy my sy av M post) (hav : av G = As) (hst : st0 = As.reverse ++ st) (hy : CalS y C cy nLy rty n) (hm : (own, idx, y, host) ∈ NWm) (hd : decode cc pc = .ok (.invokestatic idx, 3)) (hn : As.length = n) (hcat : (st.map fun v => v.category).sum ≤ 8) (hlv : lv.length = nL) (hdd : dy + 1 ≤ d) (hnl : nLy ≤ 11) (hcm : cells + my ≤ mc ∧ slots + sy ≤ ms) (h22 : ∀ (r : UInt64) (M' : Mem), post r M' → T.2 = 0 ∨ M' 22 0 0 = M 22 0 0)
    (kk : ∀ (r : UInt64) (M' : Mem), post r M' → Z X G T Q (pc + 3) lv (.double r :: st) M' (cells + my) (slots + sy)) : Z X G T Q pc lv st0 M cells slots := by
  refine fun ls H locs hl hP hT hS => ?_
  refine va_calld (va_runSN (As := As) (rest := st) ⟨E.ex, E.cb, E.ml, E.ow, E.ts⟩ (hM (xL X) G H.size) ⟨va_cnB n E.ts (good_ws hy.2.2.2.2.2) rfl rfl rfl (E.wf.2.1 _ hm) (by rw [hy.1]; exact E.ts _ hy.2.2.2.2.1) ⟨hy.2.1.1, hy.2.1.2, hy.2.2.1⟩ ⟨by rw [E.rm]; exact hdd, by rw [E.rm]; show 8 + (nLy + 11) + 30 * dy ≤ 30 * d; omega⟩, E.ts _ hy.2.2.2.1, trivial⟩ ⟨pcw_blind, fun U hU hW => ⟨by rw [hav], E.wi hP hS hU hW⟩⟩ rfl hn (hl.1.trans hlv) hst (lv_room hcat) hd ⟨by rw [E.rm]; exact hcm.1, by rw [E.rm]; exact hcm.2⟩) hS (fun q _ h => Aw.mono hS.1 q h) (fun q h => Aw.mono hS.1 q h) (fun r M' t H1 locs1 ht hvm hw hB hz1 hk1 hS1 => ?_)
  exact kk r M' hw ls H1 locs1 hl (by rw [← ht]; exact hB) (hT.call (h22 r M' hw) hk1) hS1
theorem z_iret (E : EF X G cc nL own (some .int) d mc ms) {v : Int32} {post : Int32 → Mem → Prop} (hd : decode cc pc = .ok (.ireturn, 1)) (hp : post v M) : Z X G T (QI X G post cells slots) pc lv [.int v] M cells slots := fun ls H locs hl hP hT hS =>
  W.iret E.ex E.cb E.ret (fun t ht hW => ⟨⟨v, M, rfl, hp, by show PW G M t.heap; rw [ht]; exact hP⟩, hS.F ht⟩) hS.2.2 hd E.lk
theorem z_zret (E : EF X G cc nL own (some .boolean) d mc ms) {v : Int32} {post : Int32 → Mem → Prop} (hd : decode cc pc = .ok (.ireturn, 1)) (hn : v = 0 ∨ v = 1) (hp : post v M) : Z X G T (QI X G post cells slots) pc lv [.int v] M cells slots := fun ls H locs hl hP hT hS =>
  W.zret E.ex E.cb E.ret (by rcases hn with rfl | rfl <;> rfl) (fun t ht hW => ⟨⟨v, M, rfl, hp, by show PW G M t.heap; rw [ht]; exact hP⟩, hS.F ht⟩) hS.2.2 hd E.lk
theorem z_vret (E : EF X G cc nL own none d mc ms) {post : Mem → Prop} (hd : decode cc pc = .ok (.return_, 1)) (hp : post M) : Z X G T (QV X G post cells slots) pc lv [] M cells slots := fun ls H locs hl hP hT hS =>
  W.vret E.ex E.cb E.ret (fun t ht hW => ⟨⟨M, rfl, hp, by show PW G M t.heap; rw [ht]; exact hP⟩, hS.F ht⟩) hS.2.2 hd E.lk
theorem z_lret (E : EF X G cc nL own (some .long) d mc ms) {v : Int64} {post : Int64 → Mem → Prop} (hd : decode cc pc = .ok (.lreturn, 1)) (hp : post v M) : Z X G T (QL X G post cells slots) pc lv [.long v] M cells slots := fun ls H locs hl hP hT hS =>
  W.lret E.ex E.cb E.ret (fun t ht hW => ⟨⟨v, M, rfl, hp, by show PW G M t.heap; rw [ht]; exact hP⟩, hS.F ht⟩) hS.2.2 hd E.lk
theorem z_dret (E : EF X G cc nL own (some .double) d mc ms) {v : UInt64} {post : UInt64 → Mem → Prop} (hd : decode cc pc = .ok (.dreturn, 1)) (hp : post v M) : Z X G T (QD X G post cells slots) pc lv [.double v] M cells slots := fun ls H locs hl hP hT hS =>
  W.dret E.ex E.cb E.ret (fun t ht hW => ⟨⟨v, M, rfl, hp, by show PW G M t.heap; rw [ht]; exact hP⟩, hS.F ht⟩) hS.2.2 hd E.lk
end ZF
