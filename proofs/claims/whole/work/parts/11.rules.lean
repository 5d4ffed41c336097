/-! rules for fields, arrays, calls, returns -/
def Fi (own : String) (idx ci : Nat) (C : String) (Tf : u_T) (N kf : Nat) : Prop := vwCl[ci]? = some (C, Tf, N) ∧ kf < N ∧ Cond.fieldLink own idx (Tf kf).1 (Tf kf).2.1 (Tf kf).2.2.1 ∈ GW ∧ (∀ w ∈ u_ws C Tf N, w ∈ GW)
def FiN (own : String) (idx ci : Nat) (C : String) (Tf : u_T) (N kf : Nat) (host : String) : Prop := vwCl[ci]? = some (C, Tf, N) ∧ kf < N ∧ (own, idx, (Tf kf).1, (Tf kf).2.1, (Tf kf).2.2.1, host) ∈ NWf ∧ (∀ w ∈ u_ws C Tf N, w ∈ GW)
def Fp (Tf : u_T) (N kf : Nat) : Prop := ∃ ty0 : Nat → FieldType, (∀ k, k < N → parseFieldDescriptor (Tf k).2.2.1 = some (ty0 k)) ∧ (∀ a, a < N → ∀ b, b < N → a ≠ b → (Tf a).2.1 ≠ (Tf b).2.1) ∧ (Tf kf).2.2.2 = false ∧ parseFieldDescriptor (Tf kf).2.2.1 = some .int
section ZF
variable {X : PX} {G : GT} {T : Nat × Nat} {cc : ByteArray} {nL : Nat} {own : String} {rt : Option FieldType} {d mc ms : Nat} {Q : State → Prop} {pc : Nat} {lv r : List (Option Value)} {st : List Value} {M : Mem} {cells slots : Nat}
variable {idx ci kf N k s i n j t0 : Nat} {C : String} {Tf : u_T} {fs : List Value}
theorem z_get (E : EF X G cc nL own rt d mc ms) {v : Value} (hd : decode cc pc = .ok (.getfield idx, 3)) (hf : Fi own idx ci C Tf N kf) (ho : okc k s i) (hc : conV G k s i (M k s i) = .inr (ci, fs)) (hv : fs[kf]? = some v) (kk : Z X G T Q (pc + 3) lv (v :: st) M cells slots) : Z X G T Q pc lv (.ref (ad G k s i) :: st) M cells slots := fun ls H locs hl hP hT hS =>
  va_get E.ex E.cb E.ts hf.2.2.2 E.ow E.kk (hP.one' ho hc) 0 rfl hf.1 kf hf.2.1 (E.ts _ hf.2.2.1) (fun _ h => h) hv hd (kk ls H locs hl hP hT hS)
theorem z_getN (E : EF X G cc nL own rt d mc ms) {v : Value} {host : String} (hd : decode cc pc = .ok (.getfield idx, 3)) (hf : FiN own idx ci C Tf N kf host) (ho : okc k s i) (hc : conV G k s i (M k s i) = .inr (ci, fs)) (hv : fs[kf]? = some v) (kk : Z X G T Q (pc + 3) lv (v :: st) M cells slots) : Z X G T Q pc lv (.ref (ad G k s i) :: st) M cells slots := fun ls H locs hl hP hT hS =>
  va_getN E.ex E.cb E.ts hf.2.2.2 E.ow E.kk (hP.one' ho hc) 0 rfl hf.1 kf hf.2.1 (va_Nw.use rfl (E.wf.2.2.1 _ hf.2.2.1)) (fun _ h => h) hv hd (kk ls H locs hl hP hT hS)
theorem z_put (E : EF X G cc nL own rt d mc ms) {x : Int32} (hd : decode cc pc = .ok (.putfield idx, 3)) (hf : Fi own idx ci C Tf N kf) (hp : Fp Tf N kf) (ho : okc k s i) (hc : conV G k s i (M k s i) = .inr (ci, fs)) (hs : conV G k s i (upd (M k s i) kf x) = .inr (ci, fs.set kf (.int x))) (hl9 : kf < fs.length) (kk : Z X G T Q (pc + 3) lv st (mset M k s i kf x) cells slots) : Z X G T Q pc lv (.int x :: .ref (ad G k s i) :: st) M cells slots := by
  refine fun ls H locs hl hP hT hS => ?_
  obtain ⟨ty0, hty, hnm, hfin, hdd⟩ := hp
  have hP1 := hP.one' ho hc
  have hap := va_apart (own := own) E.ts hf.2.2.2 ty0 hty hnm E.kk hf.1
  obtain ⟨r, h1, cell, q1, q2, q3, q4⟩ := hP1 0 _ rfl
  have hr : r = (C, Tf, N) := Option.some.inj (h1.symm.trans hf.1)
  subst hr
  obtain ⟨hS', hfc, kC, hkC, hkind⟩ := E.kk.1 ci _ hf.1
  obtain ⟨cf, kf', fi, f, hi, hsl⟩ := hS' kf hf.2.1
  have hlay := E.ts _ (hf.2.2.2 _ (u_in_lay hf.2.1))
  unfold u_lay at hlay
  rw [if_neg (by rw [hfin]; decide)] at hlay
  have hst := (u_facts hfc hkC (u_lays E.ts hf.2.2.2 hf.2.1) hi).1
  have h6 := u_store hfc hkC hkind hlay hi hdd (v := .int x) (vp_nar_int x) rfl
  refine W.putK E.ex E.cb (f := f) ⟨E.ow, E.ts _ hf.2.2.1, ⟨_, _, _, hi⟩, hst⟩ (by rw [q2]; exact h6) q1 q3 (by rw [hsl]; exact k2_hasslot (q4 kf hf.2.1)) rfl rfl hd fun H' e1 e2 e3 => ?_
  rw [hsl] at e1 ⊢
  refine kk ls H' _ hl (hP.put ho ?_ e3) (hT.put ho e3) (hS.put e2 e3 (Aw.ad ho))
  rw [hs]
  exact ⟨_, hf.1, t_OB.to (V := updV (vp_V fs) kf (.int x)) ⟨_, e1, q2, q3, t_set q4 hap hf.2.1 (.int x)⟩ (fun j _ => vp_updV_set hl9 (.int x) j)⟩
theorem z_putN (E : EF X G cc nL own rt d mc ms) {x : Int32} {host : String} (hd : decode cc pc = .ok (.putfield idx, 3)) (hf : FiN own idx ci C Tf N kf host) (hp : Fp Tf N kf) (ho : okc k s i) (hc : conV G k s i (M k s i) = .inr (ci, fs)) (hs : conV G k s i (upd (M k s i) kf x) = .inr (ci, fs.set kf (.int x))) (hl9 : kf < fs.length) (kk : Z X G T Q (pc + 3) lv st (mset M k s i kf x) cells slots) : Z X G T Q pc lv (.int x :: .ref (ad G k s i) :: st) M cells slots := by
  refine fun ls H locs hl hP hT hS => ?_
  obtain ⟨ty0, hty, hnm, hfin, hdd⟩ := hp
  have hP1 := hP.one' ho hc
  have hap := va_apart (own := own) E.ts hf.2.2.2 ty0 hty hnm E.kk hf.1
  obtain ⟨r, h1, cell, q1, q2, q3, q4⟩ := hP1 0 _ rfl
  have hr : r = (C, Tf, N) := Option.some.inj (h1.symm.trans hf.1)
  subst hr
  obtain ⟨hS', hfc, kC, hkC, hkind⟩ := E.kk.1 ci _ hf.1
  obtain ⟨cf, kf', fi, f, hi, hsl⟩ := hS' kf hf.2.1
  have hlay := E.ts _ (hf.2.2.2 _ (u_in_lay hf.2.1))
  unfold u_lay at hlay
  rw [if_neg (by rw [hfin]; decide)] at hlay
  have hst := (u_facts hfc hkC (u_lays E.ts hf.2.2.2 hf.2.1) hi).1
  have h6 := u_store hfc hkC hkind hlay hi hdd (v := .int x) (vp_nar_int x) rfl
  refine va_WputK E.ex E.cb (f := f) E.ow (va_Nw.use rfl (E.wf.2.2.1 _ hf.2.2.1)) hi hst (by rw [q2]; exact h6) q1 q3 (by rw [hsl]; exact k2_hasslot (q4 kf hf.2.1)) rfl rfl hd fun H' e1 e2 e3 => ?_
  rw [hsl] at e1 ⊢
  refine kk ls H' _ hl (hP.put ho ?_ e3) (hT.put ho e3) (hS.put e2 e3 (Aw.ad ho))
  rw [hs]
  exact ⟨_, hf.1, t_OB.to (V := updV (vp_V fs) kf (.int x)) ⟨_, e1, q2, q3, t_set q4 hap hf.2.1 (.int x)⟩ (fun j _ => vp_updV_set hl9 (.int x) j)⟩
theorem n31 {n : Nat} (h : n ≤ 1000) : n < 2 ^ 31 := Nat.lt_of_le_of_lt h (by decide)
theorem z_iald (E : EF X G cc nL own rt d mc ms) {ix : Int32} (hd : decode cc pc = .ok (.iaload, 1)) (ho : okc k s i) (hc : conV G k s i (M k s i) = .inl (G.2.1 0, (n, .inl (M k s i)))) (hj : ix = nI j) (hlt : j < n) (hn : n ≤ 1000) (kk : Z X G T Q (pc + 1) lv (.int (M k s i j) :: st) M cells slots) : Z X G T Q pc lv (.int ix :: .ref (ad G k s i) :: st) M cells slots := by
  refine fun ls H locs hl hP hT hS => ?_
  subst hj
  refine va_iald E.ex E.cb E.kk (hP.one' ho hc) 0 0 rfl rfl (vp_in_nI hlt (n31 hn)) hd ?_
  rw [nI_clamp (Nat.lt_trans hlt (n31 hn))]
  exact kk ls H locs hl hP hT hS
theorem z_iast (E : EF X G cc nL own rt d mc ms) {ix x : Int32} (hd : decode cc pc = .ok (.iastore, 1)) (ho : okc k s i) (hc : ∀ f, conV G k s i f = .inl (G.2.1 0, (n, .inl f))) (hj : ix = nI j) (hlt : j < n) (hn : n ≤ 1000) (kk : Z X G T Q (pc + 1) lv st (mset M k s i j x) cells slots) : Z X G T Q pc lv (.int x :: .int ix :: .ref (ad G k s i) :: st) M cells slots := by
  refine fun ls H locs hl hP hT hS => ?_
  subst hj
  refine W.iast E.ex E.cb (hP.one' ho (hc _) 0 _ rfl) ((E.kk.2 0 _ rfl).1 n (fun j => .int (M k s i j))) (fun q => by cases q) (by show ¬ (_ < 0 ∨ (arrV _ _ _).slots.size ≤ _); rw [arrV_size]; exact vp_in_nI hlt (n31 hn)) rfl rfl hd fun H1 e z oq => ?_
  refine kk ls H1 _ hl (hP.put ho ?_ oq) (hT.put ho oq) (hS.put z oq (Aw.ad ho))
  rw [hc]
  rw [nI_clamp (Nat.lt_trans hlt (n31 hn))] at e
  show H1[ad G k s i]? = some (vp_cell _ _)
  rw [e, vp_cell_i, vp_cell_i, arrV_store]
  congr 2
  funext q
  by_cases hq : q = j
  · subst hq
    simp [updV, upd]
  · simp [updV, upd, hq]
theorem z_alen (E : EF X G cc nL own rt d mc ms) {cA : ClassId} {ty : FieldType} {x : vp_A} {v : Int32} (hd : decode cc pc = .ok (.arraylength, 1)) (ho : okc k s i) (hc : conV G k s i (M k s i) = .inl (cA, x)) (ht : (tys G)[t0]? = some (cA, ty)) (hv : Int32.ofNat x.1 = v) (kk : Z X G T Q (pc + 1) lv (.int v :: st) M cells slots) : Z X G T Q pc lv (.ref (ad G k s i) :: st) M cells slots := fun ls H locs hl hP hT hS =>
  va_alen E.ex E.cb E.kk (hP.one' ho hc) 0 t0 rfl ht hv hd (kk ls H locs hl hP hT hS)
theorem z_aald (E : EF X G cc nL own rt d mc ms) {ix : Int32} {cA : ClassId} {a : Nat} {g : Nat → Option Nat} (hd : decode cc pc = .ok (.aaload, 1)) (ho : okc k s i) (hc : conV G k s i (M k s i) = .inl (cA, (n, .inr (.inr (.inr (.inr g)))))) (ht : (tys G)[t0]? = some (cA, .object C)) (hj : ix = nI j) (hlt : j < n) (hn : n ≤ 1000) (hg : g j = some a) (kk : Z X G T Q (pc + 1) lv (.ref a :: st) M cells slots) : Z X G T Q pc lv (.int ix :: .ref (ad G k s i) :: st) M cells slots := by
  refine fun ls H locs hl hP hT hS => ?_
  subst hj
  refine va_aldq E.ex E.cb E.kk (hP.one' ho hc) 0 t0 rfl ht (vp_in_nI hlt (n31 hn)) hd ?_
  rw [nI_clamp (Nat.lt_trans hlt (n31 hn)), hg]
  exact kk ls H locs hl hP hT hS
/-- the table FROM -/
theorem z_from8 (E : EF X G cc nL RX8 rt d mc ms) (hd : decode cc pc = .ok (.getstatic idx, 3)) (hf : Cond.fieldLink RX8 idx RX8 "FROM" "[I" ∈ GW) (kk : Z X G T Q (pc + 3) lv (.ref (G.2.2 1) :: st) M cells slots) : Z X G T Q pc lv st M cells slots := fun ls H locs hl hP hT hS =>
  va_gets E.ex E.cb E.wf.2.2.2.1 hS E.ow (E.ts _ hf) (fun _ h => h) hd (kk ls H locs hl hP hT hS)
theorem z_from7 (E : EF X G cc nL own rt d mc ms) {host : String} (hd : decode cc pc = .ok (.getstatic idx, 3)) (hf : (own, idx, RX8, "FROM", "[I", host) ∈ NWf) (kk : Z X G T Q (pc + 3) lv (.ref (G.2.2 1) :: st) M cells slots) : Z X G T Q pc lv st M cells slots := fun ls H locs hl hP hT hS =>
  va_getsN E.ex E.cb E.wf.2.2.2.1 hS E.ow (va_Nw.use rfl (E.wf.2.2.1 _ hf)) (fun _ h => h) hd (kk ls H locs hl hP hT hS)
theorem z_tald (E : EF X G cc nL own rt d mc ms) {ix : Int32} (hd : decode cc pc = .ok (.iaload, 1)) (hj : ix = nI j) (hlt : j < 4) (kk : Z X G T Q (pc + 1) lv (.int (fromV j) :: st) M cells slots) : Z X G T Q pc lv (.int ix :: .ref (G.2.2 1) :: st) M cells slots := by
  refine fun ls H locs hl hP hT hS => ?_
  subst hj
  refine va_ti E.ex E.cb E.wf.2.2.2.2.1 hS (vp_in_nI hlt (by decide)) ?_ hd (kk ls H locs hl hP hT hS)
  rw [nI_clamp (Nat.lt_trans hlt (by decide))]
/-- Math.max, Math.min -/
theorem z_max (E : EF X G cc nL own rt d mc ms) {x y : Int32} (hd : decode cc pc = .ok (.invokestatic idx, 3)) (hm : Cond.methodLink own idx yJ9_max_7cf53 ∈ GW) (hlv : lv.length = nL) (hdd : 1 ≤ d) (hcat : (st.map fun v => v.category).sum ≤ 8) (hcm : cells ≤ mc ∧ slots ≤ ms) (kk : Z X G T Q (pc + 3) lv (.int (if x < y then y else x) :: st) M cells slots) : Z X G T Q pc lv (.int y :: .int x :: st) M cells slots := fun ls H locs hl hP hT hS =>
  va_mmax E.ex E.cb (by rw [E.ml, hl.1, hlv]) E.ow (E.ts _ hm) (E.ts _ stJ9_max_7cf53) (E.ts _ inJ9) (E.ts _ cdJ9_max_7cf53) (by rw [E.rm]; exact hdd) (by rw [E.rm]; show _ + 13 ≤ 30 * d; omega) (by rw [E.rm]; exact hcm.1) (by rw [E.rm]; exact hcm.2) hd (kk ls H locs hl hP hT hS)
theorem z_min (E : EF X G cc nL own rt d mc ms) {x y : Int32} (hd : decode cc pc = .ok (.invokestatic idx, 3)) (hm : Cond.methodLink own idx yJ9_min_7cf53 ∈ GW) (hlv : lv.length = nL) (hdd : 1 ≤ d) (hcat : (st.map fun v => v.category).sum ≤ 8) (hcm : cells ≤ mc ∧ slots ≤ ms) (kk : Z X G T Q (pc + 3) lv (.int (if y < x then y else x) :: st) M cells slots) : Z X G T Q pc lv (.int y :: .int x :: st) M cells slots := fun ls H locs hl hP hT hS =>
  va_mmin E.ex E.cb (by rw [E.ml, hl.1, hlv]) E.ow (E.ts _ hm) (E.ts _ stJ9_min_7cf53) (E.ts _ inJ9) (E.ts _ cdJ9_min_7cf53) (by rw [E.rm]; exact hdd) (by rw [E.rm]; show _ + 13 ≤ 30 * d; omega) (by rw [E.rm]; exact hcm.1) (by rw [E.rm]; exact hcm.2) hd (kk ls H locs hl hP hT hS)
/-! contracts -/
def Cal (y : MethodName) (C : String) (cy : ByteArray) (nLy : Nat) (rty : Option FieldType) (n : Nat) : Prop := y.cls = C ∧ (y.cls ≠ "java/lang/invoke/MethodHandle" ∧ y.cls ≠ "java/lang/invoke/VarHandle") ∧ (parseMethodDescriptor y.desc).map (fun d => d.parameters.length) = some n ∧ Cond.instanceMethod y ∈ GW ∧ Cond.selects C y y ∈ GW ∧ Cond.initialized C ∈ GW ∧ Cond.code y cy nLy rty ∈ GW
def CalS (y : MethodName) (C : String) (cy : ByteArray) (nLy : Nat) (rty : Option FieldType) (n : Nat) : Prop := y.cls = C ∧ (y.cls ≠ "java/lang/invoke/MethodHandle" ∧ y.cls ≠ "java/lang/invoke/VarHandle") ∧ (parseMethodDescriptor y.desc).map (fun d => d.parameters.length) = some n ∧ Cond.static y ∈ GW ∧ Cond.initialized C ∈ GW ∧ Cond.code y cy nLy rty ∈ GW
theorem good_ws {y : MethodName} {cy : ByteArray} {nLy : Nat} {rty : Option FieldType} (h : Cond.code y cy nLy rty ∈ GW) : GoodIn GW (ws_ y cy nLy rty) := fun w hw => by
  rcases List.mem_cons.mp hw with rfl | hw
  · exact ⟨h, gw_good h⟩
  · exact ⟨hw, gw_good hw⟩
theorem good_V {own : String} {idx : Nat} {y : MethodName} {C : String} {cy : ByteArray} {nLy n : Nat} {rty : Option FieldType} (hy : Cal y C cy nLy rty n) (hm : Cond.methodLink own idx y ∈ GW) : GoodIn GW (wsV own idx C y (ws_ y cy nLy rty)) := by
  obtain ⟨-, -, -, h1, h2, h3, h4⟩ := hy
  intro w hw
  simp only [wsV, List.cons_append, List.nil_append, List.mem_cons] at hw
  rcases hw with rfl | rfl | rfl | rfl | hw
  · exact ⟨hm, gw_good hm⟩
  · exact ⟨h1, gw_good h1⟩
  · exact ⟨h2, gw_good h2⟩
  · exact ⟨h3, gw_good h3⟩
  · exact good_ws h4 w hw
theorem good_S {own : String} {idx : Nat} {y : MethodName} {C : String} {cy : ByteArray} {nLy n : Nat} {rty : Option FieldType} (hy : CalS y C cy nLy rty n) (hm : Cond.methodLink own idx y ∈ GW) : GoodIn GW (va_wsS own idx y (ws_ y cy nLy rty)) := by
  obtain ⟨rfl, -, -, h1, h3, h4⟩ := hy
  intro w hw
  simp only [va_wsS, List.cons_append, List.nil_append, List.mem_cons] at hw
  rcases hw with rfl | rfl | rfl | hw
  · exact ⟨hm, gw_good hm⟩
  · exact ⟨h1, gw_good h1⟩
  · exact ⟨h3, gw_good h3⟩
  · exact good_ws h4 w hw
abbrev PcW (G : GT) (M : Mem) (av : List Value) (sz : Nat) : Array Value → State → Prop := va_Pc av (fun U => U.heap.size = sz ∧ WI G M U)
theorem pcw_blind {G : GT} {M : Mem} {av : List Value} {sz : Nat} : FrameBlind (PcW G M av sz) := fun a U g mk q => ⟨q.1, q.2.1, q.2.2.blind g mk a⟩
theorem EF.wi (E : EF X G cc nL own rt d mc ms) {H : Heap} {locs : List Loc} (hP : PW G M H) (hS : va_S (Aw G (xS X).heap.size) (xS X).heap H locs) {U : State} (hU : U.heap = H) (hW : (xS X).WarmedH U.vm) : U.heap.size = H.size ∧ WI G M U := by
  subst hU
  exact ⟨rfl, Nat.le_trans E.zb hS.1, hP, E.wf.warm hW hS.2.1 (Aw.mono hS.1)⟩
theorem TW.call {H H1 : Heap} {M' : Mem} (hT : TW G T M H) (h22 : T.2 = 0 ∨ M' 22 0 0 = M 22 0 0) (hk : ∀ q : Nat, q < H.size → ¬ Aw G H.size q → H1[q]? = H[q]?) : TW G T M' H1 := by
  rcases h22 with h | h
  · exact Or.inl h
  · exact hT.kept h (fun h1 h2 => hk _ h2 (fun z => by rcases z with ⟨-, z⟩ | z <;> omega))
def CI (y : MethodName) (cy : ByteArray) (nLy : Nat) (rty : Option FieldType) (dy my sy : Nat) (av : GT → List Value) (M : Mem) (post : Int32 → Mem → Prop) : Prop := ∀ (l : Launch) (G : GT) (sz : Nat), Met l y (ws_ y cy nLy rty) (rmd dy my sy) (PcW G M (av G) sz) (va_Qi post (fun M' t => PW G M' t.heap) (Aw G sz)) my sy (Aw G sz)
def QI (X : PX) (G : GT) (post : Int32 → Mem → Prop) (my sy : Nat) : State → Prop := MQ (xB X) (va_Qi post (fun M' t => PW G M' t.heap) (Aw G (xS X).heap.size)) (xA X) (xS X) my sy (Aw G (xS X).heap.size)
theorem CI.mk {y : MethodName} {dy my sy : Nat} {av : GT → List Value} {post : Int32 → Mem → Prop} (hy : plainName y.cls = true) (hown : y.cls = own) (hcat : ∀ G, ∀ v ∈ av G, v.category = 1) (hlen : ∀ G, (av G).length ≤ nL) {lv0 : GT → List (Option Value)} (hlv : ∀ G, (av G).map some ++ List.replicate (nL - (av G).length) none = lv0 G)
    (body : ∀ X G, EF X G cc nL own rt dy my sy → Z X G (0, 0) (QI X G post my sy) 0 (lv0 G) [] M 0 0) : CI y cc nL rt dy my sy av M post := by
  intro l G sz
  refine Met.ofW (cc := cc) (maxL := nL) (ret := rt) hy rfl ?_
  intro p e s m args below meth c s₁ B hml hv
  obtain ⟨rfl, hsz, h1, hP, hF⟩ := hv
  subst hsz
  have hts := atoms_spec (ws := ws_ y cc nL rt) B.pre
  have E : EF (p, l, e, rmd dy my sy, s, m, (av G).toArray, below, meth, c) G cc nL own rt dy my sy := ⟨B.exec, B.bytes, hml, by rw [← hown]; exact findClass_of_methodNamed B.named, fun w hw => hts w (List.mem_cons_of_mem _ hw), B.notSynchronized, B.returns, h1, hF, rfl⟩
  rw [lg_entry_eq]
  have hl := hasL_entry (av G) (n := nL) (hcat G) (hlen G)
  rw [hlv] at hl
  exact body _ G E _ s.heap [] hl hP (Or.inl rfl) va_S.rf
theorem z_iv (E : EF X G cc nL own rt d mc ms) {y : MethodName} {cy : ByteArray} {nLy dy my sy : Nat} {rty : Option FieldType} {av : GT → List Value} {post : Int32 → Mem → Prop} {As st0 : List Value} (hM : CI y cy nLy rty dy my sy av M post) (hy : Cal y C cy nLy rty n) (hm : Cond.methodLink own idx y ∈ GW) (hd : decode cc pc = .ok (.invokevirtual idx, 3)) (ho : okc k s i) (hc : conV G k s i (M k s i) = .inr (ci, fs)) (hcl : vwCl[ci]? = some (C, Tf, N)) (hav : av G = .ref (ad G k s i) :: As) (hn : As.length = n) (hst : st0 = As.reverse ++ .ref (ad G k s i) :: st) (hcat : (st.map fun v => v.category).sum ≤ 8) (hlv : lv.length = nL) (hdd : dy + 1 ≤ d) (hnl : nLy ≤ 11) (hcm : cells + my ≤ mc ∧ slots + sy ≤ ms) (h22 : ∀ (r : Int32) (M' : Mem), post r M' → T.2 = 0 ∨ M' 22 0 0 = M 22 0 0)
    (kk : ∀ (r : Int32) (M' : Mem), post r M' → Z X G T Q (pc + 3) lv (.int r :: st) M' (cells + my) (slots + sy)) : Z X G T Q pc lv st0 M cells slots := by
  refine fun ls H locs hl hP hT hS => ?_
  refine va_calli (va_runV (As := As) (rest := st) ⟨E.ex, E.cb, E.ml, E.ow, E.ts⟩ (hM (xL X) G H.size) (cwV n E.ts (good_V hy hm) rfl rfl rfl ⟨hy.1, hy.2.1.1, hy.2.1.2, hy.2.2.1⟩ ⟨by rw [E.rm]; exact hdd, by rw [E.rm]; show 8 + (nLy + 11) + 30 * dy ≤ 30 * d; omega⟩) ⟨pcw_blind, va_recv E.kk (hP.one' ho hc) hcl rfl, fun U hU hW => ⟨by rw [hav], E.wi hP hS hU hW⟩⟩ rfl hn (hl.1.trans hlv) hst (lv_room hcat) hd ⟨by rw [E.rm]; exact hcm.1, by rw [E.rm]; exact hcm.2⟩) hS (fun q _ h => Aw.mono hS.1 q h) (fun q h => Aw.mono hS.1 q h) (fun r M' t H1 locs1 ht hvm hw hB hz1 hk1 hS1 => ?_)
  exact kk r M' hw ls H1 locs1 hl (by rw [← ht]; exact hB) (hT.call (h22 r M' hw) hk1) hS1
theorem z_is (E : EF X G cc nL own rt d mc ms) {y : MethodName} {cy : ByteArray} {nLy dy my sy : Nat} {rty : Option FieldType} {av : GT → List Value} {post : Int32 → Mem → Prop} {As st0 : List Value} (hM : CI y cy nLy rty dy my sy av M post) (hy : CalS y C cy nLy rty n) (hm : Cond.methodLink own idx y ∈ GW) (hd : decode cc pc = .ok (.invokestatic idx, 3)) (hav : av G = As) (hn : As.length = n) (hst : st0 = As.reverse ++ st) (hcat : (st.map fun v => v.category).sum ≤ 8) (hlv : lv.length = nL) (hdd : dy + 1 ≤ d) (hnl : nLy ≤ 11) (hcm : cells + my ≤ mc ∧ slots + sy ≤ ms) (h22 : ∀ (r : Int32) (M' : Mem), post r M' → T.2 = 0 ∨ M' 22 0 0 = M 22 0 0)
    (kk : ∀ (r : Int32) (M' : Mem), post r M' → Z X G T Q (pc + 3) lv (.int r :: st) M' (cells + my) (slots + sy)) : Z X G T Q pc lv st0 M cells slots := by
  refine fun ls H locs hl hP hT hS => ?_
  refine va_calli (va_runS (As := As) (rest := st) ⟨E.ex, E.cb, E.ml, E.ow, E.ts⟩ (hM (xL X) G H.size) (va_cwS n E.ts (good_S hy hm) rfl rfl rfl ⟨hy.2.1.1, hy.2.1.2, hy.2.2.1⟩ ⟨by rw [E.rm]; exact hdd, by rw [E.rm]; show 8 + (nLy + 11) + 30 * dy ≤ 30 * d; omega⟩) ⟨pcw_blind, fun U hU hW => ⟨by rw [hav], E.wi hP hS hU hW⟩⟩ rfl hn (hl.1.trans hlv) hst (lv_room hcat) hd ⟨by rw [E.rm]; exact hcm.1, by rw [E.rm]; exact hcm.2⟩) hS (fun q _ h => Aw.mono hS.1 q h) (fun q h => Aw.mono hS.1 q h) (fun r M' t H1 locs1 ht hvm hw hB hz1 hk1 hS1 => ?_)
  exact kk r M' hw ls H1 locs1 hl (by rw [← ht]; exact hB) (hT.call (h22 r M' hw) hk1) hS1
theorem z_isN (E : EF X G cc nL own rt d mc ms) {host : String} {y : MethodName} {cy : ByteArray} {nLy dy my sy : Nat} {rty : Option FieldType} {av : GT → List Value} {post : Int32 → Mem → Prop} {As st0 : List Value} (hM : CI y cy nLy rty dy my sy av M post) (hy : CalS y C cy nLy rty n) (hm : (own, idx, y, host) ∈ NWm) (hd : decode cc pc = .ok (.invokestatic idx, 3)) (hav : av G = As) (hn : As.length = n) (hst : st0 = As.reverse ++ st) (hcat : (st.map fun v => v.category).sum ≤ 8) (hlv : lv.length = nL) (hdd : dy + 1 ≤ d) (hnl : nLy ≤ 11) (hcm : cells + my ≤ mc ∧ slots + sy ≤ ms) (h22 : ∀ (r : Int32) (M' : Mem), post r M' → T.2 = 0 ∨ M' 22 0 0 = M 22 0 0)
    (kk : ∀ (r : Int32) (M' : Mem), post r M' → Z X G T Q (pc + 3) lv (.int r :: st) M' (cells + my) (slots + sy)) : Z X G T Q pc lv st0 M cells slots := by
  refine fun ls H locs hl hP hT hS => ?_
  refine va_calli (va_runSN (As := As) (rest := st) ⟨E.ex, E.cb, E.ml, E.ow, E.ts⟩ (hM (xL X) G H.size) ⟨va_cnB n E.ts (good_ws hy.2.2.2.2.2) rfl rfl rfl (E.wf.2.1 _ hm) (by rw [hy.1]; exact E.ts _ hy.2.2.2.2.1) ⟨hy.2.1.1, hy.2.1.2, hy.2.2.1⟩ ⟨by rw [E.rm]; exact hdd, by rw [E.rm]; show 8 + (nLy + 11) + 30 * dy ≤ 30 * d; omega⟩, E.ts _ hy.2.2.2.1, trivial⟩ ⟨pcw_blind, fun U hU hW => ⟨by rw [hav], E.wi hP hS hU hW⟩⟩ rfl hn (hl.1.trans hlv) hst (lv_room hcat) hd ⟨by rw [E.rm]; exact hcm.1, by rw [E.rm]; exact hcm.2⟩) hS (fun q _ h => Aw.mono hS.1 q h) (fun q h => Aw.mono hS.1 q h) (fun r M' t H1 locs1 ht hvm hw hB hz1 hk1 hS1 => ?_)
  exact kk r M' hw ls H1 locs1 hl (by rw [← ht]; exact hB) (hT.call (h22 r M' hw) hk1) hS1
def CV (y : MethodName) (cy : ByteArray) (nLy : Nat) (rty : Option FieldType) (dy my sy : Nat) (av : GT → List Value) (M : Mem) (post : Mem → Prop) : Prop := ∀ (l : Launch) (G : GT) (sz : Nat), Met l y (ws_ y cy nLy rty) (rmd dy my sy) (PcW G M (av G) sz) (va_Qv post (fun M' t => PW G M' t.heap) (Aw G sz)) my sy (Aw G sz)
def QV (X : PX) (G : GT) (post : Mem → Prop) (my sy : Nat) : State → Prop := MQ (xB X) (va_Qv post (fun M' t => PW G M' t.heap) (Aw G (xS X).heap.size)) (xA X) (xS X) my sy (Aw G (xS X).heap.size)
theorem CV.mk {y : MethodName} {dy my sy : Nat} {av : GT → List Value} {post : Mem → Prop} (hy : plainName y.cls = true) (hown : y.cls = own) (hcat : ∀ G, ∀ v ∈ av G, v.category = 1) (hlen : ∀ G, (av G).length ≤ nL) {lv0 : GT → List (Option Value)} (hlv : ∀ G, (av G).map some ++ List.replicate (nL - (av G).length) none = lv0 G)
    (body : ∀ X G, EF X G cc nL own rt dy my sy → Z X G (0, 0) (QV X G post my sy) 0 (lv0 G) [] M 0 0) : CV y cc nL rt dy my sy av M post := by
  intro l G sz
  refine Met.ofW (cc := cc) (maxL := nL) (ret := rt) hy rfl ?_
  intro p e s m args below meth c s₁ B hml hv
  obtain ⟨rfl, hsz, h1, hP, hF⟩ := hv
  subst hsz
  have hts := atoms_spec (ws := ws_ y cc nL rt) B.pre
  have E : EF (p, l, e, rmd dy my sy, s, m, (av G).toArray, below, meth, c) G cc nL own rt dy my sy := ⟨B.exec, B.bytes, hml, by rw [← hown]; exact findClass_of_methodNamed B.named, fun w hw => hts w (List.mem_cons_of_mem _ hw), B.notSynchronized, B.returns, h1, hF, rfl⟩
  rw [lg_entry_eq]
  have hl := hasL_entry (av G) (n := nL) (hcat G) (hlen G)
  rw [hlv] at hl
  exact body _ G E _ s.heap [] hl hP (Or.inl rfl) va_S.rf
theorem z_vv (E : EF X G cc nL own rt d mc ms) {y : MethodName} {cy : ByteArray} {nLy dy my sy : Nat} {rty : Option FieldType} {av : GT → List Value} {post : Mem → Prop} {As st0 : List Value} (hM : CV y cy nLy rty dy my sy av M post) (hy : Cal y C cy nLy rty n) (hm : Cond.methodLink own idx y ∈ GW) (hd : decode cc pc = .ok (.invokevirtual idx, 3)) (ho : okc k s i) (hc : conV G k s i (M k s i) = .inr (ci, fs)) (hcl : vwCl[ci]? = some (C, Tf, N)) (hav : av G = .ref (ad G k s i) :: As) (hn : As.length = n) (hst : st0 = As.reverse ++ .ref (ad G k s i) :: st) (hcat : (st.map fun v => v.category).sum ≤ 8) (hlv : lv.length = nL) (hdd : dy + 1 ≤ d) (hnl : nLy ≤ 11) (hcm : cells + my ≤ mc ∧ slots + sy ≤ ms) (h22 : ∀ (M' : Mem), post M' → T.2 = 0 ∨ M' 22 0 0 = M 22 0 0)
    (kk : ∀ (M' : Mem), post M' → Z X G T Q (pc + 3) lv ( st) M' (cells + my) (slots + sy)) : Z X G T Q pc lv st0 M cells slots := by
  refine fun ls H locs hl hP hT hS => ?_
  refine va_callv (va_runV (As := As) (rest := st) ⟨E.ex, E.cb, E.ml, E.ow, E.ts⟩ (hM (xL X) G H.size) (cwV n E.ts (good_V hy hm) rfl rfl rfl ⟨hy.1, hy.2.1.1, hy.2.1.2, hy.2.2.1⟩ ⟨by rw [E.rm]; exact hdd, by rw [E.rm]; show 8 + (nLy + 11) + 30 * dy ≤ 30 * d; omega⟩) ⟨pcw_blind, va_recv E.kk (hP.one' ho hc) hcl rfl, fun U hU hW => ⟨by rw [hav], E.wi hP hS hU hW⟩⟩ rfl hn (hl.1.trans hlv) hst (lv_room hcat) hd ⟨by rw [E.rm]; exact hcm.1, by rw [E.rm]; exact hcm.2⟩) hS (fun q _ h => Aw.mono hS.1 q h) (fun q h => Aw.mono hS.1 q h) (fun M' t H1 locs1 ht hvm hw hB hz1 hk1 hS1 => ?_)
  exact kk M' hw ls H1 locs1 hl (by rw [← ht]; exact hB) (hT.call (h22 M' hw) hk1) hS1
theorem z_vs (E : EF X G cc nL own rt d mc ms) {y : MethodName} {cy : ByteArray} {nLy dy my sy : Nat} {rty : Option FieldType} {av : GT → List Value} {post : Mem → Prop} {As st0 : List Value} (hM : CV y cy nLy rty dy my sy av M post) (hy : CalS y C cy nLy rty n) (hm : Cond.methodLink own idx y ∈ GW) (hd : decode cc pc = .ok (.invokestatic idx, 3)) (hav : av G = As) (hn : As.length = n) (hst : st0 = As.reverse ++ st) (hcat : (st.map fun v => v.category).sum ≤ 8) (hlv : lv.length = nL) (hdd : dy + 1 ≤ d) (hnl : nLy ≤ 11) (hcm : cells + my ≤ mc ∧ slots + sy ≤ ms) (h22 : ∀ (M' : Mem), post M' → T.2 = 0 ∨ M' 22 0 0 = M 22 0 0)
    (kk : ∀ (M' : Mem), post M' → Z X G T Q (pc + 3) lv ( st) M' (cells + my) (slots + sy)) : Z X G T Q pc lv st0 M cells slots := by
  refine fun ls H locs hl hP hT hS => ?_
  refine va_callv (va_runS (As := As) (rest := st) ⟨E.ex, E.cb, E.ml, E.ow, E.ts⟩ (hM (xL X) G H.size) (va_cwS n E.ts (good_S hy hm) rfl rfl rfl ⟨hy.2.1.1, hy.2.1.2, hy.2.2.1⟩ ⟨by rw [E.rm]; exact hdd, by rw [E.rm]; show 8 + (nLy + 11) + 30 * dy ≤ 30 * d; omega⟩) ⟨pcw_blind, fun U hU hW => ⟨by rw [hav], E.wi hP hS hU hW⟩⟩ rfl hn (hl.1.trans hlv) hst (lv_room hcat) hd ⟨by rw [E.rm]; exact hcm.1, by rw [E.rm]; exact hcm.2⟩) hS (fun q _ h => Aw.mono hS.1 q h) (fun q h => Aw.mono hS.1 q h) (fun M' t H1 locs1 ht hvm hw hB hz1 hk1 hS1 => ?_)
  exact kk M' hw ls H1 locs1 hl (by rw [← ht]; exact hB) (hT.call (h22 M' hw) hk1) hS1
theorem z_vsN (E : EF X G cc nL own rt d mc ms) {host : String} {y : MethodName} {cy : ByteArray} {nLy dy my sy : Nat} {rty : Option FieldType} {av : GT → List Value} {post : Mem → Prop} {As st0 : List Value} (hM : CV y cy nLy rty dy my sy av M post) (hy : CalS y C cy nLy rty n) (hm : (own, idx, y, host) ∈ NWm) (hd : decode cc pc = .ok (.invokestatic idx, 3)) (hav : av G = As) (hn : As.length = n) (hst : st0 = As.reverse ++ st) (hcat : (st.map fun v => v.category).sum ≤ 8) (hlv : lv.length = nL) (hdd : dy + 1 ≤ d) (hnl : nLy ≤ 11) (hcm : cells + my ≤ mc ∧ slots + sy ≤ ms) (h22 : ∀ (M' : Mem), post M' → T.2 = 0 ∨ M' 22 0 0 = M 22 0 0)
    (kk : ∀ (M' : Mem), post M' → Z X G T Q (pc + 3) lv ( st) M' (cells + my) (slots + sy)) : Z X G T Q pc lv st0 M cells slots := by
  refine fun ls H locs hl hP hT hS => ?_
  refine va_callv (va_runSN (As := As) (rest := st) ⟨E.ex, E.cb, E.ml, E.ow, E.ts⟩ (hM (xL X) G H.size) ⟨va_cnB n E.ts (good_ws hy.2.2.2.2.2) rfl rfl rfl (E.wf.2.1 _ hm) (by rw [hy.1]; exact E.ts _ hy.2.2.2.2.1) ⟨hy.2.1.1, hy.2.1.2, hy.2.2.1⟩ ⟨by rw [E.rm]; exact hdd, by rw [E.rm]; show 8 + (nLy + 11) + 30 * dy ≤ 30 * d; omega⟩, E.ts _ hy.2.2.2.1, trivial⟩ ⟨pcw_blind, fun U hU hW => ⟨by rw [hav], E.wi hP hS hU hW⟩⟩ rfl hn (hl.1.trans hlv) hst (lv_room hcat) hd ⟨by rw [E.rm]; exact hcm.1, by rw [E.rm]; exact hcm.2⟩) hS (fun q _ h => Aw.mono hS.1 q h) (fun q h => Aw.mono hS.1 q h) (fun M' t H1 locs1 ht hvm hw hB hz1 hk1 hS1 => ?_)
  exact kk M' hw ls H1 locs1 hl (by rw [← ht]; exact hB) (hT.call (h22 M' hw) hk1) hS1
def CL (y : MethodName) (cy : ByteArray) (nLy : Nat) (rty : Option FieldType) (dy my sy : Nat) (av : GT → List Value) (M : Mem) (post : Int64 → Mem → Prop) : Prop := ∀ (l : Launch) (G : GT) (sz : Nat), Met l y (ws_ y cy nLy rty) (rmd dy my sy) (PcW G M (av G) sz) (va_Ql post (fun M' t => PW G M' t.heap) (Aw G sz)) my sy (Aw G sz)
def QL (X : PX) (G : GT) (post : Int64 → Mem → Prop) (my sy : Nat) : State → Prop := MQ (xB X) (va_Ql post (fun M' t => PW G M' t.heap) (Aw G (xS X).heap.size)) (xA X) (xS X) my sy (Aw G (xS X).heap.size)
theorem CL.mk {y : MethodName} {dy my sy : Nat} {av : GT → List Value} {post : Int64 → Mem → Prop} (hy : plainName y.cls = true) (hown : y.cls = own) (hcat : ∀ G, ∀ v ∈ av G, v.category = 1) (hlen : ∀ G, (av G).length ≤ nL) {lv0 : GT → List (Option Value)} (hlv : ∀ G, (av G).map some ++ List.replicate (nL - (av G).length) none = lv0 G)
    (body : ∀ X G, EF X G cc nL own rt dy my sy → Z X G (0, 0) (QL X G post my sy) 0 (lv0 G) [] M 0 0) : CL y cc nL rt dy my sy av M post := by
  intro l G sz
  refine Met.ofW (cc := cc) (maxL := nL) (ret := rt) hy rfl ?_
  intro p e s m args below meth c s₁ B hml hv
  obtain ⟨rfl, hsz, h1, hP, hF⟩ := hv
  subst hsz
  have hts := atoms_spec (ws := ws_ y cc nL rt) B.pre
  have E : EF (p, l, e, rmd dy my sy, s, m, (av G).toArray, below, meth, c) G cc nL own rt dy my sy := ⟨B.exec, B.bytes, hml, by rw [← hown]; exact findClass_of_methodNamed B.named, fun w hw => hts w (List.mem_cons_of_mem _ hw), B.notSynchronized, B.returns, h1, hF, rfl⟩
  rw [lg_entry_eq]
  have hl := hasL_entry (av G) (n := nL) (hcat G) (hlen G)
  rw [hlv] at hl
  exact body _ G E _ s.heap [] hl hP (Or.inl rfl) va_S.rf
theorem z_lv (E : EF X G cc nL own rt d mc ms) {y : MethodName} {cy : ByteArray} {nLy dy my sy : Nat} {rty : Option FieldType} {av : GT → List Value} {post : Int64 → Mem → Prop} {As st0 : List Value} (hM : CL y cy nLy rty dy my sy av M post) (hy : Cal y C cy nLy rty n) (hm : Cond.methodLink own idx y ∈ GW) (hd : decode cc pc = .ok (.invokevirtual idx, 3)) (ho : okc k s i) (hc : conV G k s i (M k s i) = .inr (ci, fs)) (hcl : vwCl[ci]? = some (C, Tf, N)) (hav : av G = .ref (ad G k s i) :: As) (hn : As.length = n) (hst : st0 = As.reverse ++ .ref (ad G k s i) :: st) (hcat : (st.map fun v => v.category).sum ≤ 8) (hlv : lv.length = nL) (hdd : dy + 1 ≤ d) (hnl : nLy ≤ 11) (hcm : cells + my ≤ mc ∧ slots + sy ≤ ms) (h22 : ∀ (r : Int64) (M' : Mem), post r M' → T.2 = 0 ∨ M' 22 0 0 = M 22 0 0)
    (kk : ∀ (r : Int64) (M' : Mem), post r M' → Z X G T Q (pc + 3) lv (.long r :: st) M' (cells + my) (slots + sy)) : Z X G T Q pc lv st0 M cells slots := by
  refine fun ls H locs hl hP hT hS => ?_
  refine va_calll (va_runV (As := As) (rest := st) ⟨E.ex, E.cb, E.ml, E.ow, E.ts⟩ (hM (xL X) G H.size) (cwV n E.ts (good_V hy hm) rfl rfl rfl ⟨hy.1, hy.2.1.1, hy.2.1.2, hy.2.2.1⟩ ⟨by rw [E.rm]; exact hdd, by rw [E.rm]; show 8 + (nLy + 11) + 30 * dy ≤ 30 * d; omega⟩) ⟨pcw_blind, va_recv E.kk (hP.one' ho hc) hcl rfl, fun U hU hW => ⟨by rw [hav], E.wi hP hS hU hW⟩⟩ rfl hn (hl.1.trans hlv) hst (lv_room hcat) hd ⟨by rw [E.rm]; exact hcm.1, by rw [E.rm]; exact hcm.2⟩) hS (fun q _ h => Aw.mono hS.1 q h) (fun q h => Aw.mono hS.1 q h) (fun r M' t H1 locs1 ht hvm hw hB hz1 hk1 hS1 => ?_)
  exact kk r M' hw ls H1 locs1 hl (by rw [← ht]; exact hB) (hT.call (h22 r M' hw) hk1) hS1
theorem z_ls (E : EF X G cc nL own rt d mc ms) {y : MethodName} {cy : ByteArray} {nLy dy my sy : Nat} {rty : Option FieldType} {av : GT → List Value} {post : Int64 → Mem → Prop} {As st0 : List Value} (hM : CL y cy nLy rty dy my sy av M post) (hy : CalS y C cy nLy rty n) (hm : Cond.methodLink own idx y ∈ GW) (hd : decode cc pc = .ok (.invokestatic idx, 3)) (hav : av G = As) (hn : As.length = n) (hst : st0 = As.reverse ++ st) (hcat : (st.map fun v => v.category).sum ≤ 8) (hlv : lv.length = nL) (hdd : dy + 1 ≤ d) (hnl : nLy ≤ 11) (hcm : cells + my ≤ mc ∧ slots + sy ≤ ms) (h22 : ∀ (r : Int64) (M' : Mem), post r M' → T.2 = 0 ∨ M' 22 0 0 = M 22 0 0)
    (kk : ∀ (r : Int64) (M' : Mem), post r M' → Z X G T Q (pc + 3) lv (.long r :: st) M' (cells + my) (slots + sy)) : Z X G T Q pc lv st0 M cells slots := by
  refine fun ls H locs hl hP hT hS => ?_
  refine va_calll (va_runS (As := As) (rest := st) ⟨E.ex, E.cb, E.ml, E.ow, E.ts⟩ (hM (xL X) G H.size) (va_cwS n E.ts (good_S hy hm) rfl rfl rfl ⟨hy.2.1.1, hy.2.1.2, hy.2.2.1⟩ ⟨by rw [E.rm]; exact hdd, by rw [E.rm]; show 8 + (nLy + 11) + 30 * dy ≤ 30 * d; omega⟩) ⟨pcw_blind, fun U hU hW => ⟨by rw [hav], E.wi hP hS hU hW⟩⟩ rfl hn (hl.1.trans hlv) hst (lv_room hcat) hd ⟨by rw [E.rm]; exact hcm.1, by rw [E.rm]; exact hcm.2⟩) hS (fun q _ h => Aw.mono hS.1 q h) (fun q h => Aw.mono hS.1 q h) (fun r M' t H1 locs1 ht hvm hw hB hz1 hk1 hS1 => ?_)
  exact kk r M' hw ls H1 locs1 hl (by rw [← ht]; exact hB) (hT.call (h22 r M' hw) hk1) hS1
theorem z_lsN (E : EF X G cc nL own rt d mc ms) {host : String} {y : MethodName} {cy : ByteArray} {nLy dy my sy : Nat} {rty : Option FieldType} {av : GT → List Value} {post : Int64 → Mem → Prop} {As st0 : List Value} (hM : CL y cy nLy rty dy my sy av M post) (hy : CalS y C cy nLy rty n) (hm : (own, idx, y, host) ∈ NWm) (hd : decode cc pc = .ok (.invokestatic idx, 3)) (hav : av G = As) (hn : As.length = n) (hst : st0 = As.reverse ++ st) (hcat : (st.map fun v => v.category).sum ≤ 8) (hlv : lv.length = nL) (hdd : dy + 1 ≤ d) (hnl : nLy ≤ 11) (hcm : cells + my ≤ mc ∧ slots + sy ≤ ms) (h22 : ∀ (r : Int64) (M' : Mem), post r M' → T.2 = 0 ∨ M' 22 0 0 = M 22 0 0)
    (kk : ∀ (r : Int64) (M' : Mem), post r M' → Z X G T Q (pc + 3) lv (.long r :: st) M' (cells + my) (slots + sy)) : Z X G T Q pc lv st0 M cells slots := by
  refine fun ls H locs hl hP hT hS => ?_
  refine va_calll (va_runSN (As := As) (rest := st) ⟨E.ex, E.cb, E.ml, E.ow, E.ts⟩ (hM (xL X) G H.size) ⟨va_cnB n E.ts (good_ws hy.2.2.2.2.2) rfl rfl rfl (E.wf.2.1 _ hm) (by rw [hy.1]; exact E.ts _ hy.2.2.2.2.1) ⟨hy.2.1.1, hy.2.1.2, hy.2.2.1⟩ ⟨by rw [E.rm]; exact hdd, by rw [E.rm]; show 8 + (nLy + 11) + 30 * dy ≤ 30 * d; omega⟩, E.ts _ hy.2.2.2.1, trivial⟩ ⟨pcw_blind, fun U hU hW => ⟨by rw [hav], E.wi hP hS hU hW⟩⟩ rfl hn (hl.1.trans hlv) hst (lv_room hcat) hd ⟨by rw [E.rm]; exact hcm.1, by rw [E.rm]; exact hcm.2⟩) hS (fun q _ h => Aw.mono hS.1 q h) (fun q h => Aw.mono hS.1 q h) (fun r M' t H1 locs1 ht hvm hw hB hz1 hk1 hS1 => ?_)
  exact kk r M' hw ls H1 locs1 hl (by rw [← ht]; exact hB) (hT.call (h22 r M' hw) hk1) hS1
def CD (y : MethodName) (cy : ByteArray) (nLy : Nat) (rty : Option FieldType) (dy my sy : Nat) (av : GT → List Value) (M : Mem) (post : UInt64 → Mem → Prop) : Prop := ∀ (l : Launch) (G : GT) (sz : Nat), Met l y (ws_ y cy nLy rty) (rmd dy my sy) (PcW G M (av G) sz) (va_Qd post (fun M' t => PW G M' t.heap) (Aw G sz)) my sy (Aw G sz)
def QD (X : PX) (G : GT) (post : UInt64 → Mem → Prop) (my sy : Nat) : State → Prop := MQ (xB X) (va_Qd post (fun M' t => PW G M' t.heap) (Aw G (xS X).heap.size)) (xA X) (xS X) my sy (Aw G (xS X).heap.size)
theorem CD.mk {y : MethodName} {dy my sy : Nat} {av : GT → List Value} {post : UInt64 → Mem → Prop} (hy : plainName y.cls = true) (hown : y.cls = own) (hcat : ∀ G, ∀ v ∈ av G, v.category = 1) (hlen : ∀ G, (av G).length ≤ nL) {lv0 : GT → List (Option Value)} (hlv : ∀ G, (av G).map some ++ List.replicate (nL - (av G).length) none = lv0 G)
    (body : ∀ X G, EF X G cc nL own rt dy my sy → Z X G (0, 0) (QD X G post my sy) 0 (lv0 G) [] M 0 0) : CD y cc nL rt dy my sy av M post := by
  intro l G sz
  refine Met.ofW (cc := cc) (maxL := nL) (ret := rt) hy rfl ?_
  intro p e s m args below meth c s₁ B hml hv
  obtain ⟨rfl, hsz, h1, hP, hF⟩ := hv
  subst hsz
  have hts := atoms_spec (ws := ws_ y cc nL rt) B.pre
  have E : EF (p, l, e, rmd dy my sy, s, m, (av G).toArray, below, meth, c) G cc nL own rt dy my sy := ⟨B.exec, B.bytes, hml, by rw [← hown]; exact findClass_of_methodNamed B.named, fun w hw => hts w (List.mem_cons_of_mem _ hw), B.notSynchronized, B.returns, h1, hF, rfl⟩
  rw [lg_entry_eq]
  have hl := hasL_entry (av G) (n := nL) (hcat G) (hlen G)
  rw [hlv] at hl
  exact body _ G E _ s.heap [] hl hP (Or.inl rfl) va_S.rf
theorem z_dv (E : EF X G cc nL own rt d mc ms) {y : MethodName} {cy : ByteArray} {nLy dy my sy : Nat} {rty : Option FieldType} {av : GT → List Value} {post : UInt64 → Mem → Prop} {As st0 : List Value} (hM : CD y cy nLy rty dy my sy av M post) (hy : Cal y C cy nLy rty n) (hm : Cond.methodLink own idx y ∈ GW) (hd : decode cc pc = .ok (.invokevirtual idx, 3)) (ho : okc k s i) (hc : conV G k s i (M k s i) = .inr (ci, fs)) (hcl : vwCl[ci]? = some (C, Tf, N)) (hav : av G = .ref (ad G k s i) :: As) (hn : As.length = n) (hst : st0 = As.reverse ++ .ref (ad G k s i) :: st) (hcat : (st.map fun v => v.category).sum ≤ 8) (hlv : lv.length = nL) (hdd : dy + 1 ≤ d) (hnl : nLy ≤ 11) (hcm : cells + my ≤ mc ∧ slots + sy ≤ ms) (h22 : ∀ (r : UInt64) (M' : Mem), post r M' → T.2 = 0 ∨ M' 22 0 0 = M 22 0 0)
    (kk : ∀ (r : UInt64) (M' : Mem), post r M' → Z X G T Q (pc + 3) lv (.double r :: st) M' (cells + my) (slots + sy)) : Z X G T Q pc lv st0 M cells slots := by
  refine fun ls H locs hl hP hT hS => ?_
  refine va_calld (va_runV (As := As) (rest := st) ⟨E.ex, E.cb, E.ml, E.ow, E.ts⟩ (hM (xL X) G H.size) (cwV n E.ts (good_V hy hm) rfl rfl rfl ⟨hy.1, hy.2.1.1, hy.2.1.2, hy.2.2.1⟩ ⟨by rw [E.rm]; exact hdd, by rw [E.rm]; show 8 + (nLy + 11) + 30 * dy ≤ 30 * d; omega⟩) ⟨pcw_blind, va_recv E.kk (hP.one' ho hc) hcl rfl, fun U hU hW => ⟨by rw [hav], E.wi hP hS hU hW⟩⟩ rfl hn (hl.1.trans hlv) hst (lv_room hcat) hd ⟨by rw [E.rm]; exact hcm.1, by rw [E.rm]; exact hcm.2⟩) hS (fun q _ h => Aw.mono hS.1 q h) (fun q h => Aw.mono hS.1 q h) (fun r M' t H1 locs1 ht hvm hw hB hz1 hk1 hS1 => ?_)
  exact kk r M' hw ls H1 locs1 hl (by rw [← ht]; exact hB) (hT.call (h22 r M' hw) hk1) hS1
theorem z_ds (E : EF X G cc nL own rt d mc ms) {y : MethodName} {cy : ByteArray} {nLy dy my sy : Nat} {rty : Option FieldType} {av : GT → List Value} {post : UInt64 → Mem → Prop} {As st0 : List Value} (hM : CD y cy nLy rty dy my sy av M post) (hy : CalS y C cy nLy rty n) (hm : Cond.methodLink own idx y ∈ GW) (hd : decode cc pc = .ok (.invokestatic idx, 3)) (hav : av G = As) (hn : As.length = n) (hst : st0 = As.reverse ++ st) (hcat : (st.map fun v => v.category).sum ≤ 8) (hlv : lv.length = nL) (hdd : dy + 1 ≤ d) (hnl : nLy ≤ 11) (hcm : cells + my ≤ mc ∧ slots + sy ≤ ms) (h22 : ∀ (r : UInt64) (M' : Mem), post r M' → T.2 = 0 ∨ M' 22 0 0 = M 22 0 0)
    (kk : ∀ (r : UInt64) (M' : Mem), post r M' → Z X G T Q (pc + 3) lv (.double r :: st) M' (cells + my) (slots + sy)) : Z X G T Q pc lv st0 M cells slots := by
  refine fun ls H locs hl hP hT hS => ?_
  refine va_calld (va_runS (As := As) (rest := st) ⟨E.ex, E.cb, E.ml, E.ow, E.ts⟩ (hM (xL X) G H.size) (va_cwS n E.ts (good_S hy hm) rfl rfl rfl ⟨hy.2.1.1, hy.2.1.2, hy.2.2.1⟩ ⟨by rw [E.rm]; exact hdd, by rw [E.rm]; show 8 + (nLy + 11) + 30 * dy ≤ 30 * d; omega⟩) ⟨pcw_blind, fun U hU hW => ⟨by rw [hav], E.wi hP hS hU hW⟩⟩ rfl hn (hl.1.trans hlv) hst (lv_room hcat) hd ⟨by rw [E.rm]; exact hcm.1, by rw [E.rm]; exact hcm.2⟩) hS (fun q _ h => Aw.mono hS.1 q h) (fun q h => Aw.mono hS.1 q h) (fun r M' t H1 locs1 ht hvm hw hB hz1 hk1 hS1 => ?_)
  exact kk r M' hw ls H1 locs1 hl (by rw [← ht]; exact hB) (hT.call (h22 r M' hw) hk1) hS1
theorem z_dsN (E : EF X G cc nL own rt d mc ms) {host : String} {y : MethodName} {cy : ByteArray} {nLy dy my sy : Nat} {rty : Option FieldType} {av : GT → List Value} {post : UInt64 → Mem → Prop} {As st0 : List Value} (hM : CD y cy nLy rty dy my sy av M post) (hy : CalS y C cy nLy rty n) (hm : (own, idx, y, host) ∈ NWm) (hd : decode cc pc = .ok (.invokestatic idx, 3)) (hav : av G = As) (hn : As.length = n) (hst : st0 = As.reverse ++ st) (hcat : (st.map fun v => v.category).sum ≤ 8) (hlv : lv.length = nL) (hdd : dy + 1 ≤ d) (hnl : nLy ≤ 11) (hcm : cells + my ≤ mc ∧ slots + sy ≤ ms) (h22 : ∀ (r : UInt64) (M' : Mem), post r M' → T.2 = 0 ∨ M' 22 0 0 = M 22 0 0)
    (kk : ∀ (r : UInt64) (M' : Mem), post r M' → Z X G T Q (pc + 3) lv (.double r :: st) M' (cells + my) (slots + sy)) : Z X G T Q pc lv st0 M cells slots := by
  refine fun ls H locs hl hP hT hS => ?_
  refine va_calld (va_runSN (As := As) (rest := st) ⟨E.ex, E.cb, E.ml, E.ow, E.ts⟩ (hM (xL X) G H.size) ⟨va_cnB n E.ts (good_ws hy.2.2.2.2.2) rfl rfl rfl (E.wf.2.1 _ hm) (by rw [hy.1]; exact E.ts _ hy.2.2.2.2.1) ⟨hy.2.1.1, hy.2.1.2, hy.2.2.1⟩ ⟨by rw [E.rm]; exact hdd, by rw [E.rm]; show 8 + (nLy + 11) + 30 * dy ≤ 30 * d; omega⟩, E.ts _ hy.2.2.2.1, trivial⟩ ⟨pcw_blind, fun U hU hW => ⟨by rw [hav], E.wi hP hS hU hW⟩⟩ rfl hn (hl.1.trans hlv) hst (lv_room hcat) hd ⟨by rw [E.rm]; exact hcm.1, by rw [E.rm]; exact hcm.2⟩) hS (fun q _ h => Aw.mono hS.1 q h) (fun q h => Aw.mono hS.1 q h) (fun r M' t H1 locs1 ht hvm hw hB hz1 hk1 hS1 => ?_)
  exact kk r M' hw ls H1 locs1 hl (by rw [← ht]; exact hB) (hT.call (h22 r M' hw) hk1) hS1
theorem z_iret (E : EF X G cc nL own (some .int) d mc ms) {v : Int32} {post : Int32 → Mem → Prop} (hd : decode cc pc = .ok (.ireturn, 1)) (hp : post v M) : Z X G T (QI X G post cells slots) pc lv [.int v] M cells slots := fun ls H locs hl hP hT hS =>
  W.iret E.ex E.cb E.rt (fun t ht hW => ⟨⟨v, M, rfl, hp, by rw [ht]; exact hP⟩, hS.F ht⟩) hS.2.2 hd E.lk
theorem z_zret (E : EF X G cc nL own (some .boolean) d mc ms) {v : Int32} {post : Int32 → Mem → Prop} (hd : decode cc pc = .ok (.ireturn, 1)) (hn : v = 0 ∨ v = 1) (hp : post v M) : Z X G T (QI X G post cells slots) pc lv [.int v] M cells slots := fun ls H locs hl hP hT hS =>
  W.zret E.ex E.cb E.rt (by rcases hn with rfl | rfl <;> rfl) (fun t ht hW => ⟨⟨v, M, rfl, hp, by rw [ht]; exact hP⟩, hS.F ht⟩) hS.2.2 hd E.lk
theorem z_vret (E : EF X G cc nL own none d mc ms) {post : Mem → Prop} (hd : decode cc pc = .ok (.return_, 1)) (hp : post M) : Z X G T (QV X G post cells slots) pc lv [] M cells slots := fun ls H locs hl hP hT hS =>
  W.vret E.ex E.cb E.rt (fun t ht hW => ⟨⟨M, rfl, hp, by rw [ht]; exact hP⟩, hS.F ht⟩) hS.2.2 hd E.lk
theorem z_lret (E : EF X G cc nL own (some .long) d mc ms) {v : Int64} {post : Int64 → Mem → Prop} (hd : decode cc pc = .ok (.lreturn, 1)) (hp : post v M) : Z X G T (QL X G post cells slots) pc lv [.long v] M cells slots := fun ls H locs hl hP hT hS =>
  W.lret E.ex E.cb E.rt (fun t ht hW => ⟨⟨v, M, rfl, hp, by rw [ht]; exact hP⟩, hS.F ht⟩) hS.2.2 hd E.lk
theorem z_dret (E : EF X G cc nL own (some .double) d mc ms) {v : UInt64} {post : UInt64 → Mem → Prop} (hd : decode cc pc = .ok (.dreturn, 1)) (hp : post v M) : Z X G T (QD X G post cells slots) pc lv [.double v] M cells slots := fun ls H locs hl hP hT hS =>
  W.dret E.ex E.cb E.rt (fun t ht hW => ⟨⟨v, M, rfl, hp, by rw [ht]; exact hP⟩, hS.F ht⟩) hS.2.2 hd E.lk
end ZF
theorem fiX3_9 : Fi RX3 9 3 RX3 TX3 1 0 := ⟨rfl, by decide, flX3_9, uwX3⟩
theorem fiX2_24 : Fi RX2 24 3 RX3 TX3 1 0 := ⟨rfl, by decide, flX2_24, uwX3⟩
theorem fiX6_147 : Fi RX6 147 3 RX3 TX3 1 0 := ⟨rfl, by decide, flX6_147, uwX3⟩
theorem fiX2_14 : Fi RX2 14 2 RX2 TX2 1 0 := ⟨rfl, by decide, flX2_14, uwX2⟩
theorem fiX6_143 : Fi RX6 143 2 RX2 TX2 1 0 := ⟨rfl, by decide, flX6_143, uwX2⟩
theorem fiX1_7 : Fi RX1 7 1 RX1 TX1 2 0 := ⟨rfl, by decide, flX1_7, uwX1⟩
theorem fiX6_53 : Fi RX6 53 1 RX1 TX1 2 0 := ⟨rfl, by decide, flX6_53, uwX1⟩
theorem fiX4_75 : Fi RX4 75 1 RX1 TX1 2 0 := ⟨rfl, by decide, flX4_75, uwX1⟩
theorem fiX1_13 : Fi RX1 13 1 RX1 TX1 2 1 := ⟨rfl, by decide, flX1_13, uwX1⟩
theorem fiX4_156 : Fi RX4 156 1 RX1 TX1 2 1 := ⟨rfl, by decide, flX4_156, uwX1⟩
theorem fiX5_9 : Fi RX5 9 5 RX5 TX5 10 0 := ⟨rfl, by decide, flX5_9, uwX5⟩
theorem fiX4_89 : Fi RX4 89 5 RX5 TX5 10 0 := ⟨rfl, by decide, flX4_89, uwX5⟩
theorem fiX6_122 : Fi RX6 122 5 RX5 TX5 10 0 := ⟨rfl, by decide, flX6_122, uwX5⟩
theorem fiX5_15 : Fi RX5 15 5 RX5 TX5 10 1 := ⟨rfl, by decide, flX5_15, uwX5⟩
theorem fiX0_23 : Fi RX0 23 5 RX5 TX5 10 1 := ⟨rfl, by decide, flX0_23, uwX5⟩
theorem fiX4_165 : Fi RX4 165 5 RX5 TX5 10 1 := ⟨rfl, by decide, flX4_165, uwX5⟩
theorem fiX5_18 : Fi RX5 18 5 RX5 TX5 10 2 := ⟨rfl, by decide, flX5_18, uwX5⟩
theorem fiX4_133 : Fi RX4 133 5 RX5 TX5 10 2 := ⟨rfl, by decide, flX4_133, uwX5⟩
theorem fiX5_21 : Fi RX5 21 5 RX5 TX5 10 3 := ⟨rfl, by decide, flX5_21, uwX5⟩
theorem fiX4_168 : Fi RX4 168 5 RX5 TX5 10 3 := ⟨rfl, by decide, flX4_168, uwX5⟩
theorem fiX5_24 : Fi RX5 24 5 RX5 TX5 10 4 := ⟨rfl, by decide, flX5_24, uwX5⟩
theorem fiX4_143 : Fi RX4 143 5 RX5 TX5 10 4 := ⟨rfl, by decide, flX4_143, uwX5⟩
theorem fiX5_27 : Fi RX5 27 5 RX5 TX5 10 5 := ⟨rfl, by decide, flX5_27, uwX5⟩
theorem fiX5_30 : Fi RX5 30 5 RX5 TX5 10 6 := ⟨rfl, by decide, flX5_30, uwX5⟩
theorem fiX4_113 : Fi RX4 113 5 RX5 TX5 10 6 := ⟨rfl, by decide, flX4_113, uwX5⟩
theorem fiX0_18 : Fi RX0 18 5 RX5 TX5 10 7 := ⟨rfl, by decide, flX0_18, uwX5⟩
theorem fiX5_33 : Fi RX5 33 5 RX5 TX5 10 7 := ⟨rfl, by decide, flX5_33, uwX5⟩
theorem fiX4_83 : Fi RX4 83 5 RX5 TX5 10 7 := ⟨rfl, by decide, flX4_83, uwX5⟩
theorem fiX6_113 : Fi RX6 113 5 RX5 TX5 10 7 := ⟨rfl, by decide, flX6_113, uwX5⟩
theorem fiX0_24 : Fi RX0 24 5 RX5 TX5 10 8 := ⟨rfl, by decide, flX0_24, uwX5⟩
theorem fiX5_36 : Fi RX5 36 5 RX5 TX5 10 8 := ⟨rfl, by decide, flX5_36, uwX5⟩
theorem fiX4_123 : Fi RX4 123 5 RX5 TX5 10 8 := ⟨rfl, by decide, flX4_123, uwX5⟩
theorem fiX5_39 : Fi RX5 39 5 RX5 TX5 10 9 := ⟨rfl, by decide, flX5_39, uwX5⟩
theorem fiX6_116 : Fi RX6 116 5 RX5 TX5 10 9 := ⟨rfl, by decide, flX6_116, uwX5⟩
theorem fiX4_177 : Fi RX4 177 5 RX5 TX5 10 9 := ⟨rfl, by decide, flX4_177, uwX5⟩
theorem fiX0_9 : Fi RX0 9 0 RX0 TX0 2 0 := ⟨rfl, by decide, flX0_9, uwX0⟩
theorem fiX6_62 : Fi RX6 62 0 RX0 TX0 2 0 := ⟨rfl, by decide, flX6_62, uwX0⟩
theorem fiX4_187 : Fi RX4 187 0 RX0 TX0 2 0 := ⟨rfl, by decide, flX4_187, uwX0⟩
theorem fiX0_15 : Fi RX0 15 0 RX0 TX0 2 1 := ⟨rfl, by decide, flX0_15, uwX0⟩
theorem fiX6_188 : Fi RX6 188 0 RX0 TX0 2 1 := ⟨rfl, by decide, flX6_188, uwX0⟩
theorem fiX4_188 : Fi RX4 188 0 RX0 TX0 2 1 := ⟨rfl, by decide, flX4_188, uwX0⟩
theorem fiX4_65 : Fi RX4 65 4 RX4 TX4 9 0 := ⟨rfl, by decide, flX4_65, uwX4⟩
theorem fiX6_105 : Fi RX6 105 4 RX4 TX4 9 0 := ⟨rfl, by decide, flX6_105, uwX4⟩
theorem fiX4_11 : Fi RX4 11 4 RX4 TX4 9 1 := ⟨rfl, by decide, flX4_11, uwX4⟩
theorem fiX6_78 : Fi RX6 78 4 RX4 TX4 9 1 := ⟨rfl, by decide, flX6_78, uwX4⟩
theorem fiX4_80 : Fi RX4 80 4 RX4 TX4 9 2 := ⟨rfl, by decide, flX4_80, uwX4⟩
theorem fiX4_43 : Fi RX4 43 4 RX4 TX4 9 3 := ⟨rfl, by decide, flX4_43, uwX4⟩
theorem fiX6_31 : Fi RX6 31 4 RX4 TX4 9 3 := ⟨rfl, by decide, flX6_31, uwX4⟩
theorem fiX4_50 : Fi RX4 50 4 RX4 TX4 9 4 := ⟨rfl, by decide, flX4_50, uwX4⟩
theorem fiX6_75 : Fi RX6 75 4 RX4 TX4 9 4 := ⟨rfl, by decide, flX6_75, uwX4⟩
theorem fiX4_17 : Fi RX4 17 4 RX4 TX4 9 5 := ⟨rfl, by decide, flX4_17, uwX4⟩
theorem fiX6_49 : Fi RX6 49 4 RX4 TX4 9 5 := ⟨rfl, by decide, flX6_49, uwX4⟩
theorem fiX4_23 : Fi RX4 23 4 RX4 TX4 9 6 := ⟨rfl, by decide, flX4_23, uwX4⟩
theorem fiX6_101 : Fi RX6 101 4 RX4 TX4 9 6 := ⟨rfl, by decide, flX6_101, uwX4⟩
theorem fiX4_29 : Fi RX4 29 4 RX4 TX4 9 7 := ⟨rfl, by decide, flX4_29, uwX4⟩
theorem fiX6_58 : Fi RX6 58 4 RX4 TX4 9 7 := ⟨rfl, by decide, flX6_58, uwX4⟩
theorem fiX4_36 : Fi RX4 36 4 RX4 TX4 9 8 := ⟨rfl, by decide, flX4_36, uwX4⟩
theorem fiX6_82 : Fi RX6 82 4 RX4 TX4 9 8 := ⟨rfl, by decide, flX6_82, uwX4⟩
theorem fiX6_10 : Fi RX6 10 6 RX6 TX6 3 0 := ⟨rfl, by decide, flX6_10, uwX6⟩
theorem fiX6_16 : Fi RX6 16 6 RX6 TX6 3 1 := ⟨rfl, by decide, flX6_16, uwX6⟩
theorem fiX6_19 : Fi RX6 19 6 RX6 TX6 3 2 := ⟨rfl, by decide, flX6_19, uwX6⟩
theorem fiX7_38 : Fi RX7 38 7 RX7 TX7 9 0 := ⟨rfl, by decide, flX7_38, uwX7⟩
theorem fiX8_77 : FiN RX8 77 7 RX7 TX7 9 0 "PawnRackModel" := ⟨rfl, by decide, by decide +kernel, uwX7⟩
theorem fiX7_15 : Fi RX7 15 7 RX7 TX7 9 1 := ⟨rfl, by decide, flX7_15, uwX7⟩
theorem fiX8_74 : FiN RX8 74 7 RX7 TX7 9 1 "PawnRackModel" := ⟨rfl, by decide, by decide +kernel, uwX7⟩
theorem fiX7_41 : Fi RX7 41 7 RX7 TX7 9 2 := ⟨rfl, by decide, flX7_41, uwX7⟩
theorem fiX8_39 : FiN RX8 39 7 RX7 TX7 9 2 "PawnRackModel" := ⟨rfl, by decide, by decide +kernel, uwX7⟩
theorem fiX7_44 : Fi RX7 44 7 RX7 TX7 9 3 := ⟨rfl, by decide, flX7_44, uwX7⟩
theorem fiX8_105 : FiN RX8 105 7 RX7 TX7 9 3 "PawnRackModel" := ⟨rfl, by decide, by decide +kernel, uwX7⟩
theorem fiX7_19 : Fi RX7 19 7 RX7 TX7 9 4 := ⟨rfl, by decide, flX7_19, uwX7⟩
theorem fiX8_46 : FiN RX8 46 7 RX7 TX7 9 4 "PawnRackModel" := ⟨rfl, by decide, by decide +kernel, uwX7⟩
theorem fiX7_23 : Fi RX7 23 7 RX7 TX7 9 5 := ⟨rfl, by decide, flX7_23, uwX7⟩
theorem fiX8_49 : FiN RX8 49 7 RX7 TX7 9 5 "PawnRackModel" := ⟨rfl, by decide, by decide +kernel, uwX7⟩
theorem fiX7_26 : Fi RX7 26 7 RX7 TX7 9 6 := ⟨rfl, by decide, flX7_26, uwX7⟩
theorem fiX8_80 : FiN RX8 80 7 RX7 TX7 9 6 "PawnRackModel" := ⟨rfl, by decide, by decide +kernel, uwX7⟩
theorem fiX7_29 : Fi RX7 29 7 RX7 TX7 9 7 := ⟨rfl, by decide, flX7_29, uwX7⟩
theorem fiX8_125 : FiN RX8 125 7 RX7 TX7 9 7 "PawnRackModel" := ⟨rfl, by decide, by decide +kernel, uwX7⟩
theorem fiX7_3 : Fi RX7 3 7 RX7 TX7 9 8 := ⟨rfl, by decide, flX7_3, uwX7⟩
theorem fiX8_28 : Fi RX8 28 8 RX8 TX8 6 0 := ⟨rfl, by decide, flX8_28, uwX8⟩
theorem fiX8_32 : Fi RX8 32 8 RX8 TX8 6 1 := ⟨rfl, by decide, flX8_32, uwX8⟩
theorem fiX8_9 : Fi RX8 9 8 RX8 TX8 6 2 := ⟨rfl, by decide, flX8_9, uwX8⟩
theorem fiX7_71 : FiN RX7 71 8 RX8 TX8 6 2 "PawnRackModel" := ⟨rfl, by decide, by decide +kernel, uwX8⟩
theorem fiX8_13 : Fi RX8 13 8 RX8 TX8 6 3 := ⟨rfl, by decide, flX8_13, uwX8⟩
theorem fiX7_74 : FiN RX7 74 8 RX8 TX8 6 3 "PawnRackModel" := ⟨rfl, by decide, by decide +kernel, uwX8⟩
theorem fiX8_21 : Fi RX8 21 8 RX8 TX8 6 4 := ⟨rfl, by decide, flX8_21, uwX8⟩
theorem fiX8_25 : Fi RX8 25 8 RX8 TX8 6 5 := ⟨rfl, by decide, flX8_25, uwX8⟩
theorem fpX0_0 : Fp TX0 2 0 := ⟨tyX0, tyX0_ok, nmX0, rfl, by decide +kernel⟩
theorem fpX0_1 : Fp TX0 2 1 := ⟨tyX0, tyX0_ok, nmX0, rfl, by decide +kernel⟩
theorem fpX1_0 : Fp TX1 2 0 := ⟨tyX1, tyX1_ok, nmX1, rfl, by decide +kernel⟩
theorem fpX1_1 : Fp TX1 2 1 := ⟨tyX1, tyX1_ok, nmX1, rfl, by decide +kernel⟩
theorem fpX4_0 : Fp TX4 9 0 := ⟨tyX4, tyX4_ok, nmX4, rfl, by decide +kernel⟩
theorem fpX4_1 : Fp TX4 9 1 := ⟨tyX4, tyX4_ok, nmX4, rfl, by decide +kernel⟩
theorem fpX4_2 : Fp TX4 9 2 := ⟨tyX4, tyX4_ok, nmX4, rfl, by decide +kernel⟩
theorem fpX4_3 : Fp TX4 9 3 := ⟨tyX4, tyX4_ok, nmX4, rfl, by decide +kernel⟩
theorem fpX4_4 : Fp TX4 9 4 := ⟨tyX4, tyX4_ok, nmX4, rfl, by decide +kernel⟩
theorem fpX5_0 : Fp TX5 10 0 := ⟨tyX5, tyX5_ok, nmX5, rfl, by decide +kernel⟩
theorem fpX5_1 : Fp TX5 10 1 := ⟨tyX5, tyX5_ok, nmX5, rfl, by decide +kernel⟩
theorem fpX5_2 : Fp TX5 10 2 := ⟨tyX5, tyX5_ok, nmX5, rfl, by decide +kernel⟩
theorem fpX5_3 : Fp TX5 10 3 := ⟨tyX5, tyX5_ok, nmX5, rfl, by decide +kernel⟩
theorem fpX5_4 : Fp TX5 10 4 := ⟨tyX5, tyX5_ok, nmX5, rfl, by decide +kernel⟩
theorem fpX5_5 : Fp TX5 10 5 := ⟨tyX5, tyX5_ok, nmX5, rfl, by decide +kernel⟩
theorem fpX5_6 : Fp TX5 10 6 := ⟨tyX5, tyX5_ok, nmX5, rfl, by decide +kernel⟩
theorem fpX5_7 : Fp TX5 10 7 := ⟨tyX5, tyX5_ok, nmX5, rfl, by decide +kernel⟩
theorem fpX5_8 : Fp TX5 10 8 := ⟨tyX5, tyX5_ok, nmX5, rfl, by decide +kernel⟩
theorem fpX5_9 : Fp TX5 10 9 := ⟨tyX5, tyX5_ok, nmX5, rfl, by decide +kernel⟩
theorem fpX7_0 : Fp TX7 9 0 := ⟨tyX7, tyX7_ok, nmX7, rfl, by decide +kernel⟩
theorem fpX7_1 : Fp TX7 9 1 := ⟨tyX7, tyX7_ok, nmX7, rfl, by decide +kernel⟩
theorem fpX7_2 : Fp TX7 9 2 := ⟨tyX7, tyX7_ok, nmX7, rfl, by decide +kernel⟩
theorem fpX7_3 : Fp TX7 9 3 := ⟨tyX7, tyX7_ok, nmX7, rfl, by decide +kernel⟩
theorem fpX8_0 : Fp TX8 6 0 := ⟨tyX8, tyX8_ok, nmX8, rfl, by decide +kernel⟩
theorem fpX8_1 : Fp TX8 6 1 := ⟨tyX8, tyX8_ok, nmX8, rfl, by decide +kernel⟩
theorem kX6_tidy : Cal yX6_tidy RX6 cX6_tidy 1 (some .int) 0 := ⟨rfl, by decide +kernel, by decide +kernel, imX6_tidy, seX6_tidy, inX6, cdX6_tidy⟩
theorem kX2_pushLeft : Cal yX2_pushLeft RX2 cX2_pushLeft 3 (some .int) 0 := ⟨rfl, by decide +kernel, by decide +kernel, imX2_pushLeft, seX2_pushLeft, inX2, cdX2_pushLeft⟩
theorem kX3_pushLeft : Cal yX3_pushLeft RX3 cX3_pushLeft 6 (some .int) 0 := ⟨rfl, by decide +kernel, by decide +kernel, imX3_pushLeft, seX3_pushLeft, inX3, cdX3_pushLeft⟩
theorem kX6_fetched : Cal yX6_fetched RX6 cX6_fetched 3 (some .double) 0 := ⟨rfl, by decide +kernel, by decide +kernel, imX6_fetched, seX6_fetched, inX6, cdX6_fetched⟩
theorem kX4_ticketsIn : Cal yX4_ticketsIn RX4 cX4_ticketsIn 4 (some .int) 1 := ⟨rfl, by decide +kernel, by decide +kernel, imX4_ticketsIn, seX4_ticketsIn, inX4, cdX4_ticketsIn⟩
theorem kX6_digest : Cal yX6_digest RX6 cX6_digest 5 (some .long) 0 := ⟨rfl, by decide +kernel, by decide +kernel, imX6_digest, seX6_digest, inX6, cdX6_digest⟩
theorem kX4_tellCount : Cal yX4_tellCount RX4 cX4_tellCount 2 (some .int) 1 := ⟨rfl, by decide +kernel, by decide +kernel, imX4_tellCount, seX4_tellCount, inX4, cdX4_tellCount⟩
theorem kX2_taken : Cal yX2_taken RX2 cX2_taken 3 (some .int) 0 := ⟨rfl, by decide +kernel, by decide +kernel, imX2_taken, seX2_taken, inX2, cdX2_taken⟩
theorem kX3_taken : Cal yX3_taken RX3 cX3_taken 3 (some .int) 0 := ⟨rfl, by decide +kernel, by decide +kernel, imX3_taken, seX3_taken, inX3, cdX3_taken⟩
theorem kX4_loansHeld : Cal yX4_loansHeld RX4 cX4_loansHeld 3 (some .int) 0 := ⟨rfl, by decide +kernel, by decide +kernel, imX4_loansHeld, seX4_loansHeld, inX4, cdX4_loansHeld⟩
theorem kX4_tellCustomer : Cal yX4_tellCustomer RX4 cX4_tellCustomer 3 (some .int) 2 := ⟨rfl, by decide +kernel, by decide +kernel, imX4_tellCustomer, seX4_tellCustomer, inX4, cdX4_tellCustomer⟩
theorem kX4_ticketsOf : Cal yX4_ticketsOf RX4 cX4_ticketsOf 5 (some .int) 2 := ⟨rfl, by decide +kernel, by decide +kernel, imX4_ticketsOf, seX4_ticketsOf, inX4, cdX4_ticketsOf⟩
theorem kX4_debtOf : Cal yX4_debtOf RX4 cX4_debtOf 4 (some .int) 1 := ⟨rfl, by decide +kernel, by decide +kernel, imX4_debtOf, seX4_debtOf, inX4, cdX4_debtOf⟩
theorem kX5_debt : Cal yX5_debt RX5 cX5_debt 2 (some .int) 1 := ⟨rfl, by decide +kernel, by decide +kernel, imX5_debt, seX5_debt, inX5, cdX5_debt⟩
theorem kX5_interest : Cal yX5_interest RX5 cX5_interest 3 (some .int) 1 := ⟨rfl, by decide +kernel, by decide +kernel, imX5_interest, seX5_interest, inX5, cdX5_interest⟩
theorem kJ9_max_7cf53 : CalS yJ9_max_7cf53 RJ9 cJ9_max_7cf53 2 (some .int) 2 := ⟨rfl, by decide +kernel, by decide +kernel, stJ9_max_7cf53, inJ9, cdJ9_max_7cf53⟩
theorem kX4_tellTicket : Cal yX4_tellTicket RX4 cX4_tellTicket 4 (some .int) 2 := ⟨rfl, by decide +kernel, by decide +kernel, imX4_tellTicket, seX4_tellTicket, inX4, cdX4_tellTicket⟩
theorem kX2_shelfOf : Cal yX2_shelfOf RX2 cX2_shelfOf 3 (some .int) 1 := ⟨rfl, by decide +kernel, by decide +kernel, imX2_shelfOf, seX2_shelfOf, inX2, cdX2_shelfOf⟩
theorem kX3_leftmostOf : Cal yX3_leftmostOf RX3 cX3_leftmostOf 3 (some .int) 1 := ⟨rfl, by decide +kernel, by decide +kernel, imX3_leftmostOf, seX3_leftmostOf, inX3, cdX3_leftmostOf⟩
theorem kX2_leftmostOf : Cal yX2_leftmostOf RX2 cX2_leftmostOf 4 (some .int) 1 := ⟨rfl, by decide +kernel, by decide +kernel, imX2_leftmostOf, seX2_leftmostOf, inX2, cdX2_leftmostOf⟩
theorem kX6_come : Cal yX6_come RX6 cX6_come 2 (some .int) 1 := ⟨rfl, by decide +kernel, by decide +kernel, imX6_come, seX6_come, inX6, cdX6_come⟩
theorem kX6_isWithin : CalS yX6_isWithin RX6 cX6_isWithin 3 (some .boolean) 3 := ⟨rfl, by decide +kernel, by decide +kernel, stX6_isWithin, inX6, cdX6_isWithin⟩
theorem kX6_checkArgument : CalS yX6_checkArgument RX6 cX6_checkArgument 1 none 1 := ⟨rfl, by decide +kernel, by decide +kernel, stX6_checkArgument, inX6, cdX6_checkArgument⟩
theorem kX6_checkState : CalS yX6_checkState RX6 cX6_checkState 1 none 1 := ⟨rfl, by decide +kernel, by decide +kernel, stX6_checkState, inX6, cdX6_checkState⟩
theorem kX4_addCustomer : Cal yX4_addCustomer RX4 cX4_addCustomer 3 (some .int) 1 := ⟨rfl, by decide +kernel, by decide +kernel, imX4_addCustomer, seX4_addCustomer, inX4, cdX4_addCustomer⟩
theorem kX1_begin : Cal yX1_begin RX1 cX1_begin 2 none 1 := ⟨rfl, by decide +kernel, by decide +kernel, imX1_begin, seX1_begin, inX1, cdX1_begin⟩
theorem kX6_earn : Cal yX6_earn RX6 cX6_earn 4 (some .int) 2 := ⟨rfl, by decide +kernel, by decide +kernel, imX6_earn, seX6_earn, inX6, cdX6_earn⟩
theorem kX4_hasCustomer : Cal yX4_hasCustomer RX4 cX4_hasCustomer 2 (some .boolean) 1 := ⟨rfl, by decide +kernel, by decide +kernel, imX4_hasCustomer, seX4_hasCustomer, inX4, cdX4_hasCustomer⟩
theorem kX6_checkIndex : CalS yX6_checkIndex RX6 cX6_checkIndex 1 none 1 := ⟨rfl, by decide +kernel, by decide +kernel, stX6_checkIndex, inX6, cdX6_checkIndex⟩
theorem kX6_setBuyer : Cal yX6_setBuyer RX6 cX6_setBuyer 6 (some .int) 3 := ⟨rfl, by decide +kernel, by decide +kernel, imX6_setBuyer, seX6_setBuyer, inX6, cdX6_setBuyer⟩
theorem kX0_want : Cal yX0_want RX0 cX0_want 3 none 2 := ⟨rfl, by decide +kernel, by decide +kernel, imX0_want, seX0_want, inX0, cdX0_want⟩
theorem kX6_customer : Cal yX6_customer RX6 cX6_customer 3 (some .int) 2 := ⟨rfl, by decide +kernel, by decide +kernel, imX6_customer, seX6_customer, inX6, cdX6_customer⟩
theorem kX6_pledge : Cal yX6_pledge RX6 cX6_pledge 5 (some .int) 4 := ⟨rfl, by decide +kernel, by decide +kernel, imX6_pledge, seX6_pledge, inX6, cdX6_pledge⟩
theorem kX1_loanFor : Cal yX1_loanFor RX1 cX1_loanFor 2 (some .int) 1 := ⟨rfl, by decide +kernel, by decide +kernel, imX1_loanFor, seX1_loanFor, inX1, cdX1_loanFor⟩
theorem kX2_spotFor : Cal yX2_spotFor RX2 cX2_spotFor 4 (some .int) 1 := ⟨rfl, by decide +kernel, by decide +kernel, imX2_spotFor, seX2_spotFor, inX2, cdX2_spotFor⟩
theorem kX3_gapFor : Cal yX3_gapFor RX3 cX3_gapFor 4 (some .int) 1 := ⟨rfl, by decide +kernel, by decide +kernel, imX3_gapFor, seX3_gapFor, inX3, cdX3_gapFor⟩
theorem kX4_addTicket : Cal yX4_addTicket RX4 cX4_addTicket 7 (some .int) 4 := ⟨rfl, by decide +kernel, by decide +kernel, imX4_addTicket, seX4_addTicket, inX4, cdX4_addTicket⟩
theorem kX5_describe : Cal yX5_describe RX5 cX5_describe 5 none 4 := ⟨rfl, by decide +kernel, by decide +kernel, imX5_describe, seX5_describe, inX5, cdX5_describe⟩
theorem kX5_lend : Cal yX5_lend RX5 cX5_lend 3 none 2 := ⟨rfl, by decide +kernel, by decide +kernel, imX5_lend, seX5_lend, inX5, cdX5_lend⟩
theorem kX2_lay : Cal yX2_lay RX2 cX2_lay 6 none 2 := ⟨rfl, by decide +kernel, by decide +kernel, imX2_lay, seX2_lay, inX2, cdX2_lay⟩
theorem kX2_hasPlace : Cal yX2_hasPlace RX2 cX2_hasPlace 3 (some .boolean) 2 := ⟨rfl, by decide +kernel, by decide +kernel, imX2_hasPlace, seX2_hasPlace, inX2, cdX2_hasPlace⟩
theorem kX3_lay : Cal yX3_lay RX3 cX3_lay 5 none 3 := ⟨rfl, by decide +kernel, by decide +kernel, imX3_lay, seX3_lay, inX3, cdX3_lay⟩
theorem kX6_ticket : Cal yX6_ticket RX6 cX6_ticket 3 (some .int) 2 := ⟨rfl, by decide +kernel, by decide +kernel, imX6_ticket, seX6_ticket, inX6, cdX6_ticket⟩
theorem kX4_hasTicket : Cal yX4_hasTicket RX4 cX4_hasTicket 2 (some .boolean) 1 := ⟨rfl, by decide +kernel, by decide +kernel, imX4_hasTicket, seX4_hasTicket, inX4, cdX4_hasTicket⟩
theorem kX6_owes : Cal yX6_owes RX6 cX6_owes 2 (some .int) 1 := ⟨rfl, by decide +kernel, by decide +kernel, imX6_owes, seX6_owes, inX6, cdX6_owes⟩
theorem kX6_renew : Cal yX6_renew RX6 cX6_renew 4 (some .int) 1 := ⟨rfl, by decide +kernel, by decide +kernel, imX6_renew, seX6_renew, inX6, cdX6_renew⟩
theorem kX4_canPay : Cal yX4_canPay RX4 cX4_canPay 3 (some .boolean) 2 := ⟨rfl, by decide +kernel, by decide +kernel, imX4_canPay, seX4_canPay, inX4, cdX4_canPay⟩
theorem kX4_takeFrom : Cal yX4_takeFrom RX4 cX4_takeFrom 4 none 3 := ⟨rfl, by decide +kernel, by decide +kernel, imX4_takeFrom, seX4_takeFrom, inX4, cdX4_takeFrom⟩
theorem kX5_extend : Cal yX5_extend RX5 cX5_extend 2 none 1 := ⟨rfl, by decide +kernel, by decide +kernel, imX5_extend, seX5_extend, inX5, cdX5_extend⟩
theorem kX6_fetch : Cal yX6_fetch RX6 cX6_fetch 4 (some .int) 1 := ⟨rfl, by decide +kernel, by decide +kernel, imX6_fetch, seX6_fetch, inX6, cdX6_fetch⟩
theorem kX4_handOut : Cal yX4_handOut RX4 cX4_handOut 2 none 1 := ⟨rfl, by decide +kernel, by decide +kernel, imX4_handOut, seX4_handOut, inX4, cdX4_handOut⟩
theorem kX2_clear : Cal yX2_clear RX2 cX2_clear 3 none 1 := ⟨rfl, by decide +kernel, by decide +kernel, imX2_clear, seX2_clear, inX2, cdX2_clear⟩
theorem kX3_clear : Cal yX3_clear RX3 cX3_clear 3 none 1 := ⟨rfl, by decide +kernel, by decide +kernel, imX3_clear, seX3_clear, inX3, cdX3_clear⟩
theorem kX4_changeTrust : Cal yX4_changeTrust RX4 cX4_changeTrust 3 none 2 := ⟨rfl, by decide +kernel, by decide +kernel, imX4_changeTrust, seX4_changeTrust, inX4, cdX4_changeTrust⟩
theorem kX1_changeTrust : Cal yX1_changeTrust RX1 cX1_changeTrust 2 none 1 := ⟨rfl, by decide +kernel, by decide +kernel, imX1_changeTrust, seX1_changeTrust, inX1, cdX1_changeTrust⟩
theorem kJ9_min_7cf53 : CalS yJ9_min_7cf53 RJ9 cJ9_min_7cf53 2 (some .int) 2 := ⟨rfl, by decide +kernel, by decide +kernel, stJ9_min_7cf53, inJ9, cdJ9_min_7cf53⟩
theorem kX6_at : Cal yX6_at RX6 cX6_at 3 (some .int) 2 := ⟨rfl, by decide +kernel, by decide +kernel, imX6_at, seX6_at, inX6, cdX6_at⟩
theorem kX6_room : Cal yX6_room RX6 cX6_room 2 (some .int) 1 := ⟨rfl, by decide +kernel, by decide +kernel, imX6_room, seX6_room, inX6, cdX6_room⟩
theorem kX6_pass : Cal yX6_pass RX6 cX6_pass 2 (some .int) 1 := ⟨rfl, by decide +kernel, by decide +kernel, imX6_pass, seX6_pass, inX6, cdX6_pass⟩
theorem kX4_goOn : Cal yX4_goOn RX4 cX4_goOn 4 (some .int) 1 := ⟨rfl, by decide +kernel, by decide +kernel, imX4_goOn, seX4_goOn, inX4, cdX4_goOn⟩
theorem kX4_ageTickets : Cal yX4_ageTickets RX4 cX4_ageTickets 3 none 0 := ⟨rfl, by decide +kernel, by decide +kernel, imX4_ageTickets, seX4_ageTickets, inX4, cdX4_ageTickets⟩
theorem kX5_cheapen : Cal yX5_cheapen RX5 cX5_cheapen 1 none 0 := ⟨rfl, by decide +kernel, by decide +kernel, imX5_cheapen, seX5_cheapen, inX5, cdX5_cheapen⟩
theorem kX5_offer : Cal yX5_offer RX5 cX5_offer 1 none 0 := ⟨rfl, by decide +kernel, by decide +kernel, imX5_offer, seX5_offer, inX5, cdX5_offer⟩
theorem kJ9_floorMod_7cf53 : CalS yJ9_floorMod_7cf53 RJ9 cJ9_floorMod_7cf53 3 (some .int) 2 := ⟨rfl, by decide +kernel, by decide +kernel, stJ9_floorMod_7cf53, inJ9, cdJ9_floorMod_7cf53⟩
theorem kX4_sellToBuyer : Cal yX4_sellToBuyer RX4 cX4_sellToBuyer 3 (some .boolean) 1 := ⟨rfl, by decide +kernel, by decide +kernel, imX4_sellToBuyer, seX4_sellToBuyer, inX4, cdX4_sellToBuyer⟩
theorem kX4_dearestFor : Cal yX4_dearestFor RX4 cX4_dearestFor 5 (some .int) 1 := ⟨rfl, by decide +kernel, by decide +kernel, imX4_dearestFor, seX4_dearestFor, inX4, cdX4_dearestFor⟩
theorem kX0_takes : Cal yX0_takes RX0 cX0_takes 2 (some .boolean) 1 := ⟨rfl, by decide +kernel, by decide +kernel, imX0_takes, seX0_takes, inX0, cdX0_takes⟩
theorem kX6_count : Cal yX6_count RX6 cX6_count 2 (some .int) 1 := ⟨rfl, by decide +kernel, by decide +kernel, imX6_count, seX6_count, inX6, cdX6_count⟩
theorem kX6_foresee : Cal yX6_foresee RX6 cX6_foresee 4 (some .int) 2 := ⟨rfl, by decide +kernel, by decide +kernel, imX6_foresee, seX6_foresee, inX6, cdX6_foresee⟩
theorem kX4_copyFrom : Cal yX4_copyFrom RX4 cX4_copyFrom 3 none 1 := ⟨rfl, by decide +kernel, by decide +kernel, imX4_copyFrom, seX4_copyFrom, inX4, cdX4_copyFrom⟩
theorem kX1_copyFrom : Cal yX1_copyFrom RX1 cX1_copyFrom 2 none 1 := ⟨rfl, by decide +kernel, by decide +kernel, imX1_copyFrom, seX1_copyFrom, inX1, cdX1_copyFrom⟩
theorem kX5_copyFrom : Cal yX5_copyFrom RX5 cX5_copyFrom 2 none 1 := ⟨rfl, by decide +kernel, by decide +kernel, imX5_copyFrom, seX5_copyFrom, inX5, cdX5_copyFrom⟩
theorem kX2_copyFrom : Cal yX2_copyFrom RX2 cX2_copyFrom 3 none 1 := ⟨rfl, by decide +kernel, by decide +kernel, imX2_copyFrom, seX2_copyFrom, inX2, cdX2_copyFrom⟩
theorem kX3_copyFrom : Cal yX3_copyFrom RX3 cX3_copyFrom 3 none 1 := ⟨rfl, by decide +kernel, by decide +kernel, imX3_copyFrom, seX3_copyFrom, inX3, cdX3_copyFrom⟩
theorem kX6_raise : Cal yX6_raise RX6 cX6_raise 5 (some .int) 1 := ⟨rfl, by decide +kernel, by decide +kernel, imX6_raise, seX6_raise, inX6, cdX6_raise⟩
theorem kX4_putPrices : Cal yX4_putPrices RX4 cX4_putPrices 4 (some .int) 1 := ⟨rfl, by decide +kernel, by decide +kernel, imX4_putPrices, seX4_putPrices, inX4, cdX4_putPrices⟩
theorem kX6_sortUp : CalS yX6_sortUp RX6 cX6_sortUp 5 none 2 := ⟨rfl, by decide +kernel, by decide +kernel, stX6_sortUp, inX6, cdX6_sortUp⟩
theorem kX6_best : Cal yX6_best RX6 cX6_best 2 (some .int) 1 := ⟨rfl, by decide +kernel, by decide +kernel, imX6_best, seX6_best, inX6, cdX6_best⟩
theorem kX4_bestFor : Cal yX4_bestFor RX4 cX4_bestFor 7 (some .int) 1 := ⟨rfl, by decide +kernel, by decide +kernel, imX4_bestFor, seX4_bestFor, inX4, cdX4_bestFor⟩
theorem kX4_isHeldBy : Cal yX4_isHeldBy RX4 cX4_isHeldBy 3 (some .boolean) 2 := ⟨rfl, by decide +kernel, by decide +kernel, imX4_isHeldBy, seX4_isHeldBy, inX4, cdX4_isHeldBy⟩
theorem kX6_most : Cal yX6_most RX6 cX6_most 5 (some .int) 1 := ⟨rfl, by decide +kernel, by decide +kernel, imX6_most, seX6_most, inX6, cdX6_most⟩
theorem kX4_putDebts : Cal yX4_putDebts RX4 cX4_putDebts 5 (some .int) 2 := ⟨rfl, by decide +kernel, by decide +kernel, imX4_putDebts, seX4_putDebts, inX4, cdX4_putDebts⟩
theorem kX8_thrown : Cal yX8_thrown RX8 cX8_thrown 1 (some .int) 0 := ⟨rfl, by decide +kernel, by decide +kernel, imX8_thrown, seX8_thrown, inX8, cdX8_thrown⟩
theorem kX8_come : Cal yX8_come RX8 cX8_come 2 (some .int) 1 := ⟨rfl, by decide +kernel, by decide +kernel, imX8_come, seX8_come, inX8, cdX8_come⟩
theorem kX8_isIn : CalS yX8_isIn RX8 cX8_isIn 3 (some .boolean) 3 := ⟨rfl, by decide +kernel, by decide +kernel, stX8_isIn, inX8, cdX8_isIn⟩
theorem kX8_no : Cal yX8_no RX8 cX8_no 2 (some .int) 1 := ⟨rfl, by decide +kernel, by decide +kernel, imX8_no, seX8_no, inX8, cdX8_no⟩
theorem kX8_earn : Cal yX8_earn RX8 cX8_earn 3 (some .int) 2 := ⟨rfl, by decide +kernel, by decide +kernel, imX8_earn, seX8_earn, inX8, cdX8_earn⟩
theorem kX8_isCustomer : Cal yX8_isCustomer RX8 cX8_isCustomer 2 (some .boolean) 1 := ⟨rfl, by decide +kernel, by decide +kernel, imX8_isCustomer, seX8_isCustomer, inX8, cdX8_isCustomer⟩
theorem kX8_setBuyer : Cal yX8_setBuyer RX8 cX8_setBuyer 5 (some .int) 3 := ⟨rfl, by decide +kernel, by decide +kernel, imX8_setBuyer, seX8_setBuyer, inX8, cdX8_setBuyer⟩
theorem kX8_customer : Cal yX8_customer RX8 cX8_customer 3 (some .int) 2 := ⟨rfl, by decide +kernel, by decide +kernel, imX8_customer, seX8_customer, inX8, cdX8_customer⟩
theorem kX8_customerTold : Cal yX8_customerTold RX8 cX8_customerTold 5 (some .int) 2 := ⟨rfl, by decide +kernel, by decide +kernel, imX8_customerTold, seX8_customerTold, inX8, cdX8_customerTold⟩
theorem kX7_get : Cal yX7_get RX7 cX7_get 3 (some .int) 2 := ⟨rfl, by decide +kernel, by decide +kernel, imX7_get, seX7_get, inX7, cdX7_get⟩
theorem kX7_owed : Cal yX7_owed RX7 cX7_owed 2 (some .int) 1 := ⟨rfl, by decide +kernel, by decide +kernel, imX7_owed, seX7_owed, inX7, cdX7_owed⟩
theorem kX7_interestOf : Cal yX7_interestOf RX7 cX7_interestOf 2 (some .int) 1 := ⟨rfl, by decide +kernel, by decide +kernel, imX7_interestOf, seX7_interestOf, inX7, cdX7_interestOf⟩
theorem kX8_pledge : Cal yX8_pledge RX8 cX8_pledge 8 (some .int) 4 := ⟨rfl, by decide +kernel, by decide +kernel, imX8_pledge, seX8_pledge, inX8, cdX8_pledge⟩
theorem kX7_gap : Cal yX7_gap RX7 cX7_gap 5 (some .int) 1 := ⟨rfl, by decide +kernel, by decide +kernel, imX7_gap, seX7_gap, inX7, cdX7_gap⟩
theorem kX7_lay : Cal yX7_lay RX7 cX7_lay 4 none 2 := ⟨rfl, by decide +kernel, by decide +kernel, imX7_lay, seX7_lay, inX7, cdX7_lay⟩
theorem kX7_set : Cal yX7_set RX7 cX7_set 4 none 3 := ⟨rfl, by decide +kernel, by decide +kernel, imX7_set, seX7_set, inX7, cdX7_set⟩
theorem kX8_ticket : Cal yX8_ticket RX8 cX8_ticket 3 (some .int) 2 := ⟨rfl, by decide +kernel, by decide +kernel, imX8_ticket, seX8_ticket, inX8, cdX8_ticket⟩
theorem kX8_isTicket : Cal yX8_isTicket RX8 cX8_isTicket 2 (some .boolean) 1 := ⟨rfl, by decide +kernel, by decide +kernel, imX8_isTicket, seX8_isTicket, inX8, cdX8_isTicket⟩
theorem kX8_ticketTold : Cal yX8_ticketTold RX8 cX8_ticketTold 4 (some .int) 2 := ⟨rfl, by decide +kernel, by decide +kernel, imX8_ticketTold, seX8_ticketTold, inX8, cdX8_ticketTold⟩
theorem kX8_shelfOf : CalS yX8_shelfOf RX8 cX8_shelfOf 1 (some .int) 1 := ⟨rfl, by decide +kernel, by decide +kernel, stX8_shelfOf, inX8, cdX8_shelfOf⟩
theorem kX8_owes : Cal yX8_owes RX8 cX8_owes 2 (some .int) 1 := ⟨rfl, by decide +kernel, by decide +kernel, imX8_owes, seX8_owes, inX8, cdX8_owes⟩
theorem kX8_renew : Cal yX8_renew RX8 cX8_renew 4 (some .int) 1 := ⟨rfl, by decide +kernel, by decide +kernel, imX8_renew, seX8_renew, inX8, cdX8_renew⟩
theorem kX8_pay : Cal yX8_pay RX8 cX8_pay 4 none 3 := ⟨rfl, by decide +kernel, by decide +kernel, imX8_pay, seX8_pay, inX8, cdX8_pay⟩
theorem kX8_fetch : Cal yX8_fetch RX8 cX8_fetch 4 (some .int) 1 := ⟨rfl, by decide +kernel, by decide +kernel, imX8_fetch, seX8_fetch, inX8, cdX8_fetch⟩
theorem kX7_take : Cal yX7_take RX7 cX7_take 3 none 1 := ⟨rfl, by decide +kernel, by decide +kernel, imX7_take, seX7_take, inX7, cdX7_take⟩
theorem kX8_at : Cal yX8_at RX8 cX8_at 3 (some .int) 2 := ⟨rfl, by decide +kernel, by decide +kernel, imX8_at, seX8_at, inX8, cdX8_at⟩
theorem kX8_room : Cal yX8_room RX8 cX8_room 3 (some .int) 1 := ⟨rfl, by decide +kernel, by decide +kernel, imX8_room, seX8_room, inX8, cdX8_room⟩
theorem kX8_tidy : Cal yX8_tidy RX8 cX8_tidy 6 (some .int) 0 := ⟨rfl, by decide +kernel, by decide +kernel, imX8_tidy, seX8_tidy, inX8, cdX8_tidy⟩
theorem kX8_pass : Cal yX8_pass RX8 cX8_pass 4 (some .int) 1 := ⟨rfl, by decide +kernel, by decide +kernel, imX8_pass, seX8_pass, inX8, cdX8_pass⟩
theorem kX7_pass : Cal yX7_pass RX7 cX7_pass 3 (some .int) 0 := ⟨rfl, by decide +kernel, by decide +kernel, imX7_pass, seX7_pass, inX7, cdX7_pass⟩
theorem kX7_isBought : Cal yX7_isBought RX7 cX7_isBought 4 (some .boolean) 0 := ⟨rfl, by decide +kernel, by decide +kernel, imX7_isBought, seX7_isBought, inX7, cdX7_isBought⟩
theorem kX8_count : Cal yX8_count RX8 cX8_count 2 (some .int) 1 := ⟨rfl, by decide +kernel, by decide +kernel, imX8_count, seX8_count, inX8, cdX8_count⟩
theorem kX8_counted : Cal yX8_counted RX8 cX8_counted 5 (some .int) 1 := ⟨rfl, by decide +kernel, by decide +kernel, imX8_counted, seX8_counted, inX8, cdX8_counted⟩
theorem kX7_how : Cal yX7_how RX7 cX7_how 4 (some .int) 1 := ⟨rfl, by decide +kernel, by decide +kernel, imX7_how, seX7_how, inX7, cdX7_how⟩
theorem kX8_foresee : Cal yX8_foresee RX8 cX8_foresee 5 (some .int) 2 := ⟨rfl, by decide +kernel, by decide +kernel, imX8_foresee, seX8_foresee, inX8, cdX8_foresee⟩
theorem kX7_become : Cal yX7_become RX7 cX7_become 2 none 1 := ⟨rfl, by decide +kernel, by decide +kernel, imX7_become, seX7_become, inX7, cdX7_become⟩
theorem kX7_copy : Cal yX7_copy RX7 cX7_copy 3 none 2 := ⟨rfl, by decide +kernel, by decide +kernel, imX7_copy, seX7_copy, inX7, cdX7_copy⟩
theorem kX8_raise : Cal yX8_raise RX8 cX8_raise 7 (some .int) 1 := ⟨rfl, by decide +kernel, by decide +kernel, imX8_raise, seX8_raise, inX8, cdX8_raise⟩
theorem kX8_best : Cal yX8_best RX8 cX8_best 6 (some .int) 1 := ⟨rfl, by decide +kernel, by decide +kernel, imX8_best, seX8_best, inX8, cdX8_best⟩
theorem kX8_most : Cal yX8_most RX8 cX8_most 8 (some .int) 1 := ⟨rfl, by decide +kernel, by decide +kernel, imX8_most, seX8_most, inX8, cdX8_most⟩
theorem kX8_fetched : Cal yX8_fetched RX8 cX8_fetched 2 (some .double) 0 := ⟨rfl, by decide +kernel, by decide +kernel, imX8_fetched, seX8_fetched, inX8, cdX8_fetched⟩
theorem kX8_digest : Cal yX8_digest RX8 cX8_digest 5 (some .long) 0 := ⟨rfl, by decide +kernel, by decide +kernel, imX8_digest, seX8_digest, inX8, cdX8_digest⟩
