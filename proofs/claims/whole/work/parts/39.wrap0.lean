/-! the law's wrappers: a call that may throw, between handlers -/
def EXh (X : PX) (hh : List (Nat × Nat × Nat × Nat)) : Prop := (xL X).stackTraces = false ∧ (xC X).exceptionTable.toList = tableOf hh
section ZW
variable {X : PX} {G : GT} {T : Nat × Nat} {cc : ByteArray} {nL : Nat} {own : String} {rt : Option FieldType} {d mc ms : Nat} {Q : State → Prop} {pc : Nat} {lv r : List (Option Value)} {st : List Value} {M : Mem} {cells slots : Nat}
variable {idx ci kf N k s i n j t0 : Nat} {C : String} {Tf : u_T} {fs : List Value} {hh : List (Nat × Nat × Nat × Nat)}
variable {y : MethodName} {cy : ByteArray} {nLy dy my sy : Nat} {rty : Option FieldType} {av : GT → List Value} {As st0 : List Value} {xp : String → Mem → Prop}
/-- out[0] = v -/
theorem z_last (E : EF X G cc nL own rt d mc ms) {v : Int32} (hd : decode cc pc = .ok (.lastore, 1)) (kk : Z X G T Q (pc + 1) lv st (mset M 21 0 0 0 v) cells slots) : Z X G T Q pc lv (.long v.toInt64 :: .int 0 :: .ref (ad G 21 0 0) :: st) M cells slots := fun ls H locs hl hP hT hS => by
  refine W.last E.ex E.cb (hP.one' ok21 rfl 0 _ rfl) ((E.kk.2 5 _ rfl).1 1 (fun j => .long ((M 21 0 0 0).toInt64))) (fun q => by cases q) (by show ¬ ((0 : Int32) < 0 ∨ (arrV _ 1 _).slots.size ≤ _); rw [arrV_size]; decide) rfl rfl hd fun H1 e z oq => ?_
  refine kk ls H1 _ hl (hP.put ok21 ?_ oq) (hT.put ok21 oq) (hS.put z oq (Aw.ad ok21))
  show H1[ad G 21 0 0]? = some (vp_cell _ _)
  rw [e]
  rfl
def WC (y : MethodName) (cy : ByteArray) (nLy : Nat) (hh : List (Nat × Nat × Nat × Nat)) (dy my sy : Nat) (av : GT → List Value) (M : Mem) (post : Int32 → Mem → Prop) : Prop := ∀ (l : Launch) (G : GT) (sz : Nat), l.stackTraces = false → vx_Met l y (wh_ y cy nLy (some .int) hh) (rmd dy my sy) (PcW G M (av G) sz) (va_Qi post (fun M' t => PW G M' t.heap) (Aw G sz)) (vx_X (fun _ : Mem => False) (fun _ M' t => PW G M' t.heap) (Aw G sz)) my sy (Aw G sz)
def QWC (X : PX) (G : GT) (post : Int32 → Mem → Prop) (my sy : Nat) : State → Prop := vx_MQ (xB X) (va_Qi post (fun M' t => PW G M' t.heap) (Aw G (xS X).heap.size)) (vx_X (fun _ : Mem => False) (fun _ M' t => PW G M' t.heap) (Aw G (xS X).heap.size)) (xA X) (xS X) my sy (Aw G (xS X).heap.size)
theorem WC.mk {post : Int32 → Mem → Prop} (hy : plainName y.cls = true) (hown : y.cls = own) (hcat : ∀ G, (av G).all (fun v => v.category == 1) = true) (hlen : ∀ G, (av G).length ≤ nL) {lv0 : GT → List (Option Value)} (hlv : ∀ G, (av G).map some ++ List.replicate (nL - (av G).length) none = lv0 G)
    (body : ∀ X G, EF X G cc nL own (some .int) dy my sy → EXh X hh → Z X G (0, 0) (QWC X G post my sy) 0 (lv0 G) [] M 0 0) : WC y cc nL hh dy my sy av M post := by
  intro l G sz hl0
  refine vx_ofWH (cc := cc) (maxL := nL) (ret := some .int) (hh := hh) hy rfl ?_
  intro p e s m args below meth c s₁ B hml hv
  obtain ⟨rfl, hsz, h1, hP, hF⟩ := hv
  subst hsz
  have hts := atoms_spec (ws := wh_ y cc nL (some .int) hh) B.pre
  have E : EF (p, l, e, rmd dy my sy, s, m, (av G).toArray, below, meth, c) G cc nL own (some .int) dy my sy := ⟨B.exec, B.bytes, hml, by rw [← hown]; exact findClass_of_methodNamed B.named, fun w hw => hts w (List.mem_cons_of_mem _ hw), B.notSynchronized, B.returns, trivial, hF, rfl⟩
  rw [lg_entry_eq]
  have hl := hasL_entry (av G) (n := nL) (fun v hv => by simpa using List.all_eq_true.mp (hcat G) v hv) (hlen G)
  rw [hlv] at hl
  exact body _ G E ⟨hl0, vx_table (x := y) B (hts _ List.mem_cons_self)⟩ _ s.heap [] hl hP (Or.inl rfl) va_S.rf
theorem z_wret {post : Int32 → Mem → Prop} {v : Int32} (E : EF X G cc nL own (some .int) d mc ms) (hd : decode cc pc = .ok (.ireturn, 1)) (hc : cells ≤ mc) (hs : slots ≤ ms) (hp : post v M) : Z X G T (QWC X G post mc ms) pc lv [.int v] M cells slots := fun ls H locs hl hP hT hS =>
  vx_ret (W.widen hc hs (W.iret E.ex E.cb E.ret (fun t ht hW => ⟨⟨v, M, rfl, hp, by show PW G M t.heap; rw [ht]; exact hP⟩, hS.F ht⟩) hS.2.2 hd E.lk))
/-- the call between the handlers -/
theorem z_xcI {post : Int32 → Mem → Prop} (E : EF X G cc nL own rt d mc ms) (hX : EXh X hh) (hM : XI y cy nLy rty dy my sy av M post xp) (hav : av G = .ref (ad G k s i) :: As) (hst : st0 = As.reverse ++ .ref (ad G k s i) :: st) (hy : Cal y C cy nLy rty n) (hm : Cond.methodLink own idx y ∈ GW) (hd : decode cc pc = .ok (.invokevirtual idx, 3)) (ho : okc k s i) (hc : conV G k s i (M k s i) = .inr (ci, fs)) (hcl : vwCl[ci]? = some (C, Tf, N)) (hn : As.length = n) (hcat : (st.map fun v => v.category).sum ≤ 8) (hlv : lv.length = nL) (hdd : dy + 1 ≤ d) (hnl : nLy ≤ 11) (hcm : cells + my ≤ mc ∧ slots + sy ≤ ms)
    (kx : ∀ Ex M', xp Ex M' → ∃ (pre : List ExceptionTableEntry) (x : ExceptionTableEntry) (suf : List ExceptionTableEntry), tableOf hh = pre ++ x :: suf ∧ (∀ z ∈ pre, covers z pc = false ∨ (z.catchType ≠ 0 ∧ ∃ nm : String, Cond.classLink own z.catchType nm ∈ GW ∧ (Ex, nm) ∈ NWn)) ∧ covers x pc = true ∧ x.catchType ≠ 0 ∧ Cond.classLink own x.catchType Ex ∈ GW ∧ Ex ∈ NWc ∧ ∀ q, Z X G (0, 0) Q x.handlerPc lv [.ref q] M' (cells + my) (slots + sy))
    (kk : ∀ r M', post r M' → Z X G (0, 0) Q (pc + 3) lv (.int r :: st) M' (cells + my) (slots + sy)) : Z X G (0, 0) Q pc lv st0 M cells slots := by
  refine fun ls H locs hl hP hT hS => ?_
  refine vx_calli (vx_runV (As := As) (rest := st) ⟨E.ex, E.cb, E.ml, E.ow, E.ts⟩ (hM (xL X) G H.size hX.1) (cwV n E.ts (good_V hy hm) rfl rfl rfl ⟨hy.1, hy.2.1.1, hy.2.1.2, hy.2.2.1⟩ ⟨by rw [E.rm]; exact hdd, by rw [E.rm]; show 8 + (nLy + 11) + 30 * dy ≤ 30 * d; omega⟩) ⟨pcw_blind, va_recv (q0 := 0) E.kk (hP.one' ho hc) hcl rfl, fun U hU hW => ⟨by rw [hav], E.wi hP hS hU hW⟩⟩ rfl hn (hl.1.trans hlv) hst (lv_room hcat) hd ⟨by rw [E.rm]; exact hcm.1, by rw [E.rm]; exact hcm.2⟩)
    hS (fun q _ h => Aw.mono hS.1 q h) (fun q h => Aw.mono hS.1 q h) (fun q _ h => Aw.mono hS.1 q h) (fun Ex ce q9 u t H1 locs1 ht hvm hpx hB hz1 hk1 hS1 hce hcv hcls => ?_) (fun r M' t H1 locs1 ht hvm hw hB hz1 hk1 hS1 => ?_)
  · obtain ⟨pre, x, suf, h1, h2, h3, h4, h5, h6, h7⟩ := kx Ex u hB.1
    exact vx_catch E.ow pre x suf (hX.2.trans h1) (fun z hz => (h2 z hz).imp id (fun g => ⟨g.1, g.2.choose, E.ts _ g.2.choose_spec.1, E.wf.2.2.2.2.2.2.2.2.2.2.2.2.1 _ g.2.choose_spec.2⟩)) h3 h4 (E.ts _ h5) (va_Nw.use rfl (E.wf.2.2.2.2.2.2.2.2.2.2.1 _ h6)) hce hcv hcls
      (h7 q9 ls H1 locs1 hl (by rw [← ht]; exact hB.2) (Or.inl rfl) hS1)
  · exact kk r M' hw ls H1 locs1 hl (by rw [← ht]; exact hB) (Or.inl rfl) hS1
/-- the law's call of a wrapper -/
def CalW (y : MethodName) (C : String) (cy : ByteArray) (nLy : Nat) (hh : List (Nat × Nat × Nat × Nat)) (n : Nat) : Prop := y.cls = C ∧ (y.cls ≠ "java/lang/invoke/MethodHandle" ∧ y.cls ≠ "java/lang/invoke/VarHandle") ∧ (parseMethodDescriptor y.desc).map (fun d => d.parameters.length) = some n ∧ Cond.static y ∈ GW ∧ Cond.initialized C ∈ GW ∧ Cond.codeWith y cy nLy (some .int) hh ∈ GW
theorem good_W {own : String} {idx : Nat} {y : MethodName} {C : String} {cy : ByteArray} {nLy n : Nat} {hh : List (Nat × Nat × Nat × Nat)} (hy : CalW y C cy nLy hh n) (hm : Cond.methodLink own idx y ∈ GW) : GoodIn GW (va_wsS own idx y (wh_ y cy nLy (some .int) hh)) := by
  obtain ⟨rfl, -, -, h1, h3, h4⟩ := hy
  intro w hw
  simp only [va_wsS, List.cons_append, List.nil_append, List.mem_cons] at hw
  rcases hw with rfl | rfl | rfl | hw
  · exact ⟨hm, gw_good hm⟩
  · exact ⟨h1, gw_good h1⟩
  · exact ⟨h3, gw_good h3⟩
  · rcases List.mem_cons.mp hw with rfl | hw
    · exact ⟨h4, gw_good h4⟩
    · exact ⟨hw, gw_good hw⟩
theorem z_wc {post : Int32 → Mem → Prop} (E : EF X G cc nL own rt d mc ms) (hl0 : (xL X).stackTraces = false) (hM : WC y cy nLy hh dy my sy av M post) (hav : av G = As) (hst : st0 = As.reverse ++ st) (hy : CalW y C cy nLy hh n) (hm : Cond.methodLink own idx y ∈ GW) (hd : decode cc pc = .ok (.invokestatic idx, 3)) (hn : As.length = n) (hcat : (st.map fun v => v.category).sum ≤ 8) (hlv : lv.length = nL) (hdd : dy + 1 ≤ d) (hnl : nLy ≤ 11) (hcm : cells + my ≤ mc ∧ slots + sy ≤ ms)
    (kk : ∀ r M', post r M' → Z X G (0, 0) Q (pc + 3) lv (.int r :: st) M' (cells + my) (slots + sy)) : Z X G (0, 0) Q pc lv st0 M cells slots := by
  refine fun ls H locs hl hP hT hS => ?_
  refine vx_calli (vx_runSX (As := As) (rest := st) ⟨E.ex, E.cb, E.ml, E.ow, E.ts⟩ (hM (xL X) G H.size hl0) (vx_cwSW n E.ts (good_W hy hm) rfl rfl rfl ⟨hy.2.1.1, hy.2.1.2, hy.2.2.1⟩ ⟨by rw [E.rm]; exact hdd, by rw [E.rm]; show 8 + (nLy + 11) + 30 * dy ≤ 30 * d; omega⟩) ⟨pcw_blind, fun U hU hW => ⟨by rw [hav], E.wi hP hS hU hW⟩⟩ rfl hn (hl.1.trans hlv) hst (lv_room hcat) hd ⟨by rw [E.rm]; exact hcm.1, by rw [E.rm]; exact hcm.2⟩)
    hS (fun q _ h => Aw.mono hS.1 q h) (fun q h => Aw.mono hS.1 q h) (fun q _ h => Aw.mono hS.1 q h) (fun Ex ce q9 u t H1 locs1 ht hvm hpx hB hz1 hk1 hS1 hce hcv hcls => hpx.elim) (fun r M' t H1 locs1 ht hvm hw hB hz1 hk1 hS1 => ?_)
  exact kk r M' hw ls H1 locs1 hl (by rw [← ht]; exact hB) (Or.inl rfl) hS1
end ZW
