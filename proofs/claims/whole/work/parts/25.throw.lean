/-! methods that may throw -/
def BW : List Cond := NWc.map (fun q => Cond.castable q q) ++ NWd.map Cond.declares
def EX (X : PX) : Prop := (xL X).stackTraces = false ∧ ∀ x ∈ (xC X).exceptionTable.toList, False
section ZX
variable {X : PX} {G : GT} {T : Nat × Nat} {cc : ByteArray} {nL : Nat} {own : String} {rt : Option FieldType} {d mc ms : Nat} {Q : State → Prop} {pc : Nat} {lv r : List (Option Value)} {st : List Value} {M : Mem} {cells slots : Nat}
variable {idx ci kf N k s i n j t0 : Nat} {C : String} {Tf : u_T} {fs : List Value}
variable {y : MethodName} {cy : ByteArray} {nLy dy my sy : Nat} {rty : Option FieldType} {av : GT → List Value} {As st0 : List Value} {xp : String → Mem → Prop}
theorem EF.bw (E : EF X G cc nL own rt d mc ms) : ∀ w ∈ BW, w.before (xA X) (xS X) = true := by
  intro w hw
  rcases List.mem_append.mp hw with h | h
  · obtain ⟨q, hq, rfl⟩ := List.mem_map.mp h
    exact va_Nw.use rfl (E.wf.2.2.2.2.2.2.2.2.2.2.1 q hq)
  · obtain ⟨q, hq, rfl⟩ := List.mem_map.mp h
    exact va_Nw.use rfl (E.wf.2.2.2.2.2.2.2.2.2.2.2.1 q hq)
theorem PW.kept {H H1 : Heap} (h : PW G M H) (hq : ∀ q : Nat, q < H.size → H1[q]? = H[q]?) : PW G M H1 := fun k s i ho => (h k s i ho).kept (hq _ (h k s i ho).lt)
def XV (y : MethodName) (cy : ByteArray) (nLy : Nat) (rty : Option FieldType) (dy my sy : Nat) (av : GT → List Value) (M : Mem) (post : Mem → Prop) (xp : String → Mem → Prop) : Prop := ∀ (l : Launch) (G : GT) (sz : Nat), l.stackTraces = false → vx_Met l y (ws_ y cy nLy rty) (rmd dy my sy) (PcW G M (av G) sz) (va_Qv post (fun M' t => PW G M' t.heap) (Aw G sz)) (vx_X (fun _ : Mem => True) (fun E M' t => xp E M' ∧ PW G M' t.heap) (Aw G sz)) my sy (Aw G sz)
def QXV (X : PX) (G : GT) (post : Mem → Prop) (xp : String → Mem → Prop) (my sy : Nat) : State → Prop := vx_MQ (xB X) (va_Qv post (fun M' t => PW G M' t.heap) (Aw G (xS X).heap.size)) (vx_X (fun _ : Mem => True) (fun E M' t => xp E M' ∧ PW G M' t.heap) (Aw G (xS X).heap.size)) (xA X) (xS X) my sy (Aw G (xS X).heap.size)
theorem XV.mk {post : Mem → Prop} (hy : plainName y.cls = true) (hown : y.cls = own) (hcat : ∀ G, (av G).all (fun v => v.category == 1) = true) (hlen : ∀ G, (av G).length ≤ nL) {lv0 : GT → List (Option Value)} (hlv : ∀ G, (av G).map some ++ List.replicate (nL - (av G).length) none = lv0 G)
    (body : ∀ X G, EF X G cc nL own rt dy my sy → EX X → Z X G (0, 0) (QXV X G post xp my sy) 0 (lv0 G) [] M 0 0) : XV y cc nL rt dy my sy av M post xp := by
  intro l G sz hl0
  refine vx_ofW (cc := cc) (maxL := nL) (ret := rt) hy rfl ?_
  intro p e s m args below meth c s₁ B hml htab hv
  obtain ⟨rfl, hsz, h1, hP, hF⟩ := hv
  subst hsz
  have hts := atoms_spec (ws := ws_ y cc nL rt) B.pre
  have E : EF (p, l, e, rmd dy my sy, s, m, (av G).toArray, below, meth, c) G cc nL own rt dy my sy := ⟨B.exec, B.bytes, hml, by rw [← hown]; exact findClass_of_methodNamed B.named, fun w hw => hts w (List.mem_cons_of_mem _ hw), B.notSynchronized, B.returns, trivial, hF, rfl⟩
  rw [lg_entry_eq]
  have hl := hasL_entry (av G) (n := nL) (fun v hv => by simpa using List.all_eq_true.mp (hcat G) v hv) (hlen G)
  rw [hlv] at hl
  exact body _ G E ⟨hl0, htab⟩ _ s.heap [] hl hP (Or.inl rfl) va_S.rf
/-- 'throw new E("text")' -/
theorem z_throwV {post : Mem → Prop} (E : EF X G cc nL own rt d mc ms) (hX : EX X) {cls text : String} {names : List String} {ik is ic sa : Nat} (hcls : Bundle.fit cls = true) (hnames : ∀ n ∈ names, Bundle.fit n = true) (hk : Cond.classLink own ik cls ∈ GW) (hini : Cond.initialized cls ∈ GW) (hstr : vk_R own is text sa (xS X))
    (h1 : ∀ w ∈ (vx_atS own ic cls names).filter goodWord, w ∈ GW) (h2 : ∀ w ∈ (vx_atS own ic cls names).filter (fun w => !goodWord w), w ∈ BW) (hgood : ∀ w ∈ Cond.classLink own ik cls :: Cond.initialized cls :: vx_atS own ic cls names, vx_ot w = true)
    (d0 : decode cc pc = .ok (.new ik, 3)) (d3 : decode cc (pc + 3) = .ok (.dup, 1)) (d4 : decode cc (pc + 4) = .ok (.ldc is, 2)) (d6 : decode cc (pc + 6) = .ok (.invokespecial ic, 3)) (d9 : decode cc (pc + 9) = .ok (.athrow, 1))
    (hfr : names.length + 3 < d) (hlo : (st.map fun v => v.category).sum + (13 * (names.length + 1) + 43) ≤ 30 * d) (hlv : lv.length = nL) (hc : cells + 1 ≤ mc) (hs : slots + 6 ≤ ms) (hp : xp cls M) : Z X G T (QXV X G post xp mc ms) pc lv st M cells slots := fun ls H locs hl hP hT hS =>
  vx_throwS E.ex E.cb hX.1 E.ow hcls hnames (E.ts _ hk) (E.ts _ hini) hstr (vx_hat (fun w hw => E.ts _ (h1 w hw)) h2 E.bw) hgood E.wf.2.2.2.2.2.1 E.wf.2.2.2.2.2.2.1 hS (by rw [E.ml, hl.1, hlv]) d0 d3 d4 d6 d9 (fun x hx => (hX.2 x hx).elim)
    (by rw [E.rm]; exact hfr) (by rw [E.rm]; exact hlo) (by rw [E.rm]; exact hc) (by rw [E.rm]; exact hs) E.lk
    (fun t _ hz hq => ⟨M, trivial, ⟨hp, hP.kept hq⟩, Nat.le_trans hS.1 hz, fun q h1 h2 => (hq q (Nat.lt_of_lt_of_le h1 hS.1)).trans (hS.2.1 q h1 h2)⟩) hS.2.2 hc hs
/-- a call of a check: it returns, or what it throws leaves this method -/
theorem z_chkV {post : Mem → Prop} {P : Prop} {xpc : String → Mem → Prop} (E : EF X G cc nL own rt d mc ms) (hX : EX X) (hM : XV y cy nLy rty dy my sy av M (fun M' => P ∧ M' = M) xpc) (hav : av G = As) (hst : st0 = As.reverse ++ st) (hy : CalS y C cy nLy rty n) (hm : Cond.methodLink own idx y ∈ GW) (hd : decode cc pc = .ok (.invokestatic idx, 3)) (hn : As.length = n) (hcat : (st.map fun v => v.category).sum ≤ 8) (hlv : lv.length = nL) (hdd : dy + 1 ≤ d) (hnl : nLy ≤ 11) (hcm : cells + my ≤ mc ∧ slots + sy ≤ ms)
    (hxx : ∀ Ex M', xpc Ex M' → xp Ex M') (kk : P → Z X G T (QXV X G post xp mc ms) (pc + 3) lv st M (cells + my) (slots + sy)) : Z X G T (QXV X G post xp mc ms) pc lv st0 M cells slots := by
  refine fun ls H locs hl hP hT hS => ?_
  refine vx_callv (vx_runS (As := As) (rest := st) ⟨E.ex, E.cb, E.ml, E.ow, E.ts⟩ (hM (xL X) G H.size hX.1) (va_cwS n E.ts (good_S hy hm) rfl rfl rfl ⟨hy.2.1.1, hy.2.1.2, hy.2.2.1⟩ ⟨by rw [E.rm]; exact hdd, by rw [E.rm]; show 8 + (nLy + 11) + 30 * dy ≤ 30 * d; omega⟩) ⟨pcw_blind, fun U hU hW => ⟨by rw [hav], E.wi hP hS hU hW⟩⟩ rfl hn (hl.1.trans hlv) hst (lv_room hcat) hd ⟨by rw [E.rm]; exact hcm.1, by rw [E.rm]; exact hcm.2⟩)
    hS (fun q _ h => Aw.mono hS.1 q h) (fun q h => Aw.mono hS.1 q h) (fun q _ h => Aw.mono hS.1 q h) (fun Ex ce q9 u t H1 locs1 ht hvm hpx hB hz1 hk1 hS1 hce hcv hcl => ?_) (fun u t H1 locs1 ht hvm hw hB hz1 hk1 hS1 => ?_)
  · exact vx_out (fun x hx => (hX.2 x hx).elim) E.lk hce hcv hcl (fun t' ht' _ => ⟨u, trivial, ⟨hxx _ _ hB.1, by rw [ht', ← ht]; exact hB.2⟩, hS1.F ht'⟩) hS1.2.2 hcm.1 hcm.2
  · obtain ⟨h1, h2⟩ := hw
    subst h2
    exact kk h1 ls H1 locs1 hl (by rw [← ht]; exact hB) (hT.call (Or.inr rfl) hk1) hS1
def XI (y : MethodName) (cy : ByteArray) (nLy : Nat) (rty : Option FieldType) (dy my sy : Nat) (av : GT → List Value) (M : Mem) (post : Int32 → Mem → Prop) (xp : String → Mem → Prop) : Prop := ∀ (l : Launch) (G : GT) (sz : Nat), l.stackTraces = false → vx_Met l y (ws_ y cy nLy rty) (rmd dy my sy) (PcW G M (av G) sz) (va_Qi post (fun M' t => PW G M' t.heap) (Aw G sz)) (vx_X (fun _ : Mem => True) (fun E M' t => xp E M' ∧ PW G M' t.heap) (Aw G sz)) my sy (Aw G sz)
def QXI (X : PX) (G : GT) (post : Int32 → Mem → Prop) (xp : String → Mem → Prop) (my sy : Nat) : State → Prop := vx_MQ (xB X) (va_Qi post (fun M' t => PW G M' t.heap) (Aw G (xS X).heap.size)) (vx_X (fun _ : Mem => True) (fun E M' t => xp E M' ∧ PW G M' t.heap) (Aw G (xS X).heap.size)) (xA X) (xS X) my sy (Aw G (xS X).heap.size)
theorem XI.mk {post : Int32 → Mem → Prop} (hy : plainName y.cls = true) (hown : y.cls = own) (hcat : ∀ G, (av G).all (fun v => v.category == 1) = true) (hlen : ∀ G, (av G).length ≤ nL) {lv0 : GT → List (Option Value)} (hlv : ∀ G, (av G).map some ++ List.replicate (nL - (av G).length) none = lv0 G)
    (body : ∀ X G, EF X G cc nL own rt dy my sy → EX X → Z X G (0, 0) (QXI X G post xp my sy) 0 (lv0 G) [] M 0 0) : XI y cc nL rt dy my sy av M post xp := by
  intro l G sz hl0
  refine vx_ofW (cc := cc) (maxL := nL) (ret := rt) hy rfl ?_
  intro p e s m args below meth c s₁ B hml htab hv
  obtain ⟨rfl, hsz, h1, hP, hF⟩ := hv
  subst hsz
  have hts := atoms_spec (ws := ws_ y cc nL rt) B.pre
  have E : EF (p, l, e, rmd dy my sy, s, m, (av G).toArray, below, meth, c) G cc nL own rt dy my sy := ⟨B.exec, B.bytes, hml, by rw [← hown]; exact findClass_of_methodNamed B.named, fun w hw => hts w (List.mem_cons_of_mem _ hw), B.notSynchronized, B.returns, trivial, hF, rfl⟩
  rw [lg_entry_eq]
  have hl := hasL_entry (av G) (n := nL) (fun v hv => by simpa using List.all_eq_true.mp (hcat G) v hv) (hlen G)
  rw [hlv] at hl
  exact body _ G E ⟨hl0, htab⟩ _ s.heap [] hl hP (Or.inl rfl) va_S.rf
/-- 'throw new E("text")' -/
theorem z_throwI {post : Int32 → Mem → Prop} (E : EF X G cc nL own rt d mc ms) (hX : EX X) {cls text : String} {names : List String} {ik is ic sa : Nat} (hcls : Bundle.fit cls = true) (hnames : ∀ n ∈ names, Bundle.fit n = true) (hk : Cond.classLink own ik cls ∈ GW) (hini : Cond.initialized cls ∈ GW) (hstr : vk_R own is text sa (xS X))
    (h1 : ∀ w ∈ (vx_atS own ic cls names).filter goodWord, w ∈ GW) (h2 : ∀ w ∈ (vx_atS own ic cls names).filter (fun w => !goodWord w), w ∈ BW) (hgood : ∀ w ∈ Cond.classLink own ik cls :: Cond.initialized cls :: vx_atS own ic cls names, vx_ot w = true)
    (d0 : decode cc pc = .ok (.new ik, 3)) (d3 : decode cc (pc + 3) = .ok (.dup, 1)) (d4 : decode cc (pc + 4) = .ok (.ldc is, 2)) (d6 : decode cc (pc + 6) = .ok (.invokespecial ic, 3)) (d9 : decode cc (pc + 9) = .ok (.athrow, 1))
    (hfr : names.length + 3 < d) (hlo : (st.map fun v => v.category).sum + (13 * (names.length + 1) + 43) ≤ 30 * d) (hlv : lv.length = nL) (hc : cells + 1 ≤ mc) (hs : slots + 6 ≤ ms) (hp : xp cls M) : Z X G T (QXI X G post xp mc ms) pc lv st M cells slots := fun ls H locs hl hP hT hS =>
  vx_throwS E.ex E.cb hX.1 E.ow hcls hnames (E.ts _ hk) (E.ts _ hini) hstr (vx_hat (fun w hw => E.ts _ (h1 w hw)) h2 E.bw) hgood E.wf.2.2.2.2.2.1 E.wf.2.2.2.2.2.2.1 hS (by rw [E.ml, hl.1, hlv]) d0 d3 d4 d6 d9 (fun x hx => (hX.2 x hx).elim)
    (by rw [E.rm]; exact hfr) (by rw [E.rm]; exact hlo) (by rw [E.rm]; exact hc) (by rw [E.rm]; exact hs) E.lk
    (fun t _ hz hq => ⟨M, trivial, ⟨hp, hP.kept hq⟩, Nat.le_trans hS.1 hz, fun q h1 h2 => (hq q (Nat.lt_of_lt_of_le h1 hS.1)).trans (hS.2.1 q h1 h2)⟩) hS.2.2 hc hs
/-- a call of a check: it returns, or what it throws leaves this method -/
theorem z_chkI {post : Int32 → Mem → Prop} {P : Prop} {xpc : String → Mem → Prop} (E : EF X G cc nL own rt d mc ms) (hX : EX X) (hM : XV y cy nLy rty dy my sy av M (fun M' => P ∧ M' = M) xpc) (hav : av G = As) (hst : st0 = As.reverse ++ st) (hy : CalS y C cy nLy rty n) (hm : Cond.methodLink own idx y ∈ GW) (hd : decode cc pc = .ok (.invokestatic idx, 3)) (hn : As.length = n) (hcat : (st.map fun v => v.category).sum ≤ 8) (hlv : lv.length = nL) (hdd : dy + 1 ≤ d) (hnl : nLy ≤ 11) (hcm : cells + my ≤ mc ∧ slots + sy ≤ ms)
    (hxx : ∀ Ex M', xpc Ex M' → xp Ex M') (kk : P → Z X G T (QXI X G post xp mc ms) (pc + 3) lv st M (cells + my) (slots + sy)) : Z X G T (QXI X G post xp mc ms) pc lv st0 M cells slots := by
  refine fun ls H locs hl hP hT hS => ?_
  refine vx_callv (vx_runS (As := As) (rest := st) ⟨E.ex, E.cb, E.ml, E.ow, E.ts⟩ (hM (xL X) G H.size hX.1) (va_cwS n E.ts (good_S hy hm) rfl rfl rfl ⟨hy.2.1.1, hy.2.1.2, hy.2.2.1⟩ ⟨by rw [E.rm]; exact hdd, by rw [E.rm]; show 8 + (nLy + 11) + 30 * dy ≤ 30 * d; omega⟩) ⟨pcw_blind, fun U hU hW => ⟨by rw [hav], E.wi hP hS hU hW⟩⟩ rfl hn (hl.1.trans hlv) hst (lv_room hcat) hd ⟨by rw [E.rm]; exact hcm.1, by rw [E.rm]; exact hcm.2⟩)
    hS (fun q _ h => Aw.mono hS.1 q h) (fun q h => Aw.mono hS.1 q h) (fun q _ h => Aw.mono hS.1 q h) (fun Ex ce q9 u t H1 locs1 ht hvm hpx hB hz1 hk1 hS1 hce hcv hcl => ?_) (fun u t H1 locs1 ht hvm hw hB hz1 hk1 hS1 => ?_)
  · exact vx_out (fun x hx => (hX.2 x hx).elim) E.lk hce hcv hcl (fun t' ht' _ => ⟨u, trivial, ⟨hxx _ _ hB.1, by rw [ht', ← ht]; exact hB.2⟩, hS1.F ht'⟩) hS1.2.2 hcm.1 hcm.2
  · obtain ⟨h1, h2⟩ := hw
    subst h2
    exact kk h1 ls H1 locs1 hl (by rw [← ht]; exact hB) (hT.call (Or.inr rfl) hk1) hS1
theorem z_xvret {post : Mem → Prop} (E : EF X G cc nL own none d mc ms) (hd : decode cc pc = .ok (.return_, 1)) (hc : cells ≤ mc) (hs : slots ≤ ms) (hp : post M) : Z X G T (QXV X G post xp mc ms) pc lv [] M cells slots := fun ls H locs hl hP hT hS =>
  vx_ret (W.widen hc hs (W.vret E.ex E.cb E.ret (fun t ht hW => ⟨⟨M, rfl, hp, by show PW G M t.heap; rw [ht]; exact hP⟩, hS.F ht⟩) hS.2.2 hd E.lk))
theorem z_xiret {post : Int32 → Mem → Prop} {v : Int32} (E : EF X G cc nL own (some .int) d mc ms) (hd : decode cc pc = .ok (.ireturn, 1)) (hc : cells ≤ mc) (hs : slots ≤ ms) (hp : post v M) : Z X G T (QXI X G post xp mc ms) pc lv [.int v] M cells slots := fun ls H locs hl hP hT hS =>
  vx_ret (W.widen hc hs (W.iret E.ex E.cb E.ret (fun t ht hW => ⟨⟨v, M, rfl, hp, by show PW G M t.heap; rw [ht]; exact hP⟩, hS.F ht⟩) hS.2.2 hd E.lk))
end ZX
abbrev IOB : String := "java/lang/IndexOutOfBoundsException"
abbrev IAE : String := "java/lang/IllegalArgumentException"
abbrev ISE : String := "java/lang/IllegalStateException"
abbrev RTN : List String := ["java/lang/RuntimeException", "java/lang/Exception"]
theorem xg_checkIndex : ∀ w ∈ (vx_atS RX6 195 IOB RTN).filter goodWord, w ∈ GW := gw_sub (by decide +kernel) (by decide +kernel)
theorem xb_checkIndex : ∀ w ∈ (vx_atS RX6 195 IOB RTN).filter (fun w => !goodWord w), w ∈ BW := by decide +kernel
theorem xo_checkIndex : ∀ w ∈ Cond.classLink RX6 191 IOB :: Cond.initialized IOB :: vx_atS RX6 195 IOB RTN, vx_ot w = true := by decide +kernel
set_option maxRecDepth 100000 in
set_option maxHeartbeats 4000000 in
theorem m_X6_checkIndex (M : Mem) (x : Int32) : XV yX6_checkIndex cX6_checkIndex 1 none 6 1 6 (fun G => [.int x]) M (fun M' => ¬ x = 0 ∧ M' = M) (fun Ex M' => Ex = IOB ∧ x = 0 ∧ M' = M) := by
  refine XV.mk (own := RX6) (by decide +kernel) rfl (fun _ => rfl) (fun _ => Nat.le_of_ble_eq_true rfl) (lv0 := fun G => [some (.int x)]) (fun _ => rfl) (fun X G E hX => ?_)
  refine z_iload_0 (pc := 0) E dX6_checkIndex_0 ?_
  refine z_if_ne (pc := 1) (tgt := 14) E dX6_checkIndex_1 (by decide) (fun h1 => ?_) (fun h1 => ?_)
  · exact z_xvret (pc := 14) E dX6_checkIndex_14 (by decide) (by decide) ⟨h1, rfl⟩
  · exact z_throwV (pc := 4) (cls := IOB) (names := RTN) E hX (by decide +kernel) (by decide +kernel) clX6_191 in_IndexOutOfBoundsException E.wf.2.2.2.2.2.2.2.2.2.1 xg_checkIndex xb_checkIndex xo_checkIndex dX6_checkIndex_4 dX6_checkIndex_7 dX6_checkIndex_8 dX6_checkIndex_10 dX6_checkIndex_13 (by decide) (by decide) rfl (by decide) (by decide) ⟨rfl, h1, rfl⟩
theorem xg_checkArgument : ∀ w ∈ (vx_atS RX6 202 IAE RTN).filter goodWord, w ∈ GW := gw_sub (by decide +kernel) (by decide +kernel)
theorem xb_checkArgument : ∀ w ∈ (vx_atS RX6 202 IAE RTN).filter (fun w => !goodWord w), w ∈ BW := by decide +kernel
theorem xo_checkArgument : ∀ w ∈ Cond.classLink RX6 198 IAE :: Cond.initialized IAE :: vx_atS RX6 202 IAE RTN, vx_ot w = true := by decide +kernel
set_option maxRecDepth 100000 in
set_option maxHeartbeats 4000000 in
theorem m_X6_checkArgument (M : Mem) (x : Int32) : XV yX6_checkArgument cX6_checkArgument 1 none 6 1 6 (fun G => [.int x]) M (fun M' => ¬ x = 0 ∧ M' = M) (fun Ex M' => Ex = IAE ∧ x = 0 ∧ M' = M) := by
  refine XV.mk (own := RX6) (by decide +kernel) rfl (fun _ => rfl) (fun _ => Nat.le_of_ble_eq_true rfl) (lv0 := fun G => [some (.int x)]) (fun _ => rfl) (fun X G E hX => ?_)
  refine z_iload_0 (pc := 0) E dX6_checkArgument_0 ?_
  refine z_if_ne (pc := 1) (tgt := 14) E dX6_checkArgument_1 (by decide) (fun h1 => ?_) (fun h1 => ?_)
  · exact z_xvret (pc := 14) E dX6_checkArgument_14 (by decide) (by decide) ⟨h1, rfl⟩
  · exact z_throwV (pc := 4) (cls := IAE) (names := RTN) E hX (by decide +kernel) (by decide +kernel) clX6_198 in_IllegalArgumentException E.wf.2.2.2.2.2.2.2.1 xg_checkArgument xb_checkArgument xo_checkArgument dX6_checkArgument_4 dX6_checkArgument_7 dX6_checkArgument_8 dX6_checkArgument_10 dX6_checkArgument_13 (by decide) (by decide) rfl (by decide) (by decide) ⟨rfl, h1, rfl⟩
theorem xg_checkState : ∀ w ∈ (vx_atS RX6 207 ISE RTN).filter goodWord, w ∈ GW := gw_sub (by decide +kernel) (by decide +kernel)
theorem xb_checkState : ∀ w ∈ (vx_atS RX6 207 ISE RTN).filter (fun w => !goodWord w), w ∈ BW := by decide +kernel
theorem xo_checkState : ∀ w ∈ Cond.classLink RX6 203 ISE :: Cond.initialized ISE :: vx_atS RX6 207 ISE RTN, vx_ot w = true := by decide +kernel
set_option maxRecDepth 100000 in
set_option maxHeartbeats 4000000 in
theorem m_X6_checkState (M : Mem) (x : Int32) : XV yX6_checkState cX6_checkState 1 none 6 1 6 (fun G => [.int x]) M (fun M' => ¬ x = 0 ∧ M' = M) (fun Ex M' => Ex = ISE ∧ x = 0 ∧ M' = M) := by
  refine XV.mk (own := RX6) (by decide +kernel) rfl (fun _ => rfl) (fun _ => Nat.le_of_ble_eq_true rfl) (lv0 := fun G => [some (.int x)]) (fun _ => rfl) (fun X G E hX => ?_)
  refine z_iload_0 (pc := 0) E dX6_checkState_0 ?_
  refine z_if_ne (pc := 1) (tgt := 14) E dX6_checkState_1 (by decide) (fun h1 => ?_) (fun h1 => ?_)
  · exact z_xvret (pc := 14) E dX6_checkState_14 (by decide) (by decide) ⟨h1, rfl⟩
  · exact z_throwV (pc := 4) (cls := ISE) (names := RTN) E hX (by decide +kernel) (by decide +kernel) clX6_203 in_IllegalStateException E.wf.2.2.2.2.2.2.2.2.1 xg_checkState xb_checkState xo_checkState dX6_checkState_4 dX6_checkState_7 dX6_checkState_8 dX6_checkState_10 dX6_checkState_13 (by decide) (by decide) rfl (by decide) (by decide) ⟨rfl, h1, rfl⟩
