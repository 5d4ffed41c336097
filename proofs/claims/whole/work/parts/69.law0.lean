/-! the claim out of one walk of the law's body: the skeleton's rows, its end in any room -/
def R_law : String := "PawnRackLaw"
def lw_P (b : Addr) (xs : List Int32) (args : Array Value) (s : State) : Prop := args = #[.ref b] ∧ s.IntsAt b xs ∧ xs.length ≤ 2560 ∧ (Jvm.Cond.and given_1 narrow_1).before args s = true
/-- what a walk over the start with the record d0 says of its end, said of the start itself -/
theorem lw_closed {s t : State} {o : Outcome} {d0 : Drawn} {L : List Loc} {k n : Nat} (hd0 : s.drawn.sameBut d0 lw_cs) (hv : ∃ v, o = .returned v) (hW : (s.setDrawn d0).WarmedH t.vm) (hs : (s.setDrawn d0).sameButNew ({ t with vm := s.vm } : State) L k n) : State.butDraws s t lw_cs (fun t1 => Framed s o t1 L k n) := by
  have h2 : t.drawn = d0 := congrArg State.drawn hs.1
  refine ⟨⟨hv, hW, State.sameButNew.setDrawn hs s.drawn⟩, ?_, by decide⟩
  rw [h2]
  exact hd0
def lw_Q (_ : Array Value) (s : State) (o : Outcome) (t : State) : Prop := o = .returned (some (.int 1)) ∧ State.butDraws s t lw_cs (fun t1 => Framed s o t1 [] 601024 7293034)
def lw_Z (below : List Frame) (a : Array Value) (s : State) : State → Prop := fun t => ∃ o, t.status = .running ∧ Ended t below o ∧ lw_Q a s o t
/-- the law's own end, with 1 on the stack, nothing written that was there before, its room as the claim has it; d0: the record of draws at this point (at the entry s.drawn: begin with 'refine W.base ?_' and 'have hd0 := Drawn.sameBut.refl s.drawn lw_cs') -/
theorem lw_retR {p : Program} {l : Launch} {e : Env} {s : State} {m : MethodId} {below : List Frame} {meth : Method} {c : Code} {args : Array Value} {R : Room} {d0 : Drawn} (hd0 : s.drawn.sameBut d0 lw_cs) (hx : p.tables.exec = Jvm.exec) (hb : c.code = code) (hr : meth.sig.returnType = ret) (hlocks : meth.locks = false) {pc : Nat} {H : Heap} {ls : Array Slot} (hdg : decode code pc = .ok (.ireturn, 1)) : W p l e R (s.setDrawn d0) m args below meth c H [] 601024 7293034 (lw_Z below args s) (F0 m pc ls [.int 1]) := by
  intro T hT X
  obtain ⟨fs, hret, hrun, hended, hW, hframe⟩ := X.leave (v := some (.int 1)) (hlocks := hlocks) (fun h => by rw [hr] at h; cases h)
  have hmeth' : T.vm.method? m = some meth := X.method'
  refine ⟨T.setFrames fs, ?_, .returned (some (.int 1)), hrun, hended, rfl, lw_closed hd0 ⟨_, rfl⟩ hW hframe⟩
  jvm_step X.here [X.here.top, hx, hb, hdg, hmeth', hr, ret, narrow_b1]
  (try refine ⟨rfl, ?_⟩); (try refine ⟨rfl, ?_⟩)
  first | (intro acts; rw [hret _ acts rfl rfl rfl]) | rw [hret _ _ rfl rfl rfl]
  exact Steps.refl _
/-- what holds at the law's entry: the machine, the code, the tables' words (any of lw_tbl by 'hts w (by decide +kernel)'), the script of L ints xs at the cell b, what the Statement gives of the start (any of its parts by flat_of_before) -/
def lw_At (p : Program) (s : State) (m : MethodId) (meth : Method) (c : Code) (b L : Nat) (xs : Nat → Int32) : Prop :=
  p.tables.exec = Jvm.exec ∧ c.code = code ∧ meth.sig.returnType = ret ∧ c.maxLocals = 9 ∧ s.vm.findClass R_law = some m.cls ∧ (∀ w ∈ lw_tbl, w.before #[Value.ref b] s = true) ∧ va_X b L xs s s.heap ∧ b < s.heap.size ∧ meth.locks = false ∧ (Jvm.Cond.and given_1 narrow_1).before #[Value.ref b] s = true
theorem hasRoom_le {s : State} {pl : Platform} {r r' : Room} (hf : r.frames ≤ r'.frames) (hl : r.locals ≤ r'.locals) (hc : r.cells ≤ r'.cells) (hs : r.slots ≤ r'.slots) (h : s.hasRoom pl r' = true) : s.hasRoom pl r = true := by
  simp only [State.hasRoom, Bool.and_eq_true, decide_eq_true_eq] at h ⊢
  obtain ⟨⟨⟨⟨y, a, b, c, d, e⟩, f⟩, g⟩, i⟩ := h
  exact ⟨⟨⟨⟨by omega, by omega, by omega, by omega, by omega, e⟩, by omega⟩, by omega⟩, i⟩
/-- a walk in a smaller room is one in a larger -/
theorem w_roomier {p : Program} {l : Launch} {e : Env} {R R' : Room} {s : State} {m : MethodId} {args : Array Value} {below : List Frame} {meth : Method} {c : Code} {H : Heap} {locs : List Loc} {cells slots : Nat} {Q : State → Prop} {g : JFrame} (hf : R.frames ≤ R'.frames) (hl : R.locals ≤ R'.locals) (hc : R.cells ≤ R'.cells) (hs : R.slots ≤ R'.slots) (k : W p l e R s m args below meth c H locs cells slots Q g) : W p l e R' s m args below meth c H locs cells slots Q g := fun T hT X =>
  k T hT ⟨X.admits, X.cas, X.clock, X.frames, hasRoom_le hf hl hc hs X.room, X.hears, X.method, X.code, X.here, X.tail, X.warmed, X.limits, X.bytes, X.same⟩
section ZL
variable {X : PX} {G : GT} {T : Nat × Nat} {cc : ByteArray} {nL : Nat} {own : String} {rt : Option FieldType} {d mc ms : Nat} {Q : State → Prop} {pc : Nat} {lv r : List (Option Value)} {st : List Value} {M : Mem} {cells slots : Nat}
theorem b_out {b : Nat} (hbl : b < (xS X).heap.size) (hG : G.2.2 0 = (xS X).heap.size) : ¬ Aw G (xS X).heap.size b := fun z => by
  rcases z with ⟨z, -⟩ | z
  · rw [hG] at z
    exact absurd hbl (Nat.not_lt.mpr z)
  · exact absurd hbl (Nat.not_lt.mpr z)
theorem z_sld (E : EF X G cc nL own rt d mc ms) {b L j : Nat} {xs : Nat → Int32} {ix : Int32} (hX : va_X b L xs (xS X) (xS X).heap) (hbl : b < (xS X).heap.size) (hG : G.2.2 0 = (xS X).heap.size) (hd : decode cc pc = .ok (.iaload, 1)) (hj : ix = nI j) (hlt : j < L) (hL : L ≤ 2560) (kk : Z X G T Q (pc + 1) lv (.int (xs j) :: st) M cells slots) : Z X G T Q pc lv (.int ix :: .ref b :: st) M cells slots := fun ls H locs hl hP hT hS => by
  subst hj
  refine va_sld E.ex E.cb hX hbl (b_out hbl hG) hS (vp_in_nI hlt (by omega)) hd ?_
  rw [nI_clamp (by omega)]
  exact kk ls H locs hl hP hT hS
theorem z_slen (E : EF X G cc nL own rt d mc ms) {b L : Nat} {xs : Nat → Int32} (hX : va_X b L xs (xS X) (xS X).heap) (hbl : b < (xS X).heap.size) (hG : G.2.2 0 = (xS X).heap.size) (hd : decode cc pc = .ok (.arraylength, 1)) (kk : Z X G T Q (pc + 1) lv (.int (nI L) :: st) M cells slots) : Z X G T Q pc lv (.ref b :: st) M cells slots := fun ls H locs hl hP hT hS =>
  va_slen E.ex E.cb hX hbl (b_out hbl hG) hS hd (kk ls H locs hl hP hT hS)
theorem z_lald (E : EF X G cc nL own rt d mc ms) (hd : decode cc pc = .ok (.laload, 1)) (kk : Z X G T Q (pc + 1) lv (.long (M 21 0 0 0).toInt64 :: st) M cells slots) : Z X G T Q pc lv (.int 0 :: .ref (ad G 21 0 0) :: st) M cells slots := fun ls H locs hl hP hT hS =>
  va_lald E.ex E.cb E.kk (hP.one' ok21 rfl) 0 5 rfl rfl (vp_in_nI (n := 0) (N := 1) (by decide) (by decide)) hd (kk ls H locs hl hP hT hS)
theorem z_dcmp (E : EF X G cc nL own rt d mc ms) {x y : UInt64} {op : CmpOp} (hd : decode cc pc = .ok (.dcmp op, 1)) (kk : Z X G T Q (pc + 1) lv (.int (Op.cmpValue (FP.dcmp x y) op) :: st) M cells slots) : Z X G T Q pc lv (.double y :: .double x :: st) M cells slots := fun ls H locs hl hP hT hS =>
  lv_dcmp E.ex E.cb hd (kk ls H locs hl hP hT hS)
theorem z_lwret (E : EF X G cL_law 9 RL ret 11 601024 7293034) (hG : G.2.2 0 = (xS X).heap.size) (hd : decode cL_law pc = .ok (.ireturn, 1)) (hc : cells ≤ 601024) (hs : slots ≤ 7293034) : Z X G T (lw_Z (xB X) (xA X) (xS X)) pc lv [.int 1] M cells slots := fun ls H locs hl hP hT hS => by
  refine va_forget (fun q hq => ?_) (W.widen hc hs ?_)
  · rcases hS.2.2 q hq with ⟨z, -⟩ | z
    · rw [← hG]; exact z
    · exact z
  · exact lw_retR (s := xS X) (d0 := (xS X).drawn) (Drawn.sameBut.refl _ lw_cs) E.ex E.cb E.ret E.lk hd
end ZL
theorem loc9 {a0 a1 a2 a3 a4 a5 a6 a7 a8 : Option Value} : ∀ (i : Nat) (v : Value), lget [a0, a1, a2, a3, a4, none, none, none, none] i = some v → lget [a0, a1, a2, a3, a4, a5, a6, a7, a8] i = some v := fun i v h => match i, h with
  | 0, h => h
  | 1, h => h
  | 2, h => h
  | 3, h => h
  | 4, h => h
  | 5, h => by cases h
  | 6, h => by cases h
  | 7, h => by cases h
  | 8, h => by cases h
  | _ + 9, h => by cases h
