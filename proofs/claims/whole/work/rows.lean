section
-- ===== PART A: goes FIRST, ahead of the names: the tables' words, and 'selects' of the private methods out of them =====
/-- a private method of a class that the tables say can be made, by its rows of tables_1 -/
def lw_okq (q : MethodName × Nat) : Prop := (q.1.cls ≠ "java/lang/invoke/MethodHandle" ∧ q.1.cls ≠ "java/lang/invoke/VarHandle") ∧ Cond.instantiable q.1.cls q.2 ∈ tables_1 ∧ Cond.privateMethod q.1 ∈ tables_1 ∧ Cond.instanceMethod q.1 ∈ tables_1
theorem lw_p0 : lw_okq (⟨"PawnRack$Shop", "loansHeld", "()I"⟩, 9) := ⟨⟨by decide +kernel, by decide +kernel⟩, List.mem_of_getElem? (i := 27) (by decide +kernel), List.mem_of_getElem? (i := 231) (by decide +kernel), List.mem_of_getElem? (i := 232) (by decide +kernel)⟩
theorem lw_p1 : lw_okq (⟨"PawnRack$Shop", "ticketsOf", "(II)I"⟩, 9) := ⟨⟨by decide +kernel, by decide +kernel⟩, List.mem_of_getElem? (i := 27) (by decide +kernel), List.mem_of_getElem? (i := 239) (by decide +kernel), List.mem_of_getElem? (i := 240) (by decide +kernel)⟩
theorem lw_p2 : lw_okq (⟨"PawnRack$Shop", "debtOf", "(I)I"⟩, 9) := ⟨⟨by decide +kernel, by decide +kernel⟩, List.mem_of_getElem? (i := 27) (by decide +kernel), List.mem_of_getElem? (i := 243) (by decide +kernel), List.mem_of_getElem? (i := 244) (by decide +kernel)⟩
theorem lw_p3 : lw_okq (⟨"java/lang/Throwable", "fillInStackTrace", "(I)Ljava/lang/Throwable;"⟩, 6) := ⟨⟨by decide +kernel, by decide +kernel⟩, List.mem_of_getElem? (i := 328) (by decide +kernel), List.mem_of_getElem? (i := 326) (by decide +kernel), List.mem_of_getElem? (i := 327) (by decide +kernel)⟩
theorem lw_p4 : lw_okq (⟨"PawnRack$Shop", "ageTickets", "()V"⟩, 9) := ⟨⟨by decide +kernel, by decide +kernel⟩, List.mem_of_getElem? (i := 27) (by decide +kernel), List.mem_of_getElem? (i := 577) (by decide +kernel), List.mem_of_getElem? (i := 578) (by decide +kernel)⟩
theorem lw_p5 : lw_okq (⟨"PawnRack$Shop", "sellToBuyer", "(LPawnRack$Buyer;)Z"⟩, 9) := ⟨⟨by decide +kernel, by decide +kernel⟩, List.mem_of_getElem? (i := 27) (by decide +kernel), List.mem_of_getElem? (i := 592) (by decide +kernel), List.mem_of_getElem? (i := 593) (by decide +kernel)⟩
theorem lw_p6 : lw_okq (⟨"PawnRack$Shop", "dearestFor", "(LPawnRack$Buyer;)I"⟩, 9) := ⟨⟨by decide +kernel, by decide +kernel⟩, List.mem_of_getElem? (i := 27) (by decide +kernel), List.mem_of_getElem? (i := 596) (by decide +kernel), List.mem_of_getElem? (i := 597) (by decide +kernel)⟩
theorem lw_p7 : lw_okq (⟨"PawnRack$Shop", "isHeldBy", "(II)Z"⟩, 9) := ⟨⟨by decide +kernel, by decide +kernel⟩, List.mem_of_getElem? (i := 27) (by decide +kernel), List.mem_of_getElem? (i := 665) (by decide +kernel), List.mem_of_getElem? (i := 666) (by decide +kernel)⟩
theorem lw_p8 : lw_okq (⟨"PawnRackModel", "no", "(I)I"⟩, 6) := ⟨⟨by decide +kernel, by decide +kernel⟩, List.mem_of_getElem? (i := 681) (by decide +kernel), List.mem_of_getElem? (i := 761) (by decide +kernel), List.mem_of_getElem? (i := 762) (by decide +kernel)⟩
theorem lw_p9 : lw_okq (⟨"PawnRackModel", "isCustomer", "(I)Z"⟩, 6) := ⟨⟨by decide +kernel, by decide +kernel⟩, List.mem_of_getElem? (i := 681) (by decide +kernel), List.mem_of_getElem? (i := 769) (by decide +kernel), List.mem_of_getElem? (i := 770) (by decide +kernel)⟩
theorem lw_p10 : lw_okq (⟨"PawnRackModel", "customerTold", "(II)I"⟩, 6) := ⟨⟨by decide +kernel, by decide +kernel⟩, List.mem_of_getElem? (i := 681) (by decide +kernel), List.mem_of_getElem? (i := 781) (by decide +kernel), List.mem_of_getElem? (i := 782) (by decide +kernel)⟩
theorem lw_p11 : lw_okq (⟨"PawnRackModel", "isTicket", "(I)Z"⟩, 6) := ⟨⟨by decide +kernel, by decide +kernel⟩, List.mem_of_getElem? (i := 681) (by decide +kernel), List.mem_of_getElem? (i := 825) (by decide +kernel), List.mem_of_getElem? (i := 826) (by decide +kernel)⟩
theorem lw_p12 : lw_okq (⟨"PawnRackModel", "ticketTold", "(II)I"⟩, 6) := ⟨⟨by decide +kernel, by decide +kernel⟩, List.mem_of_getElem? (i := 681) (by decide +kernel), List.mem_of_getElem? (i := 829) (by decide +kernel), List.mem_of_getElem? (i := 830) (by decide +kernel)⟩
theorem lw_p13 : lw_okq (⟨"PawnRackModel", "pay", "(III)V"⟩, 6) := ⟨⟨by decide +kernel, by decide +kernel⟩, List.mem_of_getElem? (i := 681) (by decide +kernel), List.mem_of_getElem? (i := 846) (by decide +kernel), List.mem_of_getElem? (i := 847) (by decide +kernel)⟩
theorem lw_p14 : lw_okq (⟨"PawnRackModel$State", "isBought", "()Z"⟩, 9) := ⟨⟨by decide +kernel, by decide +kernel⟩, List.mem_of_getElem? (i := 687) (by decide +kernel), List.mem_of_getElem? (i := 880) (by decide +kernel), List.mem_of_getElem? (i := 881) (by decide +kernel)⟩
theorem lw_p15 : lw_okq (⟨"PawnRackModel", "counted", "(I)I"⟩, 6) := ⟨⟨by decide +kernel, by decide +kernel⟩, List.mem_of_getElem? (i := 681) (by decide +kernel), List.mem_of_getElem? (i := 889) (by decide +kernel), List.mem_of_getElem? (i := 890) (by decide +kernel)⟩
def lw_privs_1 : List (MethodName × Nat) := [(⟨"PawnRack$Shop", "loansHeld", "()I"⟩, 9), (⟨"PawnRack$Shop", "ticketsOf", "(II)I"⟩, 9), (⟨"PawnRack$Shop", "debtOf", "(I)I"⟩, 9), (⟨"java/lang/Throwable", "fillInStackTrace", "(I)Ljava/lang/Throwable;"⟩, 6), (⟨"PawnRack$Shop", "ageTickets", "()V"⟩, 9), (⟨"PawnRack$Shop", "sellToBuyer", "(LPawnRack$Buyer;)Z"⟩, 9), (⟨"PawnRack$Shop", "dearestFor", "(LPawnRack$Buyer;)I"⟩, 9), (⟨"PawnRack$Shop", "isHeldBy", "(II)Z"⟩, 9), (⟨"PawnRackModel", "no", "(I)I"⟩, 6), (⟨"PawnRackModel", "isCustomer", "(I)Z"⟩, 6), (⟨"PawnRackModel", "customerTold", "(II)I"⟩, 6), (⟨"PawnRackModel", "isTicket", "(I)Z"⟩, 6), (⟨"PawnRackModel", "ticketTold", "(II)I"⟩, 6), (⟨"PawnRackModel", "pay", "(III)V"⟩, 6), (⟨"PawnRackModel$State", "isBought", "()Z"⟩, 9), (⟨"PawnRackModel", "counted", "(I)I"⟩, 6)]
theorem lw_r1 : ∀ q ∈ lw_privs_1, lw_okq q := List.forall_mem_cons.mpr ⟨lw_p0, List.forall_mem_cons.mpr ⟨lw_p1, List.forall_mem_cons.mpr ⟨lw_p2, List.forall_mem_cons.mpr ⟨lw_p3, List.forall_mem_cons.mpr ⟨lw_p4, List.forall_mem_cons.mpr ⟨lw_p5, List.forall_mem_cons.mpr ⟨lw_p6, List.forall_mem_cons.mpr ⟨lw_p7, List.forall_mem_cons.mpr ⟨lw_p8, List.forall_mem_cons.mpr ⟨lw_p9, List.forall_mem_cons.mpr ⟨lw_p10, List.forall_mem_cons.mpr ⟨lw_p11, List.forall_mem_cons.mpr ⟨lw_p12, List.forall_mem_cons.mpr ⟨lw_p13, List.forall_mem_cons.mpr ⟨lw_p14, List.forall_mem_cons.mpr ⟨lw_p15, fun _ h => absurd h List.not_mem_nil⟩⟩⟩⟩⟩⟩⟩⟩⟩⟩⟩⟩⟩⟩⟩⟩
theorem lw_p16 : lw_okq (⟨"PawnRackModel$State", "copy", "([I[I)V"⟩, 9) := ⟨⟨by decide +kernel, by decide +kernel⟩, List.mem_of_getElem? (i := 687) (by decide +kernel), List.mem_of_getElem? (i := 905) (by decide +kernel), List.mem_of_getElem? (i := 906) (by decide +kernel)⟩
def lw_privs_2 : List (MethodName × Nat) := [(⟨"PawnRackModel$State", "copy", "([I[I)V"⟩, 9)]
theorem lw_r2 : ∀ q ∈ lw_privs_2, lw_okq q := List.forall_mem_cons.mpr ⟨lw_p16, fun _ h => absurd h List.not_mem_nil⟩
def lw_privs : List (MethodName × Nat) := lw_privs_1 ++ (lw_privs_2)
def lw_tbl : List Cond := k2_sels lw_privs ++ tables_1
theorem lw_privs_ok : ∀ q ∈ lw_privs, lw_okq q := by
  show ∀ q ∈ lw_privs_1 ++ (lw_privs_2), lw_okq q
  exact List.forall_mem_append.mpr ⟨lw_r1, lw_r2⟩
/-- the streams that the claim lets the run draw from -/
abbrev lw_cs : List Choice := [Jvm.Choice.named "NaN.bits"]
theorem lw_bits : nanBits ∈ lw_cs := by first | decide | exact List.mem_cons_self | simp [lw_cs, nanBits]
/-! ===== BEGIN words of one list among another's, by their places ===== -/
theorem goodIn_r {big : List Cond} (ws : List Cond) (ps : List Nat) (hp : ws = ps.filterMap (fun i => big[i]?)) (h : ws.all goodWord = true) : GoodIn big ws := by
  intro w hw
  have h1 := List.all_eq_true.mp h w hw
  rw [hp] at hw
  obtain ⟨i, -, hi⟩ := List.mem_filterMap.mp hw
  have hm : w ∈ big := by first | exact List.mem_of_getElem? hi | exact List.getElem?_mem hi
  exact ⟨hm, good_of_word h1⟩
theorem goodIn_app {big a b : List Cond} (ha : GoodIn big a) (hb : GoodIn big b) : GoodIn big (a ++ b) := fun w h => (List.mem_append.mp h).elim (ha w) (hb w)
theorem goodIn_ca {big a b : List Cond} {c : Cond} (ha : GoodIn big (c :: a)) (hb : GoodIn big b) : GoodIn big (c :: (a ++ b)) := fun w h => (List.mem_cons.mp h).elim (fun e => ha w (List.mem_cons.mpr (Or.inl e))) (fun h => (List.mem_append.mp h).elim (fun h => ha w (List.mem_cons.mpr (Or.inr h))) (hb w))
theorem goodIn_sub {big ws : List Cond} (hm : ∀ w ∈ ws, w ∈ big) (h : ws.all goodWord = true) : GoodIn big ws := fun w hw => ⟨hm w hw, good_of_word (List.all_eq_true.mp h w hw)⟩
/-! ===== END ===== -/

/-! ===== BEGIN exceptions that leave a method, and their catching by the caller (launches without stack traces) ===== -/
section VXA
/-! The laws vx_back, vx_callV, vx_callS, vx_callSW, vx_throw0, vx_throwS follow proofs of the library, with one case more: JvmDerived/Free/Laws.lean (Back.of_free), Shelf42/LK1.lean (callV, callS), Shelf/KitTraced.lean (throwNew0V, throwNewS). -/
/-- where a method has thrown q: the class by its name, the cell, what was written, the world -/
def vx_T (XC : String → State → State → Prop) (st : State) (q : Addr) (t : State) (mc ms : Nat) (free : Addr → Prop) : Prop :=
  ∃ (E : String) (ce : Cell) (L : List Loc), XC E st t ∧ t.heap[q]? = some ce ∧ ce.vm = .none ∧ st.vm.findClass E = some ce.cls ∧ st.WarmedH t.vm ∧ st.sameButNew ({ t with vm := st.vm } : State) L mc ms ∧ ∀ z ∈ L, free z.base
def vx_Q (Qc : Array Value → State → Outcome → State → Prop) (XC : String → State → State → Prop) (mc ms : Nat) (free : Addr → Prop) : Array Value → State → Outcome → State → Prop := fun a st o t =>
  (Qc a st o t ∧ ∃ L, FrameEnd st o t L mc ms ∧ ∀ q ∈ L, free q.base) ∨ ∃ q, o = .threw q ∧ vx_T XC st q t mc ms free
/-- a callee that returns or throws -/
def vx_Met (l : Launch) (y : MethodName) (ws : List Cond) (rm : Room) (Pc : Array Value → State → Prop) (Qc : Array Value → State → Outcome → State → Prop) (XC : String → State → State → Prop) (mc ms : Nat) (free : Addr → Prop) : Prop :=
  MetFree l y (headSpec ws rm) Pc (fun _ _ _ _ _ => True) (vx_Q Qc XC mc ms free)
def vx_Post (XC : String → State → State → Prop) (mc ms : Nat) (free : Addr → Prop) : Pt → Array Value → Addr → Pt → Prop := fun A a q B =>
  ∃ (g : JFrame) (mk : MethodId) (t : State) (L : List Loc) (E : String) (ce : Cell), B.U.heap = t.heap ∧ B.U.vm = t.vm ∧ XC E (A.U.calling g mk a) t ∧ t.heap[q]? = some ce ∧ ce.vm = .none ∧ A.U.vm.findClass E = some ce.cls ∧ B.locs = A.locs ++ L ∧ (∀ z ∈ L, free z.base) ∧ B.cells = A.cells + mc ∧ B.slots = A.slots + ms
def vx_Back (l : Launch) (R : Room) (p : Program) (e : Env) (below : List Frame) (s : State) (sargs : Array Value) (y : MethodName) (len W9 : Nat)
    (Pre : Pt → Array Value → Prop) (Post : Pt → Array Value → Option Value → Pt → Prop) (PostX : Pt → Array Value → Addr → Pt → Prop) : Prop :=
  ∀ (m : MethodId) (meth : Method) (c : Code) (A : Pt) (g : JFrame) (ig : Instr) (mk : MethodId) (a : Array Value),
    Stand p l e R s m sargs below meth c A.U A.locs A.cells A.slots → g.method = m → g.locals.size = c.maxLocals → decode c.code g.pc = .ok (ig, len) →
    2 * g.monitorRoom + (g.stack.map fun v => v.category).sum ≤ W9 → A.U.methodNamed? y = some mk → Pre A a →
    (∃ (v : Option Value) (B : Pt), Stand p l e R s m sargs below meth c B.U B.locs B.cells B.slots ∧ Post A a v B ∧
      Steps p.tables e below (doInvoke e (A.U.setTop g) [] mk a).1 (B.U.setTop { g with pc := g.pc + len, stack := v.toList ++ g.stack })) ∨
    (∃ (q : Addr) (B : Pt), Stand p l e R s m sargs below meth c B.U B.locs B.cells B.slots ∧ PostX A a q B ∧
      Steps p.tables e below (doInvoke e (A.U.setTop g) [] mk a).1 ((B.U.setTop g).pushFrame (.throwing q)))
section Payer
variable {l : Launch} {R : Room} {p : Program} {e : Env} {below : List Frame} {s : State} {sargs : Array Value} {y : MethodName} {len W9 : Nat}
theorem vx_back {ws : List Cond} {rm : Room} {Pc : Array Value → State → Prop} {Qc : Array Value → State → Outcome → State → Prop} {XC : String → State → State → Prop} {mc ms : Nat} {free : Addr → Prop} {bytes : ByteArray} {maxL : Nat} {ret : Option FieldType}
    (hM : vx_Met l y ws rm Pc Qc XC mc ms free) (hblind : FrameBlind Pc) (hrc : rm.cells = mc) (hrs : rm.slots = ms)
    (hframes : rm.frames + 1 ≤ R.frames) (hlocals : W9 + (maxL + 11) + rm.locals ≤ R.locals)
    (hws : ∀ w ∈ ws, ∀ a' U, s.WarmedH U.vm → w.before a' U = true) (hcode : Cond.code y bytes maxL ret ∈ ws) (hinit : ∀ a' U, s.WarmedH U.vm → (Cond.initialized y.cls).before a' U = true) :
    vx_Back l R p e below s sargs y len W9 (PreOf R mc ms Pc) (PostOf Qc mc ms free) (vx_Post XC mc ms free) := by
  intro m meth c A g ig mk a X hg hsize hdg hW hn hp
  have h1 : (headSpec ws rm).pre.before a A.U = true := atoms_intro fun w hw => hws w hw _ _ X.warmed
  have h2 : (Cond.code y bytes maxL ret).before a A.U = true := hws _ hcode _ _ X.warmed
  have h3 : (Cond.initialized y.cls).before a A.U = true := hinit _ _ X.warmed
  have h4 : A.cells + (headSpec ws rm).room.cells ≤ R.cells := by rw [show (headSpec ws rm).room.cells = mc from hrc]; exact hp.1
  have h5 : A.slots + (headSpec ws rm).room.slots ≤ R.slots := by rw [show (headSpec ws rm).room.slots = ms from hrs]; exact hp.2.1
  have hPc : Pc a (A.U.calling g mk a) := hblind _ _ _ _ hp.2.2
  obtain ⟨U, Ls, c0, s0⟩ := A
  dsimp only [Pt.U, Pt.locs, Pt.cells, Pt.slots] at h1 h2 h3 h4 h5 X hn hPc ⊢
  obtain ⟨methY, cY, hmY, hcY, -, hlY, -, -, -, -⟩ := Cond.code_spec hn h2
  obtain ⟨kY, hkY, -⟩ := className_of_methodNamed hn
  have hinitY : kY.init = .initialized := Cond.initialized_spec (findClass_of_methodNamed hn) hkY h3
  have h : At U g.method c below := by rw [hg]; exact X.here
  have hlocals9 : W9 + (maxL + 11) + (headSpec ws rm).room.locals ≤ R.locals := hlocals
  have happ : (headSpec ws rm).appliesLoose y e.platform (U.calling g mk a) = true :=
    Spec.appliesLoose_calling (g := g) h hdg hn hkY hinitY
      (X.room_calling (g := g) (R' := (headSpec ws rm).room) hsize hmY hcY hframes (by rw [hlY]; omega) h4 h5) h1
  obtain ⟨mid, hmid⟩ := h.above
  have hfr : (U.setTop g).frames = (.java g :: mid) ++ below := by rw [State.frames_setTop' g h.top, hmid]; rfl
  obtain ⟨o, s₂, hsteps, -, hend, hq⟩ := Steps.callFree hM p X.admits X.cas X.clock (acts := []) hfr happ hPc trivial
  have hq' : vx_Q Qc XC mc ms free a (U.calling g mk a) o s₂ := hq
  rw [State.frames_setTop' g h.top] at hend
  obtain ⟨g₀, hg0⟩ := Option.isSome_iff_exists.mp h.top
  obtain ⟨r, hr⟩ := State.topJava?_eq_some.mp hg0
  have hr' : (({ U with heap := s₂.heap, slotsUsed := s₂.slotsUsed } : State).setVm s₂.vm).frames = .java g₀ :: r := hr
  rcases hq' with ⟨hqc, L, hfe, hL⟩ | ⟨q, rfl, E, ce, L, hx, hce, hcv, hcl, hW₂, hsm, hL⟩
  · obtain ⟨⟨v, rfl⟩, hW₂, e2, q2, q3, q4, q5, q6⟩ := id hfe
    have e3 : s₂ = ({ (U.calling g mk a).setFrames s₂.frames with heap := s₂.heap, slotsUsed := s₂.slotsUsed } : State).setVm s₂.vm := by
      have : s₂ = ({ s₂ with vm := (U.calling g mk a).vm } : State).setVm s₂.vm := rfl
      rw [e2] at this
      exact this
    obtain ⟨c₂, i₂, len₂, hc₂, hd₂, hf₂⟩ := hend
    have hW' : U.WarmedH s₂.vm := hW₂
    have hcc : c₂ = c := by
      have h1 : s₂.code? g.method = U.code? g.method := by
        rw [State.code?_eq, State.code?_eq, hW'.alike.method?]
      exact Option.some.inj (hc₂.symm.trans (h1.trans h.code))
    subst hcc
    have hlen : len₂ = len := by rw [hdg] at hd₂; cases hd₂; rfl
    subst hlen
    have hs₂ : s₂ = (({ U with heap := s₂.heap, slotsUsed := s₂.slotsUsed } : State).setVm s₂.vm).setTop { g with pc := g.pc + len₂, stack := v.toList ++ g.stack } := by
      refine e3.trans ?_
      rw [hf₂, State.calling_eq h.top, State.setFrames_setFrames, State.setTop_of_frames _ hr', hr]
      rfl
    have hsame : U.sameButNew ({ U with heap := s₂.heap, slotsUsed := s₂.slotsUsed } : State) L mc ms := by
      refine ⟨?_, q2, q3, q4, q5, q6⟩
      obtain ⟨t, ht, -⟩ := State.frames_cons hr
      show ({ U with heap := s₂.heap, slotsUsed := s₂.slotsUsed } : State) = { U.setFrames U.frames with heap := s₂.heap, slotsUsed := s₂.slotsUsed }
      rw [State.setFrames_self ht]
    subst hg
    refine Or.inl ⟨v, ⟨(({ U with heap := s₂.heap, slotsUsed := s₂.slotsUsed } : State).setVm s₂.vm), Ls ++ L, c0 + mc, s0 + ms⟩,
      ⟨X.admits, X.cas, X.clock, X.frames, X.room, X.hears, X.method, X.code, (X.here.setHeapUsed s₂.heap s₂.slotsUsed).setVm hW'.alike, X.tail, State.WarmedH.trans X.warmed hW', X.limits, X.bytes, X.same.trans (hsame.setVm s.vm)⟩,
      ⟨g, mk, s₂, L, rfl, rfl, hqc, rfl, hL, rfl, rfl⟩, ?_⟩
    show Steps p.tables e below _ ((({ U with heap := s₂.heap, slotsUsed := s₂.slotsUsed } : State).setVm s₂.vm).setTop { g with pc := g.pc + len₂, stack := v.toList ++ g.stack })
    rw [← hs₂]
    exact hsteps
  · obtain ⟨e2, q2, q3, q4, q5, q6⟩ := id hsm
    have e3 : s₂ = ({ (U.calling g mk a).setFrames s₂.frames with heap := s₂.heap, slotsUsed := s₂.slotsUsed } : State).setVm s₂.vm := by
      have : s₂ = ({ s₂ with vm := (U.calling g mk a).vm } : State).setVm s₂.vm := rfl
      rw [e2] at this
      exact this
    have hf₂ : s₂.frames = .throwing q :: .java g :: U.frames.tail := hend
    have hW' : U.WarmedH s₂.vm := hW₂
    have hs₂ : s₂ = ((({ U with heap := s₂.heap, slotsUsed := s₂.slotsUsed } : State).setVm s₂.vm).setTop g).pushFrame (.throwing q) := by
      refine e3.trans ?_
      rw [hf₂, State.calling_eq h.top, State.setFrames_setFrames, State.pushFrame, State.frames_setTop _ hr', State.setTop_of_frames _ hr', State.setFrames_setFrames, hr]
      rfl
    have hsame : U.sameButNew ({ U with heap := s₂.heap, slotsUsed := s₂.slotsUsed } : State) L mc ms := by
      refine ⟨?_, q2, q3, q4, q5, q6⟩
      obtain ⟨t, ht, -⟩ := State.frames_cons hr
      show ({ U with heap := s₂.heap, slotsUsed := s₂.slotsUsed } : State) = { U.setFrames U.frames with heap := s₂.heap, slotsUsed := s₂.slotsUsed }
      rw [State.setFrames_self ht]
    subst hg
    refine Or.inr ⟨q, ⟨(({ U with heap := s₂.heap, slotsUsed := s₂.slotsUsed } : State).setVm s₂.vm), Ls ++ L, c0 + mc, s0 + ms⟩,
      ⟨X.admits, X.cas, X.clock, X.frames, X.room, X.hears, X.method, X.code, (X.here.setHeapUsed s₂.heap s₂.slotsUsed).setVm hW'.alike, X.tail, State.WarmedH.trans X.warmed hW', X.limits, X.bytes, X.same.trans (hsame.setVm s.vm)⟩,
      ⟨g, mk, s₂, L, E, ce, rfl, rfl, hx, hce, hcv, hcl, rfl, hL, rfl, rfl⟩, ?_⟩
    show Steps p.tables e below _ (((({ U with heap := s₂.heap, slotsUsed := s₂.slotsUsed } : State).setVm s₂.vm).setTop g).pushFrame (.throwing q))
    rw [← hs₂]
    exact hsteps
end Payer
section Calls
variable {p : Program} {l : Launch} {e : Env} {R : Room} {s : State} {m : MethodId} {args : Array Value} {below : List Frame} {meth : Method} {c : Code} {T : State} {locs : List Loc} {cells slots : Nat}
theorem vx_callV (X : Stand p l e R s m args below meth c T locs cells slots) (hexec : p.tables.exec = Jvm.exec) {own C : String} {index : Nat} {y : MethodName} {bytes : ByteArray} {maxL : Nat} {ret : Option FieldType}
    (hown : s.vm.findClass own = some m.cls) (hlink : (Cond.methodLink own index y).before args s = true) (hinst : (Cond.instanceMethod y).before args s = true) (hsel : (Cond.selects C y y).before args s = true)
    (hcode : (Cond.code y bytes maxL ret).before args s = true) (hy : y.cls ≠ "java/lang/invoke/MethodHandle" ∧ y.cls ≠ "java/lang/invoke/VarHandle")
    {W9 : Nat} {Pre : Pt → Array Value → Prop} {Post : Pt → Array Value → Option Value → Pt → Prop} {PostX : Pt → Array Value → Addr → Pt → Prop} (hK : vx_Back l R p e below s args y 3 W9 Pre Post PostX)
    {b : Addr} {cellB : Cell} (hcell : T.heap[b]? = some cellB) (hobj : cellB.vm.isStatics = false) (hcls : s.vm.findClass C = some cellB.cls)
    {g : JFrame} (hg : g.method = m) (hsize : g.locals.size = c.maxLocals) {argsL rest : List Value} (hlen : ∀ sig, parseMethodDescriptor y.desc = some sig → argsL.length = sig.parameters.length)
    (hstack : g.stack = argsL.reverse ++ .ref b :: rest) (hW : 2 * g.monitorRoom + (rest.map fun v => v.category).sum ≤ W9) (hdg : decode c.code g.pc = .ok (.invokevirtual index, 3))
    (hpre : ∀ vm₁, s.WarmedH vm₁ → Pre ⟨T.setVm vm₁, locs, cells, slots⟩ (Value.ref b :: argsL).toArray) :
    (∃ (v : Option Value) (vm₁ : Vm) (B : Pt), s.WarmedH vm₁ ∧ Stand p l e R s m args below meth c B.U B.locs B.cells B.slots ∧ Post ⟨T.setVm vm₁, locs, cells, slots⟩ (Value.ref b :: argsL).toArray v B ∧
      ∀ target, Steps p.tables e below (B.U.setTop { g with pc := g.pc + 3, stack := v.toList ++ rest }) target → Steps p.tables e below (T.setTop g) target) ∨
    (∃ (q : Addr) (vm₁ : Vm) (B : Pt), s.WarmedH vm₁ ∧ Stand p l e R s m args below meth c B.U B.locs B.cells B.slots ∧ PostX ⟨T.setVm vm₁, locs, cells, slots⟩ (Value.ref b :: argsL).toArray q B ∧
      Steps p.tables e below (T.setTop g) ((B.U.setTop { g with stack := rest }).pushFrame (.throwing q))) := by
  obtain ⟨mk, methM, hnamed, hmethM, hstM, habM⟩ := Cond.instanceMethod_spec hinst
  obtain ⟨methM', cM, hmethM', -, -, -, -, -, -, hsigM⟩ := Cond.code_spec hnamed hcode
  cases hmethM.symm.trans hmethM'
  obtain ⟨c2, r2, m2, q1, q2, q3, q4, kP, hkP, hkPi⟩ := Cond.selects_spec hsel
  cases hcls.symm.trans q1
  cases (State.methodFound?_of_named hnamed hy).symm.trans q2
  cases hnamed.symm.trans q3
  have hselP : selectMethod e.platform s.vm cellB.cls mk = .method mk := by rw [Launch.admits_selectMethod X.admits]; exact q4
  obtain ⟨vm₁, X₁, hstep₁⟩ := X.invokevirtual hexec hown hlink hnamed hmethM hstM hkP hkPi hy (a := b) (cell := cellB) hcell
    (fun z h => by rw [h] at hobj; cases hobj) hselP hmethM habM hkP hkPi (g := g) hg (argsL := argsL) (rest := rest) (hlen _ hsigM) hstack hdg
  rcases hK m meth c ⟨T.setVm vm₁, locs, cells, slots⟩ { g with stack := rest } (.invokevirtual index) mk (Value.ref b :: argsL).toArray X₁ hg hsize hdg hW (X₁.named hnamed) (hpre vm₁ X₁.warmed) with ⟨v, B, X', hpost, hsteps⟩ | ⟨q, B, X', hpost, hsteps⟩
  · exact Or.inl ⟨v, vm₁, B, X₁.warmed, X', hpost, fun target h => hstep₁ _ fun acts => by rw [doInvoke_state]; exact hsteps.trans h⟩
  · exact Or.inr ⟨q, vm₁, B, X₁.warmed, X', hpost, hstep₁ _ fun acts => by rw [doInvoke_state]; exact hsteps⟩
theorem vx_callS (X : Stand p l e R s m args below meth c T locs cells slots) (hexec : p.tables.exec = Jvm.exec) {own : String} {index : Nat} {y : MethodName} {bytes : ByteArray} {maxL : Nat} {ret : Option FieldType}
    (hown : s.vm.findClass own = some m.cls) (hlink : (Cond.methodLink own index y).before args s = true) (hstat : (Cond.static y).before args s = true) (hinit : (Cond.initialized y.cls).before args s = true)
    (hcode : (Cond.code y bytes maxL ret).before args s = true) (hy : y.cls ≠ "java/lang/invoke/MethodHandle" ∧ y.cls ≠ "java/lang/invoke/VarHandle")
    {W9 : Nat} {Pre : Pt → Array Value → Prop} {Post : Pt → Array Value → Option Value → Pt → Prop} {PostX : Pt → Array Value → Addr → Pt → Prop} (hK : vx_Back l R p e below s args y 3 W9 Pre Post PostX)
    {g : JFrame} (hg : g.method = m) (hsize : g.locals.size = c.maxLocals) {argsL rest : List Value} (hlen : ∀ sig, parseMethodDescriptor y.desc = some sig → argsL.length = sig.parameters.length)
    (hstack : g.stack = argsL.reverse ++ rest) (hW : 2 * g.monitorRoom + (rest.map fun v => v.category).sum ≤ W9) (hdg : decode c.code g.pc = .ok (.invokestatic index, 3))
    (hpre : ∀ vm₁, s.WarmedH vm₁ → Pre ⟨T.setVm vm₁, locs, cells, slots⟩ argsL.toArray) :
    (∃ (v : Option Value) (vm₁ : Vm) (B : Pt), s.WarmedH vm₁ ∧ Stand p l e R s m args below meth c B.U B.locs B.cells B.slots ∧ Post ⟨T.setVm vm₁, locs, cells, slots⟩ argsL.toArray v B ∧
      ∀ target, Steps p.tables e below (B.U.setTop { g with pc := g.pc + 3, stack := v.toList ++ rest }) target → Steps p.tables e below (T.setTop g) target) ∨
    (∃ (q : Addr) (vm₁ : Vm) (B : Pt), s.WarmedH vm₁ ∧ Stand p l e R s m args below meth c B.U B.locs B.cells B.slots ∧ PostX ⟨T.setVm vm₁, locs, cells, slots⟩ argsL.toArray q B ∧
      Steps p.tables e below (T.setTop g) ((B.U.setTop { g with stack := rest }).pushFrame (.throwing q))) := by
  obtain ⟨mk, hnamed⟩ := Cond.code_named hcode
  obtain ⟨methM, cM, hmethM, -, -, -, -, -, -, hsigM⟩ := Cond.code_spec hnamed hcode
  have hstatic : methM.isStatic = true := Cond.static_spec hnamed hmethM hstat
  obtain ⟨kP, hkP, -⟩ := className_of_methodNamed hnamed
  have hinitP : kP.init = .initialized := Cond.initialized_spec (findClass_of_methodNamed hnamed) hkP hinit
  obtain ⟨vm₁, X₁, hstep₁⟩ := X.invokestatic hexec hown hlink hnamed hmethM hstatic hkP hinitP hy (g := g) hg (argsL := argsL) (rest := rest) (hlen _ hsigM) hstack hdg
  rcases hK m meth c ⟨T.setVm vm₁, locs, cells, slots⟩ { g with stack := rest } (.invokestatic index) mk argsL.toArray X₁ hg hsize hdg hW (X₁.named hnamed) (hpre vm₁ X₁.warmed) with ⟨v, B, X', hpost, hsteps⟩ | ⟨q, B, X', hpost, hsteps⟩
  · exact Or.inl ⟨v, vm₁, B, X₁.warmed, X', hpost, fun target h => hstep₁ _ fun acts => by rw [doInvoke_state]; exact hsteps.trans h⟩
  · exact Or.inr ⟨q, vm₁, B, X₁.warmed, X', hpost, hstep₁ _ fun acts => by rw [doInvoke_state]; exact hsteps⟩
end Calls
theorem vx_cls {s : State} {T : State} {vm₁ : Vm} {E : String} {k : ClassId} (hW : s.WarmedH vm₁) (h : (T.setVm vm₁).vm.findClass E = some k) : s.vm.findClass E = some k := by
  have h1 : vm₁.findClass E = some k := h
  rw [hW.alike.findClass] at h1
  exact h1
/-- the method's frame g, with q thrown over it -/
def vx_W (p : Program) (l : Launch) (e : Env) (R : Room) (s : State) (m : MethodId) (args : Array Value) (below : List Frame) (meth : Method) (c : Code) (H : Heap) (locs : List Loc) (cells slots : Nat) (Q : State → Prop) (g : JFrame) (q : Addr) : Prop :=
  ∀ T : State, T.heap = H → Stand p l e R s m args below meth c T locs cells slots → ∃ t, Steps p.tables e below ((T.setTop g).pushFrame (.throwing q)) t ∧ Q t
def vx_Run (p : Program) (l : Launch) (e : Env) (R : Room) (s : State) (m : MethodId) (args : Array Value) (below : List Frame) (meth : Method) (c : Code) (H : Heap) (locs : List Loc) (cells slots mc ms : Nat) (g : JFrame) (rest : List Value) (Qa : State → Outcome → State → Prop) (XC : String → State → State → Prop) (free : Addr → Prop) : Prop :=
  ∀ T : State, T.heap = H → Stand p l e R s m args below meth c T locs cells slots →
    (∃ (v : Option Value) (st₀ t T' : State) (L : List Loc), st₀.heap = H ∧ Stand p l e R s m args below meth c T' (locs ++ L) (cells + mc) (slots + ms) ∧ (∀ q ∈ L, free q.base) ∧ T'.heap = t.heap ∧ T'.vm = t.vm ∧ Qa st₀ (.returned v) t ∧
      Goes p e below T g T' { g with pc := g.pc + 3, stack := v.toList ++ rest }) ∨
    (∃ (q : Addr) (st₀ t T' : State) (L : List Loc) (E : String) (ce : Cell), st₀.heap = H ∧ Stand p l e R s m args below meth c T' (locs ++ L) (cells + mc) (slots + ms) ∧ (∀ z ∈ L, free z.base) ∧ T'.heap = t.heap ∧ T'.vm = t.vm ∧ XC E st₀ t ∧ t.heap[q]? = some ce ∧ ce.vm = .none ∧ s.vm.findClass E = some ce.cls ∧
      Steps p.tables e below (T.setTop g) ((T'.setTop { g with stack := rest }).pushFrame (.throwing q)))
def vx_X {S : Type} (px : S → Prop) (B : String → S → State → Prop) (A : Nat → Prop) : String → State → State → Prop := fun E st t => ∃ u : S, px u ∧ B E u t ∧ va_F A st t
section Runs
variable {p : Program} {l : Launch} {e : Env} {R : Room} {s : State} {m : MethodId} {args : Array Value} {below : List Frame} {meth : Method} {c : Code} {H : Heap} {locs : List Loc} {cells slots : Nat}
variable {y : MethodName} {bytes cc : ByteArray} {maxL nL mc ms n index : Nat} {ret : Option FieldType} {ws : List Cond} {rm : Room} {Pc : Array Value → State → Prop} {Qc : Array Value → State → Outcome → State → Prop} {XC : String → State → State → Prop} {free : Addr → Prop} {Ts : List Cond} {own C : String} {b : Addr} {As rest : List Value} {g : JFrame}
theorem vx_callBack (cb : CallB R s args own index y bytes maxL ret ws rm mc ms n) (hM : vx_Met l y ws rm Pc Qc XC mc ms free) (hbl : FrameBlind Pc) : vx_Back l R p e below s args y 3 8 (PreOf R mc ms Pc) (PostOf Qc mc ms free) (vx_Post XC mc ms free) := by
  obtain ⟨hrc, hrs, hfr, hlo, hws, hcw, -, hini, -⟩ := cb
  exact vx_back (bytes := bytes) (maxL := maxL) (ret := ret) hM hbl hrc hrs hfr hlo hws hcw (fun a' U hW => word_at hW (Or.inl (by first | rfl | simp [Cond.onTables, Cond.keeps, Cond.steady])) hini)
theorem vx_runV (S : CallFix p m c cc nL s args Ts own) (hM : vx_Met l y ws rm Pc Qc XC mc ms free) (cw : CallW R s args own C index y bytes maxL ret ws rm mc ms n) (hp : PreV s H C b Pc As)
    (hg : g.method = m) (hn : As.length = n) (hsize : g.locals.size = nL) (hstack : g.stack = As.reverse ++ .ref b :: rest) (hW : 2 * g.monitorRoom + (rest.map fun v => v.category).sum ≤ 8) (hdg : decode cc g.pc = .ok (.invokevirtual index, 3)) (hf : cells + mc ≤ R.cells ∧ slots + ms ≤ R.slots) :
    vx_Run p l e R s m args below meth c H locs cells slots mc ms g rest (Qc (Value.ref b :: As).toArray) XC free := by
  have hK : vx_Back l R p e below s args y 3 8 (PreOf R mc ms Pc) (PostOf Qc mc ms free) (vx_Post XC mc ms free) := vx_callBack cw.1 hM hp.1
  obtain ⟨⟨-, -, -, -, -, -, hcode, -, hy, hlen, hl⟩, hin, hse⟩ := cw
  obtain ⟨hx, hb, hml, ho, -⟩ := S
  obtain ⟨-, ⟨cellB, hcB, hoB, hclB⟩, hPc⟩ := hp
  intro T hT X
  rcases vx_callV X hx (C := C) (bytes := bytes) (maxL := maxL) (ret := ret) ho hl hin hse hcode hy hK (by rw [hT]; exact hcB) hoB hclB hg (hsize.trans hml.symm) (argsL := As) (rest := rest) (fun sig h => hn.trans (hlen sig h)) hstack hW (by rw [hb]; exact hdg)
    (fun vm₁ hW₁ => ⟨hf.1, hf.2, hPc (T.setVm vm₁) hT hW₁⟩) with ⟨v, vm₁, ⟨U', l2, c2, s2⟩, hW₁, X', ⟨g', mk, t, L, e1, e2, hq, h1, hL, h2, h3⟩, st⟩ | ⟨q, vm₁, ⟨U', l2, c2, s2⟩, hW₁, X', ⟨g', mk, t, L, E, ce, e1, e2, hq, hce, hcv, hcl, h1, hL, h2, h3⟩, st⟩
  · dsimp only [Pt.U, Pt.locs, Pt.cells, Pt.slots] at X' e1 e2 h1 h2 h3 st
    subst h1; subst h2; subst h3
    exact Or.inl ⟨v, (T.setVm vm₁).calling g' mk (Value.ref b :: As).toArray, t, U', L, hT, X', hL, e1, e2, hq, st⟩
  · dsimp only [Pt.U, Pt.locs, Pt.cells, Pt.slots] at X' e1 e2 h1 h2 h3 st hcl
    subst h1; subst h2; subst h3
    exact Or.inr ⟨q, (T.setVm vm₁).calling g' mk (Value.ref b :: As).toArray, t, U', L, E, ce, hT, X', hL, e1, e2, hq, hce, hcv, vx_cls hW₁ hcl, st⟩
theorem vx_runS (S : CallFix p m c cc nL s args Ts own) (hM : vx_Met l y ws rm Pc Qc XC mc ms free) (cw : CallB R s args own index y bytes maxL ret ws rm mc ms n ∧ (Cond.static y).before args s = true) (hp : PreS s H Pc As)
    (hg : g.method = m) (hn : As.length = n) (hsize : g.locals.size = nL) (hstack : g.stack = As.reverse ++ rest) (hW : 2 * g.monitorRoom + (rest.map fun v => v.category).sum ≤ 8) (hdg : decode cc g.pc = .ok (.invokestatic index, 3)) (hf : cells + mc ≤ R.cells ∧ slots + ms ≤ R.slots) :
    vx_Run p l e R s m args below meth c H locs cells slots mc ms g rest (Qc As.toArray) XC free := by
  have hK : vx_Back l R p e below s args y 3 8 (PreOf R mc ms Pc) (PostOf Qc mc ms free) (vx_Post XC mc ms free) := vx_callBack cw.1 hM hp.1
  obtain ⟨⟨-, -, -, -, -, -, hcode, hini, hy, hlen, hl⟩, hstt⟩ := cw
  obtain ⟨hx, hb, hml, ho, -⟩ := S
  intro T hT X
  rcases vx_callS X hx (bytes := bytes) (maxL := maxL) (ret := ret) ho hl hstt hini hcode hy hK hg (hsize.trans hml.symm) (argsL := As) (rest := rest) (fun sig h => hn.trans (hlen sig h)) hstack hW (by rw [hb]; exact hdg)
    (fun vm₁ hW₁ => ⟨hf.1, hf.2, hp.2 (T.setVm vm₁) hT hW₁⟩) with ⟨v, vm₁, ⟨U', l2, c2, s2⟩, hW₁, X', ⟨g', mk, t, L, e1, e2, hq, h1, hL, h2, h3⟩, st⟩ | ⟨q, vm₁, ⟨U', l2, c2, s2⟩, hW₁, X', ⟨g', mk, t, L, E, ce, e1, e2, hq, hce, hcv, hcl, h1, hL, h2, h3⟩, st⟩
  · dsimp only [Pt.U, Pt.locs, Pt.cells, Pt.slots] at X' e1 e2 h1 h2 h3 st
    subst h1; subst h2; subst h3
    exact Or.inl ⟨v, (T.setVm vm₁).calling g' mk As.toArray, t, U', L, hT, X', hL, e1, e2, hq, st⟩
  · dsimp only [Pt.U, Pt.locs, Pt.cells, Pt.slots] at X' e1 e2 h1 h2 h3 st hcl
    subst h1; subst h2; subst h3
    exact Or.inr ⟨q, (T.setVm vm₁).calling g' mk As.toArray, t, U', L, E, ce, hT, X', hL, e1, e2, hq, hce, hcv, vx_cls hW₁ hcl, st⟩
end Runs
section Rows
variable {p : Program} {l : Launch} {e : Env} {R : Room} {s : State} {m : MethodId} {args : Array Value} {below : List Frame} {meth : Method} {c : Code} {H : Heap} {locs : List Loc} {cells slots : Nat} {Q : State → Prop}
variable {mc ms : Nat} {free : Addr → Prop} {A0 A1 : Nat → Prop} {H0 : Heap} {a : Array Value} {pc : Nat} {ls : Array Slot} {st0 rest : List Value}
theorem vx_keep {st₀ t T' : State} {L : List Loc} (h0 : st₀.heap = H) (e1 : T'.heap = t.heap) (hS : va_S A0 H0 H locs) (hA : ∀ q, q < H.size → A1 q → A0 q) (hf : ∀ q, free q → A0 q) (hL : ∀ q ∈ L, free q.base) (hF : va_F A1 st₀ t) :
    H.size ≤ T'.heap.size ∧ (∀ q : Nat, q < H.size → ¬ A1 q → T'.heap[q]? = H[q]?) ∧ va_S A0 H0 T'.heap (locs ++ L) := by
  obtain ⟨hz, hk⟩ := hF
  rw [h0] at hz hk
  exact ⟨by rw [e1]; exact hz, fun q h1 h2 => by rw [e1]; exact hk q h1 h2,
    ⟨Nat.le_trans hS.1 (by rw [e1]; exact hz), fun q h1 h2 => by rw [e1, hk q (Nat.lt_of_lt_of_le h1 hS.1) (fun z => h2 (hA q (Nat.lt_of_lt_of_le h1 hS.1) z))]; exact hS.2.1 q h1 h2, fun q hq => by
      rcases List.mem_append.mp hq with h | h
      · exact hS.2.2 q h
      · exact hf _ (hL q h)⟩⟩
theorem vx_calli {S SX : Type} {post : Int32 → S → Prop} {px : SX → Prop} {B : S → State → Prop} {BX : String → SX → State → Prop} {AX : Nat → Prop} (hr : vx_Run p l e R s m args below meth c H locs cells slots mc ms (F0 m pc ls st0) rest (va_Qi post B A1 a) (vx_X px BX AX) free) (hS : va_S A0 H0 H locs) (hA : ∀ q, q < H.size → A1 q → A0 q) (hf : ∀ q, free q → A0 q) (hAX : ∀ q, q < H.size → AX q → A0 q)
    (kx : ∀ (E : String) (ce : Cell) (q9 : Addr) (u : SX) (t : State) (H1 : Heap) (locs1 : List Loc), t.heap = H1 → s.vm.Alike t.vm → px u → BX E u t → H.size ≤ H1.size → (∀ q : Nat, q < H.size → ¬ AX q → H1[q]? = H[q]?) → va_S A0 H0 H1 locs1 → H1[q9]? = some ce → ce.vm = .none → s.vm.findClass E = some ce.cls → vx_W p l e R s m args below meth c H1 locs1 (cells + mc) (slots + ms) Q (F0 m pc ls rest) q9)
    (kk : ∀ (r : Int32) (u : S) (t : State) (H1 : Heap) (locs1 : List Loc), t.heap = H1 → s.vm.Alike t.vm → post r u → B u t → H.size ≤ H1.size → (∀ q : Nat, q < H.size → ¬ A1 q → H1[q]? = H[q]?) → va_S A0 H0 H1 locs1 → W p l e R s m args below meth c H1 locs1 (cells + mc) (slots + ms) Q (F0 m (pc + 3) ls (.int r :: rest))) : W p l e R s m args below meth c H locs cells slots Q (F0 m pc ls st0) := by
  intro T hT X
  rcases hr T hT X with ⟨v, st₀, t, T', L, h0, X', hL, e1, e2, ⟨⟨r, u, hv, hp, hb⟩, hF⟩, st⟩ | ⟨q, st₀, t, T', L, E, ce, h0, X', hL, e1, e2, ⟨u, hp, hb, hF⟩, hce, hcv, hcl, st⟩
  · cases hv
    obtain ⟨k1, k2, k3⟩ := vx_keep h0 e1 hS hA hf hL hF
    obtain ⟨t2, a1, b1⟩ := kk r u t T'.heap (locs ++ L) e1.symm (by rw [← e2]; exact X'.warmed.alike) hp hb k1 k2 k3 T' rfl X'
    exact ⟨t2, st t2 a1, b1⟩
  · obtain ⟨k1, k2, k3⟩ := vx_keep h0 e1 hS hAX hf hL hF
    obtain ⟨t2, a1, b1⟩ := kx E ce q u t T'.heap (locs ++ L) e1.symm (by rw [← e2]; exact X'.warmed.alike) hp hb k1 k2 k3 (by rw [e1]; exact hce) hcv hcl T' rfl X'
    exact ⟨t2, st.trans a1, b1⟩
theorem vx_calll {S SX : Type} {post : Int64 → S → Prop} {px : SX → Prop} {B : S → State → Prop} {BX : String → SX → State → Prop} {AX : Nat → Prop} (hr : vx_Run p l e R s m args below meth c H locs cells slots mc ms (F0 m pc ls st0) rest (va_Ql post B A1 a) (vx_X px BX AX) free) (hS : va_S A0 H0 H locs) (hA : ∀ q, q < H.size → A1 q → A0 q) (hf : ∀ q, free q → A0 q) (hAX : ∀ q, q < H.size → AX q → A0 q)
    (kx : ∀ (E : String) (ce : Cell) (q9 : Addr) (u : SX) (t : State) (H1 : Heap) (locs1 : List Loc), t.heap = H1 → s.vm.Alike t.vm → px u → BX E u t → H.size ≤ H1.size → (∀ q : Nat, q < H.size → ¬ AX q → H1[q]? = H[q]?) → va_S A0 H0 H1 locs1 → H1[q9]? = some ce → ce.vm = .none → s.vm.findClass E = some ce.cls → vx_W p l e R s m args below meth c H1 locs1 (cells + mc) (slots + ms) Q (F0 m pc ls rest) q9)
    (kk : ∀ (r : Int64) (u : S) (t : State) (H1 : Heap) (locs1 : List Loc), t.heap = H1 → s.vm.Alike t.vm → post r u → B u t → H.size ≤ H1.size → (∀ q : Nat, q < H.size → ¬ A1 q → H1[q]? = H[q]?) → va_S A0 H0 H1 locs1 → W p l e R s m args below meth c H1 locs1 (cells + mc) (slots + ms) Q (F0 m (pc + 3) ls (.long r :: rest))) : W p l e R s m args below meth c H locs cells slots Q (F0 m pc ls st0) := by
  intro T hT X
  rcases hr T hT X with ⟨v, st₀, t, T', L, h0, X', hL, e1, e2, ⟨⟨r, u, hv, hp, hb⟩, hF⟩, st⟩ | ⟨q, st₀, t, T', L, E, ce, h0, X', hL, e1, e2, ⟨u, hp, hb, hF⟩, hce, hcv, hcl, st⟩
  · cases hv
    obtain ⟨k1, k2, k3⟩ := vx_keep h0 e1 hS hA hf hL hF
    obtain ⟨t2, a1, b1⟩ := kk r u t T'.heap (locs ++ L) e1.symm (by rw [← e2]; exact X'.warmed.alike) hp hb k1 k2 k3 T' rfl X'
    exact ⟨t2, st t2 a1, b1⟩
  · obtain ⟨k1, k2, k3⟩ := vx_keep h0 e1 hS hAX hf hL hF
    obtain ⟨t2, a1, b1⟩ := kx E ce q u t T'.heap (locs ++ L) e1.symm (by rw [← e2]; exact X'.warmed.alike) hp hb k1 k2 k3 (by rw [e1]; exact hce) hcv hcl T' rfl X'
    exact ⟨t2, st.trans a1, b1⟩
theorem vx_callf {S SX : Type} {post : UInt32 → S → Prop} {px : SX → Prop} {B : S → State → Prop} {BX : String → SX → State → Prop} {AX : Nat → Prop} (hr : vx_Run p l e R s m args below meth c H locs cells slots mc ms (F0 m pc ls st0) rest (va_Qf post B A1 a) (vx_X px BX AX) free) (hS : va_S A0 H0 H locs) (hA : ∀ q, q < H.size → A1 q → A0 q) (hf : ∀ q, free q → A0 q) (hAX : ∀ q, q < H.size → AX q → A0 q)
    (kx : ∀ (E : String) (ce : Cell) (q9 : Addr) (u : SX) (t : State) (H1 : Heap) (locs1 : List Loc), t.heap = H1 → s.vm.Alike t.vm → px u → BX E u t → H.size ≤ H1.size → (∀ q : Nat, q < H.size → ¬ AX q → H1[q]? = H[q]?) → va_S A0 H0 H1 locs1 → H1[q9]? = some ce → ce.vm = .none → s.vm.findClass E = some ce.cls → vx_W p l e R s m args below meth c H1 locs1 (cells + mc) (slots + ms) Q (F0 m pc ls rest) q9)
    (kk : ∀ (r : UInt32) (u : S) (t : State) (H1 : Heap) (locs1 : List Loc), t.heap = H1 → s.vm.Alike t.vm → post r u → B u t → H.size ≤ H1.size → (∀ q : Nat, q < H.size → ¬ A1 q → H1[q]? = H[q]?) → va_S A0 H0 H1 locs1 → W p l e R s m args below meth c H1 locs1 (cells + mc) (slots + ms) Q (F0 m (pc + 3) ls (.float r :: rest))) : W p l e R s m args below meth c H locs cells slots Q (F0 m pc ls st0) := by
  intro T hT X
  rcases hr T hT X with ⟨v, st₀, t, T', L, h0, X', hL, e1, e2, ⟨⟨r, u, hv, hp, hb⟩, hF⟩, st⟩ | ⟨q, st₀, t, T', L, E, ce, h0, X', hL, e1, e2, ⟨u, hp, hb, hF⟩, hce, hcv, hcl, st⟩
  · cases hv
    obtain ⟨k1, k2, k3⟩ := vx_keep h0 e1 hS hA hf hL hF
    obtain ⟨t2, a1, b1⟩ := kk r u t T'.heap (locs ++ L) e1.symm (by rw [← e2]; exact X'.warmed.alike) hp hb k1 k2 k3 T' rfl X'
    exact ⟨t2, st t2 a1, b1⟩
  · obtain ⟨k1, k2, k3⟩ := vx_keep h0 e1 hS hAX hf hL hF
    obtain ⟨t2, a1, b1⟩ := kx E ce q u t T'.heap (locs ++ L) e1.symm (by rw [← e2]; exact X'.warmed.alike) hp hb k1 k2 k3 (by rw [e1]; exact hce) hcv hcl T' rfl X'
    exact ⟨t2, st.trans a1, b1⟩
theorem vx_calld {S SX : Type} {post : UInt64 → S → Prop} {px : SX → Prop} {B : S → State → Prop} {BX : String → SX → State → Prop} {AX : Nat → Prop} (hr : vx_Run p l e R s m args below meth c H locs cells slots mc ms (F0 m pc ls st0) rest (va_Qd post B A1 a) (vx_X px BX AX) free) (hS : va_S A0 H0 H locs) (hA : ∀ q, q < H.size → A1 q → A0 q) (hf : ∀ q, free q → A0 q) (hAX : ∀ q, q < H.size → AX q → A0 q)
    (kx : ∀ (E : String) (ce : Cell) (q9 : Addr) (u : SX) (t : State) (H1 : Heap) (locs1 : List Loc), t.heap = H1 → s.vm.Alike t.vm → px u → BX E u t → H.size ≤ H1.size → (∀ q : Nat, q < H.size → ¬ AX q → H1[q]? = H[q]?) → va_S A0 H0 H1 locs1 → H1[q9]? = some ce → ce.vm = .none → s.vm.findClass E = some ce.cls → vx_W p l e R s m args below meth c H1 locs1 (cells + mc) (slots + ms) Q (F0 m pc ls rest) q9)
    (kk : ∀ (r : UInt64) (u : S) (t : State) (H1 : Heap) (locs1 : List Loc), t.heap = H1 → s.vm.Alike t.vm → post r u → B u t → H.size ≤ H1.size → (∀ q : Nat, q < H.size → ¬ A1 q → H1[q]? = H[q]?) → va_S A0 H0 H1 locs1 → W p l e R s m args below meth c H1 locs1 (cells + mc) (slots + ms) Q (F0 m (pc + 3) ls (.double r :: rest))) : W p l e R s m args below meth c H locs cells slots Q (F0 m pc ls st0) := by
  intro T hT X
  rcases hr T hT X with ⟨v, st₀, t, T', L, h0, X', hL, e1, e2, ⟨⟨r, u, hv, hp, hb⟩, hF⟩, st⟩ | ⟨q, st₀, t, T', L, E, ce, h0, X', hL, e1, e2, ⟨u, hp, hb, hF⟩, hce, hcv, hcl, st⟩
  · cases hv
    obtain ⟨k1, k2, k3⟩ := vx_keep h0 e1 hS hA hf hL hF
    obtain ⟨t2, a1, b1⟩ := kk r u t T'.heap (locs ++ L) e1.symm (by rw [← e2]; exact X'.warmed.alike) hp hb k1 k2 k3 T' rfl X'
    exact ⟨t2, st t2 a1, b1⟩
  · obtain ⟨k1, k2, k3⟩ := vx_keep h0 e1 hS hAX hf hL hF
    obtain ⟨t2, a1, b1⟩ := kx E ce q u t T'.heap (locs ++ L) e1.symm (by rw [← e2]; exact X'.warmed.alike) hp hb k1 k2 k3 (by rw [e1]; exact hce) hcv hcl T' rfl X'
    exact ⟨t2, st.trans a1, b1⟩
theorem vx_callv {S SX : Type} {post : S → Prop} {px : SX → Prop} {B : S → State → Prop} {BX : String → SX → State → Prop} {AX : Nat → Prop} (hr : vx_Run p l e R s m args below meth c H locs cells slots mc ms (F0 m pc ls st0) rest (va_Qv post B A1 a) (vx_X px BX AX) free) (hS : va_S A0 H0 H locs) (hA : ∀ q, q < H.size → A1 q → A0 q) (hf : ∀ q, free q → A0 q) (hAX : ∀ q, q < H.size → AX q → A0 q)
    (kx : ∀ (E : String) (ce : Cell) (q9 : Addr) (u : SX) (t : State) (H1 : Heap) (locs1 : List Loc), t.heap = H1 → s.vm.Alike t.vm → px u → BX E u t → H.size ≤ H1.size → (∀ q : Nat, q < H.size → ¬ AX q → H1[q]? = H[q]?) → va_S A0 H0 H1 locs1 → H1[q9]? = some ce → ce.vm = .none → s.vm.findClass E = some ce.cls → vx_W p l e R s m args below meth c H1 locs1 (cells + mc) (slots + ms) Q (F0 m pc ls rest) q9)
    (kk : ∀ (u : S) (t : State) (H1 : Heap) (locs1 : List Loc), t.heap = H1 → s.vm.Alike t.vm → post u → B u t → H.size ≤ H1.size → (∀ q : Nat, q < H.size → ¬ A1 q → H1[q]? = H[q]?) → va_S A0 H0 H1 locs1 → W p l e R s m args below meth c H1 locs1 (cells + mc) (slots + ms) Q (F0 m (pc + 3) ls (rest))) : W p l e R s m args below meth c H locs cells slots Q (F0 m pc ls st0) := by
  intro T hT X
  rcases hr T hT X with ⟨v, st₀, t, T', L, h0, X', hL, e1, e2, ⟨⟨u, hv, hp, hb⟩, hF⟩, st⟩ | ⟨q, st₀, t, T', L, E, ce, h0, X', hL, e1, e2, ⟨u, hp, hb, hF⟩, hce, hcv, hcl, st⟩
  · cases hv
    obtain ⟨k1, k2, k3⟩ := vx_keep h0 e1 hS hA hf hL hF
    obtain ⟨t2, a1, b1⟩ := kk u t T'.heap (locs ++ L) e1.symm (by rw [← e2]; exact X'.warmed.alike) hp hb k1 k2 k3 T' rfl X'
    exact ⟨t2, st t2 a1, b1⟩
  · obtain ⟨k1, k2, k3⟩ := vx_keep h0 e1 hS hAX hf hL hF
    obtain ⟨t2, a1, b1⟩ := kx E ce q u t T'.heap (locs ++ L) e1.symm (by rw [← e2]; exact X'.warmed.alike) hp hb k1 k2 k3 (by rw [e1]; exact hce) hcv hcl T' rfl X'
    exact ⟨t2, st.trans a1, b1⟩
/-- caught by the row x of this method's table; the rows ahead don't take it -/
theorem vx_catch {own name : String} {E : String} {ce : Cell} {q : Addr} (hown : s.vm.findClass own = some m.cls) (pre : List ExceptionTableEntry) (x : ExceptionTableEntry) (suf : List ExceptionTableEntry) (hsplit : c.exceptionTable.toList = pre ++ x :: suf)
    (hpass : ∀ z ∈ pre, covers z pc = false ∨ (z.catchType ≠ 0 ∧ ∃ nm : String, (Cond.classLink own z.catchType nm).before args s = true ∧ va_Nc E nm s)) (hx : covers x pc = true) (h0 : x.catchType ≠ 0)
    (hlink : (Cond.classLink own x.catchType name).before args s = true) (hcast : (Cond.castable E name).before args s = true) (hcell : H[q]? = some ce) (hv : ce.vm = .none) (hcl : s.vm.findClass E = some ce.cls)
    (kk : W p l e R s m args below meth c H locs cells slots Q (F0 m x.handlerPc ls [.ref q])) : vx_W p l e R s m args below meth c H locs cells slots Q (F0 m pc ls rest) q := by
  intro T hT X
  have hpl : e.platform.magicAccessors = ({} : Platform).magicAccessors := by rw [X.admits.platform]
  obtain ⟨c3, c4, hc3, hc4, hasg⟩ := Cond.castable_spec hcast
  cases Option.some.inj (hc3.symm.trans hcl)
  obtain ⟨c5, hc5, hcl5⟩ := Cond.classLink_spec hown hlink e.platform hpl
  cases Option.some.inj (hc4.symm.trans hc5)
  obtain ⟨vm', X', st⟩ := X.thenCaughtThrough q (g := F0 m pc ls rest) rfl (Steps.refl _) (by rw [hT]; exact hcell) (by rw [hv]; rfl) (by obtain ⟨k9, h9, -⟩ := Vm.findClass_spec hcl; exact ⟨k9, h9⟩) pre x suf hsplit
    (fun z hz => by
      rcases hpass z hz with h | ⟨hz0, nm, hl1, hn1⟩
      · exact Or.inl h
      · obtain ⟨c6, hc6, hcl6⟩ := Cond.classLink_spec hown hl1 e.platform hpl
        obtain ⟨a8, b8, h1, h2, h3⟩ := hn1
        cases Option.some.inj (h1.symm.trans hcl)
        cases Option.some.inj (h2.symm.trans hc6)
        exact Or.inr ⟨hz0, _, hcl6, h3⟩) hx (Or.inr ⟨h0, c4, hcl5, hasg⟩)
  obtain ⟨t, a1, b1⟩ := kk (T.setVm vm') hT X'
  exact ⟨t, st.trans a1, b1⟩
end Rows
section Ends
variable {p : Program} {l : Launch} {e : Env} {R : Room} {s : State} {m : MethodId} {args : Array Value} {below : List Frame} {meth : Method} {c : Code} {H : Heap} {locs : List Loc} {cells slots : Nat} {Q : State → Prop}
variable {mc ms : Nat} {free : Addr → Prop} {A0 A1 : Nat → Prop} {H0 : Heap} {a : Array Value} {ls : Array Slot} {st0 rest : List Value}
variable {Qc : Array Value → State → Outcome → State → Prop} {XC : String → State → State → Prop}
/-- what a body that may throw owes at its end -/
def vx_MQ (below : List Frame) (Qc : Array Value → State → Outcome → State → Prop) (XC : String → State → State → Prop) (a : Array Value) (s : State) (mc ms : Nat) (free : Addr → Prop) : State → Prop := fun t =>
  ∃ o, t.status = .running ∧ Ended t below o ∧ vx_Q Qc XC mc ms free a s o t
theorem vx_ret {g : JFrame} {mc ms : Nat} (k : W p l e R s m args below meth c H locs cells slots (MQ below Qc args s mc ms free) g) : W p l e R s m args below meth c H locs cells slots (vx_MQ below Qc XC args s mc ms free) g := by
  intro T hT X
  obtain ⟨t, a1, o, b1, b2, b3, b4⟩ := k T hT X
  exact ⟨t, a1, o, b1, b2, Or.inl ⟨b3, b4⟩⟩
/-- not caught here: it goes on to the caller -/
theorem vx_widen {g : JFrame} {q : Addr} {k n : Nat} (h1 : cells ≤ k) (h2 : slots ≤ n) (kk : vx_W p l e R s m args below meth c H locs k n Q g q) : vx_W p l e R s m args below meth c H locs cells slots Q g q := fun T hT X => kk T hT (stand_widen X h1 h2)
theorem vx_out {pc : Nat} {E : String} {ce : Cell} {q : Addr} {mc ms : Nat} (hout : ∀ x ∈ c.exceptionTable.toList, covers x pc = false) (hlocks : meth.locks = false) (hcell : H[q]? = some ce) (hv : ce.vm = .none) (hcl : s.vm.findClass E = some ce.cls)
    (hx : ∀ t : State, t.heap = H → s.vm.Alike t.vm → XC E s t) (hf : ∀ z ∈ locs, free z.base) (hc : cells ≤ mc) (hs : slots ≤ ms) :
    vx_W p l e R s m args below meth c H locs cells slots (vx_MQ below Qc XC args s mc ms free) (F0 m pc ls rest) q := by
  intro T hT X
  obtain ⟨st1, hrun, hend, hW, hsm⟩ := X.leaveThrown q (g := F0 m pc ls rest) rfl rfl rfl hout hlocks
  have hcell9 : (T.setFrames (.throwing q :: below)).heap[q]? = some ce := by
    show T.heap[q]? = some ce
    rw [hT]; exact hcell
  exact ⟨_, st1, .threw q, hrun, hend, Or.inr ⟨q, rfl, E, ce, locs, hx _ hT hW.alike, hcell9, hv, hcl, hW, hsm.mono hc hs, hf⟩⟩
theorem vx_frame {U : State} {k n : Nat} (h : s.sameButNew ({ U with vm := s.vm } : State) locs k n) : s.heap.size ≤ U.heap.size ∧ ∀ q : Nat, q < s.heap.size → (∀ z ∈ locs, z.base ≠ q) → U.heap[q]? = s.heap[q]? := by
  obtain ⟨-, h2, -, -, -, h6⟩ := h
  refine ⟨h2, fun q hq hz => ?_⟩
  obtain ⟨c9, e1, e2, e3, e4⟩ := h6 q _ (Array.getElem?_eq_getElem hq)
  have hs : c9.slots = (s.heap[q]).slots := Array.ext_getElem? fun i => e4 i fun hm => hz _ hm rfl
  have h9 : c9 = s.heap[q] := by
    rw [hs] at e2
    exact e2
  have e5 : U.heap[q]? = some c9 := e1
  rw [e5, h9, Array.getElem?_eq_getElem hq]
/-- the words of a throw but the four that speak of the heap -/
def vx_no (w : Cond) : Bool := decide (w ≠ .isRef (.static Bundle.tN "UNASSIGNED_STACK" Bundle.steD)) && decide (w ≠ .isRef (.static Bundle.tN "SUPPRESSED_SENTINEL" Bundle.listD)) && decide (w ≠ .laysStatic Bundle.tN "UNASSIGNED_STACK" Bundle.steD) && decide (w ≠ .laysStatic Bundle.tN "SUPPRESSED_SENTINEL" Bundle.listD)
def vx_at0 (own : String) (ic : Nat) (X : String) (names : List String) : List Cond := (Bundle.ownAtoms0 own ic X names).filter vx_no
def vx_atS (own : String) (ic : Nat) (X : String) (names : List String) : List Cond := (Bundle.ownAtoms own ic X names).filter vx_no
/-- a word that the tables alone decide, or a good one -/
def vx_ot (w : Cond) : Bool := w.onTables || goodWord w
theorem vx_ot_at {args a' : Array Value} {s U : State} {w : Cond} (hW : s.WarmedH U.vm) (hvm : s.vm = U.vm) (hg : vx_ot w = true) (h : w.before args s = true) : w.before a' U = true := by
  simp only [vx_ot, Bool.or_eq_true] at hg
  rcases hg with hg | hg
  · exact va_tabs hg hvm h
  · exact word_at hW (good_of_word hg) h
/-- a list's words: the good ones out of the method's own list, the others by premises of their own -/
theorem vx_hat {args : Array Value} {s : State} {L B : List Cond} (h1 : ∀ w ∈ L.filter goodWord, w.before args s = true) (h2 : ∀ w ∈ L.filter (fun w => !goodWord w), w ∈ B) (h3 : ∀ w ∈ B, w.before args s = true) : ∀ w ∈ L, w.before args s = true := by
  intro w hw
  by_cases g : goodWord w = true
  · exact h1 w (List.mem_filter.mpr ⟨hw, g⟩)
  · refine h3 w (h2 w (List.mem_filter.mpr ⟨hw, ?_⟩))
    show (!goodWord w) = true
    cases hgw : goodWord w
    · rfl
    · exact absurd hgw g
theorem vx_c {args : Array Value} {s : State} {w : Cond} {B : List Cond} (h : w.before args s = true) (t : ∀ w ∈ B, w.before args s = true) : ∀ w' ∈ w :: B, w'.before args s = true := fun w' h' => (List.mem_cons.mp h').elim (fun e => by rw [e]; exact h) (t w')
theorem vx_n {args : Array Value} {s : State} : ∀ w ∈ ([] : List Cond), w.before args s = true := fun _ h => nomatch h
theorem vx_own {args : Array Value} {s : State} {L : List Cond} (h1 : ∀ w ∈ L.filter vx_no, w.before args s = true)
    (hU : (Cond.isRef (.static Bundle.tN "UNASSIGNED_STACK" Bundle.steD)).before args s = true) (hN : (Cond.isRef (.static Bundle.tN "SUPPRESSED_SENTINEL" Bundle.listD)).before args s = true)
    (lU : (Cond.laysStatic Bundle.tN "UNASSIGNED_STACK" Bundle.steD).before args s = true) (lN : (Cond.laysStatic Bundle.tN "SUPPRESSED_SENTINEL" Bundle.listD).before args s = true) : ∀ w ∈ L, w.before args s = true := by
  intro w hw
  by_cases e1 : w = .isRef (.static Bundle.tN "UNASSIGNED_STACK" Bundle.steD)
  · rw [e1]; exact hU
  · by_cases e2 : w = .isRef (.static Bundle.tN "SUPPRESSED_SENTINEL" Bundle.listD)
    · rw [e2]; exact hN
    · by_cases e3 : w = .laysStatic Bundle.tN "UNASSIGNED_STACK" Bundle.steD
      · rw [e3]; exact lU
      · by_cases e4 : w = .laysStatic Bundle.tN "SUPPRESSED_SENTINEL" Bundle.listD
        · rw [e4]; exact lN
        · exact h1 w (List.mem_filter.mpr ⟨hw, by unfold vx_no; rw [decide_eq_true e1, decide_eq_true e2, decide_eq_true e3, decide_eq_true e4]; rfl⟩)
/-- where a static field lies, its class's statics cell in H -/
def vx_L (C n d : String) (A : Nat → Prop) (U : State) (H : Heap) : Prop := ∃ (c : ClassId) (k : Class) (i : Nat) (f : Field) (a : Nat) (cell : Cell), U.vm.findClass C = some c ∧ U.fieldFound? C n d = some (c, k, i, f) ∧ f.isStatic = true ∧ k.statics = some a ∧ H[a]? = some cell ∧ cell.vm.isStatics = true ∧ cell.cls = c ∧ f.slot < cell.slots.size ∧ k.staticTypes[f.slot]? = some f.type ∧ ¬ A a
theorem vx_L.moved {C n d : String} {A : Nat → Prop} {u U : State} {H : Heap} (hvm : u.vm.Alike U.vm) (h : vx_L C n d A u H) : vx_L C n d A U H := by
  obtain ⟨c, k, i, f, a, cell, h1, h2, h3, h4, h5, h6, h7, h8, h9, h10⟩ := h
  obtain ⟨k', hi', he⟩ := State.fieldFound?_setVm hvm h2
  exact ⟨c, k', i, f, a, cell, by rw [hvm.findClass]; exact h1, hi', h3, by rw [he]; exact h4, h5, h6, h7, h8, by rw [he]; exact h9, h10⟩
theorem vx_L.kept {C n d : String} {A : Nat → Prop} {U : State} {H H1 : Heap} (h : vx_L C n d A U H) (hq : ∀ a : Nat, a < H.size → ¬ A a → H1[a]? = H[a]?) : vx_L C n d A U H1 := by
  obtain ⟨c, k, i, f, a, cell, h1, h2, h3, h4, h5, h6, h7, h8, h9, h10⟩ := h
  exact ⟨c, k, i, f, a, cell, h1, h2, h3, h4, by rw [hq a (Array.getElem?_eq_some_iff.mp h5).1 h10]; exact h5, h6, h7, h8, h9, h10⟩
theorem vx_L.narrow {C n d : String} {A B : Nat → Prop} {U : State} {H : Heap} (h : vx_L C n d A U H) (hAB : ∀ q, B q → A q) : vx_L C n d B U H := by
  obtain ⟨c, k, i, f, a, cell, h1, h2, h3, h4, h5, h6, h7, h8, h9, h10⟩ := h
  exact ⟨c, k, i, f, a, cell, h1, h2, h3, h4, h5, h6, h7, h8, h9, fun z => h10 (hAB _ z)⟩
theorem vx_L.word {C n d : String} {A : Nat → Prop} {s : State} {args : Array Value} (h : vx_L C n d A s s.heap) : (Cond.laysStatic C n d).before args s = true := by
  obtain ⟨c, k, i, f, a, cell, h1, h2, h3, h4, h5, h6, h7, h8, h9, -⟩ := h
  show (Cond.laysStatic C n d).holds args s none s [] = true
  exact Cond.laysStatic_of h1 h2 h3 h4 h5 h6 h7 h8 h9
/-- .. and what it holds: null or some reference -/
def vx_Zq (C n d : String) (A : Nat → Prop) (U : State) (H : Heap) : Prop := va_Zq C n d A U H ∧ vx_L C n d A U H
theorem vx_Zq.moved {C n d : String} {A : Nat → Prop} {u U : State} {H : Heap} (hvm : u.vm.Alike U.vm) (h : vx_Zq C n d A u H) : vx_Zq C n d A U H := ⟨va_Zq.moved hvm h.1, vx_L.moved hvm h.2⟩
theorem vx_Zq.kept {C n d : String} {A : Nat → Prop} {U : State} {H H1 : Heap} (h : vx_Zq C n d A U H) (hq : ∀ a : Nat, a < H.size → ¬ A a → H1[a]? = H[a]?) : vx_Zq C n d A U H1 := ⟨va_Zq.kept h.1 hq, vx_L.kept h.2 hq⟩
theorem vx_Zq.narrow {C n d : String} {A B : Nat → Prop} {U : State} {H : Heap} (h : vx_Zq C n d A U H) (hAB : ∀ q, B q → A q) : vx_Zq C n d B U H := ⟨va_Zq.narrow h.1 hAB, vx_L.narrow h.2 hAB⟩
theorem vx_Zqof {args : Array Value} {s : State} {C n d : String} {A : Nat → Prop} (hl : (Cond.laysStatic C n d).before args s = true) (hini : (Cond.initialized C).before args s = true) (h : (Cond.isRef (.static C n d)).before args s = true) (hA : ∀ a : Nat, a < s.heap.size → ¬ A a) : vx_Zq C n d A s s.heap := by
  refine ⟨va_Zqof hl hini h hA, ?_⟩
  obtain ⟨c, k, i, f, a, cell, h1, h2, h3, h4, h5, h6, h7, h8, h9⟩ := Cond.laysStatic_spec hl
  exact ⟨c, k, i, f, a, cell, h1, h2, h3, h4, h5, h6, h7, h8, h9, hA a (Array.getElem?_eq_some_iff.mp h5).1⟩
theorem vx_isRef {C n d : String} {v : Value} {A : Nat → Prop} {s : State} {args : Array Value} (h : va_Z C n d v A s s.heap) (hv : v.isRef = true) : (Cond.isRef (.static C n d)).before args s = true := by
  obtain ⟨cf, kf, fi, f, a, cell, h1, h2, h3, h4, h5, h6, h7, -⟩ := h
  have he : (Term.static C n d).eval args s none [] s = some v := by
    simp [Term.eval, State.fieldNamed?, h1, h2, h4, h5, h6, h7]
  simp only [Cond.before, Cond.holds, Cond.value, he]
  cases v <;> simp_all [Value.isRef]
theorem vx_isRefq {C n d : String} {A : Nat → Prop} {s : State} {args : Array Value} (h : va_Zq C n d A s s.heap) : (Cond.isRef (.static C n d)).before args s = true := by
  rcases h with h | ⟨t, h⟩
  · exact vx_isRef h rfl
  · exact vx_isRef h rfl
/-- the same frame, seen from here: as if the method were called anew in this heap -/
theorem vx_rebase {T : State} (X : Stand p l e R s m args below meth c T locs cells slots) {R' : Room} (hf : R'.frames ≤ R.frames) (hl : R'.locals ≤ R.locals) (hc : cells + R'.cells ≤ R.cells) (hs : slots + R'.slots ≤ R.slots) :
    Stand p l e R' ((T.setVm s.vm).setFrames (.invoking m args :: below)) m args below meth c T [] 0 0 := by
  have htop : (T.setVm s.vm).topJava?.isSome := X.here.top
  have hF : ((T.setVm s.vm).setFrames (.invoking m args :: below)).frames = .invoking m args :: below := State.frames_setFrames _ (State.cur_lt_of_top htop)
  obtain ⟨g₀, hg0⟩ := Option.isSome_iff_exists.mp htop
  obtain ⟨r, hr⟩ := State.topJava?_eq_some.mp hg0
  have hl9 : e.platform.stackLimits (T.setVm s.vm).me = e.platform.stackLimits s.me := X.limits
  have hb9 : (T.setVm s.vm).me.stackBytes = s.me.stackBytes := X.bytes
  refine ⟨X.admits, X.cas, X.clock, hF, ?_, X.hears, X.method, X.code, X.here, X.tail, X.warmed, ?_, ?_, ?_⟩
  · have h := X.room
    have hU : ((T.setVm s.vm).setFrames (.invoking m args :: below)).localsInUse = s.localsInUse := by
      rw [State.localsInUse_invoking hF (meth := meth) (c := c) X.method X.code, State.localsInUse_invoking X.frames X.method X.code]
    simp only [State.hasRoom, Bool.and_eq_true, decide_eq_true_eq] at h ⊢
    obtain ⟨⟨⟨⟨h1, h2, h3, h4, h5, h6⟩, h7⟩, h8⟩, h9⟩ := h
    rw [X.frames, List.length_cons] at h2 h3
    have q1 := X.heapSize
    have q2 := X.used
    simp only [hF, hU, List.length_cons, State.stackLimits_setFrames, State.stackBytes_setFrames, hl9, hb9]
    refine ⟨⟨⟨⟨by omega, by omega, by omega, by omega, by omega, h6⟩, ?_⟩, ?_⟩, X.book⟩
    · show T.heap.size + R'.cells ≤ e.platform.maxCells
      omega
    · show T.slotsUsed + R'.slots ≤ e.platform.maxSlots
      omega
  · rw [State.stackLimits_setFrames]; rfl
  · rw [State.stackBytes_setFrames]; rfl
  · refine ⟨?_, Nat.le_refl _, Nat.le_refl _, ?_, ?_, fun a c9 h9 => ⟨c9, h9, rfl, rfl, fun _ _ => rfl⟩⟩
    · obtain ⟨t, ht, -⟩ := State.frames_cons hr
      show T.setVm s.vm = { ((T.setVm s.vm).setFrames (.invoking m args :: below)).setFrames (T.setVm s.vm).frames with heap := T.heap, slotsUsed := T.slotsUsed }
      rw [State.setFrames_setFrames, State.setFrames_self ht]
      rfl
    · show T.slotsUsed = T.slotsUsed + ((T.heap.toList.drop T.heap.size).map (·.slots.size)).sum
      rw [List.drop_eq_nil_of_le (Nat.le_of_eq Array.length_toList)]
      rfl
    · show ((T.heap.toList.drop T.heap.size).map (·.slots.size)).sum ≤ 0
      rw [List.drop_eq_nil_of_le (Nat.le_of_eq Array.length_toList)]
      exact Nat.le_refl _
/-- 'throw new E()': new; dup; invokespecial; athrow -/
theorem vx_throw0 {cc : ByteArray} {pc : Nat} (hexec : p.tables.exec = Jvm.exec) (hb : c.code = cc) (hl : l.stackTraces = false) {own cls : String} {names : List String} {ik ic mc ms : Nat} {A : Nat → Prop}
    (hown : s.vm.findClass own = some m.cls) (hcls : Bundle.fit cls = true) (hnames : ∀ n ∈ names, Bundle.fit n = true)
    (hk : (Cond.classLink own ik cls).before args s = true) (hini : (Cond.initialized cls).before args s = true) (hat : ∀ w ∈ vx_at0 own ic cls names, w.before args s = true)
    (hgood : ∀ w ∈ Cond.classLink own ik cls :: Cond.initialized cls :: vx_at0 own ic cls names, vx_ot w = true)
    (hU : vx_Zq Bundle.tN "UNASSIGNED_STACK" Bundle.steD A s s.heap) (hN : vx_Zq Bundle.tN "SUPPRESSED_SENTINEL" Bundle.listD A s s.heap) (hS : va_S A s.heap H locs) (hsize : ls.size = c.maxLocals)
    (d0 : decode cc pc = .ok (.new ik, 3)) (d3 : decode cc (pc + 3) = .ok (.dup, 1)) (d4 : decode cc (pc + 4) = .ok (.invokespecial ic, 3)) (d7 : decode cc (pc + 7) = .ok (.athrow, 1))
    (hout : ∀ x ∈ c.exceptionTable.toList, covers x (pc + 7) = false)
    (hRframes : names.length + 3 < R.frames) (hRlocals : (rest.map fun v => v.category).sum + (13 * (names.length + 1) + 42) ≤ R.locals) (hRcells : cells + 1 ≤ R.cells) (hRslots : slots + 6 ≤ R.slots) (hlocks : meth.locks = false)
    (hx : ∀ t : State, s.vm.Alike t.vm → H.size ≤ t.heap.size → (∀ q : Nat, q < H.size → t.heap[q]? = H[q]?) → XC cls s t)
    (hf : ∀ z ∈ locs, free z.base) (hc : cells + 1 ≤ mc) (hs : slots + 6 ≤ ms) :
    W p l e R s m args below meth c H locs cells slots (vx_MQ below Qc XC args s mc ms free) (F0 m pc ls rest) := by
  intro T hT X
  have htr : e.platform.stackTraces = false := (show e.platform.stackTraces = l.stackTraces by rw [X.admits.platform]).trans hl
  have Y := vx_rebase X (R' := { frames := R.frames, locals := R.locals, cells := 1, slots := 6 }) (Nat.le_refl _) (Nat.le_refl _) hRcells hRslots
  obtain ⟨s', hA⟩ : ∃ z, z = (T.setVm s.vm).setFrames (.invoking m args :: below) := ⟨_, rfl⟩
  rw [← hA] at Y
  have hvm : s'.vm = s.vm := by rw [hA]; rfl
  have hhp : s'.heap = H := by rw [hA]; exact hT
  have hW0 : s.WarmedH s'.vm := by rw [hvm]; exact State.WarmedH.refl s
  have hat' : ∀ w ∈ vx_at0 own ic cls names, w.before args s' = true := fun w hw => vx_ot_at hW0 hvm.symm (hgood w (List.mem_cons_of_mem _ (List.mem_cons_of_mem _ hw))) (hat w hw)
  have hk' : (Cond.classLink own ik cls).before args s' = true := vx_ot_at hW0 hvm.symm (hgood _ List.mem_cons_self) hk
  have hini' : (Cond.initialized cls).before args s' = true := vx_ot_at hW0 hvm.symm (hgood _ (List.mem_cons_of_mem _ List.mem_cons_self)) hini
  have hU' : vx_Zq Bundle.tN "UNASSIGNED_STACK" Bundle.steD A s' s'.heap := by rw [hhp]; exact vx_Zq.moved hW0.alike (hU.kept hS.2.1)
  have hN' : vx_Zq Bundle.tN "SUPPRESSED_SENTINEL" Bundle.listD A s' s'.heap := by rw [hhp]; exact vx_Zq.moved hW0.alike (hN.kept hS.2.1)
  have h : ∀ w ∈ Bundle.ownAtoms0 own ic cls names, w.before args s' = true := vx_own hat' (vx_isRefq hU'.1) (vx_isRefq hN'.1) hU'.2.word hN'.2.word
  have hown' : s'.vm.findClass own = some m.cls := by rw [hvm]; exact hown
  have hins : (Cond.instantiable cls 6).before args s' = true := h _ (by simp [Bundle.ownAtoms0])
  obtain ⟨vm₁, cX, kX, hfX, hkX, -, -, X₁, st1⟩ := Y.newCold hexec (own := own) (C := cls) (index := ik) (n := 6) hown' hk' hins hini'
    (g := F0 m pc ls rest) rfl (by rw [hb]; exact d0) (Nat.le_refl _) (Nat.le_refl _)
  generalize hT1 : (T.setVm vm₁).pushCell { cls := cX, slots := kX.instanceTypes.map defaultValue, vm := .none } = T1 at X₁ st1
  have hcat : (Value.ref T.heap.size).category = 1 := rfl
  have hcellA : T1.heap[T.heap.size]? = some (freshCell cX kX) := by rw [← hT1]; exact State.heap_pushCell_size _ _
  have d3' : decode c.code (pc + 3) = .ok (.dup, 1) := by rw [hb]; exact d3
  obtain ⟨U, hsteps, hrun, hend, hW, hsame, ce, hce, hO⟩ := X₁.ctorThrow0 hexec htr (own := own) (cls := cls) (names := names) (ic := ic) hown' hcls hnames h (fun x hx => nomatch hx) hfX hkX hcellA (by rw [hhp, hT]; exact Nat.le_refl _)
    (g := { method := m, pc := pc + 4, locals := ls, stack := .ref T.heap.size :: .ref T.heap.size :: rest, locked := none }) rfl hsize rfl rfl (rest := rest) rfl
    (by rw [hb]; exact d4) (by rw [hb]; exact d7) hout hRframes (by simp only [List.map_cons, List.sum_cons, hcat]; omega) hlocks
  obtain ⟨f1, f2⟩ := vx_frame hsame
  rw [hhp] at f1 f2
  have hWs : s.WarmedH U.vm := State.WarmedH.trans hW0 hW
  have hcl : s.vm.findClass cls = some ce.cls := by
    have h9 := hO.cls
    rw [hvm] at h9
    exact h9
  have hall : s.sameButNew ({ U with vm := s.vm } : State) locs mc ms := by
    subst hA
    obtain ⟨e1, e2⟩ := hsame
    rw [State.setFrames_setFrames] at e1
    have h2 : (T.setVm s.vm).sameButNew ({ U with vm := s.vm } : State) [] (0 + 1) (0 + 6) := ⟨e1, e2⟩
    have h3 := X.same.trans h2
    rw [List.append_nil] at h3
    exact h3.mono hc hs
  refine ⟨U, ?_, .threw T.heap.size, hrun, hend, Or.inr ⟨T.heap.size, rfl, cls, ce, locs, hx U hWs.alike f1 (fun q hq => f2 q hq (fun z hz => nomatch hz)), hce, hO.vm, hcl, hWs, hall, hf⟩⟩
  refine st1 _ ?_
  show Steps p.tables e below (T1.setTop { method := m, pc := pc + 3, locals := ls, stack := .ref T.heap.size :: rest, locked := none }) _
  jvm_step X₁.here [X₁.here.top, hexec, d3', Value.category]
  exact hsteps
/-- 'throw new E("text")': new; dup; ldc; invokespecial; athrow -/
theorem vx_throwS {cc : ByteArray} {pc : Nat} (hexec : p.tables.exec = Jvm.exec) (hb : c.code = cc) (hl : l.stackTraces = false) {own cls text : String} {names : List String} {ik is ic mc ms sa : Nat} {A : Nat → Prop}
    (hown : s.vm.findClass own = some m.cls) (hcls : Bundle.fit cls = true) (hnames : ∀ n ∈ names, Bundle.fit n = true)
    (hk : (Cond.classLink own ik cls).before args s = true) (hini : (Cond.initialized cls).before args s = true) (hstr : vk_R own is text sa s) (hat : ∀ w ∈ vx_atS own ic cls names, w.before args s = true)
    (hgood : ∀ w ∈ Cond.classLink own ik cls :: Cond.initialized cls :: vx_atS own ic cls names, vx_ot w = true)
    (hU : vx_Zq Bundle.tN "UNASSIGNED_STACK" Bundle.steD A s s.heap) (hN : vx_Zq Bundle.tN "SUPPRESSED_SENTINEL" Bundle.listD A s s.heap) (hS : va_S A s.heap H locs) (hsize : ls.size = c.maxLocals)
    (d0 : decode cc pc = .ok (.new ik, 3)) (d3 : decode cc (pc + 3) = .ok (.dup, 1)) (d4 : decode cc (pc + 4) = .ok (.ldc is, 2)) (d6 : decode cc (pc + 6) = .ok (.invokespecial ic, 3)) (d9 : decode cc (pc + 9) = .ok (.athrow, 1))
    (hout : ∀ x ∈ c.exceptionTable.toList, covers x (pc + 9) = false)
    (hRframes : names.length + 3 < R.frames) (hRlocals : (rest.map fun v => v.category).sum + (13 * (names.length + 1) + 43) ≤ R.locals) (hRcells : cells + 1 ≤ R.cells) (hRslots : slots + 6 ≤ R.slots) (hlocks : meth.locks = false)
    (hx : ∀ t : State, s.vm.Alike t.vm → H.size ≤ t.heap.size → (∀ q : Nat, q < H.size → t.heap[q]? = H[q]?) → XC cls s t)
    (hf : ∀ z ∈ locs, free z.base) (hc : cells + 1 ≤ mc) (hs : slots + 6 ≤ ms) :
    W p l e R s m args below meth c H locs cells slots (vx_MQ below Qc XC args s mc ms free) (F0 m pc ls rest) := by
  intro T hT X
  have htr : e.platform.stackTraces = false := (show e.platform.stackTraces = l.stackTraces by rw [X.admits.platform]).trans hl
  have Y := vx_rebase X (R' := { frames := R.frames, locals := R.locals, cells := 1, slots := 6 }) (Nat.le_refl _) (Nat.le_refl _) hRcells hRslots
  obtain ⟨s', hA⟩ : ∃ z, z = (T.setVm s.vm).setFrames (.invoking m args :: below) := ⟨_, rfl⟩
  rw [← hA] at Y
  have hvm : s'.vm = s.vm := by rw [hA]; rfl
  have hhp : s'.heap = H := by rw [hA]; exact hT
  have hW0 : s.WarmedH s'.vm := by rw [hvm]; exact State.WarmedH.refl s
  have hat' : ∀ w ∈ vx_atS own ic cls names, w.before args s' = true := fun w hw => vx_ot_at hW0 hvm.symm (hgood w (List.mem_cons_of_mem _ (List.mem_cons_of_mem _ hw))) (hat w hw)
  have hk' : (Cond.classLink own ik cls).before args s' = true := vx_ot_at hW0 hvm.symm (hgood _ List.mem_cons_self) hk
  have hini' : (Cond.initialized cls).before args s' = true := vx_ot_at hW0 hvm.symm (hgood _ (List.mem_cons_of_mem _ List.mem_cons_self)) hini
  have hU' : vx_Zq Bundle.tN "UNASSIGNED_STACK" Bundle.steD A s' s'.heap := by rw [hhp]; exact vx_Zq.moved hW0.alike (hU.kept hS.2.1)
  have hN' : vx_Zq Bundle.tN "SUPPRESSED_SENTINEL" Bundle.listD A s' s'.heap := by rw [hhp]; exact vx_Zq.moved hW0.alike (hN.kept hS.2.1)
  have h : ∀ w ∈ Bundle.ownAtoms own ic cls names, w.before args s' = true := vx_own hat' (vx_isRefq hU'.1) (vx_isRefq hN'.1) hU'.2.word hN'.2.word
  have hown' : s'.vm.findClass own = some m.cls := by rw [hvm]; exact hown
  have hins : (Cond.instantiable cls 6).before args s' = true := h _ (by simp [Bundle.ownAtoms])
  obtain ⟨vm₁, cX, kX, hfX, hkX, -, -, X₁, st1⟩ := Y.newCold hexec (own := own) (C := cls) (index := ik) (n := 6) hown' hk' hins hini'
    (g := F0 m pc ls rest) rfl (by rw [hb]; exact d0) (Nat.le_refl _) (Nat.le_refl _)
  generalize hT1 : (T.setVm vm₁).pushCell { cls := cX, slots := kX.instanceTypes.map defaultValue, vm := .none } = T1 at X₁ st1
  have hcat : (Value.ref T.heap.size).category = 1 := rfl
  have hcellA : T1.heap[T.heap.size]? = some (freshCell cX kX) := by rw [← hT1]; exact State.heap_pushCell_size _ _
  have d3' : decode c.code (pc + 3) = .ok (.dup, 1) := by rw [hb]; exact d3
  have d4' : decode c.code (pc + 4) = .ok (.ldc is, 2) := by rw [hb]; exact d4
  have hstr' : vk_R own is text sa s' := vk_R.warm hW0 hstr
  obtain ⟨U, hsteps, hrun, hend, hW, hsame, ce, hce, hO⟩ := X₁.ctorThrowS hexec htr (own := own) (cls := cls) (names := names) (ic := ic) hown' hcls hnames h (fun x hx => nomatch hx) hfX hkX hcellA (by rw [hhp, hT]; exact Nat.le_refl _) (msg := .ref sa) rfl
    (g := { method := m, pc := pc + 6, locals := ls, stack := .ref sa :: .ref T.heap.size :: .ref T.heap.size :: rest, locked := none }) rfl hsize rfl rfl (rest := rest) rfl
    (by rw [hb]; exact d6) (by rw [hb]; exact d9) hout hRframes (by simp only [List.map_cons, List.sum_cons, hcat]; omega) hlocks
  obtain ⟨f1, f2⟩ := vx_frame hsame
  rw [hhp] at f1 f2
  have hWs : s.WarmedH U.vm := State.WarmedH.trans hW0 hW
  have hcl : s.vm.findClass cls = some ce.cls := by
    have h9 := hO.cls
    rw [hvm] at h9
    exact h9
  have hall : s.sameButNew ({ U with vm := s.vm } : State) locs mc ms := by
    subst hA
    obtain ⟨e1, e2⟩ := hsame
    rw [State.setFrames_setFrames] at e1
    have h2 : (T.setVm s.vm).sameButNew ({ U with vm := s.vm } : State) [] (0 + 1) (0 + 6) := ⟨e1, e2⟩
    have h3 := X.same.trans h2
    rw [List.append_nil] at h3
    exact h3.mono hc hs
  refine ⟨U, ?_, .threw T.heap.size, hrun, hend, Or.inr ⟨T.heap.size, rfl, cls, ce, locs, hx U hWs.alike f1 (fun q hq => f2 q hq (fun z hz => nomatch hz)), hce, hO.vm, hcl, hWs, hall, hf⟩⟩
  refine st1 _ ?_
  show Steps p.tables e below (T1.setTop { method := m, pc := pc + 3, locals := ls, stack := .ref T.heap.size :: rest, locked := none }) _
  jvm_step X₁.here [X₁.here.top, hexec, d3', Value.category]
  exact X₁.ldcString hexec (own := own) (text := text) (index := is) (a := sa) hown' hstr'.1 hstr'.2
    (g := { method := m, pc := pc + 4, locals := ls, stack := .ref T.heap.size :: .ref T.heap.size :: rest, locked := none }) rfl d4' _ hsteps
/-- 'throw new E("text")', the text by a wide index -/
theorem vx_throwSW {cc : ByteArray} {pc : Nat} (hexec : p.tables.exec = Jvm.exec) (hb : c.code = cc) (hl : l.stackTraces = false) {own cls text : String} {names : List String} {ik is ic mc ms sa : Nat} {A : Nat → Prop}
    (hown : s.vm.findClass own = some m.cls) (hcls : Bundle.fit cls = true) (hnames : ∀ n ∈ names, Bundle.fit n = true)
    (hk : (Cond.classLink own ik cls).before args s = true) (hini : (Cond.initialized cls).before args s = true) (hstr : vk_R own is text sa s) (hat : ∀ w ∈ vx_atS own ic cls names, w.before args s = true)
    (hgood : ∀ w ∈ Cond.classLink own ik cls :: Cond.initialized cls :: vx_atS own ic cls names, vx_ot w = true)
    (hU : vx_Zq Bundle.tN "UNASSIGNED_STACK" Bundle.steD A s s.heap) (hN : vx_Zq Bundle.tN "SUPPRESSED_SENTINEL" Bundle.listD A s s.heap) (hS : va_S A s.heap H locs) (hsize : ls.size = c.maxLocals)
    (d0 : decode cc pc = .ok (.new ik, 3)) (d3 : decode cc (pc + 3) = .ok (.dup, 1)) (d4 : decode cc (pc + 4) = .ok (.ldc_w is, 3)) (d7 : decode cc (pc + 7) = .ok (.invokespecial ic, 3)) (d10 : decode cc (pc + 10) = .ok (.athrow, 1))
    (hout : ∀ x ∈ c.exceptionTable.toList, covers x (pc + 10) = false)
    (hRframes : names.length + 3 < R.frames) (hRlocals : (rest.map fun v => v.category).sum + (13 * (names.length + 1) + 43) ≤ R.locals) (hRcells : cells + 1 ≤ R.cells) (hRslots : slots + 6 ≤ R.slots) (hlocks : meth.locks = false)
    (hx : ∀ t : State, s.vm.Alike t.vm → H.size ≤ t.heap.size → (∀ q : Nat, q < H.size → t.heap[q]? = H[q]?) → XC cls s t)
    (hf : ∀ z ∈ locs, free z.base) (hc : cells + 1 ≤ mc) (hs : slots + 6 ≤ ms) :
    W p l e R s m args below meth c H locs cells slots (vx_MQ below Qc XC args s mc ms free) (F0 m pc ls rest) := by
  intro T hT X
  have htr : e.platform.stackTraces = false := (show e.platform.stackTraces = l.stackTraces by rw [X.admits.platform]).trans hl
  have Y := vx_rebase X (R' := { frames := R.frames, locals := R.locals, cells := 1, slots := 6 }) (Nat.le_refl _) (Nat.le_refl _) hRcells hRslots
  obtain ⟨s', hA⟩ : ∃ z, z = (T.setVm s.vm).setFrames (.invoking m args :: below) := ⟨_, rfl⟩
  rw [← hA] at Y
  have hvm : s'.vm = s.vm := by rw [hA]; rfl
  have hhp : s'.heap = H := by rw [hA]; exact hT
  have hW0 : s.WarmedH s'.vm := by rw [hvm]; exact State.WarmedH.refl s
  have hat' : ∀ w ∈ vx_atS own ic cls names, w.before args s' = true := fun w hw => vx_ot_at hW0 hvm.symm (hgood w (List.mem_cons_of_mem _ (List.mem_cons_of_mem _ hw))) (hat w hw)
  have hk' : (Cond.classLink own ik cls).before args s' = true := vx_ot_at hW0 hvm.symm (hgood _ List.mem_cons_self) hk
  have hini' : (Cond.initialized cls).before args s' = true := vx_ot_at hW0 hvm.symm (hgood _ (List.mem_cons_of_mem _ List.mem_cons_self)) hini
  have hU' : vx_Zq Bundle.tN "UNASSIGNED_STACK" Bundle.steD A s' s'.heap := by rw [hhp]; exact vx_Zq.moved hW0.alike (hU.kept hS.2.1)
  have hN' : vx_Zq Bundle.tN "SUPPRESSED_SENTINEL" Bundle.listD A s' s'.heap := by rw [hhp]; exact vx_Zq.moved hW0.alike (hN.kept hS.2.1)
  have h : ∀ w ∈ Bundle.ownAtoms own ic cls names, w.before args s' = true := vx_own hat' (vx_isRefq hU'.1) (vx_isRefq hN'.1) hU'.2.word hN'.2.word
  have hown' : s'.vm.findClass own = some m.cls := by rw [hvm]; exact hown
  have hins : (Cond.instantiable cls 6).before args s' = true := h _ (by simp [Bundle.ownAtoms])
  obtain ⟨vm₁, cX, kX, hfX, hkX, -, -, X₁, st1⟩ := Y.newCold hexec (own := own) (C := cls) (index := ik) (n := 6) hown' hk' hins hini'
    (g := F0 m pc ls rest) rfl (by rw [hb]; exact d0) (Nat.le_refl _) (Nat.le_refl _)
  generalize hT1 : (T.setVm vm₁).pushCell { cls := cX, slots := kX.instanceTypes.map defaultValue, vm := .none } = T1 at X₁ st1
  have hcat : (Value.ref T.heap.size).category = 1 := rfl
  have hcellA : T1.heap[T.heap.size]? = some (freshCell cX kX) := by rw [← hT1]; exact State.heap_pushCell_size _ _
  have d3' : decode c.code (pc + 3) = .ok (.dup, 1) := by rw [hb]; exact d3
  have d4' : decode c.code (pc + 4) = .ok (.ldc_w is, 3) := by rw [hb]; exact d4
  have hstr' : vk_R own is text sa s' := vk_R.warm hW0 hstr
  obtain ⟨U, hsteps, hrun, hend, hW, hsame, ce, hce, hO⟩ := X₁.ctorThrowS hexec htr (own := own) (cls := cls) (names := names) (ic := ic) hown' hcls hnames h (fun x hx => nomatch hx) hfX hkX hcellA (by rw [hhp, hT]; exact Nat.le_refl _) (msg := .ref sa) rfl
    (g := { method := m, pc := pc + 7, locals := ls, stack := .ref sa :: .ref T.heap.size :: .ref T.heap.size :: rest, locked := none }) rfl hsize rfl rfl (rest := rest) rfl
    (by rw [hb]; exact d7) (by rw [hb]; exact d10) hout hRframes (by simp only [List.map_cons, List.sum_cons, hcat]; omega) hlocks
  obtain ⟨f1, f2⟩ := vx_frame hsame
  rw [hhp] at f1 f2
  have hWs : s.WarmedH U.vm := State.WarmedH.trans hW0 hW
  have hcl : s.vm.findClass cls = some ce.cls := by
    have h9 := hO.cls
    rw [hvm] at h9
    exact h9
  have hall : s.sameButNew ({ U with vm := s.vm } : State) locs mc ms := by
    subst hA
    obtain ⟨e1, e2⟩ := hsame
    rw [State.setFrames_setFrames] at e1
    have h2 : (T.setVm s.vm).sameButNew ({ U with vm := s.vm } : State) [] (0 + 1) (0 + 6) := ⟨e1, e2⟩
    have h3 := X.same.trans h2
    rw [List.append_nil] at h3
    exact h3.mono hc hs
  refine ⟨U, ?_, .threw T.heap.size, hrun, hend, Or.inr ⟨T.heap.size, rfl, cls, ce, locs, hx U hWs.alike f1 (fun q hq => f2 q hq (fun z hz => nomatch hz)), hce, hO.vm, hcl, hWs, hall, hf⟩⟩
  refine st1 _ ?_
  show Steps p.tables e below (T1.setTop { method := m, pc := pc + 3, locals := ls, stack := .ref T.heap.size :: rest, locked := none }) _
  jvm_step X₁.here [X₁.here.top, hexec, d3', Value.category]
  exact X₁.ldcStringW hexec (own := own) (text := text) (index := is) (a := sa) hown' hstr'.1 hstr'.2
    (g := { method := m, pc := pc + 4, locals := ls, stack := .ref T.heap.size :: .ref T.heap.size :: rest, locked := none }) rfl d4' _ hsteps
end Ends
section Bodies
variable {l : Launch}
theorem vx_ofW {y : MethodName} {ws ws' : List Cond} {rm : Room} {Pc : Array Value → State → Prop} {Qc : Array Value → State → Outcome → State → Prop} {XC : String → State → State → Prop} {mc ms : Nat} {free : Addr → Prop} {cc : ByteArray} {maxL : Nat} {ret : Option FieldType}
    (hy : plainName y.cls = true) (hw : ws = Cond.code y cc maxL ret :: ws')
    (body : ∀ p e s m args below meth c s₁, BodyLoose p l y (headSpec ws rm) cc maxL ret e s m args below meth c s₁ → c.maxLocals = maxL → (∀ x ∈ c.exceptionTable.toList, False) → Pc args s →
      W p l e (headSpec ws rm).room s m args below meth c s.heap [] 0 0 (vx_MQ below Qc XC args s mc ms free) (entryFrame m args maxL)) : vx_Met l y ws rm Pc Qc XC mc ms free := by
  refine MetFree.of_bodyS (code := cc) (maxLocals := maxL) (ret := ret) hy ?_ ?_
  · intro args s m h hn
    obtain ⟨meth, c, h1, h2, h3, h4, h5, h6, -, -⟩ := Cond.code_spec hn (atoms_spec (ws := ws) h _ (by rw [hw]; exact List.mem_cons_self))
    exact ⟨meth, c, h1, h2, h3, h4, h5, h6⟩
  · intro p e s m args below meth c s₁ B hml hP _
    have hh0 : s₁.heap = s.heap := by rw [B.state]; rfl
    have ht : ∀ x ∈ c.exceptionTable.toList, False := by
      obtain ⟨meth9, c9, h1, h2, -, -, -, -, h7, -⟩ := Cond.code_spec B.named (atoms_spec (ws := ws) B.pre _ (by rw [hw]; exact List.mem_cons_self))
      cases Option.some.inj (h1.symm.trans B.method)
      cases Option.some.inj (h2.symm.trans (Stand.of_body B).code)
      intro x hx
      rw [Array.isEmpty_iff.mp h7] at hx
      cases hx
    obtain ⟨t, a1, o, b1, b2, b3⟩ := body p e s m args below meth c s₁ B hml ht hP s₁ hh0 (Stand.of_body B)
    exact ⟨t, o, a1, b1, b2, b3⟩
/-- the table of a body with handlers -/
theorem vx_table {p : Program} {x y : MethodName} {S : Spec} {cc bytes : ByteArray} {maxL maxL' : Nat} {ret ret' : Option FieldType} {e : Env} {s s₁ : State} {m : MethodId} {args : Array Value} {below : List Frame} {meth : Method} {c : Code} {hh : List (Nat × Nat × Nat × Nat)}
    (B : BodyLoose p l y S cc maxL ret e s m args below meth c s₁) (h : (Cond.codeWith y bytes maxL' ret' hh).before args s = true) : c.exceptionTable.toList = tableOf hh := by
  obtain ⟨m9, meth9, c9, hn9, h1, h2, -, -, h6, -⟩ := Cond.codeWith_spec h
  cases Option.some.inj (hn9.symm.trans B.named)
  cases Option.some.inj (h1.symm.trans B.method)
  cases Option.some.inj (h2.symm.trans (Stand.of_body B).code)
  rw [← h6, table_eq]
end Bodies
end VXA
/-! ===== END ===== -/
/-! ===== BEGIN a static call of a method with an exception table ===== -/
section VXS
variable {p : Program} {l : Launch} {e : Env} {R : Room} {s : State} {m : MethodId} {args : Array Value} {below : List Frame} {meth : Method} {c : Code} {T : State} {H : Heap} {locs : List Loc} {cells slots : Nat}
abbrev vx_CSW (R : Room) (s : State) (args : Array Value) (own : String) (index : Nat) (y : MethodName) (bytes : ByteArray) (maxL : Nat) (ret : Option FieldType) (hh : List (Nat × Nat × Nat × Nat)) (ws : List Cond) (rm : Room) (mc ms n : Nat) : Prop :=
  (rm.cells = mc ∧ rm.slots = ms ∧ rm.frames + 1 ≤ R.frames ∧ 8 + (maxL + 11) + rm.locals ≤ R.locals ∧ (∀ w ∈ ws, ∀ (a' : Array Value) (U : State), s.WarmedH U.vm → w.before a' U = true) ∧ Cond.codeWith y bytes maxL ret hh ∈ ws) ∧
  (Cond.codeWith y bytes maxL ret hh).before args s = true ∧ (Cond.initialized y.cls).before args s = true ∧ (y.cls ≠ "java/lang/invoke/MethodHandle" ∧ y.cls ≠ "java/lang/invoke/VarHandle") ∧
  (∀ sig, parseMethodDescriptor y.desc = some sig → n = sig.parameters.length) ∧ (Cond.methodLink own index y).before args s = true ∧ (Cond.static y).before args s = true
theorem vx_cwSW {own : String} {index maxL mc ms : Nat} {y : MethodName} {bytes : ByteArray} {ret : Option FieldType} {hh : List (Nat × Nat × Nat × Nat)} {Ts ws ws' : List Cond} {rm : Room} (n : Nat) (ht : ∀ w ∈ Ts, w.before args s = true) (hT : GoodIn Ts (va_wsS own index y ws)) (hw : ws = Cond.codeWith y bytes maxL ret hh :: ws') (hrc : rm.cells = mc) (hrs : rm.slots = ms)
    (hd : y.cls ≠ "java/lang/invoke/MethodHandle" ∧ y.cls ≠ "java/lang/invoke/VarHandle" ∧ (parseMethodDescriptor y.desc).map (fun d => d.parameters.length) = some n) (hR : rm.frames + 1 ≤ R.frames ∧ 8 + (maxL + 11) + rm.locals ≤ R.locals) :
    vx_CSW R s args own index y bytes maxL ret hh ws rm mc ms n := by
  have ok : ∀ w ∈ va_wsS own index y ws, w.before args s = true := fun w h => ht w (hT w h).1
  have hG : GoodIn Ts ws := fun w h => hT w (by unfold va_wsS; exact List.mem_append_right _ h)
  have hc : Cond.codeWith y bytes maxL ret hh ∈ ws := by rw [hw]; exact List.mem_cons_self
  refine ⟨⟨hrc, hrs, hR.1, hR.2, pay_in ht hG, hc⟩, ht _ (hG _ hc).1, ok _ (by simp [va_wsS]), ⟨hd.1, hd.2.1⟩, fun sig h => ?_, ok _ (by simp [va_wsS]), ok _ (by simp [va_wsS])⟩
  have h2 := hd.2.2
  rw [h] at h2
  exact (Option.some.inj h2).symm
theorem vx_callSW (X : Stand p l e R s m args below meth c T locs cells slots) (hexec : p.tables.exec = Jvm.exec) {own : String} {index : Nat} {y : MethodName} {bytes : ByteArray} {maxL : Nat} {ret : Option FieldType} {hh : List (Nat × Nat × Nat × Nat)}
    (hown : s.vm.findClass own = some m.cls) (hlink : (Cond.methodLink own index y).before args s = true) (hstat : (Cond.static y).before args s = true) (hinit : (Cond.initialized y.cls).before args s = true)
    (hcode : (Cond.codeWith y bytes maxL ret hh).before args s = true) (hy : y.cls ≠ "java/lang/invoke/MethodHandle" ∧ y.cls ≠ "java/lang/invoke/VarHandle")
    {W9 : Nat} {Pre : Pt → Array Value → Prop} {Post : Pt → Array Value → Option Value → Pt → Prop} (hK : Back l R p e below s args y 3 W9 Pre Post)
    {g : JFrame} (hg : g.method = m) (hsize : g.locals.size = c.maxLocals) {argsL rest : List Value} (hlen : ∀ sig, parseMethodDescriptor y.desc = some sig → argsL.length = sig.parameters.length)
    (hstack : g.stack = argsL.reverse ++ rest) (hW : 2 * g.monitorRoom + (rest.map fun v => v.category).sum ≤ W9) (hdg : decode c.code g.pc = .ok (.invokestatic index, 3))
    (hpre : ∀ vm₁, s.WarmedH vm₁ → Pre ⟨T.setVm vm₁, locs, cells, slots⟩ argsL.toArray) :
    ∃ (v : Option Value) (vm₁ : Vm) (B : Pt), s.WarmedH vm₁ ∧ Stand p l e R s m args below meth c B.U B.locs B.cells B.slots ∧ Post ⟨T.setVm vm₁, locs, cells, slots⟩ argsL.toArray v B ∧
      ∀ target, Steps p.tables e below (B.U.setTop { g with pc := g.pc + 3, stack := v.toList ++ rest }) target → Steps p.tables e below (T.setTop g) target := by
  obtain ⟨mk, methM, cM, hnamed, hmethM, -, -, -, -, -, -, hsigM⟩ := Cond.codeWith_spec hcode
  have hstatic : methM.isStatic = true := Cond.static_spec hnamed hmethM hstat
  obtain ⟨kP, hkP, -⟩ := className_of_methodNamed hnamed
  have hinitP : kP.init = .initialized := Cond.initialized_spec (findClass_of_methodNamed hnamed) hkP hinit
  obtain ⟨vm₁, X₁, hstep₁⟩ := X.invokestatic hexec hown hlink hnamed hmethM hstatic hkP hinitP hy (g := g) hg (argsL := argsL) (rest := rest) (hlen _ hsigM) hstack hdg
  obtain ⟨v, B, X', hpost, hsteps⟩ := hK m meth c ⟨T.setVm vm₁, locs, cells, slots⟩ { g with stack := rest } (.invokestatic index) mk argsL.toArray X₁ hg hsize hdg hW (X₁.named hnamed) (hpre vm₁ X₁.warmed)
  exact ⟨v, vm₁, B, X₁.warmed, X', hpost, fun target h => hstep₁ _ fun acts => by rw [doInvoke_state]; exact hsteps.trans h⟩
theorem vx_runSW {y : MethodName} {bytes cc : ByteArray} {maxL nL mc ms n index : Nat} {ret : Option FieldType} {hh : List (Nat × Nat × Nat × Nat)} {ws : List Cond} {rm : Room} {Pc : Array Value → State → Prop} {Qc : Array Value → State → Outcome → State → Prop} {free : Addr → Prop} {Ts : List Cond} {own : String} {As rest : List Value} {g : JFrame}
    (S : CallFix p m c cc nL s args Ts own) (hM : Met l y ws rm Pc Qc mc ms free) (cw : vx_CSW R s args own index y bytes maxL ret hh ws rm mc ms n) (hp : PreS s H Pc As)
    (hg : g.method = m) (hn : As.length = n) (hsize : g.locals.size = nL) (hstack : g.stack = As.reverse ++ rest) (hW : 2 * g.monitorRoom + (rest.map fun v => v.category).sum ≤ 8) (hdg : decode cc g.pc = .ok (.invokestatic index, 3)) (hf : cells + mc ≤ R.cells ∧ slots + ms ≤ R.slots) :
    va_Run p l e R s m args below meth c H locs cells slots mc ms g rest (Qc As.toArray) (free) := by
  obtain ⟨⟨hrc, hrs, hfr, hlo, hws, hcw⟩, hcode, hini, hy, hlen, hl, hstt⟩ := cw
  have hK : Back l R p e below s args y 3 8 (PreOf R mc ms Pc) (PostOf Qc mc ms free) := va_backW (hh := hh) (bytes := bytes) (maxL := maxL) (ret := ret) hM hp.1 hrc hrs hfr hlo hws hcw (fun a' U hW => word_at hW (Or.inl (by first | rfl | simp [Cond.onTables, Cond.keeps, Cond.steady])) hini)
  obtain ⟨hx, hb, hml, ho, -⟩ := S
  intro T hT X
  obtain ⟨v, vm₁, ⟨U', l2, c2, s2⟩, hW₁, X', ⟨g', mk, t, L, e1, e2, hq, h1, hL, h2, h3⟩, st⟩ := vx_callSW X hx (hh := hh) (bytes := bytes) (maxL := maxL) (ret := ret) ho hl hstt hini hcode hy hK hg (hsize.trans hml.symm) (argsL := As) (rest := rest) (fun sig h => hn.trans (hlen sig h)) hstack hW (by rw [hb]; exact hdg)
    (fun vm₁ hW₁ => ⟨hf.1, hf.2, hp.2 (T.setVm vm₁) hT hW₁⟩)
  dsimp only [Pt.U, Pt.locs, Pt.cells, Pt.slots] at X' e1 e2 h1 h2 h3 st
  subst h1; subst h2; subst h3
  exact ⟨v, (T.setVm vm₁).calling g' mk As.toArray, t, U', L, hT, X', hL, e1, e2, hq, st⟩
/-- not caught here, past rows that name other classes: it goes on to the caller -/
theorem vx_outP {p : Program} {l : Launch} {e : Env} {R : Room} {s : State} {m : MethodId} {args : Array Value} {below : List Frame} {meth : Method} {c : Code} {H : Heap} {locs : List Loc} {cells slots : Nat} {free : Addr → Prop} {ls : Array Slot} {rest : List Value} {Qc : Array Value → State → Outcome → State → Prop} {XC : String → State → State → Prop}
    {pc : Nat} {own E : String} {ce : Cell} {q : Addr} {mc ms : Nat} (hown : s.vm.findClass own = some m.cls) (hlocks : meth.locks = false)
    (hpass : ∀ z ∈ c.exceptionTable.toList, covers z pc = false ∨ (z.catchType ≠ 0 ∧ ∃ nm : String, (Cond.classLink own z.catchType nm).before args s = true ∧ va_Nc E nm s)) (hcell : H[q]? = some ce) (hv : ce.vm = .none) (hcl : s.vm.findClass E = some ce.cls)
    (hx : ∀ t : State, t.heap = H → s.vm.Alike t.vm → XC E s t) (hf : ∀ z ∈ locs, free z.base) (hc : cells ≤ mc) (hs : slots ≤ ms) :
    vx_W p l e R s m args below meth c H locs cells slots (vx_MQ below Qc XC args s mc ms free) (F0 m pc ls rest) q := by
  intro T hT X
  have hpl : e.platform.magicAccessors = ({} : Platform).magicAccessors := by rw [X.admits.platform]
  obtain ⟨vm', hW', X', st⟩ := X.outThrough hlocks q (g := F0 m pc ls rest) rfl rfl rfl (cell := ce) (by rw [hT]; exact hcell) (by rw [hv]; rfl)
    (by obtain ⟨k9, h9, -⟩ := Vm.findClass_spec hcl; exact ⟨k9, h9⟩) (fun z hz => by
      rcases hpass z hz with h | ⟨hz0, nm, hl1, hn1⟩
      · exact Or.inl h
      · obtain ⟨c6, hc6, hcl6⟩ := Cond.classLink_spec hown hl1 e.platform hpl
        obtain ⟨a8, b8, h1, h2, h3⟩ := hn1
        cases Option.some.inj (h1.symm.trans hcl)
        cases Option.some.inj (h2.symm.trans hc6)
        exact Or.inr ⟨hz0, _, hcl6, h3⟩)
  obtain ⟨g₀, hfr⟩ := X'.frames_eq
  have hcell9 : ((T.setVm vm').setFrames (.throwing q :: below)).heap[q]? = some ce := by
    show T.heap[q]? = some ce
    rw [hT]; exact hcell
  have hend : Ended ((T.setVm vm').setFrames (.throwing q :: below)) below (.threw q) := State.frames_setFrames _ (State.cur_lt_of_frames hfr)
  refine ⟨(T.setVm vm').setFrames (.throwing q :: below), ?_, .threw q, X'.here.running, hend, Or.inr ⟨q, rfl, E, ce, locs, hx _ hT (X'.ends _).1.alike, hcell9, hv, hcl, (X'.ends _).1, (X'.ends _).2.mono hc hs, hf⟩⟩
  rw [X.pushThrowing_eq]
  exact st
/-- a thing of a world lies in the heap -/
theorem vx_lt {D : va_G} {cl : List vw_C} {ws : va_W} {H1 : Heap} (h : va_P D cl ws H1) {k : Nat} {q : Nat × va_E} (hk : ws[k]? = some q) : q.1 < H1.size := (h k q hk).lt
end VXS
/-! ===== END ===== -/
/-! ===== BEGIN methods with a table of their own: called by a name, returning or throwing ===== -/
section VXH
/-! vx_backW, vx_callVX, vx_callSX, vx_callVW, vx_runVW, vx_runVX, vx_runSX, vx_ofWH follow the same proofs as their sisters above (Free/Laws.lean, Shelf42/LK1.lean); vx_outP calls Shelf42/NT130.lean (outThrough). -/
section
variable {l : Launch} {R : Room} {p : Program} {e : Env} {below : List Frame} {s : State} {sargs : Array Value} {y : MethodName} {len W9 : Nat}
theorem vx_backW {ws : List Cond} {rm : Room} {Pc : Array Value → State → Prop} {Qc : Array Value → State → Outcome → State → Prop} {XC : String → State → State → Prop} {mc ms : Nat} {free : Addr → Prop} {bytes : ByteArray} {maxL : Nat} {ret : Option FieldType} {hh : List (Nat × Nat × Nat × Nat)}
    (hM : vx_Met l y ws rm Pc Qc XC mc ms free) (hblind : FrameBlind Pc) (hrc : rm.cells = mc) (hrs : rm.slots = ms)
    (hframes : rm.frames + 1 ≤ R.frames) (hlocals : W9 + (maxL + 11) + rm.locals ≤ R.locals)
    (hws : ∀ w ∈ ws, ∀ a' U, s.WarmedH U.vm → w.before a' U = true) (hcode : Cond.codeWith y bytes maxL ret hh ∈ ws) (hinit : ∀ a' U, s.WarmedH U.vm → (Cond.initialized y.cls).before a' U = true) :
    vx_Back l R p e below s sargs y len W9 (PreOf R mc ms Pc) (PostOf Qc mc ms free) (vx_Post XC mc ms free) := by
  intro m meth c A g ig mk a X hg hsize hdg hW hn hp
  have h1 : (headSpec ws rm).pre.before a A.U = true := atoms_intro fun w hw => hws w hw _ _ X.warmed
  have h2 : (Cond.codeWith y bytes maxL ret hh).before a A.U = true := hws _ hcode _ _ X.warmed
  have h3 : (Cond.initialized y.cls).before a A.U = true := hinit _ _ X.warmed
  have h4 : A.cells + (headSpec ws rm).room.cells ≤ R.cells := by rw [show (headSpec ws rm).room.cells = mc from hrc]; exact hp.1
  have h5 : A.slots + (headSpec ws rm).room.slots ≤ R.slots := by rw [show (headSpec ws rm).room.slots = ms from hrs]; exact hp.2.1
  have hPc : Pc a (A.U.calling g mk a) := hblind _ _ _ _ hp.2.2
  obtain ⟨U, Ls, c0, s0⟩ := A
  dsimp only [Pt.U, Pt.locs, Pt.cells, Pt.slots] at h1 h2 h3 h4 h5 X hn hPc ⊢
  obtain ⟨m9, methY, cY, hn9, hmY, hcY, -, hlY, -⟩ := Cond.codeWith_spec h2
  cases Option.some.inj (hn9.symm.trans hn)
  obtain ⟨kY, hkY, -⟩ := className_of_methodNamed hn
  have hinitY : kY.init = .initialized := Cond.initialized_spec (findClass_of_methodNamed hn) hkY h3
  have h : At U g.method c below := by rw [hg]; exact X.here
  have hlocals9 : W9 + (maxL + 11) + (headSpec ws rm).room.locals ≤ R.locals := hlocals
  have happ : (headSpec ws rm).appliesLoose y e.platform (U.calling g mk a) = true :=
    Spec.appliesLoose_calling (g := g) h hdg hn hkY hinitY
      (X.room_calling (g := g) (R' := (headSpec ws rm).room) hsize hmY hcY hframes (by rw [hlY]; omega) h4 h5) h1
  obtain ⟨mid, hmid⟩ := h.above
  have hfr : (U.setTop g).frames = (.java g :: mid) ++ below := by rw [State.frames_setTop' g h.top, hmid]; rfl
  obtain ⟨o, s₂, hsteps, -, hend, hq⟩ := Steps.callFree hM p X.admits X.cas X.clock (acts := []) hfr happ hPc trivial
  have hq' : vx_Q Qc XC mc ms free a (U.calling g mk a) o s₂ := hq
  rw [State.frames_setTop' g h.top] at hend
  obtain ⟨g₀, hg0⟩ := Option.isSome_iff_exists.mp h.top
  obtain ⟨r, hr⟩ := State.topJava?_eq_some.mp hg0
  have hr' : (({ U with heap := s₂.heap, slotsUsed := s₂.slotsUsed } : State).setVm s₂.vm).frames = .java g₀ :: r := hr
  rcases hq' with ⟨hqc, L, hfe, hL⟩ | ⟨q, rfl, E, ce, L, hx, hce, hcv, hcl, hW₂, hsm, hL⟩
  · obtain ⟨⟨v, rfl⟩, hW₂, e2, q2, q3, q4, q5, q6⟩ := id hfe
    have e3 : s₂ = ({ (U.calling g mk a).setFrames s₂.frames with heap := s₂.heap, slotsUsed := s₂.slotsUsed } : State).setVm s₂.vm := by
      have : s₂ = ({ s₂ with vm := (U.calling g mk a).vm } : State).setVm s₂.vm := rfl
      rw [e2] at this
      exact this
    obtain ⟨c₂, i₂, len₂, hc₂, hd₂, hf₂⟩ := hend
    have hW' : U.WarmedH s₂.vm := hW₂
    have hcc : c₂ = c := by
      have h1 : s₂.code? g.method = U.code? g.method := by
        rw [State.code?_eq, State.code?_eq, hW'.alike.method?]
      exact Option.some.inj (hc₂.symm.trans (h1.trans h.code))
    subst hcc
    have hlen : len₂ = len := by rw [hdg] at hd₂; cases hd₂; rfl
    subst hlen
    have hs₂ : s₂ = (({ U with heap := s₂.heap, slotsUsed := s₂.slotsUsed } : State).setVm s₂.vm).setTop { g with pc := g.pc + len₂, stack := v.toList ++ g.stack } := by
      refine e3.trans ?_
      rw [hf₂, State.calling_eq h.top, State.setFrames_setFrames, State.setTop_of_frames _ hr', hr]
      rfl
    have hsame : U.sameButNew ({ U with heap := s₂.heap, slotsUsed := s₂.slotsUsed } : State) L mc ms := by
      refine ⟨?_, q2, q3, q4, q5, q6⟩
      obtain ⟨t, ht, -⟩ := State.frames_cons hr
      show ({ U with heap := s₂.heap, slotsUsed := s₂.slotsUsed } : State) = { U.setFrames U.frames with heap := s₂.heap, slotsUsed := s₂.slotsUsed }
      rw [State.setFrames_self ht]
    subst hg
    refine Or.inl ⟨v, ⟨(({ U with heap := s₂.heap, slotsUsed := s₂.slotsUsed } : State).setVm s₂.vm), Ls ++ L, c0 + mc, s0 + ms⟩,
      ⟨X.admits, X.cas, X.clock, X.frames, X.room, X.hears, X.method, X.code, (X.here.setHeapUsed s₂.heap s₂.slotsUsed).setVm hW'.alike, X.tail, State.WarmedH.trans X.warmed hW', X.limits, X.bytes, X.same.trans (hsame.setVm s.vm)⟩,
      ⟨g, mk, s₂, L, rfl, rfl, hqc, rfl, hL, rfl, rfl⟩, ?_⟩
    show Steps p.tables e below _ ((({ U with heap := s₂.heap, slotsUsed := s₂.slotsUsed } : State).setVm s₂.vm).setTop { g with pc := g.pc + len₂, stack := v.toList ++ g.stack })
    rw [← hs₂]
    exact hsteps
  · obtain ⟨e2, q2, q3, q4, q5, q6⟩ := id hsm
    have e3 : s₂ = ({ (U.calling g mk a).setFrames s₂.frames with heap := s₂.heap, slotsUsed := s₂.slotsUsed } : State).setVm s₂.vm := by
      have : s₂ = ({ s₂ with vm := (U.calling g mk a).vm } : State).setVm s₂.vm := rfl
      rw [e2] at this
      exact this
    have hf₂ : s₂.frames = .throwing q :: .java g :: U.frames.tail := hend
    have hW' : U.WarmedH s₂.vm := hW₂
    have hs₂ : s₂ = ((({ U with heap := s₂.heap, slotsUsed := s₂.slotsUsed } : State).setVm s₂.vm).setTop g).pushFrame (.throwing q) := by
      refine e3.trans ?_
      rw [hf₂, State.calling_eq h.top, State.setFrames_setFrames, State.pushFrame, State.frames_setTop _ hr', State.setTop_of_frames _ hr', State.setFrames_setFrames, hr]
      rfl
    have hsame : U.sameButNew ({ U with heap := s₂.heap, slotsUsed := s₂.slotsUsed } : State) L mc ms := by
      refine ⟨?_, q2, q3, q4, q5, q6⟩
      obtain ⟨t, ht, -⟩ := State.frames_cons hr
      show ({ U with heap := s₂.heap, slotsUsed := s₂.slotsUsed } : State) = { U.setFrames U.frames with heap := s₂.heap, slotsUsed := s₂.slotsUsed }
      rw [State.setFrames_self ht]
    subst hg
    refine Or.inr ⟨q, ⟨(({ U with heap := s₂.heap, slotsUsed := s₂.slotsUsed } : State).setVm s₂.vm), Ls ++ L, c0 + mc, s0 + ms⟩,
      ⟨X.admits, X.cas, X.clock, X.frames, X.room, X.hears, X.method, X.code, (X.here.setHeapUsed s₂.heap s₂.slotsUsed).setVm hW'.alike, X.tail, State.WarmedH.trans X.warmed hW', X.limits, X.bytes, X.same.trans (hsame.setVm s.vm)⟩,
      ⟨g, mk, s₂, L, E, ce, rfl, rfl, hx, hce, hcv, hcl, rfl, hL, rfl, rfl⟩, ?_⟩
    show Steps p.tables e below _ (((({ U with heap := s₂.heap, slotsUsed := s₂.slotsUsed } : State).setVm s₂.vm).setTop g).pushFrame (.throwing q))
    rw [← hs₂]
    exact hsteps
end
variable {p : Program} {l : Launch} {e : Env} {R : Room} {s : State} {m : MethodId} {args : Array Value} {below : List Frame} {meth : Method} {c : Code} {T : State} {H : Heap} {locs : List Loc} {cells slots : Nat}
theorem vx_callVX (X : Stand p l e R s m args below meth c T locs cells slots) (hexec : p.tables.exec = Jvm.exec) {own C : String} {index : Nat} {y : MethodName} {bytes : ByteArray} {maxL : Nat} {ret : Option FieldType} {hh : List (Nat × Nat × Nat × Nat)}
    (hown : s.vm.findClass own = some m.cls) (hlink : (Cond.methodLink own index y).before args s = true) (hinst : (Cond.instanceMethod y).before args s = true) (hsel : (Cond.selects C y y).before args s = true)
    (hcode : (Cond.codeWith y bytes maxL ret hh).before args s = true) (hy : y.cls ≠ "java/lang/invoke/MethodHandle" ∧ y.cls ≠ "java/lang/invoke/VarHandle")
    {W9 : Nat} {Pre : Pt → Array Value → Prop} {Post : Pt → Array Value → Option Value → Pt → Prop} {PostX : Pt → Array Value → Addr → Pt → Prop} (hK : vx_Back l R p e below s args y 3 W9 Pre Post PostX)
    {b : Addr} {cellB : Cell} (hcell : T.heap[b]? = some cellB) (hobj : cellB.vm.isStatics = false) (hcls : s.vm.findClass C = some cellB.cls)
    {g : JFrame} (hg : g.method = m) (hsize : g.locals.size = c.maxLocals) {argsL rest : List Value} (hlen : ∀ sig, parseMethodDescriptor y.desc = some sig → argsL.length = sig.parameters.length)
    (hstack : g.stack = argsL.reverse ++ .ref b :: rest) (hW : 2 * g.monitorRoom + (rest.map fun v => v.category).sum ≤ W9) (hdg : decode c.code g.pc = .ok (.invokevirtual index, 3))
    (hpre : ∀ vm₁, s.WarmedH vm₁ → Pre ⟨T.setVm vm₁, locs, cells, slots⟩ (Value.ref b :: argsL).toArray) :
    (∃ (v : Option Value) (vm₁ : Vm) (B : Pt), s.WarmedH vm₁ ∧ Stand p l e R s m args below meth c B.U B.locs B.cells B.slots ∧ Post ⟨T.setVm vm₁, locs, cells, slots⟩ (Value.ref b :: argsL).toArray v B ∧
      ∀ target, Steps p.tables e below (B.U.setTop { g with pc := g.pc + 3, stack := v.toList ++ rest }) target → Steps p.tables e below (T.setTop g) target) ∨
    (∃ (q : Addr) (vm₁ : Vm) (B : Pt), s.WarmedH vm₁ ∧ Stand p l e R s m args below meth c B.U B.locs B.cells B.slots ∧ PostX ⟨T.setVm vm₁, locs, cells, slots⟩ (Value.ref b :: argsL).toArray q B ∧
      Steps p.tables e below (T.setTop g) ((B.U.setTop { g with stack := rest }).pushFrame (.throwing q))) := by
  obtain ⟨mk, methM, hnamed, hmethM, hstM, habM⟩ := Cond.instanceMethod_spec hinst
  obtain ⟨m8, methM', cM, hn8, hmethM', -, -, -, -, -, -, hsigM⟩ := Cond.codeWith_spec hcode
  cases Option.some.inj (hn8.symm.trans hnamed)
  cases hmethM.symm.trans hmethM'
  obtain ⟨c2, r2, m2, q1, q2, q3, q4, kP, hkP, hkPi⟩ := Cond.selects_spec hsel
  cases hcls.symm.trans q1
  cases (State.methodFound?_of_named hnamed hy).symm.trans q2
  cases hnamed.symm.trans q3
  have hselP : selectMethod e.platform s.vm cellB.cls mk = .method mk := by rw [Launch.admits_selectMethod X.admits]; exact q4
  obtain ⟨vm₁, X₁, hstep₁⟩ := X.invokevirtual hexec hown hlink hnamed hmethM hstM hkP hkPi hy (a := b) (cell := cellB) hcell
    (fun z h => by rw [h] at hobj; cases hobj) hselP hmethM habM hkP hkPi (g := g) hg (argsL := argsL) (rest := rest) (hlen _ hsigM) hstack hdg
  rcases hK m meth c ⟨T.setVm vm₁, locs, cells, slots⟩ { g with stack := rest } (.invokevirtual index) mk (Value.ref b :: argsL).toArray X₁ hg hsize hdg hW (X₁.named hnamed) (hpre vm₁ X₁.warmed) with ⟨v, B, X', hpost, hsteps⟩ | ⟨q, B, X', hpost, hsteps⟩
  · exact Or.inl ⟨v, vm₁, B, X₁.warmed, X', hpost, fun target h => hstep₁ _ fun acts => by rw [doInvoke_state]; exact hsteps.trans h⟩
  · exact Or.inr ⟨q, vm₁, B, X₁.warmed, X', hpost, hstep₁ _ fun acts => by rw [doInvoke_state]; exact hsteps⟩
theorem vx_callSX (X : Stand p l e R s m args below meth c T locs cells slots) (hexec : p.tables.exec = Jvm.exec) {own : String} {index : Nat} {y : MethodName} {bytes : ByteArray} {maxL : Nat} {ret : Option FieldType} {hh : List (Nat × Nat × Nat × Nat)}
    (hown : s.vm.findClass own = some m.cls) (hlink : (Cond.methodLink own index y).before args s = true) (hstat : (Cond.static y).before args s = true) (hinit : (Cond.initialized y.cls).before args s = true)
    (hcode : (Cond.codeWith y bytes maxL ret hh).before args s = true) (hy : y.cls ≠ "java/lang/invoke/MethodHandle" ∧ y.cls ≠ "java/lang/invoke/VarHandle")
    {W9 : Nat} {Pre : Pt → Array Value → Prop} {Post : Pt → Array Value → Option Value → Pt → Prop} {PostX : Pt → Array Value → Addr → Pt → Prop} (hK : vx_Back l R p e below s args y 3 W9 Pre Post PostX)
    {g : JFrame} (hg : g.method = m) (hsize : g.locals.size = c.maxLocals) {argsL rest : List Value} (hlen : ∀ sig, parseMethodDescriptor y.desc = some sig → argsL.length = sig.parameters.length)
    (hstack : g.stack = argsL.reverse ++ rest) (hW : 2 * g.monitorRoom + (rest.map fun v => v.category).sum ≤ W9) (hdg : decode c.code g.pc = .ok (.invokestatic index, 3))
    (hpre : ∀ vm₁, s.WarmedH vm₁ → Pre ⟨T.setVm vm₁, locs, cells, slots⟩ argsL.toArray) :
    (∃ (v : Option Value) (vm₁ : Vm) (B : Pt), s.WarmedH vm₁ ∧ Stand p l e R s m args below meth c B.U B.locs B.cells B.slots ∧ Post ⟨T.setVm vm₁, locs, cells, slots⟩ argsL.toArray v B ∧
      ∀ target, Steps p.tables e below (B.U.setTop { g with pc := g.pc + 3, stack := v.toList ++ rest }) target → Steps p.tables e below (T.setTop g) target) ∨
    (∃ (q : Addr) (vm₁ : Vm) (B : Pt), s.WarmedH vm₁ ∧ Stand p l e R s m args below meth c B.U B.locs B.cells B.slots ∧ PostX ⟨T.setVm vm₁, locs, cells, slots⟩ argsL.toArray q B ∧
      Steps p.tables e below (T.setTop g) ((B.U.setTop { g with stack := rest }).pushFrame (.throwing q))) := by
  obtain ⟨mk, methM, cM, hnamed, hmethM, -, -, -, -, -, -, hsigM⟩ := Cond.codeWith_spec hcode
  have hstatic : methM.isStatic = true := Cond.static_spec hnamed hmethM hstat
  obtain ⟨kP, hkP, -⟩ := className_of_methodNamed hnamed
  have hinitP : kP.init = .initialized := Cond.initialized_spec (findClass_of_methodNamed hnamed) hkP hinit
  obtain ⟨vm₁, X₁, hstep₁⟩ := X.invokestatic hexec hown hlink hnamed hmethM hstatic hkP hinitP hy (g := g) hg (argsL := argsL) (rest := rest) (hlen _ hsigM) hstack hdg
  rcases hK m meth c ⟨T.setVm vm₁, locs, cells, slots⟩ { g with stack := rest } (.invokestatic index) mk argsL.toArray X₁ hg hsize hdg hW (X₁.named hnamed) (hpre vm₁ X₁.warmed) with ⟨v, B, X', hpost, hsteps⟩ | ⟨q, B, X', hpost, hsteps⟩
  · exact Or.inl ⟨v, vm₁, B, X₁.warmed, X', hpost, fun target h => hstep₁ _ fun acts => by rw [doInvoke_state]; exact hsteps.trans h⟩
  · exact Or.inr ⟨q, vm₁, B, X₁.warmed, X', hpost, hstep₁ _ fun acts => by rw [doInvoke_state]; exact hsteps⟩
theorem vx_callVW (X : Stand p l e R s m args below meth c T locs cells slots) (hexec : p.tables.exec = Jvm.exec) {own C : String} {index : Nat} {y : MethodName} {bytes : ByteArray} {maxL : Nat} {ret : Option FieldType} {hh : List (Nat × Nat × Nat × Nat)}
    (hown : s.vm.findClass own = some m.cls) (hlink : (Cond.methodLink own index y).before args s = true) (hinst : (Cond.instanceMethod y).before args s = true) (hsel : (Cond.selects C y y).before args s = true)
    (hcode : (Cond.codeWith y bytes maxL ret hh).before args s = true) (hy : y.cls ≠ "java/lang/invoke/MethodHandle" ∧ y.cls ≠ "java/lang/invoke/VarHandle")
    {W9 : Nat} {Pre : Pt → Array Value → Prop} {Post : Pt → Array Value → Option Value → Pt → Prop} (hK : Back l R p e below s args y 3 W9 Pre Post)
    {b : Addr} {cellB : Cell} (hcell : T.heap[b]? = some cellB) (hobj : cellB.vm.isStatics = false) (hcls : s.vm.findClass C = some cellB.cls)
    {g : JFrame} (hg : g.method = m) (hsize : g.locals.size = c.maxLocals) {argsL rest : List Value} (hlen : ∀ sig, parseMethodDescriptor y.desc = some sig → argsL.length = sig.parameters.length)
    (hstack : g.stack = argsL.reverse ++ .ref b :: rest) (hW : 2 * g.monitorRoom + (rest.map fun v => v.category).sum ≤ W9) (hdg : decode c.code g.pc = .ok (.invokevirtual index, 3))
    (hpre : ∀ vm₁, s.WarmedH vm₁ → Pre ⟨T.setVm vm₁, locs, cells, slots⟩ (Value.ref b :: argsL).toArray) :
    ∃ (v : Option Value) (vm₁ : Vm) (B : Pt), s.WarmedH vm₁ ∧ Stand p l e R s m args below meth c B.U B.locs B.cells B.slots ∧ Post ⟨T.setVm vm₁, locs, cells, slots⟩ (Value.ref b :: argsL).toArray v B ∧
      ∀ target, Steps p.tables e below (B.U.setTop { g with pc := g.pc + 3, stack := v.toList ++ rest }) target → Steps p.tables e below (T.setTop g) target := by
  obtain ⟨mk, methM, hnamed, hmethM, hstM, habM⟩ := Cond.instanceMethod_spec hinst
  obtain ⟨m8, methM', cM, hn8, hmethM', -, -, -, -, -, -, hsigM⟩ := Cond.codeWith_spec hcode
  cases Option.some.inj (hn8.symm.trans hnamed)
  cases hmethM.symm.trans hmethM'
  obtain ⟨c2, r2, m2, q1, q2, q3, q4, kP, hkP, hkPi⟩ := Cond.selects_spec hsel
  cases hcls.symm.trans q1
  cases (State.methodFound?_of_named hnamed hy).symm.trans q2
  cases hnamed.symm.trans q3
  have hselP : selectMethod e.platform s.vm cellB.cls mk = .method mk := by rw [Launch.admits_selectMethod X.admits]; exact q4
  obtain ⟨vm₁, X₁, hstep₁⟩ := X.invokevirtual hexec hown hlink hnamed hmethM hstM hkP hkPi hy (a := b) (cell := cellB) hcell
    (fun z h => by rw [h] at hobj; cases hobj) hselP hmethM habM hkP hkPi (g := g) hg (argsL := argsL) (rest := rest) (hlen _ hsigM) hstack hdg
  obtain ⟨v, B, X', hpost, hsteps⟩ := hK m meth c ⟨T.setVm vm₁, locs, cells, slots⟩ { g with stack := rest } (.invokevirtual index) mk (Value.ref b :: argsL).toArray X₁ hg hsize hdg hW (X₁.named hnamed) (hpre vm₁ X₁.warmed)
  exact ⟨v, vm₁, B, X₁.warmed, X', hpost, fun target h => hstep₁ _ fun acts => by rw [doInvoke_state]; exact hsteps.trans h⟩
abbrev vx_CVW (R : Room) (s : State) (args : Array Value) (own C : String) (index : Nat) (y : MethodName) (bytes : ByteArray) (maxL : Nat) (ret : Option FieldType) (hh : List (Nat × Nat × Nat × Nat)) (ws : List Cond) (rm : Room) (mc ms n : Nat) : Prop :=
  (rm.cells = mc ∧ rm.slots = ms ∧ rm.frames + 1 ≤ R.frames ∧ 8 + (maxL + 11) + rm.locals ≤ R.locals ∧ (∀ w ∈ ws, ∀ (a' : Array Value) (U : State), s.WarmedH U.vm → w.before a' U = true) ∧ Cond.codeWith y bytes maxL ret hh ∈ ws) ∧
  (Cond.codeWith y bytes maxL ret hh).before args s = true ∧ (Cond.initialized y.cls).before args s = true ∧ (y.cls ≠ "java/lang/invoke/MethodHandle" ∧ y.cls ≠ "java/lang/invoke/VarHandle") ∧
  (∀ sig, parseMethodDescriptor y.desc = some sig → n = sig.parameters.length) ∧ (Cond.methodLink own index y).before args s = true ∧ (Cond.instanceMethod y).before args s = true ∧ (Cond.selects C y y).before args s = true
theorem vx_cwVW {own C : String} {index maxL mc ms : Nat} {y : MethodName} {bytes : ByteArray} {ret : Option FieldType} {hh : List (Nat × Nat × Nat × Nat)} {Ts ws ws' : List Cond} {rm : Room} (n : Nat) (ht : ∀ w ∈ Ts, w.before args s = true) (hT : GoodIn Ts (wsV own index C y ws)) (hw : ws = Cond.codeWith y bytes maxL ret hh :: ws') (hrc : rm.cells = mc) (hrs : rm.slots = ms)
    (hd : y.cls = C ∧ y.cls ≠ "java/lang/invoke/MethodHandle" ∧ y.cls ≠ "java/lang/invoke/VarHandle" ∧ (parseMethodDescriptor y.desc).map (fun d => d.parameters.length) = some n) (hR : rm.frames + 1 ≤ R.frames ∧ 8 + (maxL + 11) + rm.locals ≤ R.locals) :
    vx_CVW R s args own C index y bytes maxL ret hh ws rm mc ms n := by
  obtain ⟨hC, hd⟩ := hd
  subst hC
  have ok : ∀ w ∈ wsV own index y.cls y ws, w.before args s = true := fun w h => ht w (hT w h).1
  have hG : GoodIn Ts ws := fun w h => hT w (by unfold wsV; exact List.mem_append_right _ h)
  have hc : Cond.codeWith y bytes maxL ret hh ∈ ws := by rw [hw]; exact List.mem_cons_self
  refine ⟨⟨hrc, hrs, hR.1, hR.2, pay_in ht hG, hc⟩, ht _ (hG _ hc).1, ok _ (by simp [wsV]), ⟨hd.1, hd.2.1⟩, fun sig h => ?_, ok _ (by simp [wsV]), ok _ (by simp [wsV]), ok _ (by simp [wsV])⟩
  have h2 := hd.2.2
  rw [h] at h2
  exact (Option.some.inj h2).symm
theorem vx_runVW {y : MethodName} {bytes cc : ByteArray} {maxL nL mc ms n index : Nat} {ret : Option FieldType} {hh : List (Nat × Nat × Nat × Nat)} {ws : List Cond} {rm : Room} {Pc : Array Value → State → Prop} {Qc : Array Value → State → Outcome → State → Prop} {free : Addr → Prop} {Ts : List Cond} {own C : String} {b : Addr} {As rest : List Value} {g : JFrame}
    (S : CallFix p m c cc nL s args Ts own) (hM : Met l y ws rm Pc Qc mc ms free) (cw : vx_CVW R s args own C index y bytes maxL ret hh ws rm mc ms n) (hp : PreV s H C b Pc As)
    (hg : g.method = m) (hn : As.length = n) (hsize : g.locals.size = nL) (hstack : g.stack = As.reverse ++ .ref b :: rest) (hW : 2 * g.monitorRoom + (rest.map fun v => v.category).sum ≤ 8) (hdg : decode cc g.pc = .ok (.invokevirtual index, 3)) (hf : cells + mc ≤ R.cells ∧ slots + ms ≤ R.slots) :
    va_Run p l e R s m args below meth c H locs cells slots mc ms g rest (Qc (Value.ref b :: As).toArray) free := by
  obtain ⟨⟨hrc, hrs, hfr, hlo, hws, hcw⟩, hcode, hini, hy, hlen, hl, hin, hse⟩ := cw
  have hK : Back l R p e below s args y 3 8 (PreOf R mc ms Pc) (PostOf Qc mc ms free) := va_backW (hh := hh) (bytes := bytes) (maxL := maxL) (ret := ret) hM hp.1 hrc hrs hfr hlo hws hcw (fun a' U hW => word_at hW (Or.inl (by first | rfl | simp [Cond.onTables, Cond.keeps, Cond.steady])) hini)
  obtain ⟨hx, hb, hml, ho, -⟩ := S
  obtain ⟨-, ⟨cellB, hcB, hoB, hclB⟩, hPc⟩ := hp
  intro T hT X
  obtain ⟨v, vm₁, ⟨U', l2, c2, s2⟩, hW₁, X', ⟨g', mk, t, L, e1, e2, hq, h1, hL, h2, h3⟩, st⟩ := vx_callVW X hx (C := C) (hh := hh) (bytes := bytes) (maxL := maxL) (ret := ret) ho hl hin hse hcode hy hK (by rw [hT]; exact hcB) hoB hclB hg (hsize.trans hml.symm) (argsL := As) (rest := rest) (fun sig h => hn.trans (hlen sig h)) hstack hW (by rw [hb]; exact hdg)
    (fun vm₁ hW₁ => ⟨hf.1, hf.2, hPc (T.setVm vm₁) hT hW₁⟩)
  dsimp only [Pt.U, Pt.locs, Pt.cells, Pt.slots] at X' e1 e2 h1 h2 h3 st
  subst h1; subst h2; subst h3
  exact ⟨v, (T.setVm vm₁).calling g' mk (Value.ref b :: As).toArray, t, U', L, hT, X', hL, e1, e2, hq, st⟩
section
variable {y : MethodName} {bytes cc : ByteArray} {maxL nL mc ms n index : Nat} {ret : Option FieldType} {ws : List Cond} {rm : Room} {Pc : Array Value → State → Prop} {Qc : Array Value → State → Outcome → State → Prop} {XC : String → State → State → Prop} {free : Addr → Prop} {Ts : List Cond} {own C : String} {b : Addr} {As rest : List Value} {g : JFrame}
theorem vx_runVX {hh : List (Nat × Nat × Nat × Nat)} (S : CallFix p m c cc nL s args Ts own) (hM : vx_Met l y ws rm Pc Qc XC mc ms free) (cw : vx_CVW R s args own C index y bytes maxL ret hh ws rm mc ms n) (hp : PreV s H C b Pc As)
    (hg : g.method = m) (hn : As.length = n) (hsize : g.locals.size = nL) (hstack : g.stack = As.reverse ++ .ref b :: rest) (hW : 2 * g.monitorRoom + (rest.map fun v => v.category).sum ≤ 8) (hdg : decode cc g.pc = .ok (.invokevirtual index, 3)) (hf : cells + mc ≤ R.cells ∧ slots + ms ≤ R.slots) :
    vx_Run p l e R s m args below meth c H locs cells slots mc ms g rest (Qc (Value.ref b :: As).toArray) XC free := by
  obtain ⟨⟨hrc, hrs, hfr, hlo, hws, hcw⟩, hcode, hini, hy, hlen, hl, hin, hse⟩ := cw
  have hK : vx_Back l R p e below s args y 3 8 (PreOf R mc ms Pc) (PostOf Qc mc ms free) (vx_Post XC mc ms free) := vx_backW (hh := hh) (bytes := bytes) (maxL := maxL) (ret := ret) hM hp.1 hrc hrs hfr hlo hws hcw (fun a' U hW => word_at hW (Or.inl (by first | rfl | simp [Cond.onTables, Cond.keeps, Cond.steady])) hini)
  obtain ⟨hx, hb, hml, ho, -⟩ := S
  obtain ⟨-, ⟨cellB, hcB, hoB, hclB⟩, hPc⟩ := hp
  intro T hT X
  rcases vx_callVX X hx (C := C) (hh := hh) (bytes := bytes) (maxL := maxL) (ret := ret) ho hl hin hse hcode hy hK (by rw [hT]; exact hcB) hoB hclB hg (hsize.trans hml.symm) (argsL := As) (rest := rest) (fun sig h => hn.trans (hlen sig h)) hstack hW (by rw [hb]; exact hdg)
    (fun vm₁ hW₁ => ⟨hf.1, hf.2, hPc (T.setVm vm₁) hT hW₁⟩) with ⟨v, vm₁, ⟨U', l2, c2, s2⟩, hW₁, X', ⟨g', mk, t, L, e1, e2, hq, h1, hL, h2, h3⟩, st⟩ | ⟨q, vm₁, ⟨U', l2, c2, s2⟩, hW₁, X', ⟨g', mk, t, L, E, ce, e1, e2, hq, hce, hcv, hcl, h1, hL, h2, h3⟩, st⟩
  · dsimp only [Pt.U, Pt.locs, Pt.cells, Pt.slots] at X' e1 e2 h1 h2 h3 st
    subst h1; subst h2; subst h3
    exact Or.inl ⟨v, (T.setVm vm₁).calling g' mk (Value.ref b :: As).toArray, t, U', L, hT, X', hL, e1, e2, hq, st⟩
  · dsimp only [Pt.U, Pt.locs, Pt.cells, Pt.slots] at X' e1 e2 h1 h2 h3 st hcl
    subst h1; subst h2; subst h3
    exact Or.inr ⟨q, (T.setVm vm₁).calling g' mk (Value.ref b :: As).toArray, t, U', L, E, ce, hT, X', hL, e1, e2, hq, hce, hcv, vx_cls hW₁ hcl, st⟩
theorem vx_runSX {hh : List (Nat × Nat × Nat × Nat)} (S : CallFix p m c cc nL s args Ts own) (hM : vx_Met l y ws rm Pc Qc XC mc ms free) (cw : vx_CSW R s args own index y bytes maxL ret hh ws rm mc ms n) (hp : PreS s H Pc As)
    (hg : g.method = m) (hn : As.length = n) (hsize : g.locals.size = nL) (hstack : g.stack = As.reverse ++ rest) (hW : 2 * g.monitorRoom + (rest.map fun v => v.category).sum ≤ 8) (hdg : decode cc g.pc = .ok (.invokestatic index, 3)) (hf : cells + mc ≤ R.cells ∧ slots + ms ≤ R.slots) :
    vx_Run p l e R s m args below meth c H locs cells slots mc ms g rest (Qc As.toArray) XC free := by
  obtain ⟨⟨hrc, hrs, hfr, hlo, hws, hcw⟩, hcode, hini, hy, hlen, hl, hstt⟩ := cw
  have hK : vx_Back l R p e below s args y 3 8 (PreOf R mc ms Pc) (PostOf Qc mc ms free) (vx_Post XC mc ms free) := vx_backW (hh := hh) (bytes := bytes) (maxL := maxL) (ret := ret) hM hp.1 hrc hrs hfr hlo hws hcw (fun a' U hW => word_at hW (Or.inl (by first | rfl | simp [Cond.onTables, Cond.keeps, Cond.steady])) hini)
  obtain ⟨hx, hb, hml, ho, -⟩ := S
  intro T hT X
  rcases vx_callSX X hx (hh := hh) (bytes := bytes) (maxL := maxL) (ret := ret) ho hl hstt hini hcode hy hK hg (hsize.trans hml.symm) (argsL := As) (rest := rest) (fun sig h => hn.trans (hlen sig h)) hstack hW (by rw [hb]; exact hdg)
    (fun vm₁ hW₁ => ⟨hf.1, hf.2, hp.2 (T.setVm vm₁) hT hW₁⟩) with ⟨v, vm₁, ⟨U', l2, c2, s2⟩, hW₁, X', ⟨g', mk, t, L, e1, e2, hq, h1, hL, h2, h3⟩, st⟩ | ⟨q, vm₁, ⟨U', l2, c2, s2⟩, hW₁, X', ⟨g', mk, t, L, E, ce, e1, e2, hq, hce, hcv, hcl, h1, hL, h2, h3⟩, st⟩
  · dsimp only [Pt.U, Pt.locs, Pt.cells, Pt.slots] at X' e1 e2 h1 h2 h3 st
    subst h1; subst h2; subst h3
    exact Or.inl ⟨v, (T.setVm vm₁).calling g' mk As.toArray, t, U', L, hT, X', hL, e1, e2, hq, st⟩
  · dsimp only [Pt.U, Pt.locs, Pt.cells, Pt.slots] at X' e1 e2 h1 h2 h3 st hcl
    subst h1; subst h2; subst h3
    exact Or.inr ⟨q, (T.setVm vm₁).calling g' mk As.toArray, t, U', L, E, ce, hT, X', hL, e1, e2, hq, hce, hcv, vx_cls hW₁ hcl, st⟩
end
end VXH
theorem vx_ofWH {l : Launch} {y : MethodName} {ws ws' : List Cond} {rm : Room} {Pc : Array Value → State → Prop} {Qc : Array Value → State → Outcome → State → Prop} {XC : String → State → State → Prop} {mc ms : Nat} {free : Addr → Prop} {cc : ByteArray} {maxL : Nat} {ret : Option FieldType} {hh : List (Nat × Nat × Nat × Nat)}
    (hy : plainName y.cls = true) (hw : ws = Cond.codeWith y cc maxL ret hh :: ws')
    (body : ∀ p e s m args below meth c s₁, BodyLoose p l y (headSpec ws rm) cc maxL ret e s m args below meth c s₁ → c.maxLocals = maxL → Pc args s →
      W p l e (headSpec ws rm).room s m args below meth c s.heap [] 0 0 (vx_MQ below Qc XC args s mc ms free) (entryFrame m args maxL)) : vx_Met l y ws rm Pc Qc XC mc ms free := by
  refine MetFree.of_bodyS (code := cc) (maxLocals := maxL) (ret := ret) hy ?_ ?_
  · intro args s m h hn
    obtain ⟨m9, meth, c, hn9, h1, h2, h3, h4, -, h5, h6, -⟩ := Cond.codeWith_spec (atoms_spec (ws := ws) h _ (by rw [hw]; exact List.mem_cons_self))
    cases hn.symm.trans hn9
    exact ⟨meth, c, h1, h2, h3, h4, h5, h6⟩
  · intro p e s m args below meth c s₁ B hml hP _
    have hh0 : s₁.heap = s.heap := by rw [B.state]; rfl
    obtain ⟨t, a1, o, b1, b2, b3⟩ := body p e s m args below meth c s₁ B hml hP s₁ hh0 (Stand.of_body B)
    exact ⟨t, o, a1, b1, b2, b3⟩
/-! ===== END ===== -/

def RX0 : String := "PawnRack$Buyer"
def TX0 : u_T := fun k => match k with
  | 0 => ("PawnRack$Buyer", "kind", "I", false)
  | _ => ("PawnRack$Buyer", "purse", "I", false)
def tyX0 : Nat → FieldType := fun k => match k with
  | 0 => .int
  | _ => .int
abbrev wsX00 : List Cond := u_ws RX0 TX0 2
theorem nmX0 : ∀ a, a < 2 → ∀ b, b < 2 → a ≠ b → (TX0 a).2.1 ≠ (TX0 b).2.1 := by decide +kernel
theorem tyX0_ok : ∀ k, k < 2 → parseFieldDescriptor (TX0 k).2.2.1 = some (tyX0 k) := by decide +kernel
abbrev cX0_init : ByteArray := prog_2_method_1_code
def yX0_init : MethodName := ⟨RX0, "<init>", "()V"⟩
abbrev cX0_want : ByteArray := prog_2_method_2_code
def yX0_want : MethodName := ⟨RX0, "want", "(II)V"⟩
abbrev cX0_takes : ByteArray := prog_2_method_3_code
def yX0_takes : MethodName := ⟨RX0, "takes", "(LPawnRack$Ticket;)Z"⟩
def RX1 : String := "PawnRack$Customer"
def TX1 : u_T := fun k => match k with
  | 0 => ("PawnRack$Customer", "coins", "I", false)
  | _ => ("PawnRack$Customer", "trust", "I", false)
def tyX1 : Nat → FieldType := fun k => match k with
  | 0 => .int
  | _ => .int
abbrev wsX10 : List Cond := u_ws RX1 TX1 2
theorem nmX1 : ∀ a, a < 2 → ∀ b, b < 2 → a ≠ b → (TX1 a).2.1 ≠ (TX1 b).2.1 := by decide +kernel
theorem tyX1_ok : ∀ k, k < 2 → parseFieldDescriptor (TX1 k).2.2.1 = some (tyX1 k) := by decide +kernel
abbrev cX1_init : ByteArray := prog_3_method_1_code
def yX1_init : MethodName := ⟨RX1, "<init>", "()V"⟩
abbrev cX1_begin : ByteArray := prog_3_method_2_code
def yX1_begin : MethodName := ⟨RX1, "begin", "(I)V"⟩
abbrev cX1_loanFor : ByteArray := prog_3_method_3_code
def yX1_loanFor : MethodName := ⟨RX1, "loanFor", "(I)I"⟩
abbrev cX1_changeTrust : ByteArray := prog_3_method_4_code
def yX1_changeTrust : MethodName := ⟨RX1, "changeTrust", "(I)V"⟩
abbrev cX1_copyFrom : ByteArray := prog_3_method_5_code
def yX1_copyFrom : MethodName := ⟨RX1, "copyFrom", "(LPawnRack$Customer;)V"⟩
def RX2 : String := "PawnRack$Rack"
def TX2 : u_T := fun k => match k with
  | _ => ("PawnRack$Rack", "shelves", "[LPawnRack$Shelf;", true)
def tyX2 : Nat → FieldType := fun k => match k with
  | _ => .array (.object "PawnRack$Shelf")
abbrev wsX20 : List Cond := u_ws RX2 TX2 1
theorem nmX2 : ∀ a, a < 1 → ∀ b, b < 1 → a ≠ b → (TX2 a).2.1 ≠ (TX2 b).2.1 := by decide +kernel
theorem tyX2_ok : ∀ k, k < 1 → parseFieldDescriptor (TX2 k).2.2.1 = some (tyX2 k) := by decide +kernel
abbrev cX2_init : ByteArray := prog_4_method_1_code
def yX2_init : MethodName := ⟨RX2, "<init>", "()V"⟩
abbrev cX2_hasPlace : ByteArray := prog_4_method_2_code
def yX2_hasPlace : MethodName := ⟨RX2, "hasPlace", "(II)Z"⟩
abbrev cX2_spotFor : ByteArray := prog_4_method_3_code
def yX2_spotFor : MethodName := ⟨RX2, "spotFor", "(I)I"⟩
abbrev cX2_lay : ByteArray := prog_4_method_4_code
def yX2_lay : MethodName := ⟨RX2, "lay", "(II)V"⟩
abbrev cX2_clear : ByteArray := prog_4_method_5_code
def yX2_clear : MethodName := ⟨RX2, "clear", "(I)V"⟩
abbrev cX2_shelfOf : ByteArray := prog_4_method_6_code
def yX2_shelfOf : MethodName := ⟨RX2, "shelfOf", "(I)I"⟩
abbrev cX2_leftmostOf : ByteArray := prog_4_method_7_code
def yX2_leftmostOf : MethodName := ⟨RX2, "leftmostOf", "(I)I"⟩
abbrev cX2_taken : ByteArray := prog_4_method_8_code
def yX2_taken : MethodName := ⟨RX2, "taken", "()I"⟩
abbrev cX2_pushLeft : ByteArray := prog_4_method_9_code
def yX2_pushLeft : MethodName := ⟨RX2, "pushLeft", "()I"⟩
abbrev cX2_copyFrom : ByteArray := prog_4_method_10_code
def yX2_copyFrom : MethodName := ⟨RX2, "copyFrom", "(LPawnRack$Rack;)V"⟩
def RX3 : String := "PawnRack$Shelf"
def TX3 : u_T := fun k => match k with
  | _ => ("PawnRack$Shelf", "places", "[I", true)
def tyX3 : Nat → FieldType := fun k => match k with
  | _ => .array .int
abbrev wsX30 : List Cond := u_ws RX3 TX3 1
theorem nmX3 : ∀ a, a < 1 → ∀ b, b < 1 → a ≠ b → (TX3 a).2.1 ≠ (TX3 b).2.1 := by decide +kernel
theorem tyX3_ok : ∀ k, k < 1 → parseFieldDescriptor (TX3 k).2.2.1 = some (tyX3 k) := by decide +kernel
abbrev cX3_init : ByteArray := prog_5_method_1_code
def yX3_init : MethodName := ⟨RX3, "<init>", "(I)V"⟩
abbrev cX3_gapFor : ByteArray := prog_5_method_2_code
def yX3_gapFor : MethodName := ⟨RX3, "gapFor", "(I)I"⟩
abbrev cX3_lay : ByteArray := prog_5_method_3_code
def yX3_lay : MethodName := ⟨RX3, "lay", "(III)V"⟩
abbrev cX3_clear : ByteArray := prog_5_method_4_code
def yX3_clear : MethodName := ⟨RX3, "clear", "(I)V"⟩
abbrev cX3_leftmostOf : ByteArray := prog_5_method_5_code
def yX3_leftmostOf : MethodName := ⟨RX3, "leftmostOf", "(I)I"⟩
abbrev cX3_taken : ByteArray := prog_5_method_6_code
def yX3_taken : MethodName := ⟨RX3, "taken", "()I"⟩
abbrev cX3_pushLeft : ByteArray := prog_5_method_7_code
def yX3_pushLeft : MethodName := ⟨RX3, "pushLeft", "()I"⟩
abbrev cX3_copyFrom : ByteArray := prog_5_method_8_code
def yX3_copyFrom : MethodName := ⟨RX3, "copyFrom", "(LPawnRack$Shelf;)V"⟩
def RX4 : String := "PawnRack$Shop"
def TX4 : u_T := fun k => match k with
  | 0 => ("PawnRack$Shop", "day", "I", false)
  | 1 => ("PawnRack$Shop", "coins", "I", false)
  | 2 => ("PawnRack$Shop", "interestPaid", "I", false)
  | 3 => ("PawnRack$Shop", "customerCount", "I", false)
  | 4 => ("PawnRack$Shop", "ticketCount", "I", false)
  | 5 => ("PawnRack$Shop", "customers", "[LPawnRack$Customer;", true)
  | 6 => ("PawnRack$Shop", "tickets", "[LPawnRack$Ticket;", true)
  | 7 => ("PawnRack$Shop", "buyers", "[LPawnRack$Buyer;", true)
  | _ => ("PawnRack$Shop", "rack", "LPawnRack$Rack;", true)
def tyX4 : Nat → FieldType := fun k => match k with
  | 0 => .int
  | 1 => .int
  | 2 => .int
  | 3 => .int
  | 4 => .int
  | 5 => .array (.object "PawnRack$Customer")
  | 6 => .array (.object "PawnRack$Ticket")
  | 7 => .array (.object "PawnRack$Buyer")
  | _ => .object "PawnRack$Rack"
abbrev wsX40 : List Cond := u_ws RX4 TX4 9
theorem nmX4 : ∀ a, a < 9 → ∀ b, b < 9 → a ≠ b → (TX4 a).2.1 ≠ (TX4 b).2.1 := by decide +kernel
theorem tyX4_ok : ∀ k, k < 9 → parseFieldDescriptor (TX4 k).2.2.1 = some (tyX4 k) := by decide +kernel
abbrev cX4_init : ByteArray := prog_6_method_1_code
def yX4_init : MethodName := ⟨RX4, "<init>", "()V"⟩
abbrev cX4_hasCustomer : ByteArray := prog_6_method_2_code
def yX4_hasCustomer : MethodName := ⟨RX4, "hasCustomer", "(I)Z"⟩
abbrev cX4_hasTicket : ByteArray := prog_6_method_3_code
def yX4_hasTicket : MethodName := ⟨RX4, "hasTicket", "(I)Z"⟩
abbrev cX4_addCustomer : ByteArray := prog_6_method_4_code
def yX4_addCustomer : MethodName := ⟨RX4, "addCustomer", "(I)I"⟩
abbrev cX4_addTicket : ByteArray := prog_6_method_5_code
def yX4_addTicket : MethodName := ⟨RX4, "addTicket", "(IIII)I"⟩
abbrev cX4_canPay : ByteArray := prog_6_method_6_code
def yX4_canPay : MethodName := ⟨RX4, "canPay", "(II)Z"⟩
abbrev cX4_takeFrom : ByteArray := prog_6_method_7_code
def yX4_takeFrom : MethodName := ⟨RX4, "takeFrom", "(III)V"⟩
abbrev cX4_handOut : ByteArray := prog_6_method_8_code
def yX4_handOut : MethodName := ⟨RX4, "handOut", "(I)V"⟩
abbrev cX4_changeTrust : ByteArray := prog_6_method_9_code
def yX4_changeTrust : MethodName := ⟨RX4, "changeTrust", "(II)V"⟩
abbrev cX4_goOn : ByteArray := prog_6_method_10_code
def yX4_goOn : MethodName := ⟨RX4, "goOn", "(I)I"⟩
abbrev cX4_ageTickets : ByteArray := prog_6_method_11_code
def yX4_ageTickets : MethodName := ⟨RX4, "ageTickets", "()V"⟩
abbrev cX4_sellToBuyer : ByteArray := prog_6_method_12_code
def yX4_sellToBuyer : MethodName := ⟨RX4, "sellToBuyer", "(LPawnRack$Buyer;)Z"⟩
abbrev cX4_dearestFor : ByteArray := prog_6_method_13_code
def yX4_dearestFor : MethodName := ⟨RX4, "dearestFor", "(LPawnRack$Buyer;)I"⟩
abbrev cX4_bestFor : ByteArray := prog_6_method_14_code
def yX4_bestFor : MethodName := ⟨RX4, "bestFor", "(I)I"⟩
abbrev cX4_isHeldBy : ByteArray := prog_6_method_15_code
def yX4_isHeldBy : MethodName := ⟨RX4, "isHeldBy", "(II)Z"⟩
abbrev cX4_putPrices : ByteArray := prog_6_method_16_code
def yX4_putPrices : MethodName := ⟨RX4, "putPrices", "([I)I"⟩
abbrev cX4_putDebts : ByteArray := prog_6_method_17_code
def yX4_putDebts : MethodName := ⟨RX4, "putDebts", "(I[I)I"⟩
abbrev cX4_ticketsIn : ByteArray := prog_6_method_18_code
def yX4_ticketsIn : MethodName := ⟨RX4, "ticketsIn", "(I)I"⟩
abbrev cX4_ticketsOf : ByteArray := prog_6_method_19_code
def yX4_ticketsOf : MethodName := ⟨RX4, "ticketsOf", "(II)I"⟩
abbrev cX4_debtOf : ByteArray := prog_6_method_20_code
def yX4_debtOf : MethodName := ⟨RX4, "debtOf", "(I)I"⟩
abbrev cX4_loansHeld : ByteArray := prog_6_method_21_code
def yX4_loansHeld : MethodName := ⟨RX4, "loansHeld", "()I"⟩
abbrev cX4_tellCount : ByteArray := prog_6_method_22_code
def yX4_tellCount : MethodName := ⟨RX4, "tellCount", "(I)I"⟩
abbrev cX4_tellCustomer : ByteArray := prog_6_method_23_code
def yX4_tellCustomer : MethodName := ⟨RX4, "tellCustomer", "(II)I"⟩
abbrev cX4_tellTicket : ByteArray := prog_6_method_24_code
def yX4_tellTicket : MethodName := ⟨RX4, "tellTicket", "(II)I"⟩
abbrev cX4_copyFrom : ByteArray := prog_6_method_25_code
def yX4_copyFrom : MethodName := ⟨RX4, "copyFrom", "(LPawnRack$Shop;)V"⟩
def RX5 : String := "PawnRack$Ticket"
def TX5 : u_T := fun k => match k with
  | 0 => ("PawnRack$Ticket", "customer", "I", false)
  | 1 => ("PawnRack$Ticket", "kind", "I", false)
  | 2 => ("PawnRack$Ticket", "value", "I", false)
  | 3 => ("PawnRack$Ticket", "width", "I", false)
  | 4 => ("PawnRack$Ticket", "loan", "I", false)
  | 5 => ("PawnRack$Ticket", "interestSince", "I", false)
  | 6 => ("PawnRack$Ticket", "due", "I", false)
  | 7 => ("PawnRack$Ticket", "state", "I", false)
  | 8 => ("PawnRack$Ticket", "price", "I", false)
  | _ => ("PawnRack$Ticket", "renewals", "I", false)
def tyX5 : Nat → FieldType := fun k => match k with
  | 0 => .int
  | 1 => .int
  | 2 => .int
  | 3 => .int
  | 4 => .int
  | 5 => .int
  | 6 => .int
  | 7 => .int
  | 8 => .int
  | _ => .int
abbrev wsX50 : List Cond := u_ws RX5 TX5 10
theorem nmX5 : ∀ a, a < 10 → ∀ b, b < 10 → a ≠ b → (TX5 a).2.1 ≠ (TX5 b).2.1 := by decide +kernel
theorem tyX5_ok : ∀ k, k < 10 → parseFieldDescriptor (TX5 k).2.2.1 = some (tyX5 k) := by decide +kernel
abbrev cX5_init : ByteArray := prog_7_method_1_code
def yX5_init : MethodName := ⟨RX5, "<init>", "()V"⟩
abbrev cX5_describe : ByteArray := prog_7_method_2_code
def yX5_describe : MethodName := ⟨RX5, "describe", "(IIII)V"⟩
abbrev cX5_lend : ByteArray := prog_7_method_3_code
def yX5_lend : MethodName := ⟨RX5, "lend", "(II)V"⟩
abbrev cX5_extend : ByteArray := prog_7_method_4_code
def yX5_extend : MethodName := ⟨RX5, "extend", "(I)V"⟩
abbrev cX5_interest : ByteArray := prog_7_method_5_code
def yX5_interest : MethodName := ⟨RX5, "interest", "(I)I"⟩
abbrev cX5_debt : ByteArray := prog_7_method_6_code
def yX5_debt : MethodName := ⟨RX5, "debt", "(I)I"⟩
abbrev cX5_offer : ByteArray := prog_7_method_7_code
def yX5_offer : MethodName := ⟨RX5, "offer", "()V"⟩
abbrev cX5_cheapen : ByteArray := prog_7_method_8_code
def yX5_cheapen : MethodName := ⟨RX5, "cheapen", "()V"⟩
abbrev cX5_copyFrom : ByteArray := prog_7_method_9_code
def yX5_copyFrom : MethodName := ⟨RX5, "copyFrom", "(LPawnRack$Ticket;)V"⟩
def RX6 : String := "PawnRack"
def TX6 : u_T := fun k => match k with
  | 0 => ("PawnRack", "shop", "LPawnRack$Shop;", true)
  | 1 => ("PawnRack", "trial", "LPawnRack$Shop;", true)
  | _ => ("PawnRack", "amounts", "[I", true)
def tyX6 : Nat → FieldType := fun k => match k with
  | 0 => .object "PawnRack$Shop"
  | 1 => .object "PawnRack$Shop"
  | _ => .array .int
abbrev wsX60 : List Cond := u_ws RX6 TX6 3
theorem nmX6 : ∀ a, a < 3 → ∀ b, b < 3 → a ≠ b → (TX6 a).2.1 ≠ (TX6 b).2.1 := by decide +kernel
theorem tyX6_ok : ∀ k, k < 3 → parseFieldDescriptor (TX6 k).2.2.1 = some (tyX6 k) := by decide +kernel
abbrev cX6_init : ByteArray := prog_1_method_1_code
def yX6_init : MethodName := ⟨RX6, "<init>", "()V"⟩
abbrev cX6_come : ByteArray := prog_1_method_2_code
def yX6_come : MethodName := ⟨RX6, "come", "(I)I"⟩
abbrev cX6_earn : ByteArray := prog_1_method_3_code
def yX6_earn : MethodName := ⟨RX6, "earn", "(II)I"⟩
abbrev cX6_setBuyer : ByteArray := prog_1_method_4_code
def yX6_setBuyer : MethodName := ⟨RX6, "setBuyer", "(III)I"⟩
abbrev cX6_customer : ByteArray := prog_1_method_5_code
def yX6_customer : MethodName := ⟨RX6, "customer", "(II)I"⟩
abbrev cX6_pledge : ByteArray := prog_1_method_6_code
def yX6_pledge : MethodName := ⟨RX6, "pledge", "(IIII)I"⟩
abbrev cX6_ticket : ByteArray := prog_1_method_7_code
def yX6_ticket : MethodName := ⟨RX6, "ticket", "(II)I"⟩
abbrev cX6_owes : ByteArray := prog_1_method_8_code
def yX6_owes : MethodName := ⟨RX6, "owes", "(I)I"⟩
abbrev cX6_renew : ByteArray := prog_1_method_9_code
def yX6_renew : MethodName := ⟨RX6, "renew", "(I)I"⟩
abbrev cX6_fetch : ByteArray := prog_1_method_10_code
def yX6_fetch : MethodName := ⟨RX6, "fetch", "(I)I"⟩
abbrev cX6_at : ByteArray := prog_1_method_11_code
def yX6_at : MethodName := ⟨RX6, "at", "(II)I"⟩
abbrev cX6_room : ByteArray := prog_1_method_12_code
def yX6_room : MethodName := ⟨RX6, "room", "(I)I"⟩
abbrev cX6_tidy : ByteArray := prog_1_method_13_code
def yX6_tidy : MethodName := ⟨RX6, "tidy", "()I"⟩
abbrev cX6_pass : ByteArray := prog_1_method_14_code
def yX6_pass : MethodName := ⟨RX6, "pass", "(I)I"⟩
abbrev cX6_count : ByteArray := prog_1_method_15_code
def yX6_count : MethodName := ⟨RX6, "count", "(I)I"⟩
abbrev cX6_foresee : ByteArray := prog_1_method_16_code
def yX6_foresee : MethodName := ⟨RX6, "foresee", "(II)I"⟩
abbrev cX6_raise : ByteArray := prog_1_method_17_code
def yX6_raise : MethodName := ⟨RX6, "raise", "(I)I"⟩
abbrev cX6_best : ByteArray := prog_1_method_18_code
def yX6_best : MethodName := ⟨RX6, "best", "(I)I"⟩
abbrev cX6_most : ByteArray := prog_1_method_19_code
def yX6_most : MethodName := ⟨RX6, "most", "(I)I"⟩
abbrev cX6_fetched : ByteArray := prog_1_method_20_code
def yX6_fetched : MethodName := ⟨RX6, "fetched", "()D"⟩
abbrev cX6_digest : ByteArray := prog_1_method_21_code
def yX6_digest : MethodName := ⟨RX6, "digest", "()J"⟩
abbrev cX6_isWithin : ByteArray := prog_1_method_22_code
def yX6_isWithin : MethodName := ⟨RX6, "isWithin", "(III)Z"⟩
abbrev cX6_checkIndex : ByteArray := prog_1_method_23_code
def yX6_checkIndex : MethodName := ⟨RX6, "checkIndex", "(Z)V"⟩
abbrev cX6_checkArgument : ByteArray := prog_1_method_24_code
def yX6_checkArgument : MethodName := ⟨RX6, "checkArgument", "(Z)V"⟩
abbrev cX6_checkState : ByteArray := prog_1_method_25_code
def yX6_checkState : MethodName := ⟨RX6, "checkState", "(Z)V"⟩
abbrev cX6_sortUp : ByteArray := prog_1_method_26_code
def yX6_sortUp : MethodName := ⟨RX6, "sortUp", "([II)V"⟩
def RX7 : String := "PawnRackModel$State"
def TX7 : u_T := fun k => match k with
  | 0 => ("PawnRackModel$State", "day", "I", false)
  | 1 => ("PawnRackModel$State", "coins", "I", false)
  | 2 => ("PawnRackModel$State", "tickets", "I", false)
  | 3 => ("PawnRackModel$State", "interest", "I", false)
  | 4 => ("PawnRackModel$State", "own", "[I", true)
  | 5 => ("PawnRackModel$State", "trust", "[I", true)
  | 6 => ("PawnRackModel$State", "of", "[I", true)
  | 7 => ("PawnRackModel$State", "at", "[I", true)
  | _ => ("PawnRackModel$State", "this$0", "LPawnRackModel;", true)
def tyX7 : Nat → FieldType := fun k => match k with
  | 0 => .int
  | 1 => .int
  | 2 => .int
  | 3 => .int
  | 4 => .array .int
  | 5 => .array .int
  | 6 => .array .int
  | 7 => .array .int
  | _ => .object "PawnRackModel"
abbrev wsX70 : List Cond := u_ws RX7 TX7 9
theorem nmX7 : ∀ a, a < 9 → ∀ b, b < 9 → a ≠ b → (TX7 a).2.1 ≠ (TX7 b).2.1 := by decide +kernel
theorem tyX7_ok : ∀ k, k < 9 → parseFieldDescriptor (TX7 k).2.2.1 = some (tyX7 k) := by decide +kernel
abbrev cX7_init : ByteArray := prog_10_method_1_code
def yX7_init : MethodName := ⟨RX7, "<init>", "(LPawnRackModel;)V"⟩
abbrev cX7_copy : ByteArray := prog_10_method_2_code
def yX7_copy : MethodName := ⟨RX7, "copy", "([I[I)V"⟩
abbrev cX7_become : ByteArray := prog_10_method_3_code
def yX7_become : MethodName := ⟨RX7, "become", "(LPawnRackModel$State;)V"⟩
abbrev cX7_get : ByteArray := prog_10_method_4_code
def yX7_get : MethodName := ⟨RX7, "get", "(II)I"⟩
abbrev cX7_set : ByteArray := prog_10_method_5_code
def yX7_set : MethodName := ⟨RX7, "set", "(III)V"⟩
abbrev cX7_gap : ByteArray := prog_10_method_6_code
def yX7_gap : MethodName := ⟨RX7, "gap", "(I)I"⟩
abbrev cX7_lay : ByteArray := prog_10_method_7_code
def yX7_lay : MethodName := ⟨RX7, "lay", "(II)V"⟩
abbrev cX7_take : ByteArray := prog_10_method_8_code
def yX7_take : MethodName := ⟨RX7, "take", "(I)V"⟩
abbrev cX7_interestOf : ByteArray := prog_10_method_9_code
def yX7_interestOf : MethodName := ⟨RX7, "interestOf", "(I)I"⟩
abbrev cX7_owed : ByteArray := prog_10_method_10_code
def yX7_owed : MethodName := ⟨RX7, "owed", "(I)I"⟩
abbrev cX7_isBought : ByteArray := prog_10_method_11_code
def yX7_isBought : MethodName := ⟨RX7, "isBought", "()Z"⟩
abbrev cX7_pass : ByteArray := prog_10_method_12_code
def yX7_pass : MethodName := ⟨RX7, "pass", "()I"⟩
abbrev cX7_how : ByteArray := prog_10_method_13_code
def yX7_how : MethodName := ⟨RX7, "how", "(I)I"⟩
def RX8 : String := "PawnRackModel"
def TX8 : u_T := fun k => match k with
  | 0 => ("PawnRackModel", "thrown", "I", false)
  | 1 => ("PawnRackModel", "customers", "I", false)
  | 2 => ("PawnRackModel", "wants", "[I", true)
  | 3 => ("PawnRackModel", "purse", "[I", true)
  | 4 => ("PawnRackModel", "s", "LPawnRackModel$State;", true)
  | _ => ("PawnRackModel", "ahead", "LPawnRackModel$State;", true)
def tyX8 : Nat → FieldType := fun k => match k with
  | 0 => .int
  | 1 => .int
  | 2 => .array .int
  | 3 => .array .int
  | 4 => .object "PawnRackModel$State"
  | _ => .object "PawnRackModel$State"
abbrev wsX80 : List Cond := u_ws RX8 TX8 6
theorem nmX8 : ∀ a, a < 6 → ∀ b, b < 6 → a ≠ b → (TX8 a).2.1 ≠ (TX8 b).2.1 := by decide +kernel
theorem tyX8_ok : ∀ k, k < 6 → parseFieldDescriptor (TX8 k).2.2.1 = some (tyX8 k) := by decide +kernel
abbrev cX8_init : ByteArray := prog_9_method_1_code
def yX8_init : MethodName := ⟨RX8, "<init>", "()V"⟩
abbrev cX8_thrown : ByteArray := prog_9_method_2_code
def yX8_thrown : MethodName := ⟨RX8, "thrown", "()I"⟩
abbrev cX8_no : ByteArray := prog_9_method_3_code
def yX8_no : MethodName := ⟨RX8, "no", "(I)I"⟩
abbrev cX8_isIn : ByteArray := prog_9_method_4_code
def yX8_isIn : MethodName := ⟨RX8, "isIn", "(III)Z"⟩
abbrev cX8_isCustomer : ByteArray := prog_9_method_5_code
def yX8_isCustomer : MethodName := ⟨RX8, "isCustomer", "(I)Z"⟩
abbrev cX8_isTicket : ByteArray := prog_9_method_6_code
def yX8_isTicket : MethodName := ⟨RX8, "isTicket", "(I)Z"⟩
abbrev cX8_come : ByteArray := prog_9_method_7_code
def yX8_come : MethodName := ⟨RX8, "come", "(I)I"⟩
abbrev cX8_earn : ByteArray := prog_9_method_8_code
def yX8_earn : MethodName := ⟨RX8, "earn", "(II)I"⟩
abbrev cX8_setBuyer : ByteArray := prog_9_method_9_code
def yX8_setBuyer : MethodName := ⟨RX8, "setBuyer", "(III)I"⟩
abbrev cX8_customerTold : ByteArray := prog_9_method_10_code
def yX8_customerTold : MethodName := ⟨RX8, "customerTold", "(II)I"⟩
abbrev cX8_customer : ByteArray := prog_9_method_11_code
def yX8_customer : MethodName := ⟨RX8, "customer", "(II)I"⟩
abbrev cX8_pledge : ByteArray := prog_9_method_12_code
def yX8_pledge : MethodName := ⟨RX8, "pledge", "(IIII)I"⟩
abbrev cX8_shelfOf : ByteArray := prog_9_method_13_code
def yX8_shelfOf : MethodName := ⟨RX8, "shelfOf", "(I)I"⟩
abbrev cX8_ticketTold : ByteArray := prog_9_method_14_code
def yX8_ticketTold : MethodName := ⟨RX8, "ticketTold", "(II)I"⟩
abbrev cX8_ticket : ByteArray := prog_9_method_15_code
def yX8_ticket : MethodName := ⟨RX8, "ticket", "(II)I"⟩
abbrev cX8_owes : ByteArray := prog_9_method_16_code
def yX8_owes : MethodName := ⟨RX8, "owes", "(I)I"⟩
abbrev cX8_pay : ByteArray := prog_9_method_17_code
def yX8_pay : MethodName := ⟨RX8, "pay", "(III)V"⟩
abbrev cX8_renew : ByteArray := prog_9_method_18_code
def yX8_renew : MethodName := ⟨RX8, "renew", "(I)I"⟩
abbrev cX8_fetch : ByteArray := prog_9_method_19_code
def yX8_fetch : MethodName := ⟨RX8, "fetch", "(I)I"⟩
abbrev cX8_at : ByteArray := prog_9_method_20_code
def yX8_at : MethodName := ⟨RX8, "at", "(II)I"⟩
abbrev cX8_room : ByteArray := prog_9_method_21_code
def yX8_room : MethodName := ⟨RX8, "room", "(I)I"⟩
abbrev cX8_tidy : ByteArray := prog_9_method_22_code
def yX8_tidy : MethodName := ⟨RX8, "tidy", "()I"⟩
abbrev cX8_pass : ByteArray := prog_9_method_23_code
def yX8_pass : MethodName := ⟨RX8, "pass", "(I)I"⟩
abbrev cX8_counted : ByteArray := prog_9_method_24_code
def yX8_counted : MethodName := ⟨RX8, "counted", "(I)I"⟩
abbrev cX8_count : ByteArray := prog_9_method_25_code
def yX8_count : MethodName := ⟨RX8, "count", "(I)I"⟩
abbrev cX8_foresee : ByteArray := prog_9_method_26_code
def yX8_foresee : MethodName := ⟨RX8, "foresee", "(II)I"⟩
abbrev cX8_raise : ByteArray := prog_9_method_27_code
def yX8_raise : MethodName := ⟨RX8, "raise", "(I)I"⟩
abbrev cX8_best : ByteArray := prog_9_method_28_code
def yX8_best : MethodName := ⟨RX8, "best", "(I)I"⟩
abbrev cX8_most : ByteArray := prog_9_method_29_code
def yX8_most : MethodName := ⟨RX8, "most", "(I)I"⟩
abbrev cX8_fetched : ByteArray := prog_9_method_30_code
def yX8_fetched : MethodName := ⟨RX8, "fetched", "()D"⟩
abbrev cX8_digest : ByteArray := prog_9_method_31_code
def yX8_digest : MethodName := ⟨RX8, "digest", "()J"⟩
def RJ9 : String := "java/lang/Math"
def TJ9 : u_T := fun k => match k with
  | _ => ("", "", "", false)
def tyJ9 : Nat → FieldType := fun k => match k with
  | _ => .int
abbrev wsJ90 : List Cond := u_ws RJ9 TJ9 0
theorem nmJ9 : ∀ a, a < 0 → ∀ b, b < 0 → a ≠ b → (TJ9 a).2.1 ≠ (TJ9 b).2.1 := by decide +kernel
theorem tyJ9_ok : ∀ k, k < 0 → parseFieldDescriptor (TJ9 k).2.2.1 = some (tyJ9 k) := by decide +kernel
abbrev cJ9_floorMod_7cf53 : ByteArray := prog_15_method_50_code
def yJ9_floorMod_7cf53 : MethodName := ⟨RJ9, "floorMod", "(II)I"⟩
abbrev cJ9_max_7cf53 : ByteArray := prog_15_method_65_code
def yJ9_max_7cf53 : MethodName := ⟨RJ9, "max", "(II)I"⟩
abbrev cJ9_min_7cf53 : ByteArray := prog_15_method_69_code
def yJ9_min_7cf53 : MethodName := ⟨RJ9, "min", "(II)I"⟩
def RJ0 : String := "java/lang/String"
def TJ0 : u_T := fun k => match k with
  | _ => ("", "", "", false)
def tyJ0 : Nat → FieldType := fun k => match k with
  | _ => .int
abbrev wsJ00 : List Cond := u_ws RJ0 TJ0 0
theorem nmJ0 : ∀ a, a < 0 → ∀ b, b < 0 → a ≠ b → (TJ0 a).2.1 ≠ (TJ0 b).2.1 := by decide +kernel
theorem tyJ0_ok : ∀ k, k < 0 → parseFieldDescriptor (TJ0 k).2.2.1 = some (tyJ0 k) := by decide +kernel
def RJ10 : String := "java/lang/System"
def TJ10 : u_T := fun k => match k with
  | _ => ("", "", "", false)
def tyJ10 : Nat → FieldType := fun k => match k with
  | _ => .int
abbrev wsJ100 : List Cond := u_ws RJ10 TJ10 0
theorem nmJ10 : ∀ a, a < 0 → ∀ b, b < 0 → a ≠ b → (TJ10 a).2.1 ≠ (TJ10 b).2.1 := by decide +kernel
theorem tyJ10_ok : ∀ k, k < 0 → parseFieldDescriptor (TJ10 k).2.2.1 = some (tyJ10 k) := by decide +kernel
def RL : String := "PawnRackLaw"
abbrev cL_come : ByteArray := method_3_code
def yL_come : MethodName := ⟨RL, "come", "(LPawnRack;I[J)I"⟩
abbrev cL_earn : ByteArray := method_4_code
def yL_earn : MethodName := ⟨RL, "earn", "(LPawnRack;II[J)I"⟩
abbrev cL_setBuyer : ByteArray := method_5_code
def yL_setBuyer : MethodName := ⟨RL, "setBuyer", "(LPawnRack;III[J)I"⟩
abbrev cL_customer : ByteArray := method_6_code
def yL_customer : MethodName := ⟨RL, "customer", "(LPawnRack;II[J)I"⟩
abbrev cL_pledge : ByteArray := method_7_code
def yL_pledge : MethodName := ⟨RL, "pledge", "(LPawnRack;IIII[J)I"⟩
abbrev cL_ticket : ByteArray := method_8_code
def yL_ticket : MethodName := ⟨RL, "ticket", "(LPawnRack;II[J)I"⟩
abbrev cL_owes : ByteArray := method_9_code
def yL_owes : MethodName := ⟨RL, "owes", "(LPawnRack;I[J)I"⟩
abbrev cL_renew : ByteArray := method_10_code
def yL_renew : MethodName := ⟨RL, "renew", "(LPawnRack;I[J)I"⟩
abbrev cL_fetch : ByteArray := method_11_code
def yL_fetch : MethodName := ⟨RL, "fetch", "(LPawnRack;I[J)I"⟩
abbrev cL_at : ByteArray := method_12_code
def yL_at : MethodName := ⟨RL, "at", "(LPawnRack;II[J)I"⟩
abbrev cL_room : ByteArray := method_13_code
def yL_room : MethodName := ⟨RL, "room", "(LPawnRack;I[J)I"⟩
abbrev cL_pass : ByteArray := method_14_code
def yL_pass : MethodName := ⟨RL, "pass", "(LPawnRack;I[J)I"⟩
abbrev cL_count : ByteArray := method_15_code
def yL_count : MethodName := ⟨RL, "count", "(LPawnRack;I[J)I"⟩
abbrev cL_foresee : ByteArray := method_16_code
def yL_foresee : MethodName := ⟨RL, "foresee", "(LPawnRack;II[J)I"⟩
abbrev cL_raise : ByteArray := method_17_code
def yL_raise : MethodName := ⟨RL, "raise", "(LPawnRack;I[J)I"⟩
abbrev cL_best : ByteArray := method_18_code
def yL_best : MethodName := ⟨RL, "best", "(LPawnRack;I[J)I"⟩
abbrev cL_most : ByteArray := method_19_code
def yL_most : MethodName := ⟨RL, "most", "(LPawnRack;I[J)I"⟩
abbrev cL_law : ByteArray := code
def yL_law : MethodName := ⟨RL, "law", "([I)Z"⟩
abbrev vwCl : List vw_C := [(RX0, TX0, 2), (RX1, TX1, 2), (RX2, TX2, 1), (RX3, TX3, 1), (RX4, TX4, 9), (RX5, TX5, 10), (RX6, TX6, 3), (RX7, TX7, 9), (RX8, TX8, 6)]
/-- the good words of the tables: every method's words but its own code -/
def GW : List Cond := lw_tbl.filter goodWord
theorem gw_at {w : Cond} (i : Nat) (h : lw_tbl[i]? = some w) (g : goodWord w = true) : w ∈ GW := List.mem_filter.mpr ⟨List.mem_of_getElem? h, g⟩
def ws_ (y : MethodName) (c : ByteArray) (n : Nat) (r : Option FieldType) : List Cond := Cond.code y c n r :: GW
def wh_ (y : MethodName) (c : ByteArray) (n : Nat) (r : Option FieldType) (hh : List (Nat × Nat × Nat × Nat)) : List Cond := Cond.codeWith y c n r hh :: GW
theorem gw_good {w : Cond} (h : w ∈ GW) : (w.onTables && w.keeps) = true ∨ ∃ ty, w = .arrayClass ty := good_of_word (List.mem_filter.mp h).2
theorem gw_sub {ws : List Cond} (h : ws.all goodWord = true) (h2 : ∀ w ∈ ws, w ∈ lw_tbl) : ∀ w ∈ ws, w ∈ GW := fun w hw => List.mem_filter.mpr ⟨h2 w hw, List.all_eq_true.mp h w hw⟩
end
section
/-! words, by their places in the tables -/
theorem inL : Cond.initialized RL ∈ GW := gw_at 17 (by decide +kernel) (by decide +kernel)
theorem inX6 : Cond.initialized RX6 ∈ GW := gw_at 18 (by decide +kernel) (by decide +kernel)
theorem inX4 : Cond.initialized RX4 ∈ GW := gw_at 19 (by decide +kernel) (by decide +kernel)
theorem inX2 : Cond.initialized RX2 ∈ GW := gw_at 20 (by decide +kernel) (by decide +kernel)
theorem inX3 : Cond.initialized RX3 ∈ GW := gw_at 21 (by decide +kernel) (by decide +kernel)
theorem inX1 : Cond.initialized RX1 ∈ GW := gw_at 22 (by decide +kernel) (by decide +kernel)
theorem inX5 : Cond.initialized RX5 ∈ GW := gw_at 23 (by decide +kernel) (by decide +kernel)
theorem inX0 : Cond.initialized RX0 ∈ GW := gw_at 24 (by decide +kernel) (by decide +kernel)
theorem inX8 : Cond.initialized RX8 ∈ GW := gw_at 25 (by decide +kernel) (by decide +kernel)
theorem inX7 : Cond.initialized RX7 ∈ GW := gw_at 26 (by decide +kernel) (by decide +kernel)
theorem in_Throwable : Cond.initialized "java/lang/Throwable" ∈ GW := gw_at 27 (by decide +kernel) (by decide +kernel)
theorem in_Exception : Cond.initialized "java/lang/Exception" ∈ GW := gw_at 28 (by decide +kernel) (by decide +kernel)
theorem in_RuntimeException : Cond.initialized "java/lang/RuntimeException" ∈ GW := gw_at 29 (by decide +kernel) (by decide +kernel)
theorem in_IllegalArgumentException : Cond.initialized "java/lang/IllegalArgumentException" ∈ GW := gw_at 30 (by decide +kernel) (by decide +kernel)
theorem in_IllegalStateException : Cond.initialized "java/lang/IllegalStateException" ∈ GW := gw_at 31 (by decide +kernel) (by decide +kernel)
theorem in_IndexOutOfBoundsException : Cond.initialized "java/lang/IndexOutOfBoundsException" ∈ GW := gw_at 32 (by decide +kernel) (by decide +kernel)
theorem inJ9 : Cond.initialized RJ9 ∈ GW := gw_at 33 (by decide +kernel) (by decide +kernel)
theorem inJ10 : Cond.initialized RJ10 ∈ GW := gw_at 34 (by decide +kernel) (by decide +kernel)
theorem clL_8 : Cond.classLink RL 8 RX6 ∈ GW := gw_at 35 (by decide +kernel) (by decide +kernel)
theorem isX6 : Cond.instantiable RX6 3 ∈ GW := gw_at 36 (by decide +kernel) (by decide +kernel)
theorem mlL_70 : Cond.methodLink RL 70 yX6_init ∈ GW := gw_at 37 (by decide +kernel) (by decide +kernel)
theorem imX6_init : Cond.instanceMethod yX6_init ∈ GW := gw_at 38 (by decide +kernel) (by decide +kernel)
theorem cdX6_init : Cond.code yX6_init cX6_init 1 none ∈ GW := gw_at 39 (by decide +kernel) (by decide +kernel)
theorem mlX6_1 : Cond.methodLink RX6 1 objectInit ∈ GW := gw_at 40 (by decide +kernel) (by decide +kernel)
theorem imObj_init : Cond.instanceMethod objectInit ∈ GW := gw_at 41 (by decide +kernel) (by decide +kernel)
theorem cdObj_init : Cond.code objectInit ⟨#[0xb1]⟩ 1 none ∈ GW := gw_at 42 (by decide +kernel) (by decide +kernel)
theorem clX6_7 : Cond.classLink RX6 7 RX4 ∈ GW := gw_at 43 (by decide +kernel) (by decide +kernel)
theorem isX4 : Cond.instantiable RX4 9 ∈ GW := gw_at 44 (by decide +kernel) (by decide +kernel)
theorem mlX6_9 : Cond.methodLink RX6 9 yX4_init ∈ GW := gw_at 45 (by decide +kernel) (by decide +kernel)
theorem imX4_init : Cond.instanceMethod yX4_init ∈ GW := gw_at 46 (by decide +kernel) (by decide +kernel)
theorem cdX4_init : Cond.code yX4_init cX4_init 2 none ∈ GW := gw_at 47 (by decide +kernel) (by decide +kernel)
theorem mlX4_3 : Cond.methodLink RX4 3 objectInit ∈ GW := gw_at 48 (by decide +kernel) (by decide +kernel)
theorem clX4_15 : Cond.classLink RX4 15 RX1 ∈ GW := gw_at 49 (by decide +kernel) (by decide +kernel)
theorem clX4_21 : Cond.classLink RX4 21 RX5 ∈ GW := gw_at 51 (by decide +kernel) (by decide +kernel)
theorem clX4_27 : Cond.classLink RX4 27 RX0 ∈ GW := gw_at 53 (by decide +kernel) (by decide +kernel)
theorem clX4_33 : Cond.classLink RX4 33 RX2 ∈ GW := gw_at 55 (by decide +kernel) (by decide +kernel)
theorem isX2 : Cond.instantiable RX2 1 ∈ GW := gw_at 56 (by decide +kernel) (by decide +kernel)
theorem imX2_init : Cond.instanceMethod yX2_init ∈ GW := gw_at 58 (by decide +kernel) (by decide +kernel)
theorem cdX2_init : Cond.code yX2_init cX2_init 1 none ∈ GW := gw_at 59 (by decide +kernel) (by decide +kernel)
theorem mlX2_3 : Cond.methodLink RX2 3 objectInit ∈ GW := gw_at 60 (by decide +kernel) (by decide +kernel)
theorem clX2_9 : Cond.classLink RX2 9 RX3 ∈ GW := gw_at 61 (by decide +kernel) (by decide +kernel)
theorem isX3 : Cond.instantiable RX3 1 ∈ GW := gw_at 63 (by decide +kernel) (by decide +kernel)
theorem mlX2_11 : Cond.methodLink RX2 11 yX3_init ∈ GW := gw_at 64 (by decide +kernel) (by decide +kernel)
theorem imX3_init : Cond.instanceMethod yX3_init ∈ GW := gw_at 65 (by decide +kernel) (by decide +kernel)
theorem cdX3_init : Cond.code yX3_init cX3_init 3 none ∈ GW := gw_at 66 (by decide +kernel) (by decide +kernel)
theorem mlX3_3 : Cond.methodLink RX3 3 objectInit ∈ GW := gw_at 67 (by decide +kernel) (by decide +kernel)
theorem flX3_9 : Cond.fieldLink RX3 9 "PawnRack$Shelf" "places" "[I" ∈ GW := gw_at 68 (by decide +kernel) (by decide +kernel)
theorem flX2_24 : Cond.fieldLink RX2 24 "PawnRack$Shelf" "places" "[I" ∈ GW := gw_at 69 (by decide +kernel) (by decide +kernel)
theorem flX6_147 : Cond.fieldLink RX6 147 "PawnRack$Shelf" "places" "[I" ∈ GW := gw_at 70 (by decide +kernel) (by decide +kernel)
theorem ac_int : Cond.arrayClass .int ∈ GW := gw_at 74 (by decide +kernel) (by decide +kernel)
theorem flX2_14 : Cond.fieldLink RX2 14 "PawnRack$Rack" "shelves" "[LPawnRack$Shelf;" ∈ GW := gw_at 75 (by decide +kernel) (by decide +kernel)
theorem flX6_143 : Cond.fieldLink RX6 143 "PawnRack$Rack" "shelves" "[LPawnRack$Shelf;" ∈ GW := gw_at 76 (by decide +kernel) (by decide +kernel)
theorem isX1 : Cond.instantiable RX1 2 ∈ GW := gw_at 80 (by decide +kernel) (by decide +kernel)
theorem imX1_init : Cond.instanceMethod yX1_init ∈ GW := gw_at 82 (by decide +kernel) (by decide +kernel)
theorem cdX1_init : Cond.code yX1_init cX1_init 1 none ∈ GW := gw_at 83 (by decide +kernel) (by decide +kernel)
theorem mlX1_1 : Cond.methodLink RX1 1 objectInit ∈ GW := gw_at 84 (by decide +kernel) (by decide +kernel)
theorem flX1_7 : Cond.fieldLink RX1 7 "PawnRack$Customer" "coins" "I" ∈ GW := gw_at 85 (by decide +kernel) (by decide +kernel)
theorem flX6_53 : Cond.fieldLink RX6 53 "PawnRack$Customer" "coins" "I" ∈ GW := gw_at 86 (by decide +kernel) (by decide +kernel)
theorem flX4_75 : Cond.fieldLink RX4 75 "PawnRack$Customer" "coins" "I" ∈ GW := gw_at 87 (by decide +kernel) (by decide +kernel)
theorem flX1_13 : Cond.fieldLink RX1 13 "PawnRack$Customer" "trust" "I" ∈ GW := gw_at 88 (by decide +kernel) (by decide +kernel)
theorem flX4_156 : Cond.fieldLink RX4 156 "PawnRack$Customer" "trust" "I" ∈ GW := gw_at 89 (by decide +kernel) (by decide +kernel)
theorem isX5 : Cond.instantiable RX5 10 ∈ GW := gw_at 95 (by decide +kernel) (by decide +kernel)
theorem imX5_init : Cond.instanceMethod yX5_init ∈ GW := gw_at 97 (by decide +kernel) (by decide +kernel)
theorem cdX5_init : Cond.code yX5_init cX5_init 1 none ∈ GW := gw_at 98 (by decide +kernel) (by decide +kernel)
theorem mlX5_3 : Cond.methodLink RX5 3 objectInit ∈ GW := gw_at 99 (by decide +kernel) (by decide +kernel)
theorem flX5_9 : Cond.fieldLink RX5 9 "PawnRack$Ticket" "customer" "I" ∈ GW := gw_at 100 (by decide +kernel) (by decide +kernel)
theorem flX4_89 : Cond.fieldLink RX4 89 "PawnRack$Ticket" "customer" "I" ∈ GW := gw_at 101 (by decide +kernel) (by decide +kernel)
theorem flX6_122 : Cond.fieldLink RX6 122 "PawnRack$Ticket" "customer" "I" ∈ GW := gw_at 102 (by decide +kernel) (by decide +kernel)
theorem flX5_15 : Cond.fieldLink RX5 15 "PawnRack$Ticket" "kind" "I" ∈ GW := gw_at 103 (by decide +kernel) (by decide +kernel)
theorem flX0_23 : Cond.fieldLink RX0 23 "PawnRack$Ticket" "kind" "I" ∈ GW := gw_at 104 (by decide +kernel) (by decide +kernel)
theorem flX4_165 : Cond.fieldLink RX4 165 "PawnRack$Ticket" "kind" "I" ∈ GW := gw_at 105 (by decide +kernel) (by decide +kernel)
theorem flX5_18 : Cond.fieldLink RX5 18 "PawnRack$Ticket" "value" "I" ∈ GW := gw_at 106 (by decide +kernel) (by decide +kernel)
theorem flX4_133 : Cond.fieldLink RX4 133 "PawnRack$Ticket" "value" "I" ∈ GW := gw_at 107 (by decide +kernel) (by decide +kernel)
theorem flX5_21 : Cond.fieldLink RX5 21 "PawnRack$Ticket" "width" "I" ∈ GW := gw_at 108 (by decide +kernel) (by decide +kernel)
theorem flX4_168 : Cond.fieldLink RX4 168 "PawnRack$Ticket" "width" "I" ∈ GW := gw_at 109 (by decide +kernel) (by decide +kernel)
theorem flX5_24 : Cond.fieldLink RX5 24 "PawnRack$Ticket" "loan" "I" ∈ GW := gw_at 110 (by decide +kernel) (by decide +kernel)
theorem flX4_143 : Cond.fieldLink RX4 143 "PawnRack$Ticket" "loan" "I" ∈ GW := gw_at 111 (by decide +kernel) (by decide +kernel)
theorem flX5_27 : Cond.fieldLink RX5 27 "PawnRack$Ticket" "interestSince" "I" ∈ GW := gw_at 112 (by decide +kernel) (by decide +kernel)
theorem flX5_30 : Cond.fieldLink RX5 30 "PawnRack$Ticket" "due" "I" ∈ GW := gw_at 113 (by decide +kernel) (by decide +kernel)
theorem flX4_113 : Cond.fieldLink RX4 113 "PawnRack$Ticket" "due" "I" ∈ GW := gw_at 114 (by decide +kernel) (by decide +kernel)
theorem flX0_18 : Cond.fieldLink RX0 18 "PawnRack$Ticket" "state" "I" ∈ GW := gw_at 115 (by decide +kernel) (by decide +kernel)
theorem flX5_33 : Cond.fieldLink RX5 33 "PawnRack$Ticket" "state" "I" ∈ GW := gw_at 116 (by decide +kernel) (by decide +kernel)
theorem flX4_83 : Cond.fieldLink RX4 83 "PawnRack$Ticket" "state" "I" ∈ GW := gw_at 117 (by decide +kernel) (by decide +kernel)
theorem flX6_113 : Cond.fieldLink RX6 113 "PawnRack$Ticket" "state" "I" ∈ GW := gw_at 118 (by decide +kernel) (by decide +kernel)
theorem flX0_24 : Cond.fieldLink RX0 24 "PawnRack$Ticket" "price" "I" ∈ GW := gw_at 119 (by decide +kernel) (by decide +kernel)
theorem flX5_36 : Cond.fieldLink RX5 36 "PawnRack$Ticket" "price" "I" ∈ GW := gw_at 120 (by decide +kernel) (by decide +kernel)
theorem flX4_123 : Cond.fieldLink RX4 123 "PawnRack$Ticket" "price" "I" ∈ GW := gw_at 121 (by decide +kernel) (by decide +kernel)
theorem flX5_39 : Cond.fieldLink RX5 39 "PawnRack$Ticket" "renewals" "I" ∈ GW := gw_at 122 (by decide +kernel) (by decide +kernel)
theorem flX6_116 : Cond.fieldLink RX6 116 "PawnRack$Ticket" "renewals" "I" ∈ GW := gw_at 123 (by decide +kernel) (by decide +kernel)
theorem flX4_177 : Cond.fieldLink RX4 177 "PawnRack$Ticket" "renewals" "I" ∈ GW := gw_at 124 (by decide +kernel) (by decide +kernel)
theorem isX0 : Cond.instantiable RX0 2 ∈ GW := gw_at 146 (by decide +kernel) (by decide +kernel)
theorem imX0_init : Cond.instanceMethod yX0_init ∈ GW := gw_at 148 (by decide +kernel) (by decide +kernel)
theorem cdX0_init : Cond.code yX0_init cX0_init 1 none ∈ GW := gw_at 149 (by decide +kernel) (by decide +kernel)
theorem mlX0_3 : Cond.methodLink RX0 3 objectInit ∈ GW := gw_at 150 (by decide +kernel) (by decide +kernel)
theorem flX0_9 : Cond.fieldLink RX0 9 "PawnRack$Buyer" "kind" "I" ∈ GW := gw_at 151 (by decide +kernel) (by decide +kernel)
theorem flX6_62 : Cond.fieldLink RX6 62 "PawnRack$Buyer" "kind" "I" ∈ GW := gw_at 152 (by decide +kernel) (by decide +kernel)
theorem flX4_187 : Cond.fieldLink RX4 187 "PawnRack$Buyer" "kind" "I" ∈ GW := gw_at 153 (by decide +kernel) (by decide +kernel)
theorem flX0_15 : Cond.fieldLink RX0 15 "PawnRack$Buyer" "purse" "I" ∈ GW := gw_at 154 (by decide +kernel) (by decide +kernel)
theorem flX6_188 : Cond.fieldLink RX6 188 "PawnRack$Buyer" "purse" "I" ∈ GW := gw_at 155 (by decide +kernel) (by decide +kernel)
theorem flX4_188 : Cond.fieldLink RX4 188 "PawnRack$Buyer" "purse" "I" ∈ GW := gw_at 156 (by decide +kernel) (by decide +kernel)
theorem flX4_65 : Cond.fieldLink RX4 65 "PawnRack$Shop" "day" "I" ∈ GW := gw_at 162 (by decide +kernel) (by decide +kernel)
theorem flX6_105 : Cond.fieldLink RX6 105 "PawnRack$Shop" "day" "I" ∈ GW := gw_at 163 (by decide +kernel) (by decide +kernel)
theorem flX4_11 : Cond.fieldLink RX4 11 "PawnRack$Shop" "coins" "I" ∈ GW := gw_at 164 (by decide +kernel) (by decide +kernel)
theorem flX6_78 : Cond.fieldLink RX6 78 "PawnRack$Shop" "coins" "I" ∈ GW := gw_at 165 (by decide +kernel) (by decide +kernel)
theorem flX4_80 : Cond.fieldLink RX4 80 "PawnRack$Shop" "interestPaid" "I" ∈ GW := gw_at 166 (by decide +kernel) (by decide +kernel)
theorem flX4_43 : Cond.fieldLink RX4 43 "PawnRack$Shop" "customerCount" "I" ∈ GW := gw_at 167 (by decide +kernel) (by decide +kernel)
theorem flX6_31 : Cond.fieldLink RX6 31 "PawnRack$Shop" "customerCount" "I" ∈ GW := gw_at 168 (by decide +kernel) (by decide +kernel)
theorem flX4_50 : Cond.fieldLink RX4 50 "PawnRack$Shop" "ticketCount" "I" ∈ GW := gw_at 169 (by decide +kernel) (by decide +kernel)
theorem flX6_75 : Cond.fieldLink RX6 75 "PawnRack$Shop" "ticketCount" "I" ∈ GW := gw_at 170 (by decide +kernel) (by decide +kernel)
theorem flX4_17 : Cond.fieldLink RX4 17 "PawnRack$Shop" "customers" "[LPawnRack$Customer;" ∈ GW := gw_at 171 (by decide +kernel) (by decide +kernel)
theorem flX6_49 : Cond.fieldLink RX6 49 "PawnRack$Shop" "customers" "[LPawnRack$Customer;" ∈ GW := gw_at 172 (by decide +kernel) (by decide +kernel)
theorem flX4_23 : Cond.fieldLink RX4 23 "PawnRack$Shop" "tickets" "[LPawnRack$Ticket;" ∈ GW := gw_at 173 (by decide +kernel) (by decide +kernel)
theorem flX6_101 : Cond.fieldLink RX6 101 "PawnRack$Shop" "tickets" "[LPawnRack$Ticket;" ∈ GW := gw_at 174 (by decide +kernel) (by decide +kernel)
theorem flX4_29 : Cond.fieldLink RX4 29 "PawnRack$Shop" "buyers" "[LPawnRack$Buyer;" ∈ GW := gw_at 175 (by decide +kernel) (by decide +kernel)
theorem flX6_58 : Cond.fieldLink RX6 58 "PawnRack$Shop" "buyers" "[LPawnRack$Buyer;" ∈ GW := gw_at 176 (by decide +kernel) (by decide +kernel)
theorem flX4_36 : Cond.fieldLink RX4 36 "PawnRack$Shop" "rack" "LPawnRack$Rack;" ∈ GW := gw_at 177 (by decide +kernel) (by decide +kernel)
theorem flX6_82 : Cond.fieldLink RX6 82 "PawnRack$Shop" "rack" "LPawnRack$Rack;" ∈ GW := gw_at 178 (by decide +kernel) (by decide +kernel)
theorem flX6_10 : Cond.fieldLink RX6 10 "PawnRack" "shop" "LPawnRack$Shop;" ∈ GW := gw_at 198 (by decide +kernel) (by decide +kernel)
theorem flX6_16 : Cond.fieldLink RX6 16 "PawnRack" "trial" "LPawnRack$Shop;" ∈ GW := gw_at 199 (by decide +kernel) (by decide +kernel)
theorem flX6_19 : Cond.fieldLink RX6 19 "PawnRack" "amounts" "[I" ∈ GW := gw_at 200 (by decide +kernel) (by decide +kernel)
theorem mlL_117 : Cond.methodLink RL 117 yX6_tidy ∈ GW := gw_at 208 (by decide +kernel) (by decide +kernel)
theorem imX6_tidy : Cond.instanceMethod yX6_tidy ∈ GW := gw_at 209 (by decide +kernel) (by decide +kernel)
theorem seX6_tidy : Cond.selects RX6 yX6_tidy yX6_tidy ∈ GW := gw_at 210 (by decide +kernel) (by decide +kernel)
theorem cdX6_tidy : Cond.code yX6_tidy cX6_tidy 1 (some .int) ∈ GW := gw_at 211 (by decide +kernel) (by decide +kernel)
theorem mlX6_152 : Cond.methodLink RX6 152 yX2_pushLeft ∈ GW := gw_at 212 (by decide +kernel) (by decide +kernel)
theorem imX2_pushLeft : Cond.instanceMethod yX2_pushLeft ∈ GW := gw_at 213 (by decide +kernel) (by decide +kernel)
theorem seX2_pushLeft : Cond.selects RX2 yX2_pushLeft yX2_pushLeft ∈ GW := gw_at 214 (by decide +kernel) (by decide +kernel)
theorem cdX2_pushLeft : Cond.code yX2_pushLeft cX2_pushLeft 3 (some .int) ∈ GW := gw_at 215 (by decide +kernel) (by decide +kernel)
theorem mlX2_53 : Cond.methodLink RX2 53 yX3_pushLeft ∈ GW := gw_at 216 (by decide +kernel) (by decide +kernel)
theorem imX3_pushLeft : Cond.instanceMethod yX3_pushLeft ∈ GW := gw_at 217 (by decide +kernel) (by decide +kernel)
theorem seX3_pushLeft : Cond.selects RX3 yX3_pushLeft yX3_pushLeft ∈ GW := gw_at 218 (by decide +kernel) (by decide +kernel)
theorem cdX3_pushLeft : Cond.code yX3_pushLeft cX3_pushLeft 6 (some .int) ∈ GW := gw_at 219 (by decide +kernel) (by decide +kernel)
theorem mlL_139 : Cond.methodLink RL 139 yX6_fetched ∈ GW := gw_at 220 (by decide +kernel) (by decide +kernel)
theorem imX6_fetched : Cond.instanceMethod yX6_fetched ∈ GW := gw_at 221 (by decide +kernel) (by decide +kernel)
theorem seX6_fetched : Cond.selects RX6 yX6_fetched yX6_fetched ∈ GW := gw_at 222 (by decide +kernel) (by decide +kernel)
theorem cdX6_fetched : Cond.code yX6_fetched cX6_fetched 3 (some .double) ∈ GW := gw_at 223 (by decide +kernel) (by decide +kernel)
theorem mlX6_166 : Cond.methodLink RX6 166 yX4_ticketsIn ∈ GW := gw_at 224 (by decide +kernel) (by decide +kernel)
theorem imX4_ticketsIn : Cond.instanceMethod yX4_ticketsIn ∈ GW := gw_at 225 (by decide +kernel) (by decide +kernel)
theorem seX4_ticketsIn : Cond.selects RX4 yX4_ticketsIn yX4_ticketsIn ∈ GW := gw_at 226 (by decide +kernel) (by decide +kernel)
theorem cdX4_ticketsIn : Cond.code yX4_ticketsIn cX4_ticketsIn 4 (some .int) ∈ GW := gw_at 227 (by decide +kernel) (by decide +kernel)
theorem mlL_144 : Cond.methodLink RL 144 yX6_digest ∈ GW := gw_at 228 (by decide +kernel) (by decide +kernel)
theorem imX6_digest : Cond.instanceMethod yX6_digest ∈ GW := gw_at 229 (by decide +kernel) (by decide +kernel)
theorem seX6_digest : Cond.selects RX6 yX6_digest yX6_digest ∈ GW := gw_at 230 (by decide +kernel) (by decide +kernel)
theorem cdX6_digest : Cond.code yX6_digest cX6_digest 5 (some .long) ∈ GW := gw_at 231 (by decide +kernel) (by decide +kernel)
theorem ckX6_184 : Cond.constantLong RX6 184 719 ∈ GW := gw_at 232 (by decide +kernel) (by decide +kernel)
theorem ckX6_186 : Cond.constantLong RX6 186 31 ∈ GW := gw_at 233 (by decide +kernel) (by decide +kernel)
theorem mlX6_159 : Cond.methodLink RX6 159 yX4_tellCount ∈ GW := gw_at 234 (by decide +kernel) (by decide +kernel)
theorem imX4_tellCount : Cond.instanceMethod yX4_tellCount ∈ GW := gw_at 235 (by decide +kernel) (by decide +kernel)
theorem seX4_tellCount : Cond.selects RX4 yX4_tellCount yX4_tellCount ∈ GW := gw_at 236 (by decide +kernel) (by decide +kernel)
theorem cdX4_tellCount : Cond.code yX4_tellCount cX4_tellCount 2 (some .int) ∈ GW := gw_at 237 (by decide +kernel) (by decide +kernel)
theorem mlX4_146 : Cond.methodLink RX4 146 yX4_ticketsIn ∈ GW := gw_at 238 (by decide +kernel) (by decide +kernel)
theorem mlX4_149 : Cond.methodLink RX4 149 yX2_taken ∈ GW := gw_at 239 (by decide +kernel) (by decide +kernel)
theorem imX2_taken : Cond.instanceMethod yX2_taken ∈ GW := gw_at 240 (by decide +kernel) (by decide +kernel)
theorem seX2_taken : Cond.selects RX2 yX2_taken yX2_taken ∈ GW := gw_at 241 (by decide +kernel) (by decide +kernel)
theorem cdX2_taken : Cond.code yX2_taken cX2_taken 3 (some .int) ∈ GW := gw_at 242 (by decide +kernel) (by decide +kernel)
theorem mlX2_49 : Cond.methodLink RX2 49 yX3_taken ∈ GW := gw_at 243 (by decide +kernel) (by decide +kernel)
theorem imX3_taken : Cond.instanceMethod yX3_taken ∈ GW := gw_at 244 (by decide +kernel) (by decide +kernel)
theorem seX3_taken : Cond.selects RX3 yX3_taken yX3_taken ∈ GW := gw_at 245 (by decide +kernel) (by decide +kernel)
theorem cdX3_taken : Cond.code yX3_taken cX3_taken 3 (some .int) ∈ GW := gw_at 246 (by decide +kernel) (by decide +kernel)
theorem mlX4_153 : Cond.methodLink RX4 153 yX4_loansHeld ∈ GW := gw_at 247 (by decide +kernel) (by decide +kernel)
theorem imX4_loansHeld : Cond.instanceMethod yX4_loansHeld ∈ GW := gw_at 249 (by decide +kernel) (by decide +kernel)
theorem cdX4_loansHeld : Cond.code yX4_loansHeld cX4_loansHeld 3 (some .int) ∈ GW := gw_at 250 (by decide +kernel) (by decide +kernel)
theorem mlX6_71 : Cond.methodLink RX6 71 yX4_tellCustomer ∈ GW := gw_at 251 (by decide +kernel) (by decide +kernel)
theorem imX4_tellCustomer : Cond.instanceMethod yX4_tellCustomer ∈ GW := gw_at 252 (by decide +kernel) (by decide +kernel)
theorem seX4_tellCustomer : Cond.selects RX4 yX4_tellCustomer yX4_tellCustomer ∈ GW := gw_at 253 (by decide +kernel) (by decide +kernel)
theorem cdX4_tellCustomer : Cond.code yX4_tellCustomer cX4_tellCustomer 3 (some .int) ∈ GW := gw_at 254 (by decide +kernel) (by decide +kernel)
theorem mlX4_159 : Cond.methodLink RX4 159 yX4_ticketsOf ∈ GW := gw_at 255 (by decide +kernel) (by decide +kernel)
theorem imX4_ticketsOf : Cond.instanceMethod yX4_ticketsOf ∈ GW := gw_at 257 (by decide +kernel) (by decide +kernel)
theorem cdX4_ticketsOf : Cond.code yX4_ticketsOf cX4_ticketsOf 5 (some .int) ∈ GW := gw_at 258 (by decide +kernel) (by decide +kernel)
theorem mlX4_162 : Cond.methodLink RX4 162 yX4_debtOf ∈ GW := gw_at 259 (by decide +kernel) (by decide +kernel)
theorem imX4_debtOf : Cond.instanceMethod yX4_debtOf ∈ GW := gw_at 261 (by decide +kernel) (by decide +kernel)
theorem cdX4_debtOf : Cond.code yX4_debtOf cX4_debtOf 4 (some .int) ∈ GW := gw_at 262 (by decide +kernel) (by decide +kernel)
theorem mlX4_130 : Cond.methodLink RX4 130 yX5_debt ∈ GW := gw_at 263 (by decide +kernel) (by decide +kernel)
theorem imX5_debt : Cond.instanceMethod yX5_debt ∈ GW := gw_at 264 (by decide +kernel) (by decide +kernel)
theorem seX5_debt : Cond.selects RX5 yX5_debt yX5_debt ∈ GW := gw_at 265 (by decide +kernel) (by decide +kernel)
theorem cdX5_debt : Cond.code yX5_debt cX5_debt 2 (some .int) ∈ GW := gw_at 266 (by decide +kernel) (by decide +kernel)
theorem mlX5_48 : Cond.methodLink RX5 48 yX5_interest ∈ GW := gw_at 267 (by decide +kernel) (by decide +kernel)
theorem imX5_interest : Cond.instanceMethod yX5_interest ∈ GW := gw_at 268 (by decide +kernel) (by decide +kernel)
theorem seX5_interest : Cond.selects RX5 yX5_interest yX5_interest ∈ GW := gw_at 269 (by decide +kernel) (by decide +kernel)
theorem cdX5_interest : Cond.code yX5_interest cX5_interest 3 (some .int) ∈ GW := gw_at 270 (by decide +kernel) (by decide +kernel)
theorem mlX5_42 : Cond.methodLink RX5 42 yJ9_max_7cf53 ∈ GW := gw_at 271 (by decide +kernel) (by decide +kernel)
theorem stJ9_max_7cf53 : Cond.static yJ9_max_7cf53 ∈ GW := gw_at 272 (by decide +kernel) (by decide +kernel)
theorem cdJ9_max_7cf53 : Cond.code yJ9_max_7cf53 cJ9_max_7cf53 2 (some .int) ∈ GW := gw_at 273 (by decide +kernel) (by decide +kernel)
theorem mlX6_98 : Cond.methodLink RX6 98 yX4_tellTicket ∈ GW := gw_at 274 (by decide +kernel) (by decide +kernel)
theorem imX4_tellTicket : Cond.instanceMethod yX4_tellTicket ∈ GW := gw_at 275 (by decide +kernel) (by decide +kernel)
theorem seX4_tellTicket : Cond.selects RX4 yX4_tellTicket yX4_tellTicket ∈ GW := gw_at 276 (by decide +kernel) (by decide +kernel)
theorem cdX4_tellTicket : Cond.code yX4_tellTicket cX4_tellTicket 4 (some .int) ∈ GW := gw_at 277 (by decide +kernel) (by decide +kernel)
theorem mlX4_171 : Cond.methodLink RX4 171 yX2_shelfOf ∈ GW := gw_at 278 (by decide +kernel) (by decide +kernel)
theorem imX2_shelfOf : Cond.instanceMethod yX2_shelfOf ∈ GW := gw_at 279 (by decide +kernel) (by decide +kernel)
theorem seX2_shelfOf : Cond.selects RX2 yX2_shelfOf yX2_shelfOf ∈ GW := gw_at 280 (by decide +kernel) (by decide +kernel)
theorem cdX2_shelfOf : Cond.code yX2_shelfOf cX2_shelfOf 3 (some .int) ∈ GW := gw_at 281 (by decide +kernel) (by decide +kernel)
theorem mlX2_46 : Cond.methodLink RX2 46 yX3_leftmostOf ∈ GW := gw_at 282 (by decide +kernel) (by decide +kernel)
theorem imX3_leftmostOf : Cond.instanceMethod yX3_leftmostOf ∈ GW := gw_at 283 (by decide +kernel) (by decide +kernel)
theorem seX3_leftmostOf : Cond.selects RX3 yX3_leftmostOf yX3_leftmostOf ∈ GW := gw_at 284 (by decide +kernel) (by decide +kernel)
theorem cdX3_leftmostOf : Cond.code yX3_leftmostOf cX3_leftmostOf 3 (some .int) ∈ GW := gw_at 285 (by decide +kernel) (by decide +kernel)
theorem mlX4_174 : Cond.methodLink RX4 174 yX2_leftmostOf ∈ GW := gw_at 286 (by decide +kernel) (by decide +kernel)
theorem imX2_leftmostOf : Cond.instanceMethod yX2_leftmostOf ∈ GW := gw_at 287 (by decide +kernel) (by decide +kernel)
theorem seX2_leftmostOf : Cond.selects RX2 yX2_leftmostOf yX2_leftmostOf ∈ GW := gw_at 288 (by decide +kernel) (by decide +kernel)
theorem cdX2_leftmostOf : Cond.code yX2_leftmostOf cX2_leftmostOf 4 (some .int) ∈ GW := gw_at 289 (by decide +kernel) (by decide +kernel)
theorem mlX6_108 : Cond.methodLink RX6 108 yX5_debt ∈ GW := gw_at 290 (by decide +kernel) (by decide +kernel)
theorem mlL_74 : Cond.methodLink RL 74 yL_come ∈ GW := gw_at 291 (by decide +kernel) (by decide +kernel)
theorem stL_come : Cond.static yL_come ∈ GW := gw_at 292 (by decide +kernel) (by decide +kernel)
theorem cwL_come : Cond.codeWith yL_come cL_come 4 (some .int) [(0, 9, 12, 13), (0, 9, 15, 15)] ∈ GW := gw_at 293 (by decide +kernel) (by decide +kernel)
theorem clL_13 : Cond.classLink RL 13 "java/lang/IllegalArgumentException" ∈ GW := gw_at 294 (by decide +kernel) (by decide +kernel)
theorem clL_15 : Cond.classLink RL 15 "java/lang/IllegalStateException" ∈ GW := gw_at 295 (by decide +kernel) (by decide +kernel)
theorem mlL_7 : Cond.methodLink RL 7 yX6_come ∈ GW := gw_at 296 (by decide +kernel) (by decide +kernel)
theorem imX6_come : Cond.instanceMethod yX6_come ∈ GW := gw_at 297 (by decide +kernel) (by decide +kernel)
theorem seX6_come : Cond.selects RX6 yX6_come yX6_come ∈ GW := gw_at 298 (by decide +kernel) (by decide +kernel)
theorem cdX6_come : Cond.code yX6_come cX6_come 2 (some .int) ∈ GW := gw_at 299 (by decide +kernel) (by decide +kernel)
theorem mlX6_23 : Cond.methodLink RX6 23 yX6_isWithin ∈ GW := gw_at 300 (by decide +kernel) (by decide +kernel)
theorem stX6_isWithin : Cond.static yX6_isWithin ∈ GW := gw_at 301 (by decide +kernel) (by decide +kernel)
theorem cdX6_isWithin : Cond.code yX6_isWithin cX6_isWithin 3 (some .boolean) ∈ GW := gw_at 302 (by decide +kernel) (by decide +kernel)
theorem mlX6_27 : Cond.methodLink RX6 27 yX6_checkArgument ∈ GW := gw_at 303 (by decide +kernel) (by decide +kernel)
theorem stX6_checkArgument : Cond.static yX6_checkArgument ∈ GW := gw_at 304 (by decide +kernel) (by decide +kernel)
theorem cdX6_checkArgument : Cond.code yX6_checkArgument cX6_checkArgument 1 none ∈ GW := gw_at 305 (by decide +kernel) (by decide +kernel)
theorem clX6_198 : Cond.classLink RX6 198 "java/lang/IllegalArgumentException" ∈ GW := gw_at 306 (by decide +kernel) (by decide +kernel)
theorem mlX6_202 : Cond.methodLink RX6 202 (⟨"java/lang/IllegalArgumentException", "<init>", "(Ljava/lang/String;)V"⟩ : MethodName) ∈ GW := gw_at 348 (by decide +kernel) (by decide +kernel)
theorem ac_byte : Cond.arrayClass .byte ∈ GW := gw_at 373 (by decide +kernel) (by decide +kernel)
theorem mlX6_35 : Cond.methodLink RX6 35 yX6_checkState ∈ GW := gw_at 374 (by decide +kernel) (by decide +kernel)
theorem stX6_checkState : Cond.static yX6_checkState ∈ GW := gw_at 375 (by decide +kernel) (by decide +kernel)
theorem cdX6_checkState : Cond.code yX6_checkState cX6_checkState 1 none ∈ GW := gw_at 376 (by decide +kernel) (by decide +kernel)
theorem clX6_203 : Cond.classLink RX6 203 "java/lang/IllegalStateException" ∈ GW := gw_at 377 (by decide +kernel) (by decide +kernel)
theorem mlX6_207 : Cond.methodLink RX6 207 (⟨"java/lang/IllegalStateException", "<init>", "(Ljava/lang/String;)V"⟩ : MethodName) ∈ GW := gw_at 387 (by decide +kernel) (by decide +kernel)
theorem mlX6_38 : Cond.methodLink RX6 38 yX4_addCustomer ∈ GW := gw_at 393 (by decide +kernel) (by decide +kernel)
theorem imX4_addCustomer : Cond.instanceMethod yX4_addCustomer ∈ GW := gw_at 394 (by decide +kernel) (by decide +kernel)
theorem seX4_addCustomer : Cond.selects RX4 yX4_addCustomer yX4_addCustomer ∈ GW := gw_at 395 (by decide +kernel) (by decide +kernel)
theorem cdX4_addCustomer : Cond.code yX4_addCustomer cX4_addCustomer 3 (some .int) ∈ GW := gw_at 396 (by decide +kernel) (by decide +kernel)
theorem mlX4_53 : Cond.methodLink RX4 53 yX1_begin ∈ GW := gw_at 397 (by decide +kernel) (by decide +kernel)
theorem imX1_begin : Cond.instanceMethod yX1_begin ∈ GW := gw_at 398 (by decide +kernel) (by decide +kernel)
theorem seX1_begin : Cond.selects RX1 yX1_begin yX1_begin ∈ GW := gw_at 399 (by decide +kernel) (by decide +kernel)
theorem cdX1_begin : Cond.code yX1_begin cX1_begin 2 none ∈ GW := gw_at 400 (by decide +kernel) (by decide +kernel)
theorem mlL_84 : Cond.methodLink RL 84 yL_earn ∈ GW := gw_at 401 (by decide +kernel) (by decide +kernel)
theorem stL_earn : Cond.static yL_earn ∈ GW := gw_at 402 (by decide +kernel) (by decide +kernel)
theorem cwL_earn : Cond.codeWith yL_earn cL_earn 5 (some .int) [(0, 10, 13, 21), (0, 10, 17, 13)] ∈ GW := gw_at 403 (by decide +kernel) (by decide +kernel)
theorem clL_21 : Cond.classLink RL 21 "java/lang/IndexOutOfBoundsException" ∈ GW := gw_at 404 (by decide +kernel) (by decide +kernel)
theorem mlL_17 : Cond.methodLink RL 17 yX6_earn ∈ GW := gw_at 405 (by decide +kernel) (by decide +kernel)
theorem imX6_earn : Cond.instanceMethod yX6_earn ∈ GW := gw_at 406 (by decide +kernel) (by decide +kernel)
theorem seX6_earn : Cond.selects RX6 yX6_earn yX6_earn ∈ GW := gw_at 407 (by decide +kernel) (by decide +kernel)
theorem cdX6_earn : Cond.code yX6_earn cX6_earn 4 (some .int) ∈ GW := gw_at 408 (by decide +kernel) (by decide +kernel)
theorem mlX6_42 : Cond.methodLink RX6 42 yX4_hasCustomer ∈ GW := gw_at 409 (by decide +kernel) (by decide +kernel)
theorem imX4_hasCustomer : Cond.instanceMethod yX4_hasCustomer ∈ GW := gw_at 410 (by decide +kernel) (by decide +kernel)
theorem seX4_hasCustomer : Cond.selects RX4 yX4_hasCustomer yX4_hasCustomer ∈ GW := gw_at 411 (by decide +kernel) (by decide +kernel)
theorem cdX4_hasCustomer : Cond.code yX4_hasCustomer cX4_hasCustomer 2 (some .boolean) ∈ GW := gw_at 412 (by decide +kernel) (by decide +kernel)
theorem mlX6_46 : Cond.methodLink RX6 46 yX6_checkIndex ∈ GW := gw_at 414 (by decide +kernel) (by decide +kernel)
theorem stX6_checkIndex : Cond.static yX6_checkIndex ∈ GW := gw_at 415 (by decide +kernel) (by decide +kernel)
theorem cdX6_checkIndex : Cond.code yX6_checkIndex cX6_checkIndex 1 none ∈ GW := gw_at 416 (by decide +kernel) (by decide +kernel)
theorem clX6_191 : Cond.classLink RX6 191 "java/lang/IndexOutOfBoundsException" ∈ GW := gw_at 417 (by decide +kernel) (by decide +kernel)
theorem mlX6_195 : Cond.methodLink RX6 195 (⟨"java/lang/IndexOutOfBoundsException", "<init>", "(Ljava/lang/String;)V"⟩ : MethodName) ∈ GW := gw_at 427 (by decide +kernel) (by decide +kernel)
theorem mlL_88 : Cond.methodLink RL 88 yL_setBuyer ∈ GW := gw_at 433 (by decide +kernel) (by decide +kernel)
theorem stL_setBuyer : Cond.static yL_setBuyer ∈ GW := gw_at 434 (by decide +kernel) (by decide +kernel)
theorem cwL_setBuyer : Cond.codeWith yL_setBuyer cL_setBuyer 6 (some .int) [(0, 12, 15, 21), (0, 12, 19, 13)] ∈ GW := gw_at 435 (by decide +kernel) (by decide +kernel)
theorem mlL_23 : Cond.methodLink RL 23 yX6_setBuyer ∈ GW := gw_at 436 (by decide +kernel) (by decide +kernel)
theorem imX6_setBuyer : Cond.instanceMethod yX6_setBuyer ∈ GW := gw_at 437 (by decide +kernel) (by decide +kernel)
theorem seX6_setBuyer : Cond.selects RX6 yX6_setBuyer yX6_setBuyer ∈ GW := gw_at 438 (by decide +kernel) (by decide +kernel)
theorem cdX6_setBuyer : Cond.code yX6_setBuyer cX6_setBuyer 6 (some .int) ∈ GW := gw_at 439 (by decide +kernel) (by decide +kernel)
theorem mlX6_67 : Cond.methodLink RX6 67 yX0_want ∈ GW := gw_at 440 (by decide +kernel) (by decide +kernel)
theorem imX0_want : Cond.instanceMethod yX0_want ∈ GW := gw_at 441 (by decide +kernel) (by decide +kernel)
theorem seX0_want : Cond.selects RX0 yX0_want yX0_want ∈ GW := gw_at 442 (by decide +kernel) (by decide +kernel)
theorem cdX0_want : Cond.code yX0_want cX0_want 3 none ∈ GW := gw_at 443 (by decide +kernel) (by decide +kernel)
theorem mlL_92 : Cond.methodLink RL 92 yL_customer ∈ GW := gw_at 444 (by decide +kernel) (by decide +kernel)
theorem stL_customer : Cond.static yL_customer ∈ GW := gw_at 445 (by decide +kernel) (by decide +kernel)
theorem cwL_customer : Cond.codeWith yL_customer cL_customer 5 (some .int) [(0, 10, 13, 21)] ∈ GW := gw_at 446 (by decide +kernel) (by decide +kernel)
theorem mlL_27 : Cond.methodLink RL 27 yX6_customer ∈ GW := gw_at 447 (by decide +kernel) (by decide +kernel)
theorem imX6_customer : Cond.instanceMethod yX6_customer ∈ GW := gw_at 448 (by decide +kernel) (by decide +kernel)
theorem seX6_customer : Cond.selects RX6 yX6_customer yX6_customer ∈ GW := gw_at 449 (by decide +kernel) (by decide +kernel)
theorem cdX6_customer : Cond.code yX6_customer cX6_customer 3 (some .int) ∈ GW := gw_at 450 (by decide +kernel) (by decide +kernel)
theorem mlL_95 : Cond.methodLink RL 95 yL_pledge ∈ GW := gw_at 451 (by decide +kernel) (by decide +kernel)
theorem stL_pledge : Cond.static yL_pledge ∈ GW := gw_at 452 (by decide +kernel) (by decide +kernel)
theorem cwL_pledge : Cond.codeWith yL_pledge cL_pledge 7 (some .int) [(0, 14, 17, 21), (0, 14, 21, 13), (0, 14, 25, 15)] ∈ GW := gw_at 453 (by decide +kernel) (by decide +kernel)
theorem mlL_30 : Cond.methodLink RL 30 yX6_pledge ∈ GW := gw_at 454 (by decide +kernel) (by decide +kernel)
theorem imX6_pledge : Cond.instanceMethod yX6_pledge ∈ GW := gw_at 455 (by decide +kernel) (by decide +kernel)
theorem seX6_pledge : Cond.selects RX6 yX6_pledge yX6_pledge ∈ GW := gw_at 456 (by decide +kernel) (by decide +kernel)
theorem cdX6_pledge : Cond.code yX6_pledge cX6_pledge 5 (some .int) ∈ GW := gw_at 457 (by decide +kernel) (by decide +kernel)
theorem mlX6_79 : Cond.methodLink RX6 79 yX1_loanFor ∈ GW := gw_at 458 (by decide +kernel) (by decide +kernel)
theorem imX1_loanFor : Cond.instanceMethod yX1_loanFor ∈ GW := gw_at 459 (by decide +kernel) (by decide +kernel)
theorem seX1_loanFor : Cond.selects RX1 yX1_loanFor yX1_loanFor ∈ GW := gw_at 460 (by decide +kernel) (by decide +kernel)
theorem cdX1_loanFor : Cond.code yX1_loanFor cX1_loanFor 2 (some .int) ∈ GW := gw_at 461 (by decide +kernel) (by decide +kernel)
theorem mlX1_16 : Cond.methodLink RX1 16 yJ9_max_7cf53 ∈ GW := gw_at 462 (by decide +kernel) (by decide +kernel)
theorem mlX6_86 : Cond.methodLink RX6 86 yX2_spotFor ∈ GW := gw_at 463 (by decide +kernel) (by decide +kernel)
theorem imX2_spotFor : Cond.instanceMethod yX2_spotFor ∈ GW := gw_at 464 (by decide +kernel) (by decide +kernel)
theorem seX2_spotFor : Cond.selects RX2 yX2_spotFor yX2_spotFor ∈ GW := gw_at 465 (by decide +kernel) (by decide +kernel)
theorem cdX2_spotFor : Cond.code yX2_spotFor cX2_spotFor 4 (some .int) ∈ GW := gw_at 466 (by decide +kernel) (by decide +kernel)
theorem mlX2_28 : Cond.methodLink RX2 28 yX3_gapFor ∈ GW := gw_at 467 (by decide +kernel) (by decide +kernel)
theorem imX3_gapFor : Cond.instanceMethod yX3_gapFor ∈ GW := gw_at 468 (by decide +kernel) (by decide +kernel)
theorem seX3_gapFor : Cond.selects RX3 yX3_gapFor yX3_gapFor ∈ GW := gw_at 469 (by decide +kernel) (by decide +kernel)
theorem cdX3_gapFor : Cond.code yX3_gapFor cX3_gapFor 4 (some .int) ∈ GW := gw_at 470 (by decide +kernel) (by decide +kernel)
theorem mlX6_91 : Cond.methodLink RX6 91 yX4_addTicket ∈ GW := gw_at 471 (by decide +kernel) (by decide +kernel)
theorem imX4_addTicket : Cond.instanceMethod yX4_addTicket ∈ GW := gw_at 472 (by decide +kernel) (by decide +kernel)
theorem seX4_addTicket : Cond.selects RX4 yX4_addTicket yX4_addTicket ∈ GW := gw_at 473 (by decide +kernel) (by decide +kernel)
theorem cdX4_addTicket : Cond.code yX4_addTicket cX4_addTicket 7 (some .int) ∈ GW := gw_at 474 (by decide +kernel) (by decide +kernel)
theorem mlX4_57 : Cond.methodLink RX4 57 yX1_loanFor ∈ GW := gw_at 475 (by decide +kernel) (by decide +kernel)
theorem mlX4_61 : Cond.methodLink RX4 61 yX5_describe ∈ GW := gw_at 476 (by decide +kernel) (by decide +kernel)
theorem imX5_describe : Cond.instanceMethod yX5_describe ∈ GW := gw_at 477 (by decide +kernel) (by decide +kernel)
theorem seX5_describe : Cond.selects RX5 yX5_describe yX5_describe ∈ GW := gw_at 478 (by decide +kernel) (by decide +kernel)
theorem cdX5_describe : Cond.code yX5_describe cX5_describe 5 none ∈ GW := gw_at 479 (by decide +kernel) (by decide +kernel)
theorem mlX4_68 : Cond.methodLink RX4 68 yX5_lend ∈ GW := gw_at 480 (by decide +kernel) (by decide +kernel)
theorem imX5_lend : Cond.instanceMethod yX5_lend ∈ GW := gw_at 481 (by decide +kernel) (by decide +kernel)
theorem seX5_lend : Cond.selects RX5 yX5_lend yX5_lend ∈ GW := gw_at 482 (by decide +kernel) (by decide +kernel)
theorem cdX5_lend : Cond.code yX5_lend cX5_lend 3 none ∈ GW := gw_at 483 (by decide +kernel) (by decide +kernel)
theorem mlX4_72 : Cond.methodLink RX4 72 yX2_lay ∈ GW := gw_at 484 (by decide +kernel) (by decide +kernel)
theorem imX2_lay : Cond.instanceMethod yX2_lay ∈ GW := gw_at 485 (by decide +kernel) (by decide +kernel)
theorem seX2_lay : Cond.selects RX2 yX2_lay yX2_lay ∈ GW := gw_at 486 (by decide +kernel) (by decide +kernel)
theorem cdX2_lay : Cond.code yX2_lay cX2_lay 6 none ∈ GW := gw_at 487 (by decide +kernel) (by decide +kernel)
theorem mlX2_32 : Cond.methodLink RX2 32 yX2_spotFor ∈ GW := gw_at 488 (by decide +kernel) (by decide +kernel)
theorem mlX2_35 : Cond.methodLink RX2 35 yX2_hasPlace ∈ GW := gw_at 489 (by decide +kernel) (by decide +kernel)
theorem imX2_hasPlace : Cond.instanceMethod yX2_hasPlace ∈ GW := gw_at 490 (by decide +kernel) (by decide +kernel)
theorem seX2_hasPlace : Cond.selects RX2 yX2_hasPlace yX2_hasPlace ∈ GW := gw_at 491 (by decide +kernel) (by decide +kernel)
theorem cdX2_hasPlace : Cond.code yX2_hasPlace cX2_hasPlace 3 (some .boolean) ∈ GW := gw_at 492 (by decide +kernel) (by decide +kernel)
theorem mlX2_39 : Cond.methodLink RX2 39 yX3_lay ∈ GW := gw_at 494 (by decide +kernel) (by decide +kernel)
theorem imX3_lay : Cond.instanceMethod yX3_lay ∈ GW := gw_at 495 (by decide +kernel) (by decide +kernel)
theorem seX3_lay : Cond.selects RX3 yX3_lay yX3_lay ∈ GW := gw_at 496 (by decide +kernel) (by decide +kernel)
theorem cdX3_lay : Cond.code yX3_lay cX3_lay 5 none ∈ GW := gw_at 497 (by decide +kernel) (by decide +kernel)
theorem mlL_99 : Cond.methodLink RL 99 yL_ticket ∈ GW := gw_at 498 (by decide +kernel) (by decide +kernel)
theorem stL_ticket : Cond.static yL_ticket ∈ GW := gw_at 499 (by decide +kernel) (by decide +kernel)
theorem cwL_ticket : Cond.codeWith yL_ticket cL_ticket 5 (some .int) [(0, 10, 13, 21)] ∈ GW := gw_at 500 (by decide +kernel) (by decide +kernel)
theorem mlL_34 : Cond.methodLink RL 34 yX6_ticket ∈ GW := gw_at 501 (by decide +kernel) (by decide +kernel)
theorem imX6_ticket : Cond.instanceMethod yX6_ticket ∈ GW := gw_at 502 (by decide +kernel) (by decide +kernel)
theorem seX6_ticket : Cond.selects RX6 yX6_ticket yX6_ticket ∈ GW := gw_at 503 (by decide +kernel) (by decide +kernel)
theorem cdX6_ticket : Cond.code yX6_ticket cX6_ticket 3 (some .int) ∈ GW := gw_at 504 (by decide +kernel) (by decide +kernel)
theorem mlX6_95 : Cond.methodLink RX6 95 yX4_hasTicket ∈ GW := gw_at 505 (by decide +kernel) (by decide +kernel)
theorem imX4_hasTicket : Cond.instanceMethod yX4_hasTicket ∈ GW := gw_at 506 (by decide +kernel) (by decide +kernel)
theorem seX4_hasTicket : Cond.selects RX4 yX4_hasTicket yX4_hasTicket ∈ GW := gw_at 507 (by decide +kernel) (by decide +kernel)
theorem cdX4_hasTicket : Cond.code yX4_hasTicket cX4_hasTicket 2 (some .boolean) ∈ GW := gw_at 508 (by decide +kernel) (by decide +kernel)
theorem mlL_102 : Cond.methodLink RL 102 yL_owes ∈ GW := gw_at 509 (by decide +kernel) (by decide +kernel)
theorem stL_owes : Cond.static yL_owes ∈ GW := gw_at 510 (by decide +kernel) (by decide +kernel)
theorem cwL_owes : Cond.codeWith yL_owes cL_owes 4 (some .int) [(0, 9, 12, 21)] ∈ GW := gw_at 511 (by decide +kernel) (by decide +kernel)
theorem mlL_37 : Cond.methodLink RL 37 yX6_owes ∈ GW := gw_at 512 (by decide +kernel) (by decide +kernel)
theorem imX6_owes : Cond.instanceMethod yX6_owes ∈ GW := gw_at 513 (by decide +kernel) (by decide +kernel)
theorem seX6_owes : Cond.selects RX6 yX6_owes yX6_owes ∈ GW := gw_at 514 (by decide +kernel) (by decide +kernel)
theorem cdX6_owes : Cond.code yX6_owes cX6_owes 2 (some .int) ∈ GW := gw_at 515 (by decide +kernel) (by decide +kernel)
theorem mlL_105 : Cond.methodLink RL 105 yL_renew ∈ GW := gw_at 516 (by decide +kernel) (by decide +kernel)
theorem stL_renew : Cond.static yL_renew ∈ GW := gw_at 517 (by decide +kernel) (by decide +kernel)
theorem cwL_renew : Cond.codeWith yL_renew cL_renew 4 (some .int) [(0, 9, 12, 21), (0, 9, 15, 15)] ∈ GW := gw_at 518 (by decide +kernel) (by decide +kernel)
theorem mlL_40 : Cond.methodLink RL 40 yX6_renew ∈ GW := gw_at 519 (by decide +kernel) (by decide +kernel)
theorem imX6_renew : Cond.instanceMethod yX6_renew ∈ GW := gw_at 520 (by decide +kernel) (by decide +kernel)
theorem seX6_renew : Cond.selects RX6 yX6_renew yX6_renew ∈ GW := gw_at 521 (by decide +kernel) (by decide +kernel)
theorem cdX6_renew : Cond.code yX6_renew cX6_renew 4 (some .int) ∈ GW := gw_at 522 (by decide +kernel) (by decide +kernel)
theorem mlX6_119 : Cond.methodLink RX6 119 yX5_interest ∈ GW := gw_at 523 (by decide +kernel) (by decide +kernel)
theorem mlX6_125 : Cond.methodLink RX6 125 yX4_canPay ∈ GW := gw_at 524 (by decide +kernel) (by decide +kernel)
theorem imX4_canPay : Cond.instanceMethod yX4_canPay ∈ GW := gw_at 525 (by decide +kernel) (by decide +kernel)
theorem seX4_canPay : Cond.selects RX4 yX4_canPay yX4_canPay ∈ GW := gw_at 526 (by decide +kernel) (by decide +kernel)
theorem cdX4_canPay : Cond.code yX4_canPay cX4_canPay 3 (some .boolean) ∈ GW := gw_at 527 (by decide +kernel) (by decide +kernel)
theorem mlX4_76 : Cond.methodLink RX4 76 yX4_hasCustomer ∈ GW := gw_at 528 (by decide +kernel) (by decide +kernel)
theorem mlX6_129 : Cond.methodLink RX6 129 yX4_takeFrom ∈ GW := gw_at 529 (by decide +kernel) (by decide +kernel)
theorem imX4_takeFrom : Cond.instanceMethod yX4_takeFrom ∈ GW := gw_at 530 (by decide +kernel) (by decide +kernel)
theorem seX4_takeFrom : Cond.selects RX4 yX4_takeFrom yX4_takeFrom ∈ GW := gw_at 531 (by decide +kernel) (by decide +kernel)
theorem cdX4_takeFrom : Cond.code yX4_takeFrom cX4_takeFrom 4 none ∈ GW := gw_at 532 (by decide +kernel) (by decide +kernel)
theorem mlX6_133 : Cond.methodLink RX6 133 yX5_extend ∈ GW := gw_at 533 (by decide +kernel) (by decide +kernel)
theorem imX5_extend : Cond.instanceMethod yX5_extend ∈ GW := gw_at 534 (by decide +kernel) (by decide +kernel)
theorem seX5_extend : Cond.selects RX5 yX5_extend yX5_extend ∈ GW := gw_at 535 (by decide +kernel) (by decide +kernel)
theorem cdX5_extend : Cond.code yX5_extend cX5_extend 2 none ∈ GW := gw_at 536 (by decide +kernel) (by decide +kernel)
theorem mlL_108 : Cond.methodLink RL 108 yL_fetch ∈ GW := gw_at 537 (by decide +kernel) (by decide +kernel)
theorem stL_fetch : Cond.static yL_fetch ∈ GW := gw_at 538 (by decide +kernel) (by decide +kernel)
theorem cwL_fetch : Cond.codeWith yL_fetch cL_fetch 4 (some .int) [(0, 9, 12, 21), (0, 9, 15, 15)] ∈ GW := gw_at 539 (by decide +kernel) (by decide +kernel)
theorem mlL_43 : Cond.methodLink RL 43 yX6_fetch ∈ GW := gw_at 540 (by decide +kernel) (by decide +kernel)
theorem imX6_fetch : Cond.instanceMethod yX6_fetch ∈ GW := gw_at 541 (by decide +kernel) (by decide +kernel)
theorem seX6_fetch : Cond.selects RX6 yX6_fetch yX6_fetch ∈ GW := gw_at 542 (by decide +kernel) (by decide +kernel)
theorem cdX6_fetch : Cond.code yX6_fetch cX6_fetch 4 (some .int) ∈ GW := gw_at 543 (by decide +kernel) (by decide +kernel)
theorem mlX6_137 : Cond.methodLink RX6 137 yX4_handOut ∈ GW := gw_at 544 (by decide +kernel) (by decide +kernel)
theorem imX4_handOut : Cond.instanceMethod yX4_handOut ∈ GW := gw_at 545 (by decide +kernel) (by decide +kernel)
theorem seX4_handOut : Cond.selects RX4 yX4_handOut yX4_handOut ∈ GW := gw_at 546 (by decide +kernel) (by decide +kernel)
theorem cdX4_handOut : Cond.code yX4_handOut cX4_handOut 2 none ∈ GW := gw_at 547 (by decide +kernel) (by decide +kernel)
theorem mlX4_86 : Cond.methodLink RX4 86 yX2_clear ∈ GW := gw_at 548 (by decide +kernel) (by decide +kernel)
theorem imX2_clear : Cond.instanceMethod yX2_clear ∈ GW := gw_at 549 (by decide +kernel) (by decide +kernel)
theorem seX2_clear : Cond.selects RX2 yX2_clear yX2_clear ∈ GW := gw_at 550 (by decide +kernel) (by decide +kernel)
theorem cdX2_clear : Cond.code yX2_clear cX2_clear 3 none ∈ GW := gw_at 551 (by decide +kernel) (by decide +kernel)
theorem mlX2_43 : Cond.methodLink RX2 43 yX3_clear ∈ GW := gw_at 552 (by decide +kernel) (by decide +kernel)
theorem imX3_clear : Cond.instanceMethod yX3_clear ∈ GW := gw_at 553 (by decide +kernel) (by decide +kernel)
theorem seX3_clear : Cond.selects RX3 yX3_clear yX3_clear ∈ GW := gw_at 554 (by decide +kernel) (by decide +kernel)
theorem cdX3_clear : Cond.code yX3_clear cX3_clear 3 none ∈ GW := gw_at 555 (by decide +kernel) (by decide +kernel)
theorem mlX4_92 : Cond.methodLink RX4 92 yX4_changeTrust ∈ GW := gw_at 556 (by decide +kernel) (by decide +kernel)
theorem imX4_changeTrust : Cond.instanceMethod yX4_changeTrust ∈ GW := gw_at 557 (by decide +kernel) (by decide +kernel)
theorem seX4_changeTrust : Cond.selects RX4 yX4_changeTrust yX4_changeTrust ∈ GW := gw_at 558 (by decide +kernel) (by decide +kernel)
theorem cdX4_changeTrust : Cond.code yX4_changeTrust cX4_changeTrust 3 none ∈ GW := gw_at 559 (by decide +kernel) (by decide +kernel)
theorem mlX4_95 : Cond.methodLink RX4 95 yX1_changeTrust ∈ GW := gw_at 560 (by decide +kernel) (by decide +kernel)
theorem imX1_changeTrust : Cond.instanceMethod yX1_changeTrust ∈ GW := gw_at 561 (by decide +kernel) (by decide +kernel)
theorem seX1_changeTrust : Cond.selects RX1 yX1_changeTrust yX1_changeTrust ∈ GW := gw_at 562 (by decide +kernel) (by decide +kernel)
theorem cdX1_changeTrust : Cond.code yX1_changeTrust cX1_changeTrust 2 none ∈ GW := gw_at 563 (by decide +kernel) (by decide +kernel)
theorem mlX1_22 : Cond.methodLink RX1 22 yJ9_min_7cf53 ∈ GW := gw_at 564 (by decide +kernel) (by decide +kernel)
theorem stJ9_min_7cf53 : Cond.static yJ9_min_7cf53 ∈ GW := gw_at 565 (by decide +kernel) (by decide +kernel)
theorem cdJ9_min_7cf53 : Cond.code yJ9_min_7cf53 cJ9_min_7cf53 2 (some .int) ∈ GW := gw_at 566 (by decide +kernel) (by decide +kernel)
theorem mlL_111 : Cond.methodLink RL 111 yL_at ∈ GW := gw_at 567 (by decide +kernel) (by decide +kernel)
theorem stL_at : Cond.static yL_at ∈ GW := gw_at 568 (by decide +kernel) (by decide +kernel)
theorem cwL_at : Cond.codeWith yL_at cL_at 5 (some .int) [(0, 10, 13, 21)] ∈ GW := gw_at 569 (by decide +kernel) (by decide +kernel)
theorem mlL_46 : Cond.methodLink RL 46 yX6_at ∈ GW := gw_at 570 (by decide +kernel) (by decide +kernel)
theorem imX6_at : Cond.instanceMethod yX6_at ∈ GW := gw_at 571 (by decide +kernel) (by decide +kernel)
theorem seX6_at : Cond.selects RX6 yX6_at yX6_at ∈ GW := gw_at 572 (by decide +kernel) (by decide +kernel)
theorem cdX6_at : Cond.code yX6_at cX6_at 3 (some .int) ∈ GW := gw_at 573 (by decide +kernel) (by decide +kernel)
theorem mlX6_140 : Cond.methodLink RX6 140 yX2_hasPlace ∈ GW := gw_at 574 (by decide +kernel) (by decide +kernel)
theorem mlL_114 : Cond.methodLink RL 114 yL_room ∈ GW := gw_at 575 (by decide +kernel) (by decide +kernel)
theorem stL_room : Cond.static yL_room ∈ GW := gw_at 576 (by decide +kernel) (by decide +kernel)
theorem cwL_room : Cond.codeWith yL_room cL_room 4 (some .int) [(0, 9, 12, 13)] ∈ GW := gw_at 577 (by decide +kernel) (by decide +kernel)
theorem mlL_49 : Cond.methodLink RL 49 yX6_room ∈ GW := gw_at 578 (by decide +kernel) (by decide +kernel)
theorem imX6_room : Cond.instanceMethod yX6_room ∈ GW := gw_at 579 (by decide +kernel) (by decide +kernel)
theorem seX6_room : Cond.selects RX6 yX6_room yX6_room ∈ GW := gw_at 580 (by decide +kernel) (by decide +kernel)
theorem cdX6_room : Cond.code yX6_room cX6_room 2 (some .int) ∈ GW := gw_at 581 (by decide +kernel) (by decide +kernel)
theorem mlL_121 : Cond.methodLink RL 121 yL_pass ∈ GW := gw_at 582 (by decide +kernel) (by decide +kernel)
theorem stL_pass : Cond.static yL_pass ∈ GW := gw_at 583 (by decide +kernel) (by decide +kernel)
theorem cwL_pass : Cond.codeWith yL_pass cL_pass 4 (some .int) [(0, 9, 12, 13)] ∈ GW := gw_at 584 (by decide +kernel) (by decide +kernel)
theorem mlL_52 : Cond.methodLink RL 52 yX6_pass ∈ GW := gw_at 585 (by decide +kernel) (by decide +kernel)
theorem imX6_pass : Cond.instanceMethod yX6_pass ∈ GW := gw_at 586 (by decide +kernel) (by decide +kernel)
theorem seX6_pass : Cond.selects RX6 yX6_pass yX6_pass ∈ GW := gw_at 587 (by decide +kernel) (by decide +kernel)
theorem cdX6_pass : Cond.code yX6_pass cX6_pass 2 (some .int) ∈ GW := gw_at 588 (by decide +kernel) (by decide +kernel)
theorem mlX6_156 : Cond.methodLink RX6 156 yX4_goOn ∈ GW := gw_at 589 (by decide +kernel) (by decide +kernel)
theorem imX4_goOn : Cond.instanceMethod yX4_goOn ∈ GW := gw_at 590 (by decide +kernel) (by decide +kernel)
theorem seX4_goOn : Cond.selects RX4 yX4_goOn yX4_goOn ∈ GW := gw_at 591 (by decide +kernel) (by decide +kernel)
theorem cdX4_goOn : Cond.code yX4_goOn cX4_goOn 4 (some .int) ∈ GW := gw_at 592 (by decide +kernel) (by decide +kernel)
theorem mlX4_97 : Cond.methodLink RX4 97 yX4_ageTickets ∈ GW := gw_at 593 (by decide +kernel) (by decide +kernel)
theorem imX4_ageTickets : Cond.instanceMethod yX4_ageTickets ∈ GW := gw_at 595 (by decide +kernel) (by decide +kernel)
theorem cdX4_ageTickets : Cond.code yX4_ageTickets cX4_ageTickets 3 none ∈ GW := gw_at 596 (by decide +kernel) (by decide +kernel)
theorem mlX4_110 : Cond.methodLink RX4 110 yX5_cheapen ∈ GW := gw_at 597 (by decide +kernel) (by decide +kernel)
theorem imX5_cheapen : Cond.instanceMethod yX5_cheapen ∈ GW := gw_at 598 (by decide +kernel) (by decide +kernel)
theorem seX5_cheapen : Cond.selects RX5 yX5_cheapen yX5_cheapen ∈ GW := gw_at 599 (by decide +kernel) (by decide +kernel)
theorem cdX5_cheapen : Cond.code yX5_cheapen cX5_cheapen 1 none ∈ GW := gw_at 600 (by decide +kernel) (by decide +kernel)
theorem mlX4_116 : Cond.methodLink RX4 116 yX5_offer ∈ GW := gw_at 601 (by decide +kernel) (by decide +kernel)
theorem imX5_offer : Cond.instanceMethod yX5_offer ∈ GW := gw_at 602 (by decide +kernel) (by decide +kernel)
theorem seX5_offer : Cond.selects RX5 yX5_offer yX5_offer ∈ GW := gw_at 603 (by decide +kernel) (by decide +kernel)
theorem cdX5_offer : Cond.code yX5_offer cX5_offer 1 none ∈ GW := gw_at 604 (by decide +kernel) (by decide +kernel)
theorem mlX4_100 : Cond.methodLink RX4 100 yJ9_floorMod_7cf53 ∈ GW := gw_at 605 (by decide +kernel) (by decide +kernel)
theorem stJ9_floorMod_7cf53 : Cond.static yJ9_floorMod_7cf53 ∈ GW := gw_at 606 (by decide +kernel) (by decide +kernel)
theorem cdJ9_floorMod_7cf53 : Cond.code yJ9_floorMod_7cf53 cJ9_floorMod_7cf53 3 (some .int) ∈ GW := gw_at 607 (by decide +kernel) (by decide +kernel)
theorem mlX4_106 : Cond.methodLink RX4 106 yX4_sellToBuyer ∈ GW := gw_at 608 (by decide +kernel) (by decide +kernel)
theorem imX4_sellToBuyer : Cond.instanceMethod yX4_sellToBuyer ∈ GW := gw_at 610 (by decide +kernel) (by decide +kernel)
theorem cdX4_sellToBuyer : Cond.code yX4_sellToBuyer cX4_sellToBuyer 3 (some .boolean) ∈ GW := gw_at 611 (by decide +kernel) (by decide +kernel)
theorem mlX4_119 : Cond.methodLink RX4 119 yX4_dearestFor ∈ GW := gw_at 612 (by decide +kernel) (by decide +kernel)
theorem imX4_dearestFor : Cond.instanceMethod yX4_dearestFor ∈ GW := gw_at 614 (by decide +kernel) (by decide +kernel)
theorem cdX4_dearestFor : Cond.code yX4_dearestFor cX4_dearestFor 5 (some .int) ∈ GW := gw_at 615 (by decide +kernel) (by decide +kernel)
theorem mlX4_126 : Cond.methodLink RX4 126 yX0_takes ∈ GW := gw_at 616 (by decide +kernel) (by decide +kernel)
theorem imX0_takes : Cond.instanceMethod yX0_takes ∈ GW := gw_at 617 (by decide +kernel) (by decide +kernel)
theorem seX0_takes : Cond.selects RX0 yX0_takes yX0_takes ∈ GW := gw_at 618 (by decide +kernel) (by decide +kernel)
theorem cdX0_takes : Cond.code yX0_takes cX0_takes 2 (some .boolean) ∈ GW := gw_at 619 (by decide +kernel) (by decide +kernel)
theorem mlL_124 : Cond.methodLink RL 124 yL_count ∈ GW := gw_at 620 (by decide +kernel) (by decide +kernel)
theorem stL_count : Cond.static yL_count ∈ GW := gw_at 621 (by decide +kernel) (by decide +kernel)
theorem cwL_count : Cond.codeWith yL_count cL_count 4 (some .int) [(0, 9, 12, 21)] ∈ GW := gw_at 622 (by decide +kernel) (by decide +kernel)
theorem mlL_55 : Cond.methodLink RL 55 yX6_count ∈ GW := gw_at 623 (by decide +kernel) (by decide +kernel)
theorem imX6_count : Cond.instanceMethod yX6_count ∈ GW := gw_at 624 (by decide +kernel) (by decide +kernel)
theorem seX6_count : Cond.selects RX6 yX6_count yX6_count ∈ GW := gw_at 625 (by decide +kernel) (by decide +kernel)
theorem cdX6_count : Cond.code yX6_count cX6_count 2 (some .int) ∈ GW := gw_at 626 (by decide +kernel) (by decide +kernel)
theorem mlL_127 : Cond.methodLink RL 127 yL_foresee ∈ GW := gw_at 627 (by decide +kernel) (by decide +kernel)
theorem stL_foresee : Cond.static yL_foresee ∈ GW := gw_at 628 (by decide +kernel) (by decide +kernel)
theorem cwL_foresee : Cond.codeWith yL_foresee cL_foresee 5 (some .int) [(0, 10, 13, 13), (0, 10, 17, 21)] ∈ GW := gw_at 629 (by decide +kernel) (by decide +kernel)
theorem mlL_58 : Cond.methodLink RL 58 yX6_foresee ∈ GW := gw_at 630 (by decide +kernel) (by decide +kernel)
theorem imX6_foresee : Cond.instanceMethod yX6_foresee ∈ GW := gw_at 631 (by decide +kernel) (by decide +kernel)
theorem seX6_foresee : Cond.selects RX6 yX6_foresee yX6_foresee ∈ GW := gw_at 632 (by decide +kernel) (by decide +kernel)
theorem cdX6_foresee : Cond.code yX6_foresee cX6_foresee 4 (some .int) ∈ GW := gw_at 633 (by decide +kernel) (by decide +kernel)
theorem mlX6_162 : Cond.methodLink RX6 162 yX4_copyFrom ∈ GW := gw_at 634 (by decide +kernel) (by decide +kernel)
theorem imX4_copyFrom : Cond.instanceMethod yX4_copyFrom ∈ GW := gw_at 635 (by decide +kernel) (by decide +kernel)
theorem seX4_copyFrom : Cond.selects RX4 yX4_copyFrom yX4_copyFrom ∈ GW := gw_at 636 (by decide +kernel) (by decide +kernel)
theorem cdX4_copyFrom : Cond.code yX4_copyFrom cX4_copyFrom 3 none ∈ GW := gw_at 637 (by decide +kernel) (by decide +kernel)
theorem mlX4_180 : Cond.methodLink RX4 180 yX1_copyFrom ∈ GW := gw_at 638 (by decide +kernel) (by decide +kernel)
theorem imX1_copyFrom : Cond.instanceMethod yX1_copyFrom ∈ GW := gw_at 639 (by decide +kernel) (by decide +kernel)
theorem seX1_copyFrom : Cond.selects RX1 yX1_copyFrom yX1_copyFrom ∈ GW := gw_at 640 (by decide +kernel) (by decide +kernel)
theorem cdX1_copyFrom : Cond.code yX1_copyFrom cX1_copyFrom 2 none ∈ GW := gw_at 641 (by decide +kernel) (by decide +kernel)
theorem mlX4_184 : Cond.methodLink RX4 184 yX5_copyFrom ∈ GW := gw_at 642 (by decide +kernel) (by decide +kernel)
theorem imX5_copyFrom : Cond.instanceMethod yX5_copyFrom ∈ GW := gw_at 643 (by decide +kernel) (by decide +kernel)
theorem seX5_copyFrom : Cond.selects RX5 yX5_copyFrom yX5_copyFrom ∈ GW := gw_at 644 (by decide +kernel) (by decide +kernel)
theorem cdX5_copyFrom : Cond.code yX5_copyFrom cX5_copyFrom 2 none ∈ GW := gw_at 645 (by decide +kernel) (by decide +kernel)
theorem mlX5_52 : Cond.methodLink RX5 52 yX5_describe ∈ GW := gw_at 646 (by decide +kernel) (by decide +kernel)
theorem mlX4_191 : Cond.methodLink RX4 191 yX0_want ∈ GW := gw_at 647 (by decide +kernel) (by decide +kernel)
theorem mlX4_194 : Cond.methodLink RX4 194 yX2_copyFrom ∈ GW := gw_at 648 (by decide +kernel) (by decide +kernel)
theorem imX2_copyFrom : Cond.instanceMethod yX2_copyFrom ∈ GW := gw_at 649 (by decide +kernel) (by decide +kernel)
theorem seX2_copyFrom : Cond.selects RX2 yX2_copyFrom yX2_copyFrom ∈ GW := gw_at 650 (by decide +kernel) (by decide +kernel)
theorem cdX2_copyFrom : Cond.code yX2_copyFrom cX2_copyFrom 3 none ∈ GW := gw_at 651 (by decide +kernel) (by decide +kernel)
theorem mlX2_56 : Cond.methodLink RX2 56 yX3_copyFrom ∈ GW := gw_at 652 (by decide +kernel) (by decide +kernel)
theorem imX3_copyFrom : Cond.instanceMethod yX3_copyFrom ∈ GW := gw_at 653 (by decide +kernel) (by decide +kernel)
theorem seX3_copyFrom : Cond.selects RX3 yX3_copyFrom yX3_copyFrom ∈ GW := gw_at 654 (by decide +kernel) (by decide +kernel)
theorem cdX3_copyFrom : Cond.code yX3_copyFrom cX3_copyFrom 3 none ∈ GW := gw_at 655 (by decide +kernel) (by decide +kernel)
theorem mlL_130 : Cond.methodLink RL 130 yL_raise ∈ GW := gw_at 656 (by decide +kernel) (by decide +kernel)
theorem stL_raise : Cond.static yL_raise ∈ GW := gw_at 657 (by decide +kernel) (by decide +kernel)
theorem cwL_raise : Cond.codeWith yL_raise cL_raise 4 (some .int) [(0, 9, 12, 13)] ∈ GW := gw_at 658 (by decide +kernel) (by decide +kernel)
theorem mlL_61 : Cond.methodLink RL 61 yX6_raise ∈ GW := gw_at 659 (by decide +kernel) (by decide +kernel)
theorem imX6_raise : Cond.instanceMethod yX6_raise ∈ GW := gw_at 660 (by decide +kernel) (by decide +kernel)
theorem seX6_raise : Cond.selects RX6 yX6_raise yX6_raise ∈ GW := gw_at 661 (by decide +kernel) (by decide +kernel)
theorem cdX6_raise : Cond.code yX6_raise cX6_raise 5 (some .int) ∈ GW := gw_at 662 (by decide +kernel) (by decide +kernel)
theorem mlX6_169 : Cond.methodLink RX6 169 yX4_putPrices ∈ GW := gw_at 663 (by decide +kernel) (by decide +kernel)
theorem imX4_putPrices : Cond.instanceMethod yX4_putPrices ∈ GW := gw_at 664 (by decide +kernel) (by decide +kernel)
theorem seX4_putPrices : Cond.selects RX4 yX4_putPrices yX4_putPrices ∈ GW := gw_at 665 (by decide +kernel) (by decide +kernel)
theorem cdX4_putPrices : Cond.code yX4_putPrices cX4_putPrices 4 (some .int) ∈ GW := gw_at 666 (by decide +kernel) (by decide +kernel)
theorem mlX6_173 : Cond.methodLink RX6 173 yX6_sortUp ∈ GW := gw_at 667 (by decide +kernel) (by decide +kernel)
theorem stX6_sortUp : Cond.static yX6_sortUp ∈ GW := gw_at 668 (by decide +kernel) (by decide +kernel)
theorem cdX6_sortUp : Cond.code yX6_sortUp cX6_sortUp 5 none ∈ GW := gw_at 669 (by decide +kernel) (by decide +kernel)
theorem mlL_133 : Cond.methodLink RL 133 yL_best ∈ GW := gw_at 670 (by decide +kernel) (by decide +kernel)
theorem stL_best : Cond.static yL_best ∈ GW := gw_at 671 (by decide +kernel) (by decide +kernel)
theorem cwL_best : Cond.codeWith yL_best cL_best 4 (some .int) [(0, 9, 12, 21)] ∈ GW := gw_at 672 (by decide +kernel) (by decide +kernel)
theorem mlL_64 : Cond.methodLink RL 64 yX6_best ∈ GW := gw_at 673 (by decide +kernel) (by decide +kernel)
theorem imX6_best : Cond.instanceMethod yX6_best ∈ GW := gw_at 674 (by decide +kernel) (by decide +kernel)
theorem seX6_best : Cond.selects RX6 yX6_best yX6_best ∈ GW := gw_at 675 (by decide +kernel) (by decide +kernel)
theorem cdX6_best : Cond.code yX6_best cX6_best 2 (some .int) ∈ GW := gw_at 676 (by decide +kernel) (by decide +kernel)
theorem mlX6_177 : Cond.methodLink RX6 177 yX4_bestFor ∈ GW := gw_at 677 (by decide +kernel) (by decide +kernel)
theorem imX4_bestFor : Cond.instanceMethod yX4_bestFor ∈ GW := gw_at 678 (by decide +kernel) (by decide +kernel)
theorem seX4_bestFor : Cond.selects RX4 yX4_bestFor yX4_bestFor ∈ GW := gw_at 679 (by decide +kernel) (by decide +kernel)
theorem cdX4_bestFor : Cond.code yX4_bestFor cX4_bestFor 7 (some .int) ∈ GW := gw_at 680 (by decide +kernel) (by decide +kernel)
theorem mlX4_136 : Cond.methodLink RX4 136 yX4_isHeldBy ∈ GW := gw_at 681 (by decide +kernel) (by decide +kernel)
theorem imX4_isHeldBy : Cond.instanceMethod yX4_isHeldBy ∈ GW := gw_at 683 (by decide +kernel) (by decide +kernel)
theorem cdX4_isHeldBy : Cond.code yX4_isHeldBy cX4_isHeldBy 3 (some .boolean) ∈ GW := gw_at 684 (by decide +kernel) (by decide +kernel)
theorem mlX4_140 : Cond.methodLink RX4 140 yX4_canPay ∈ GW := gw_at 685 (by decide +kernel) (by decide +kernel)
theorem mlL_136 : Cond.methodLink RL 136 yL_most ∈ GW := gw_at 686 (by decide +kernel) (by decide +kernel)
theorem stL_most : Cond.static yL_most ∈ GW := gw_at 687 (by decide +kernel) (by decide +kernel)
theorem cwL_most : Cond.codeWith yL_most cL_most 4 (some .int) [(0, 9, 12, 21)] ∈ GW := gw_at 688 (by decide +kernel) (by decide +kernel)
theorem mlL_67 : Cond.methodLink RL 67 yX6_most ∈ GW := gw_at 689 (by decide +kernel) (by decide +kernel)
theorem imX6_most : Cond.instanceMethod yX6_most ∈ GW := gw_at 690 (by decide +kernel) (by decide +kernel)
theorem seX6_most : Cond.selects RX6 yX6_most yX6_most ∈ GW := gw_at 691 (by decide +kernel) (by decide +kernel)
theorem cdX6_most : Cond.code yX6_most cX6_most 5 (some .int) ∈ GW := gw_at 692 (by decide +kernel) (by decide +kernel)
theorem mlX6_180 : Cond.methodLink RX6 180 yX4_putDebts ∈ GW := gw_at 693 (by decide +kernel) (by decide +kernel)
theorem imX4_putDebts : Cond.instanceMethod yX4_putDebts ∈ GW := gw_at 694 (by decide +kernel) (by decide +kernel)
theorem seX4_putDebts : Cond.selects RX4 yX4_putDebts yX4_putDebts ∈ GW := gw_at 695 (by decide +kernel) (by decide +kernel)
theorem cdX4_putDebts : Cond.code yX4_putDebts cX4_putDebts 5 (some .int) ∈ GW := gw_at 696 (by decide +kernel) (by decide +kernel)
theorem clL_71 : Cond.classLink RL 71 RX8 ∈ GW := gw_at 697 (by decide +kernel) (by decide +kernel)
theorem isX8 : Cond.instantiable RX8 6 ∈ GW := gw_at 698 (by decide +kernel) (by decide +kernel)
theorem mlL_73 : Cond.methodLink RL 73 yX8_init ∈ GW := gw_at 699 (by decide +kernel) (by decide +kernel)
theorem imX8_init : Cond.instanceMethod yX8_init ∈ GW := gw_at 700 (by decide +kernel) (by decide +kernel)
theorem cdX8_init : Cond.code yX8_init cX8_init 1 none ∈ GW := gw_at 701 (by decide +kernel) (by decide +kernel)
theorem mlX8_1 : Cond.methodLink RX8 1 objectInit ∈ GW := gw_at 702 (by decide +kernel) (by decide +kernel)
theorem clX8_16 : Cond.classLink RX8 16 RX7 ∈ GW := gw_at 703 (by decide +kernel) (by decide +kernel)
theorem isX7 : Cond.instantiable RX7 9 ∈ GW := gw_at 704 (by decide +kernel) (by decide +kernel)
theorem mlX8_18 : Cond.methodLink RX8 18 yX7_init ∈ GW := gw_at 705 (by decide +kernel) (by decide +kernel)
theorem imX7_init : Cond.instanceMethod yX7_init ∈ GW := gw_at 706 (by decide +kernel) (by decide +kernel)
theorem cdX7_init : Cond.code yX7_init cX7_init 3 none ∈ GW := gw_at 707 (by decide +kernel) (by decide +kernel)
theorem mlX7_9 : Cond.methodLink RX7 9 objectInit ∈ GW := gw_at 708 (by decide +kernel) (by decide +kernel)
theorem flX7_38 : Cond.fieldLink RX7 38 "PawnRackModel$State" "day" "I" ∈ GW := gw_at 709 (by decide +kernel) (by decide +kernel)
theorem flX7_15 : Cond.fieldLink RX7 15 "PawnRackModel$State" "coins" "I" ∈ GW := gw_at 711 (by decide +kernel) (by decide +kernel)
theorem flX7_41 : Cond.fieldLink RX7 41 "PawnRackModel$State" "tickets" "I" ∈ GW := gw_at 713 (by decide +kernel) (by decide +kernel)
theorem flX7_44 : Cond.fieldLink RX7 44 "PawnRackModel$State" "interest" "I" ∈ GW := gw_at 715 (by decide +kernel) (by decide +kernel)
theorem flX7_19 : Cond.fieldLink RX7 19 "PawnRackModel$State" "own" "[I" ∈ GW := gw_at 717 (by decide +kernel) (by decide +kernel)
theorem flX7_23 : Cond.fieldLink RX7 23 "PawnRackModel$State" "trust" "[I" ∈ GW := gw_at 719 (by decide +kernel) (by decide +kernel)
theorem flX7_26 : Cond.fieldLink RX7 26 "PawnRackModel$State" "of" "[I" ∈ GW := gw_at 721 (by decide +kernel) (by decide +kernel)
theorem flX7_29 : Cond.fieldLink RX7 29 "PawnRackModel$State" "at" "[I" ∈ GW := gw_at 723 (by decide +kernel) (by decide +kernel)
theorem flX7_3 : Cond.fieldLink RX7 3 "PawnRackModel$State" "this$0" "LPawnRackModel;" ∈ GW := gw_at 725 (by decide +kernel) (by decide +kernel)
theorem flX8_28 : Cond.fieldLink RX8 28 "PawnRackModel" "thrown" "I" ∈ GW := gw_at 745 (by decide +kernel) (by decide +kernel)
theorem flX8_32 : Cond.fieldLink RX8 32 "PawnRackModel" "customers" "I" ∈ GW := gw_at 746 (by decide +kernel) (by decide +kernel)
theorem flX8_9 : Cond.fieldLink RX8 9 "PawnRackModel" "wants" "[I" ∈ GW := gw_at 747 (by decide +kernel) (by decide +kernel)
theorem flX8_13 : Cond.fieldLink RX8 13 "PawnRackModel" "purse" "[I" ∈ GW := gw_at 749 (by decide +kernel) (by decide +kernel)
theorem flX8_21 : Cond.fieldLink RX8 21 "PawnRackModel" "s" "LPawnRackModel$State;" ∈ GW := gw_at 751 (by decide +kernel) (by decide +kernel)
theorem flX8_25 : Cond.fieldLink RX8 25 "PawnRackModel" "ahead" "LPawnRackModel$State;" ∈ GW := gw_at 752 (by decide +kernel) (by decide +kernel)
theorem mlL_80 : Cond.methodLink RL 80 yX8_thrown ∈ GW := gw_at 766 (by decide +kernel) (by decide +kernel)
theorem imX8_thrown : Cond.instanceMethod yX8_thrown ∈ GW := gw_at 767 (by decide +kernel) (by decide +kernel)
theorem seX8_thrown : Cond.selects RX8 yX8_thrown yX8_thrown ∈ GW := gw_at 768 (by decide +kernel) (by decide +kernel)
theorem cdX8_thrown : Cond.code yX8_thrown cX8_thrown 1 (some .int) ∈ GW := gw_at 769 (by decide +kernel) (by decide +kernel)
theorem mlL_79 : Cond.methodLink RL 79 yX8_come ∈ GW := gw_at 770 (by decide +kernel) (by decide +kernel)
theorem imX8_come : Cond.instanceMethod yX8_come ∈ GW := gw_at 771 (by decide +kernel) (by decide +kernel)
theorem seX8_come : Cond.selects RX8 yX8_come yX8_come ∈ GW := gw_at 772 (by decide +kernel) (by decide +kernel)
theorem cdX8_come : Cond.code yX8_come cX8_come 2 (some .int) ∈ GW := gw_at 773 (by decide +kernel) (by decide +kernel)
theorem mlX8_35 : Cond.methodLink RX8 35 yX8_isIn ∈ GW := gw_at 774 (by decide +kernel) (by decide +kernel)
theorem stX8_isIn : Cond.static yX8_isIn ∈ GW := gw_at 775 (by decide +kernel) (by decide +kernel)
theorem cdX8_isIn : Cond.code yX8_isIn cX8_isIn 3 (some .boolean) ∈ GW := gw_at 776 (by decide +kernel) (by decide +kernel)
theorem mlX8_42 : Cond.methodLink RX8 42 yX8_no ∈ GW := gw_at 777 (by decide +kernel) (by decide +kernel)
theorem imX8_no : Cond.instanceMethod yX8_no ∈ GW := gw_at 779 (by decide +kernel) (by decide +kernel)
theorem cdX8_no : Cond.code yX8_no cX8_no 2 (some .int) ∈ GW := gw_at 780 (by decide +kernel) (by decide +kernel)
theorem mlL_87 : Cond.methodLink RL 87 yX8_earn ∈ GW := gw_at 781 (by decide +kernel) (by decide +kernel)
theorem imX8_earn : Cond.instanceMethod yX8_earn ∈ GW := gw_at 782 (by decide +kernel) (by decide +kernel)
theorem seX8_earn : Cond.selects RX8 yX8_earn yX8_earn ∈ GW := gw_at 783 (by decide +kernel) (by decide +kernel)
theorem cdX8_earn : Cond.code yX8_earn cX8_earn 3 (some .int) ∈ GW := gw_at 784 (by decide +kernel) (by decide +kernel)
theorem mlX8_52 : Cond.methodLink RX8 52 yX8_isCustomer ∈ GW := gw_at 785 (by decide +kernel) (by decide +kernel)
theorem imX8_isCustomer : Cond.instanceMethod yX8_isCustomer ∈ GW := gw_at 787 (by decide +kernel) (by decide +kernel)
theorem cdX8_isCustomer : Cond.code yX8_isCustomer cX8_isCustomer 2 (some .boolean) ∈ GW := gw_at 788 (by decide +kernel) (by decide +kernel)
theorem mlL_91 : Cond.methodLink RL 91 yX8_setBuyer ∈ GW := gw_at 789 (by decide +kernel) (by decide +kernel)
theorem imX8_setBuyer : Cond.instanceMethod yX8_setBuyer ∈ GW := gw_at 790 (by decide +kernel) (by decide +kernel)
theorem seX8_setBuyer : Cond.selects RX8 yX8_setBuyer yX8_setBuyer ∈ GW := gw_at 791 (by decide +kernel) (by decide +kernel)
theorem cdX8_setBuyer : Cond.code yX8_setBuyer cX8_setBuyer 5 (some .int) ∈ GW := gw_at 792 (by decide +kernel) (by decide +kernel)
theorem mlL_94 : Cond.methodLink RL 94 yX8_customer ∈ GW := gw_at 793 (by decide +kernel) (by decide +kernel)
theorem imX8_customer : Cond.instanceMethod yX8_customer ∈ GW := gw_at 794 (by decide +kernel) (by decide +kernel)
theorem seX8_customer : Cond.selects RX8 yX8_customer yX8_customer ∈ GW := gw_at 795 (by decide +kernel) (by decide +kernel)
theorem cdX8_customer : Cond.code yX8_customer cX8_customer 3 (some .int) ∈ GW := gw_at 796 (by decide +kernel) (by decide +kernel)
theorem mlX8_63 : Cond.methodLink RX8 63 yX8_customerTold ∈ GW := gw_at 797 (by decide +kernel) (by decide +kernel)
theorem imX8_customerTold : Cond.instanceMethod yX8_customerTold ∈ GW := gw_at 799 (by decide +kernel) (by decide +kernel)
theorem cdX8_customerTold : Cond.code yX8_customerTold cX8_customerTold 5 (some .int) ∈ GW := gw_at 800 (by decide +kernel) (by decide +kernel)
theorem mlX8_56 : Cond.methodLink RX8 56 yX7_get ∈ GW := gw_at 801 (by decide +kernel) (by decide +kernel)
theorem imX7_get : Cond.instanceMethod yX7_get ∈ GW := gw_at 802 (by decide +kernel) (by decide +kernel)
theorem seX7_get : Cond.selects RX7 yX7_get yX7_get ∈ GW := gw_at 803 (by decide +kernel) (by decide +kernel)
theorem cdX7_get : Cond.code yX7_get cX7_get 3 (some .int) ∈ GW := gw_at 804 (by decide +kernel) (by decide +kernel)
theorem mlX8_60 : Cond.methodLink RX8 60 yX7_owed ∈ GW := gw_at 805 (by decide +kernel) (by decide +kernel)
theorem imX7_owed : Cond.instanceMethod yX7_owed ∈ GW := gw_at 806 (by decide +kernel) (by decide +kernel)
theorem seX7_owed : Cond.selects RX7 yX7_owed yX7_owed ∈ GW := gw_at 807 (by decide +kernel) (by decide +kernel)
theorem cdX7_owed : Cond.code yX7_owed cX7_owed 2 (some .int) ∈ GW := gw_at 808 (by decide +kernel) (by decide +kernel)
theorem mlX7_58 : Cond.methodLink RX7 58 yX7_get ∈ GW := gw_at 809 (by decide +kernel) (by decide +kernel)
theorem mlX7_67 : Cond.methodLink RX7 67 yX7_interestOf ∈ GW := gw_at 810 (by decide +kernel) (by decide +kernel)
theorem imX7_interestOf : Cond.instanceMethod yX7_interestOf ∈ GW := gw_at 811 (by decide +kernel) (by decide +kernel)
theorem seX7_interestOf : Cond.selects RX7 yX7_interestOf yX7_interestOf ∈ GW := gw_at 812 (by decide +kernel) (by decide +kernel)
theorem cdX7_interestOf : Cond.code yX7_interestOf cX7_interestOf 2 (some .int) ∈ GW := gw_at 813 (by decide +kernel) (by decide +kernel)
theorem mlX7_62 : Cond.methodLink RX7 62 yJ9_max_7cf53 ∈ GW := gw_at 814 (by decide +kernel) (by decide +kernel)
theorem mlL_98 : Cond.methodLink RL 98 yX8_pledge ∈ GW := gw_at 815 (by decide +kernel) (by decide +kernel)
theorem imX8_pledge : Cond.instanceMethod yX8_pledge ∈ GW := gw_at 816 (by decide +kernel) (by decide +kernel)
theorem seX8_pledge : Cond.selects RX8 yX8_pledge yX8_pledge ∈ GW := gw_at 817 (by decide +kernel) (by decide +kernel)
theorem cdX8_pledge : Cond.code yX8_pledge cX8_pledge 8 (some .int) ∈ GW := gw_at 818 (by decide +kernel) (by decide +kernel)
theorem mlX8_66 : Cond.methodLink RX8 66 yJ9_max_7cf53 ∈ GW := gw_at 819 (by decide +kernel) (by decide +kernel)
theorem mlX8_71 : Cond.methodLink RX8 71 yX7_gap ∈ GW := gw_at 820 (by decide +kernel) (by decide +kernel)
theorem imX7_gap : Cond.instanceMethod yX7_gap ∈ GW := gw_at 821 (by decide +kernel) (by decide +kernel)
theorem seX7_gap : Cond.selects RX7 yX7_gap yX7_gap ∈ GW := gw_at 822 (by decide +kernel) (by decide +kernel)
theorem cdX7_gap : Cond.code yX7_gap cX7_gap 5 (some .int) ∈ GW := gw_at 823 (by decide +kernel) (by decide +kernel)
theorem mlX8_83 : Cond.methodLink RX8 83 (⟨"java/lang/System", "arraycopy", "(Ljava/lang/Object;ILjava/lang/Object;II)V"⟩ : MethodName) ∈ GW := gw_at 826 (by decide +kernel) (by decide +kernel)
theorem st_arraycopy : Cond.static arraycopyName ∈ GW := gw_at 827 (by decide +kernel) (by decide +kernel)
theorem nt_arraycopy : Cond.native arraycopyName ∈ GW := gw_at 828 (by decide +kernel) (by decide +kernel)
theorem mlX8_89 : Cond.methodLink RX8 89 yX7_lay ∈ GW := gw_at 829 (by decide +kernel) (by decide +kernel)
theorem imX7_lay : Cond.instanceMethod yX7_lay ∈ GW := gw_at 830 (by decide +kernel) (by decide +kernel)
theorem seX7_lay : Cond.selects RX7 yX7_lay yX7_lay ∈ GW := gw_at 831 (by decide +kernel) (by decide +kernel)
theorem cdX7_lay : Cond.code yX7_lay cX7_lay 4 none ∈ GW := gw_at 832 (by decide +kernel) (by decide +kernel)
theorem mlX7_54 : Cond.methodLink RX7 54 yX7_set ∈ GW := gw_at 833 (by decide +kernel) (by decide +kernel)
theorem imX7_set : Cond.instanceMethod yX7_set ∈ GW := gw_at 834 (by decide +kernel) (by decide +kernel)
theorem seX7_set : Cond.selects RX7 yX7_set yX7_set ∈ GW := gw_at 835 (by decide +kernel) (by decide +kernel)
theorem cdX7_set : Cond.code yX7_set cX7_set 4 none ∈ GW := gw_at 836 (by decide +kernel) (by decide +kernel)
theorem mlL_101 : Cond.methodLink RL 101 yX8_ticket ∈ GW := gw_at 837 (by decide +kernel) (by decide +kernel)
theorem imX8_ticket : Cond.instanceMethod yX8_ticket ∈ GW := gw_at 838 (by decide +kernel) (by decide +kernel)
theorem seX8_ticket : Cond.selects RX8 yX8_ticket yX8_ticket ∈ GW := gw_at 839 (by decide +kernel) (by decide +kernel)
theorem cdX8_ticket : Cond.code yX8_ticket cX8_ticket 3 (some .int) ∈ GW := gw_at 840 (by decide +kernel) (by decide +kernel)
theorem mlX8_99 : Cond.methodLink RX8 99 yX8_isTicket ∈ GW := gw_at 841 (by decide +kernel) (by decide +kernel)
theorem imX8_isTicket : Cond.instanceMethod yX8_isTicket ∈ GW := gw_at 843 (by decide +kernel) (by decide +kernel)
theorem cdX8_isTicket : Cond.code yX8_isTicket cX8_isTicket 2 (some .boolean) ∈ GW := gw_at 844 (by decide +kernel) (by decide +kernel)
theorem mlX8_102 : Cond.methodLink RX8 102 yX8_ticketTold ∈ GW := gw_at 845 (by decide +kernel) (by decide +kernel)
theorem imX8_ticketTold : Cond.instanceMethod yX8_ticketTold ∈ GW := gw_at 847 (by decide +kernel) (by decide +kernel)
theorem cdX8_ticketTold : Cond.code yX8_ticketTold cX8_ticketTold 4 (some .int) ∈ GW := gw_at 848 (by decide +kernel) (by decide +kernel)
theorem mlX8_96 : Cond.methodLink RX8 96 yX8_shelfOf ∈ GW := gw_at 849 (by decide +kernel) (by decide +kernel)
theorem stX8_shelfOf : Cond.static yX8_shelfOf ∈ GW := gw_at 850 (by decide +kernel) (by decide +kernel)
theorem cdX8_shelfOf : Cond.code yX8_shelfOf cX8_shelfOf 1 (some .int) ∈ GW := gw_at 851 (by decide +kernel) (by decide +kernel)
theorem flX8_93 : Cond.fieldLink RX8 93 "PawnRackModel" "FROM" "[I" ∈ GW := gw_at 852 (by decide +kernel) (by decide +kernel)
theorem mlL_104 : Cond.methodLink RL 104 yX8_owes ∈ GW := gw_at 853 (by decide +kernel) (by decide +kernel)
theorem imX8_owes : Cond.instanceMethod yX8_owes ∈ GW := gw_at 854 (by decide +kernel) (by decide +kernel)
theorem seX8_owes : Cond.selects RX8 yX8_owes yX8_owes ∈ GW := gw_at 855 (by decide +kernel) (by decide +kernel)
theorem cdX8_owes : Cond.code yX8_owes cX8_owes 2 (some .int) ∈ GW := gw_at 856 (by decide +kernel) (by decide +kernel)
theorem mlL_107 : Cond.methodLink RL 107 yX8_renew ∈ GW := gw_at 857 (by decide +kernel) (by decide +kernel)
theorem imX8_renew : Cond.instanceMethod yX8_renew ∈ GW := gw_at 858 (by decide +kernel) (by decide +kernel)
theorem seX8_renew : Cond.selects RX8 yX8_renew yX8_renew ∈ GW := gw_at 859 (by decide +kernel) (by decide +kernel)
theorem cdX8_renew : Cond.code yX8_renew cX8_renew 4 (some .int) ∈ GW := gw_at 860 (by decide +kernel) (by decide +kernel)
theorem mlX8_108 : Cond.methodLink RX8 108 yX7_interestOf ∈ GW := gw_at 861 (by decide +kernel) (by decide +kernel)
theorem mlX8_111 : Cond.methodLink RX8 111 yX8_pay ∈ GW := gw_at 862 (by decide +kernel) (by decide +kernel)
theorem imX8_pay : Cond.instanceMethod yX8_pay ∈ GW := gw_at 864 (by decide +kernel) (by decide +kernel)
theorem cdX8_pay : Cond.code yX8_pay cX8_pay 4 none ∈ GW := gw_at 865 (by decide +kernel) (by decide +kernel)
theorem mlX8_115 : Cond.methodLink RX8 115 yX7_set ∈ GW := gw_at 866 (by decide +kernel) (by decide +kernel)
theorem mlL_110 : Cond.methodLink RL 110 yX8_fetch ∈ GW := gw_at 867 (by decide +kernel) (by decide +kernel)
theorem imX8_fetch : Cond.instanceMethod yX8_fetch ∈ GW := gw_at 868 (by decide +kernel) (by decide +kernel)
theorem seX8_fetch : Cond.selects RX8 yX8_fetch yX8_fetch ∈ GW := gw_at 869 (by decide +kernel) (by decide +kernel)
theorem cdX8_fetch : Cond.code yX8_fetch cX8_fetch 4 (some .int) ∈ GW := gw_at 870 (by decide +kernel) (by decide +kernel)
theorem mlX8_118 : Cond.methodLink RX8 118 yX7_take ∈ GW := gw_at 871 (by decide +kernel) (by decide +kernel)
theorem imX7_take : Cond.instanceMethod yX7_take ∈ GW := gw_at 872 (by decide +kernel) (by decide +kernel)
theorem seX7_take : Cond.selects RX7 yX7_take yX7_take ∈ GW := gw_at 873 (by decide +kernel) (by decide +kernel)
theorem cdX7_take : Cond.code yX7_take cX7_take 3 none ∈ GW := gw_at 874 (by decide +kernel) (by decide +kernel)
theorem mlX8_122 : Cond.methodLink RX8 122 yJ9_min_7cf53 ∈ GW := gw_at 875 (by decide +kernel) (by decide +kernel)
theorem mlL_113 : Cond.methodLink RL 113 yX8_at ∈ GW := gw_at 876 (by decide +kernel) (by decide +kernel)
theorem imX8_at : Cond.instanceMethod yX8_at ∈ GW := gw_at 877 (by decide +kernel) (by decide +kernel)
theorem seX8_at : Cond.selects RX8 yX8_at yX8_at ∈ GW := gw_at 878 (by decide +kernel) (by decide +kernel)
theorem cdX8_at : Cond.code yX8_at cX8_at 3 (some .int) ∈ GW := gw_at 879 (by decide +kernel) (by decide +kernel)
theorem mlL_116 : Cond.methodLink RL 116 yX8_room ∈ GW := gw_at 880 (by decide +kernel) (by decide +kernel)
theorem imX8_room : Cond.instanceMethod yX8_room ∈ GW := gw_at 881 (by decide +kernel) (by decide +kernel)
theorem seX8_room : Cond.selects RX8 yX8_room yX8_room ∈ GW := gw_at 882 (by decide +kernel) (by decide +kernel)
theorem cdX8_room : Cond.code yX8_room cX8_room 3 (some .int) ∈ GW := gw_at 883 (by decide +kernel) (by decide +kernel)
theorem mlL_120 : Cond.methodLink RL 120 yX8_tidy ∈ GW := gw_at 884 (by decide +kernel) (by decide +kernel)
theorem imX8_tidy : Cond.instanceMethod yX8_tidy ∈ GW := gw_at 885 (by decide +kernel) (by decide +kernel)
theorem seX8_tidy : Cond.selects RX8 yX8_tidy yX8_tidy ∈ GW := gw_at 886 (by decide +kernel) (by decide +kernel)
theorem cdX8_tidy : Cond.code yX8_tidy cX8_tidy 6 (some .int) ∈ GW := gw_at 887 (by decide +kernel) (by decide +kernel)
theorem mlL_123 : Cond.methodLink RL 123 yX8_pass ∈ GW := gw_at 888 (by decide +kernel) (by decide +kernel)
theorem imX8_pass : Cond.instanceMethod yX8_pass ∈ GW := gw_at 889 (by decide +kernel) (by decide +kernel)
theorem seX8_pass : Cond.selects RX8 yX8_pass yX8_pass ∈ GW := gw_at 890 (by decide +kernel) (by decide +kernel)
theorem cdX8_pass : Cond.code yX8_pass cX8_pass 4 (some .int) ∈ GW := gw_at 891 (by decide +kernel) (by decide +kernel)
theorem mlX8_128 : Cond.methodLink RX8 128 yX7_pass ∈ GW := gw_at 892 (by decide +kernel) (by decide +kernel)
theorem imX7_pass : Cond.instanceMethod yX7_pass ∈ GW := gw_at 893 (by decide +kernel) (by decide +kernel)
theorem seX7_pass : Cond.selects RX7 yX7_pass yX7_pass ∈ GW := gw_at 894 (by decide +kernel) (by decide +kernel)
theorem cdX7_pass : Cond.code yX7_pass cX7_pass 3 (some .int) ∈ GW := gw_at 895 (by decide +kernel) (by decide +kernel)
theorem mlX7_81 : Cond.methodLink RX7 81 yX7_isBought ∈ GW := gw_at 896 (by decide +kernel) (by decide +kernel)
theorem imX7_isBought : Cond.instanceMethod yX7_isBought ∈ GW := gw_at 898 (by decide +kernel) (by decide +kernel)
theorem cdX7_isBought : Cond.code yX7_isBought cX7_isBought 4 (some .boolean) ∈ GW := gw_at 899 (by decide +kernel) (by decide +kernel)
theorem mlX7_77 : Cond.methodLink RX7 77 yX7_take ∈ GW := gw_at 900 (by decide +kernel) (by decide +kernel)
theorem mlL_126 : Cond.methodLink RL 126 yX8_count ∈ GW := gw_at 901 (by decide +kernel) (by decide +kernel)
theorem imX8_count : Cond.instanceMethod yX8_count ∈ GW := gw_at 902 (by decide +kernel) (by decide +kernel)
theorem seX8_count : Cond.selects RX8 yX8_count yX8_count ∈ GW := gw_at 903 (by decide +kernel) (by decide +kernel)
theorem cdX8_count : Cond.code yX8_count cX8_count 2 (some .int) ∈ GW := gw_at 904 (by decide +kernel) (by decide +kernel)
theorem mlX8_135 : Cond.methodLink RX8 135 yX8_counted ∈ GW := gw_at 905 (by decide +kernel) (by decide +kernel)
theorem imX8_counted : Cond.instanceMethod yX8_counted ∈ GW := gw_at 907 (by decide +kernel) (by decide +kernel)
theorem cdX8_counted : Cond.code yX8_counted cX8_counted 5 (some .int) ∈ GW := gw_at 908 (by decide +kernel) (by decide +kernel)
theorem mlX8_132 : Cond.methodLink RX8 132 yX7_how ∈ GW := gw_at 909 (by decide +kernel) (by decide +kernel)
theorem imX7_how : Cond.instanceMethod yX7_how ∈ GW := gw_at 910 (by decide +kernel) (by decide +kernel)
theorem seX7_how : Cond.selects RX7 yX7_how yX7_how ∈ GW := gw_at 911 (by decide +kernel) (by decide +kernel)
theorem cdX7_how : Cond.code yX7_how cX7_how 4 (some .int) ∈ GW := gw_at 912 (by decide +kernel) (by decide +kernel)
theorem mlL_129 : Cond.methodLink RL 129 yX8_foresee ∈ GW := gw_at 913 (by decide +kernel) (by decide +kernel)
theorem imX8_foresee : Cond.instanceMethod yX8_foresee ∈ GW := gw_at 914 (by decide +kernel) (by decide +kernel)
theorem seX8_foresee : Cond.selects RX8 yX8_foresee yX8_foresee ∈ GW := gw_at 915 (by decide +kernel) (by decide +kernel)
theorem cdX8_foresee : Cond.code yX8_foresee cX8_foresee 5 (some .int) ∈ GW := gw_at 916 (by decide +kernel) (by decide +kernel)
theorem mlX8_138 : Cond.methodLink RX8 138 yX7_become ∈ GW := gw_at 917 (by decide +kernel) (by decide +kernel)
theorem imX7_become : Cond.instanceMethod yX7_become ∈ GW := gw_at 918 (by decide +kernel) (by decide +kernel)
theorem seX7_become : Cond.selects RX7 yX7_become yX7_become ∈ GW := gw_at 919 (by decide +kernel) (by decide +kernel)
theorem cdX7_become : Cond.code yX7_become cX7_become 2 none ∈ GW := gw_at 920 (by decide +kernel) (by decide +kernel)
theorem mlX7_47 : Cond.methodLink RX7 47 yX7_copy ∈ GW := gw_at 921 (by decide +kernel) (by decide +kernel)
theorem imX7_copy : Cond.instanceMethod yX7_copy ∈ GW := gw_at 923 (by decide +kernel) (by decide +kernel)
theorem cdX7_copy : Cond.code yX7_copy cX7_copy 3 none ∈ GW := gw_at 924 (by decide +kernel) (by decide +kernel)
theorem mlX7_32 : Cond.methodLink RX7 32 (⟨"java/lang/System", "arraycopy", "(Ljava/lang/Object;ILjava/lang/Object;II)V"⟩ : MethodName) ∈ GW := gw_at 925 (by decide +kernel) (by decide +kernel)
theorem mlL_132 : Cond.methodLink RL 132 yX8_raise ∈ GW := gw_at 926 (by decide +kernel) (by decide +kernel)
theorem imX8_raise : Cond.instanceMethod yX8_raise ∈ GW := gw_at 927 (by decide +kernel) (by decide +kernel)
theorem seX8_raise : Cond.selects RX8 yX8_raise yX8_raise ∈ GW := gw_at 928 (by decide +kernel) (by decide +kernel)
theorem cdX8_raise : Cond.code yX8_raise cX8_raise 7 (some .int) ∈ GW := gw_at 929 (by decide +kernel) (by decide +kernel)
theorem mlL_135 : Cond.methodLink RL 135 yX8_best ∈ GW := gw_at 930 (by decide +kernel) (by decide +kernel)
theorem imX8_best : Cond.instanceMethod yX8_best ∈ GW := gw_at 931 (by decide +kernel) (by decide +kernel)
theorem seX8_best : Cond.selects RX8 yX8_best yX8_best ∈ GW := gw_at 932 (by decide +kernel) (by decide +kernel)
theorem cdX8_best : Cond.code yX8_best cX8_best 6 (some .int) ∈ GW := gw_at 933 (by decide +kernel) (by decide +kernel)
theorem mlL_138 : Cond.methodLink RL 138 yX8_most ∈ GW := gw_at 934 (by decide +kernel) (by decide +kernel)
theorem imX8_most : Cond.instanceMethod yX8_most ∈ GW := gw_at 935 (by decide +kernel) (by decide +kernel)
theorem seX8_most : Cond.selects RX8 yX8_most yX8_most ∈ GW := gw_at 936 (by decide +kernel) (by decide +kernel)
theorem cdX8_most : Cond.code yX8_most cX8_most 8 (some .int) ∈ GW := gw_at 937 (by decide +kernel) (by decide +kernel)
theorem mlL_143 : Cond.methodLink RL 143 yX8_fetched ∈ GW := gw_at 938 (by decide +kernel) (by decide +kernel)
theorem imX8_fetched : Cond.instanceMethod yX8_fetched ∈ GW := gw_at 939 (by decide +kernel) (by decide +kernel)
theorem seX8_fetched : Cond.selects RX8 yX8_fetched yX8_fetched ∈ GW := gw_at 940 (by decide +kernel) (by decide +kernel)
theorem cdX8_fetched : Cond.code yX8_fetched cX8_fetched 2 (some .double) ∈ GW := gw_at 941 (by decide +kernel) (by decide +kernel)
theorem mlL_148 : Cond.methodLink RL 148 yX8_digest ∈ GW := gw_at 942 (by decide +kernel) (by decide +kernel)
theorem imX8_digest : Cond.instanceMethod yX8_digest ∈ GW := gw_at 943 (by decide +kernel) (by decide +kernel)
theorem seX8_digest : Cond.selects RX8 yX8_digest yX8_digest ∈ GW := gw_at 944 (by decide +kernel) (by decide +kernel)
theorem cdX8_digest : Cond.code yX8_digest cX8_digest 5 (some .long) ∈ GW := gw_at 945 (by decide +kernel) (by decide +kernel)
theorem ckX8_142 : Cond.constantLong RX8 142 719 ∈ GW := gw_at 946 (by decide +kernel) (by decide +kernel)
theorem ckX8_144 : Cond.constantLong RX8 144 31 ∈ GW := gw_at 947 (by decide +kernel) (by decide +kernel)
theorem ac_long : Cond.arrayClass .long ∈ GW := gw_at 948 (by decide +kernel) (by decide +kernel)
theorem seX4_loansHeld : Cond.selects RX4 yX4_loansHeld yX4_loansHeld ∈ GW := gw_at 0 (by decide +kernel) (by decide +kernel)
theorem seX4_ticketsOf : Cond.selects RX4 yX4_ticketsOf yX4_ticketsOf ∈ GW := gw_at 1 (by decide +kernel) (by decide +kernel)
theorem seX4_debtOf : Cond.selects RX4 yX4_debtOf yX4_debtOf ∈ GW := gw_at 2 (by decide +kernel) (by decide +kernel)
theorem seX4_ageTickets : Cond.selects RX4 yX4_ageTickets yX4_ageTickets ∈ GW := gw_at 4 (by decide +kernel) (by decide +kernel)
theorem seX4_sellToBuyer : Cond.selects RX4 yX4_sellToBuyer yX4_sellToBuyer ∈ GW := gw_at 5 (by decide +kernel) (by decide +kernel)
theorem seX4_dearestFor : Cond.selects RX4 yX4_dearestFor yX4_dearestFor ∈ GW := gw_at 6 (by decide +kernel) (by decide +kernel)
theorem seX4_isHeldBy : Cond.selects RX4 yX4_isHeldBy yX4_isHeldBy ∈ GW := gw_at 7 (by decide +kernel) (by decide +kernel)
theorem seX8_no : Cond.selects RX8 yX8_no yX8_no ∈ GW := gw_at 8 (by decide +kernel) (by decide +kernel)
theorem seX8_isCustomer : Cond.selects RX8 yX8_isCustomer yX8_isCustomer ∈ GW := gw_at 9 (by decide +kernel) (by decide +kernel)
theorem seX8_customerTold : Cond.selects RX8 yX8_customerTold yX8_customerTold ∈ GW := gw_at 10 (by decide +kernel) (by decide +kernel)
theorem seX8_isTicket : Cond.selects RX8 yX8_isTicket yX8_isTicket ∈ GW := gw_at 11 (by decide +kernel) (by decide +kernel)
theorem seX8_ticketTold : Cond.selects RX8 yX8_ticketTold yX8_ticketTold ∈ GW := gw_at 12 (by decide +kernel) (by decide +kernel)
theorem seX8_pay : Cond.selects RX8 yX8_pay yX8_pay ∈ GW := gw_at 13 (by decide +kernel) (by decide +kernel)
theorem seX7_isBought : Cond.selects RX7 yX7_isBought yX7_isBought ∈ GW := gw_at 14 (by decide +kernel) (by decide +kernel)
theorem seX8_counted : Cond.selects RX8 yX8_counted yX8_counted ∈ GW := gw_at 15 (by decide +kernel) (by decide +kernel)
theorem seX7_copy : Cond.selects RX7 yX7_copy yX7_copy ∈ GW := gw_at 16 (by decide +kernel) (by decide +kernel)
theorem uwX0 : ∀ w ∈ wsX00, w ∈ GW := gw_sub (by decide +kernel) (by decide +kernel)
theorem uwX1 : ∀ w ∈ wsX10, w ∈ GW := gw_sub (by decide +kernel) (by decide +kernel)
theorem uwX2 : ∀ w ∈ wsX20, w ∈ GW := gw_sub (by decide +kernel) (by decide +kernel)
theorem uwX3 : ∀ w ∈ wsX30, w ∈ GW := gw_sub (by decide +kernel) (by decide +kernel)
theorem uwX4 : ∀ w ∈ wsX40, w ∈ GW := gw_sub (by decide +kernel) (by decide +kernel)
theorem uwX5 : ∀ w ∈ wsX50, w ∈ GW := gw_sub (by decide +kernel) (by decide +kernel)
theorem uwX6 : ∀ w ∈ wsX60, w ∈ GW := gw_sub (by decide +kernel) (by decide +kernel)
theorem uwX7 : ∀ w ∈ wsX70, w ∈ GW := gw_sub (by decide +kernel) (by decide +kernel)
theorem uwX8 : ∀ w ∈ wsX80, w ∈ GW := gw_sub (by decide +kernel) (by decide +kernel)
end
section
theorem dX0_init_0 : decode cX0_init 0 = .ok (.aload_n 0, 1) := by decide +kernel
theorem dX0_init_1 : decode cX0_init 1 = .ok (.invokespecial 3, 3) := by decide +kernel
theorem dX0_init_4 : decode cX0_init 4 = .ok (.aload_n 0, 1) := by decide +kernel
theorem dX0_init_5 : decode cX0_init 5 = .ok (.iconst (-1), 1) := by decide +kernel
theorem dX0_init_6 : decode cX0_init 6 = .ok (.putfield 9, 3) := by decide +kernel
theorem dX0_init_9 : decode cX0_init 9 = .ok (.return_, 1) := by decide +kernel
theorem dX0_want_0 : decode cX0_want 0 = .ok (.aload_n 0, 1) := by decide +kernel
theorem dX0_want_1 : decode cX0_want 1 = .ok (.iload_n 1, 1) := by decide +kernel
theorem dX0_want_2 : decode cX0_want 2 = .ok (.putfield 9, 3) := by decide +kernel
theorem dX0_want_5 : decode cX0_want 5 = .ok (.aload_n 0, 1) := by decide +kernel
theorem dX0_want_6 : decode cX0_want 6 = .ok (.iload_n 1, 1) := by decide +kernel
theorem dX0_want_7 : decode cX0_want 7 = .ok (.iconst (-1), 1) := by decide +kernel
theorem dX0_want_8 : decode cX0_want 8 = .ok (.if_icmp .ne 7, 3) := by decide +kernel
theorem dX0_want_11 : decode cX0_want 11 = .ok (.iconst 0, 1) := by decide +kernel
theorem dX0_want_12 : decode cX0_want 12 = .ok (.goto 4, 3) := by decide +kernel
theorem dX0_want_15 : decode cX0_want 15 = .ok (.iload_n 2, 1) := by decide +kernel
theorem dX0_want_16 : decode cX0_want 16 = .ok (.putfield 15, 3) := by decide +kernel
theorem dX0_want_19 : decode cX0_want 19 = .ok (.return_, 1) := by decide +kernel
theorem dX0_takes_0 : decode cX0_takes 0 = .ok (.aload_n 1, 1) := by decide +kernel
theorem dX0_takes_1 : decode cX0_takes 1 = .ok (.getfield 18, 3) := by decide +kernel
theorem dX0_takes_4 : decode cX0_takes 4 = .ok (.iconst 2, 1) := by decide +kernel
theorem dX0_takes_5 : decode cX0_takes 5 = .ok (.if_icmp .ne 29, 3) := by decide +kernel
theorem dX0_takes_8 : decode cX0_takes 8 = .ok (.aload_n 1, 1) := by decide +kernel
theorem dX0_takes_9 : decode cX0_takes 9 = .ok (.getfield 23, 3) := by decide +kernel
theorem dX0_takes_12 : decode cX0_takes 12 = .ok (.aload_n 0, 1) := by decide +kernel
theorem dX0_takes_13 : decode cX0_takes 13 = .ok (.getfield 9, 3) := by decide +kernel
theorem dX0_takes_16 : decode cX0_takes 16 = .ok (.if_icmp .ne 18, 3) := by decide +kernel
theorem dX0_takes_19 : decode cX0_takes 19 = .ok (.aload_n 1, 1) := by decide +kernel
theorem dX0_takes_20 : decode cX0_takes 20 = .ok (.getfield 24, 3) := by decide +kernel
theorem dX0_takes_23 : decode cX0_takes 23 = .ok (.aload_n 0, 1) := by decide +kernel
theorem dX0_takes_24 : decode cX0_takes 24 = .ok (.getfield 15, 3) := by decide +kernel
theorem dX0_takes_27 : decode cX0_takes 27 = .ok (.if_icmp .gt 7, 3) := by decide +kernel
theorem dX0_takes_30 : decode cX0_takes 30 = .ok (.iconst 1, 1) := by decide +kernel
theorem dX0_takes_31 : decode cX0_takes 31 = .ok (.goto 4, 3) := by decide +kernel
theorem dX0_takes_34 : decode cX0_takes 34 = .ok (.iconst 0, 1) := by decide +kernel
theorem dX0_takes_35 : decode cX0_takes 35 = .ok (.ireturn, 1) := by decide +kernel
theorem dX1_init_0 : decode cX1_init 0 = .ok (.aload_n 0, 1) := by decide +kernel
theorem dX1_init_1 : decode cX1_init 1 = .ok (.invokespecial 1, 3) := by decide +kernel
theorem dX1_init_4 : decode cX1_init 4 = .ok (.return_, 1) := by decide +kernel
theorem dX1_begin_0 : decode cX1_begin 0 = .ok (.aload_n 0, 1) := by decide +kernel
theorem dX1_begin_1 : decode cX1_begin 1 = .ok (.iload_n 1, 1) := by decide +kernel
theorem dX1_begin_2 : decode cX1_begin 2 = .ok (.putfield 7, 3) := by decide +kernel
theorem dX1_begin_5 : decode cX1_begin 5 = .ok (.aload_n 0, 1) := by decide +kernel
theorem dX1_begin_6 : decode cX1_begin 6 = .ok (.iconst 5, 1) := by decide +kernel
theorem dX1_begin_7 : decode cX1_begin 7 = .ok (.putfield 13, 3) := by decide +kernel
theorem dX1_begin_10 : decode cX1_begin 10 = .ok (.return_, 1) := by decide +kernel
theorem dX1_loanFor_0 : decode cX1_loanFor 0 = .ok (.iconst 1, 1) := by decide +kernel
theorem dX1_loanFor_1 : decode cX1_loanFor 1 = .ok (.iload_n 1, 1) := by decide +kernel
theorem dX1_loanFor_2 : decode cX1_loanFor 2 = .ok (.bipush 40, 2) := by decide +kernel
theorem dX1_loanFor_4 : decode cX1_loanFor 4 = .ok (.iconst 4, 1) := by decide +kernel
theorem dX1_loanFor_5 : decode cX1_loanFor 5 = .ok (.aload_n 0, 1) := by decide +kernel
theorem dX1_loanFor_6 : decode cX1_loanFor 6 = .ok (.getfield 13, 3) := by decide +kernel
theorem dX1_loanFor_9 : decode cX1_loanFor 9 = .ok (.imul, 1) := by decide +kernel
theorem dX1_loanFor_10 : decode cX1_loanFor 10 = .ok (.iadd, 1) := by decide +kernel
theorem dX1_loanFor_11 : decode cX1_loanFor 11 = .ok (.imul, 1) := by decide +kernel
theorem dX1_loanFor_12 : decode cX1_loanFor 12 = .ok (.bipush 100, 2) := by decide +kernel
theorem dX1_loanFor_14 : decode cX1_loanFor 14 = .ok (.idiv, 1) := by decide +kernel
theorem dX1_loanFor_15 : decode cX1_loanFor 15 = .ok (.invokestatic 16, 3) := by decide +kernel
theorem dX1_loanFor_18 : decode cX1_loanFor 18 = .ok (.ireturn, 1) := by decide +kernel
theorem dX1_changeTrust_0 : decode cX1_changeTrust 0 = .ok (.aload_n 0, 1) := by decide +kernel
theorem dX1_changeTrust_1 : decode cX1_changeTrust 1 = .ok (.iconst 0, 1) := by decide +kernel
theorem dX1_changeTrust_2 : decode cX1_changeTrust 2 = .ok (.bipush 10, 2) := by decide +kernel
theorem dX1_changeTrust_4 : decode cX1_changeTrust 4 = .ok (.aload_n 0, 1) := by decide +kernel
theorem dX1_changeTrust_5 : decode cX1_changeTrust 5 = .ok (.getfield 13, 3) := by decide +kernel
theorem dX1_changeTrust_8 : decode cX1_changeTrust 8 = .ok (.iload_n 1, 1) := by decide +kernel
theorem dX1_changeTrust_9 : decode cX1_changeTrust 9 = .ok (.iadd, 1) := by decide +kernel
theorem dX1_changeTrust_10 : decode cX1_changeTrust 10 = .ok (.invokestatic 22, 3) := by decide +kernel
theorem dX1_changeTrust_13 : decode cX1_changeTrust 13 = .ok (.invokestatic 16, 3) := by decide +kernel
theorem dX1_changeTrust_16 : decode cX1_changeTrust 16 = .ok (.putfield 13, 3) := by decide +kernel
theorem dX1_changeTrust_19 : decode cX1_changeTrust 19 = .ok (.return_, 1) := by decide +kernel
theorem dX1_copyFrom_0 : decode cX1_copyFrom 0 = .ok (.aload_n 0, 1) := by decide +kernel
theorem dX1_copyFrom_1 : decode cX1_copyFrom 1 = .ok (.aload_n 1, 1) := by decide +kernel
theorem dX1_copyFrom_2 : decode cX1_copyFrom 2 = .ok (.getfield 7, 3) := by decide +kernel
theorem dX1_copyFrom_5 : decode cX1_copyFrom 5 = .ok (.putfield 7, 3) := by decide +kernel
theorem dX1_copyFrom_8 : decode cX1_copyFrom 8 = .ok (.aload_n 0, 1) := by decide +kernel
theorem dX1_copyFrom_9 : decode cX1_copyFrom 9 = .ok (.aload_n 1, 1) := by decide +kernel
theorem dX1_copyFrom_10 : decode cX1_copyFrom 10 = .ok (.getfield 13, 3) := by decide +kernel
theorem dX1_copyFrom_13 : decode cX1_copyFrom 13 = .ok (.putfield 13, 3) := by decide +kernel
theorem dX1_copyFrom_16 : decode cX1_copyFrom 16 = .ok (.return_, 1) := by decide +kernel
theorem dX2_init_0 : decode cX2_init 0 = .ok (.aload_n 0, 1) := by decide +kernel
theorem dX2_init_1 : decode cX2_init 1 = .ok (.invokespecial 3, 3) := by decide +kernel
theorem dX2_init_4 : decode cX2_init 4 = .ok (.aload_n 0, 1) := by decide +kernel
theorem dX2_init_5 : decode cX2_init 5 = .ok (.iconst 3, 1) := by decide +kernel
theorem dX2_init_6 : decode cX2_init 6 = .ok (.anewarray 9, 3) := by decide +kernel
theorem dX2_init_9 : decode cX2_init 9 = .ok (.dup, 1) := by decide +kernel
theorem dX2_init_10 : decode cX2_init 10 = .ok (.iconst 0, 1) := by decide +kernel
theorem dX2_init_11 : decode cX2_init 11 = .ok (.new 9, 3) := by decide +kernel
theorem dX2_init_14 : decode cX2_init 14 = .ok (.dup, 1) := by decide +kernel
theorem dX2_init_15 : decode cX2_init 15 = .ok (.bipush 10, 2) := by decide +kernel
theorem dX2_init_17 : decode cX2_init 17 = .ok (.invokespecial 11, 3) := by decide +kernel
theorem dX2_init_20 : decode cX2_init 20 = .ok (.aastore, 1) := by decide +kernel
theorem dX2_init_21 : decode cX2_init 21 = .ok (.dup, 1) := by decide +kernel
theorem dX2_init_22 : decode cX2_init 22 = .ok (.iconst 1, 1) := by decide +kernel
theorem dX2_init_23 : decode cX2_init 23 = .ok (.new 9, 3) := by decide +kernel
theorem dX2_init_26 : decode cX2_init 26 = .ok (.dup, 1) := by decide +kernel
theorem dX2_init_27 : decode cX2_init 27 = .ok (.bipush 20, 2) := by decide +kernel
theorem dX2_init_29 : decode cX2_init 29 = .ok (.invokespecial 11, 3) := by decide +kernel
theorem dX2_init_32 : decode cX2_init 32 = .ok (.aastore, 1) := by decide +kernel
theorem dX2_init_33 : decode cX2_init 33 = .ok (.dup, 1) := by decide +kernel
theorem dX2_init_34 : decode cX2_init 34 = .ok (.iconst 2, 1) := by decide +kernel
theorem dX2_init_35 : decode cX2_init 35 = .ok (.new 9, 3) := by decide +kernel
theorem dX2_init_38 : decode cX2_init 38 = .ok (.dup, 1) := by decide +kernel
theorem dX2_init_39 : decode cX2_init 39 = .ok (.bipush 30, 2) := by decide +kernel
theorem dX2_init_41 : decode cX2_init 41 = .ok (.invokespecial 11, 3) := by decide +kernel
theorem dX2_init_44 : decode cX2_init 44 = .ok (.aastore, 1) := by decide +kernel
theorem dX2_init_45 : decode cX2_init 45 = .ok (.putfield 14, 3) := by decide +kernel
theorem dX2_init_48 : decode cX2_init 48 = .ok (.return_, 1) := by decide +kernel
theorem dX2_hasPlace_0 : decode cX2_hasPlace 0 = .ok (.iload_n 1, 1) := by decide +kernel
theorem dX2_hasPlace_1 : decode cX2_hasPlace 1 = .ok (.iconst 0, 1) := by decide +kernel
theorem dX2_hasPlace_2 : decode cX2_hasPlace 2 = .ok (.aload_n 0, 1) := by decide +kernel
theorem dX2_hasPlace_3 : decode cX2_hasPlace 3 = .ok (.getfield 14, 3) := by decide +kernel
theorem dX2_hasPlace_6 : decode cX2_hasPlace 6 = .ok (.arraylength, 1) := by decide +kernel
theorem dX2_hasPlace_7 : decode cX2_hasPlace 7 = .ok (.iconst 1, 1) := by decide +kernel
theorem dX2_hasPlace_8 : decode cX2_hasPlace 8 = .ok (.isub, 1) := by decide +kernel
theorem dX2_hasPlace_9 : decode cX2_hasPlace 9 = .ok (.invokestatic 20, 3) := by decide +kernel
theorem dX2_hasPlace_12 : decode cX2_hasPlace 12 = .ok (.ifCond .eq 27, 3) := by decide +kernel
theorem dX2_hasPlace_15 : decode cX2_hasPlace 15 = .ok (.iload_n 2, 1) := by decide +kernel
theorem dX2_hasPlace_16 : decode cX2_hasPlace 16 = .ok (.iconst 0, 1) := by decide +kernel
theorem dX2_hasPlace_17 : decode cX2_hasPlace 17 = .ok (.aload_n 0, 1) := by decide +kernel
theorem dX2_hasPlace_18 : decode cX2_hasPlace 18 = .ok (.getfield 14, 3) := by decide +kernel
theorem dX2_hasPlace_21 : decode cX2_hasPlace 21 = .ok (.iload_n 1, 1) := by decide +kernel
theorem dX2_hasPlace_22 : decode cX2_hasPlace 22 = .ok (.aaload, 1) := by decide +kernel
theorem dX2_hasPlace_23 : decode cX2_hasPlace 23 = .ok (.getfield 24, 3) := by decide +kernel
theorem dX2_hasPlace_26 : decode cX2_hasPlace 26 = .ok (.arraylength, 1) := by decide +kernel
theorem dX2_hasPlace_27 : decode cX2_hasPlace 27 = .ok (.iconst 1, 1) := by decide +kernel
theorem dX2_hasPlace_28 : decode cX2_hasPlace 28 = .ok (.isub, 1) := by decide +kernel
theorem dX2_hasPlace_29 : decode cX2_hasPlace 29 = .ok (.invokestatic 20, 3) := by decide +kernel
theorem dX2_hasPlace_32 : decode cX2_hasPlace 32 = .ok (.ifCond .eq 7, 3) := by decide +kernel
theorem dX2_hasPlace_35 : decode cX2_hasPlace 35 = .ok (.iconst 1, 1) := by decide +kernel
theorem dX2_hasPlace_36 : decode cX2_hasPlace 36 = .ok (.goto 4, 3) := by decide +kernel
theorem dX2_hasPlace_39 : decode cX2_hasPlace 39 = .ok (.iconst 0, 1) := by decide +kernel
theorem dX2_hasPlace_40 : decode cX2_hasPlace 40 = .ok (.ireturn, 1) := by decide +kernel
theorem dX2_spotFor_0 : decode cX2_spotFor 0 = .ok (.iconst 0, 1) := by decide +kernel
theorem dX2_spotFor_1 : decode cX2_spotFor 1 = .ok (.istore_n 2, 1) := by decide +kernel
theorem dX2_spotFor_2 : decode cX2_spotFor 2 = .ok (.iload_n 2, 1) := by decide +kernel
theorem dX2_spotFor_3 : decode cX2_spotFor 3 = .ok (.aload_n 0, 1) := by decide +kernel
theorem dX2_spotFor_4 : decode cX2_spotFor 4 = .ok (.getfield 14, 3) := by decide +kernel
theorem dX2_spotFor_7 : decode cX2_spotFor 7 = .ok (.arraylength, 1) := by decide +kernel
theorem dX2_spotFor_8 : decode cX2_spotFor 8 = .ok (.if_icmp .ge 32, 3) := by decide +kernel
theorem dX2_spotFor_11 : decode cX2_spotFor 11 = .ok (.aload_n 0, 1) := by decide +kernel
theorem dX2_spotFor_12 : decode cX2_spotFor 12 = .ok (.getfield 14, 3) := by decide +kernel
theorem dX2_spotFor_15 : decode cX2_spotFor 15 = .ok (.iload_n 2, 1) := by decide +kernel
theorem dX2_spotFor_16 : decode cX2_spotFor 16 = .ok (.aaload, 1) := by decide +kernel
theorem dX2_spotFor_17 : decode cX2_spotFor 17 = .ok (.iload_n 1, 1) := by decide +kernel
theorem dX2_spotFor_18 : decode cX2_spotFor 18 = .ok (.invokevirtual 28, 3) := by decide +kernel
theorem dX2_spotFor_21 : decode cX2_spotFor 21 = .ok (.istore_n 3, 1) := by decide +kernel
theorem dX2_spotFor_22 : decode cX2_spotFor 22 = .ok (.iload_n 3, 1) := by decide +kernel
theorem dX2_spotFor_23 : decode cX2_spotFor 23 = .ok (.iconst (-1), 1) := by decide +kernel
theorem dX2_spotFor_24 : decode cX2_spotFor 24 = .ok (.if_icmp .eq 10, 3) := by decide +kernel
theorem dX2_spotFor_27 : decode cX2_spotFor 27 = .ok (.bipush 100, 2) := by decide +kernel
theorem dX2_spotFor_29 : decode cX2_spotFor 29 = .ok (.iload_n 2, 1) := by decide +kernel
theorem dX2_spotFor_30 : decode cX2_spotFor 30 = .ok (.imul, 1) := by decide +kernel
theorem dX2_spotFor_31 : decode cX2_spotFor 31 = .ok (.iload_n 3, 1) := by decide +kernel
theorem dX2_spotFor_32 : decode cX2_spotFor 32 = .ok (.iadd, 1) := by decide +kernel
theorem dX2_spotFor_33 : decode cX2_spotFor 33 = .ok (.ireturn, 1) := by decide +kernel
theorem dX2_spotFor_34 : decode cX2_spotFor 34 = .ok (.iinc 2 1, 3) := by decide +kernel
theorem dX2_spotFor_37 : decode cX2_spotFor 37 = .ok (.goto (-35), 3) := by decide +kernel
theorem dX2_spotFor_40 : decode cX2_spotFor 40 = .ok (.iconst (-1), 1) := by decide +kernel
theorem dX2_spotFor_41 : decode cX2_spotFor 41 = .ok (.ireturn, 1) := by decide +kernel
theorem dX2_lay_0 : decode cX2_lay 0 = .ok (.aload_n 0, 1) := by decide +kernel
theorem dX2_lay_1 : decode cX2_lay 1 = .ok (.iload_n 2, 1) := by decide +kernel
theorem dX2_lay_2 : decode cX2_lay 2 = .ok (.invokevirtual 32, 3) := by decide +kernel
theorem dX2_lay_5 : decode cX2_lay 5 = .ok (.istore_n 3, 1) := by decide +kernel
theorem dX2_lay_6 : decode cX2_lay 6 = .ok (.iload_n 3, 1) := by decide +kernel
theorem dX2_lay_7 : decode cX2_lay 7 = .ok (.bipush 100, 2) := by decide +kernel
theorem dX2_lay_9 : decode cX2_lay 9 = .ok (.idiv, 1) := by decide +kernel
theorem dX2_lay_10 : decode cX2_lay 10 = .ok (.istore 4, 2) := by decide +kernel
theorem dX2_lay_12 : decode cX2_lay 12 = .ok (.iload_n 3, 1) := by decide +kernel
theorem dX2_lay_13 : decode cX2_lay 13 = .ok (.bipush 100, 2) := by decide +kernel
theorem dX2_lay_15 : decode cX2_lay 15 = .ok (.irem, 1) := by decide +kernel
theorem dX2_lay_16 : decode cX2_lay 16 = .ok (.istore 5, 2) := by decide +kernel
theorem dX2_lay_18 : decode cX2_lay 18 = .ok (.aload_n 0, 1) := by decide +kernel
theorem dX2_lay_19 : decode cX2_lay 19 = .ok (.iload 4, 2) := by decide +kernel
theorem dX2_lay_21 : decode cX2_lay 21 = .ok (.iload 5, 2) := by decide +kernel
theorem dX2_lay_23 : decode cX2_lay 23 = .ok (.invokevirtual 35, 3) := by decide +kernel
theorem dX2_lay_26 : decode cX2_lay 26 = .ok (.ifCond .eq 17, 3) := by decide +kernel
theorem dX2_lay_29 : decode cX2_lay 29 = .ok (.aload_n 0, 1) := by decide +kernel
theorem dX2_lay_30 : decode cX2_lay 30 = .ok (.getfield 14, 3) := by decide +kernel
theorem dX2_lay_33 : decode cX2_lay 33 = .ok (.iload 4, 2) := by decide +kernel
theorem dX2_lay_35 : decode cX2_lay 35 = .ok (.aaload, 1) := by decide +kernel
theorem dX2_lay_36 : decode cX2_lay 36 = .ok (.iload_n 1, 1) := by decide +kernel
theorem dX2_lay_37 : decode cX2_lay 37 = .ok (.iload 5, 2) := by decide +kernel
theorem dX2_lay_39 : decode cX2_lay 39 = .ok (.iload_n 2, 1) := by decide +kernel
theorem dX2_lay_40 : decode cX2_lay 40 = .ok (.invokevirtual 39, 3) := by decide +kernel
theorem dX2_lay_43 : decode cX2_lay 43 = .ok (.return_, 1) := by decide +kernel
theorem dX2_clear_0 : decode cX2_clear 0 = .ok (.iconst 0, 1) := by decide +kernel
theorem dX2_clear_1 : decode cX2_clear 1 = .ok (.istore_n 2, 1) := by decide +kernel
theorem dX2_clear_2 : decode cX2_clear 2 = .ok (.iload_n 2, 1) := by decide +kernel
theorem dX2_clear_3 : decode cX2_clear 3 = .ok (.aload_n 0, 1) := by decide +kernel
theorem dX2_clear_4 : decode cX2_clear 4 = .ok (.getfield 14, 3) := by decide +kernel
theorem dX2_clear_7 : decode cX2_clear 7 = .ok (.arraylength, 1) := by decide +kernel
theorem dX2_clear_8 : decode cX2_clear 8 = .ok (.if_icmp .ge 19, 3) := by decide +kernel
theorem dX2_clear_11 : decode cX2_clear 11 = .ok (.aload_n 0, 1) := by decide +kernel
theorem dX2_clear_12 : decode cX2_clear 12 = .ok (.getfield 14, 3) := by decide +kernel
theorem dX2_clear_15 : decode cX2_clear 15 = .ok (.iload_n 2, 1) := by decide +kernel
theorem dX2_clear_16 : decode cX2_clear 16 = .ok (.aaload, 1) := by decide +kernel
theorem dX2_clear_17 : decode cX2_clear 17 = .ok (.iload_n 1, 1) := by decide +kernel
theorem dX2_clear_18 : decode cX2_clear 18 = .ok (.invokevirtual 43, 3) := by decide +kernel
theorem dX2_clear_21 : decode cX2_clear 21 = .ok (.iinc 2 1, 3) := by decide +kernel
theorem dX2_clear_24 : decode cX2_clear 24 = .ok (.goto (-22), 3) := by decide +kernel
theorem dX2_clear_27 : decode cX2_clear 27 = .ok (.return_, 1) := by decide +kernel
theorem dX2_shelfOf_0 : decode cX2_shelfOf 0 = .ok (.iconst 0, 1) := by decide +kernel
theorem dX2_shelfOf_1 : decode cX2_shelfOf 1 = .ok (.istore_n 2, 1) := by decide +kernel
theorem dX2_shelfOf_2 : decode cX2_shelfOf 2 = .ok (.iload_n 2, 1) := by decide +kernel
theorem dX2_shelfOf_3 : decode cX2_shelfOf 3 = .ok (.aload_n 0, 1) := by decide +kernel
theorem dX2_shelfOf_4 : decode cX2_shelfOf 4 = .ok (.getfield 14, 3) := by decide +kernel
theorem dX2_shelfOf_7 : decode cX2_shelfOf 7 = .ok (.arraylength, 1) := by decide +kernel
theorem dX2_shelfOf_8 : decode cX2_shelfOf 8 = .ok (.if_icmp .ge 25, 3) := by decide +kernel
theorem dX2_shelfOf_11 : decode cX2_shelfOf 11 = .ok (.aload_n 0, 1) := by decide +kernel
theorem dX2_shelfOf_12 : decode cX2_shelfOf 12 = .ok (.getfield 14, 3) := by decide +kernel
theorem dX2_shelfOf_15 : decode cX2_shelfOf 15 = .ok (.iload_n 2, 1) := by decide +kernel
theorem dX2_shelfOf_16 : decode cX2_shelfOf 16 = .ok (.aaload, 1) := by decide +kernel
theorem dX2_shelfOf_17 : decode cX2_shelfOf 17 = .ok (.iload_n 1, 1) := by decide +kernel
theorem dX2_shelfOf_18 : decode cX2_shelfOf 18 = .ok (.invokevirtual 46, 3) := by decide +kernel
theorem dX2_shelfOf_21 : decode cX2_shelfOf 21 = .ok (.iconst (-1), 1) := by decide +kernel
theorem dX2_shelfOf_22 : decode cX2_shelfOf 22 = .ok (.if_icmp .eq 5, 3) := by decide +kernel
theorem dX2_shelfOf_25 : decode cX2_shelfOf 25 = .ok (.iload_n 2, 1) := by decide +kernel
theorem dX2_shelfOf_26 : decode cX2_shelfOf 26 = .ok (.ireturn, 1) := by decide +kernel
theorem dX2_shelfOf_27 : decode cX2_shelfOf 27 = .ok (.iinc 2 1, 3) := by decide +kernel
theorem dX2_shelfOf_30 : decode cX2_shelfOf 30 = .ok (.goto (-28), 3) := by decide +kernel
theorem dX2_shelfOf_33 : decode cX2_shelfOf 33 = .ok (.iconst (-1), 1) := by decide +kernel
theorem dX2_shelfOf_34 : decode cX2_shelfOf 34 = .ok (.ireturn, 1) := by decide +kernel
theorem dX2_leftmostOf_0 : decode cX2_leftmostOf 0 = .ok (.iconst 0, 1) := by decide +kernel
theorem dX2_leftmostOf_1 : decode cX2_leftmostOf 1 = .ok (.istore_n 2, 1) := by decide +kernel
theorem dX2_leftmostOf_2 : decode cX2_leftmostOf 2 = .ok (.iload_n 2, 1) := by decide +kernel
theorem dX2_leftmostOf_3 : decode cX2_leftmostOf 3 = .ok (.aload_n 0, 1) := by decide +kernel
theorem dX2_leftmostOf_4 : decode cX2_leftmostOf 4 = .ok (.getfield 14, 3) := by decide +kernel
theorem dX2_leftmostOf_7 : decode cX2_leftmostOf 7 = .ok (.arraylength, 1) := by decide +kernel
theorem dX2_leftmostOf_8 : decode cX2_leftmostOf 8 = .ok (.if_icmp .ge 27, 3) := by decide +kernel
theorem dX2_leftmostOf_11 : decode cX2_leftmostOf 11 = .ok (.aload_n 0, 1) := by decide +kernel
theorem dX2_leftmostOf_12 : decode cX2_leftmostOf 12 = .ok (.getfield 14, 3) := by decide +kernel
theorem dX2_leftmostOf_15 : decode cX2_leftmostOf 15 = .ok (.iload_n 2, 1) := by decide +kernel
theorem dX2_leftmostOf_16 : decode cX2_leftmostOf 16 = .ok (.aaload, 1) := by decide +kernel
theorem dX2_leftmostOf_17 : decode cX2_leftmostOf 17 = .ok (.iload_n 1, 1) := by decide +kernel
theorem dX2_leftmostOf_18 : decode cX2_leftmostOf 18 = .ok (.invokevirtual 46, 3) := by decide +kernel
theorem dX2_leftmostOf_21 : decode cX2_leftmostOf 21 = .ok (.istore_n 3, 1) := by decide +kernel
theorem dX2_leftmostOf_22 : decode cX2_leftmostOf 22 = .ok (.iload_n 3, 1) := by decide +kernel
theorem dX2_leftmostOf_23 : decode cX2_leftmostOf 23 = .ok (.iconst (-1), 1) := by decide +kernel
theorem dX2_leftmostOf_24 : decode cX2_leftmostOf 24 = .ok (.if_icmp .eq 5, 3) := by decide +kernel
theorem dX2_leftmostOf_27 : decode cX2_leftmostOf 27 = .ok (.iload_n 3, 1) := by decide +kernel
theorem dX2_leftmostOf_28 : decode cX2_leftmostOf 28 = .ok (.ireturn, 1) := by decide +kernel
theorem dX2_leftmostOf_29 : decode cX2_leftmostOf 29 = .ok (.iinc 2 1, 3) := by decide +kernel
theorem dX2_leftmostOf_32 : decode cX2_leftmostOf 32 = .ok (.goto (-30), 3) := by decide +kernel
theorem dX2_leftmostOf_35 : decode cX2_leftmostOf 35 = .ok (.iconst (-1), 1) := by decide +kernel
theorem dX2_leftmostOf_36 : decode cX2_leftmostOf 36 = .ok (.ireturn, 1) := by decide +kernel
theorem dX2_taken_0 : decode cX2_taken 0 = .ok (.iconst 0, 1) := by decide +kernel
theorem dX2_taken_1 : decode cX2_taken 1 = .ok (.istore_n 1, 1) := by decide +kernel
theorem dX2_taken_2 : decode cX2_taken 2 = .ok (.iconst 0, 1) := by decide +kernel
theorem dX2_taken_3 : decode cX2_taken 3 = .ok (.istore_n 2, 1) := by decide +kernel
theorem dX2_taken_4 : decode cX2_taken 4 = .ok (.iload_n 2, 1) := by decide +kernel
theorem dX2_taken_5 : decode cX2_taken 5 = .ok (.aload_n 0, 1) := by decide +kernel
theorem dX2_taken_6 : decode cX2_taken 6 = .ok (.getfield 14, 3) := by decide +kernel
theorem dX2_taken_9 : decode cX2_taken 9 = .ok (.arraylength, 1) := by decide +kernel
theorem dX2_taken_10 : decode cX2_taken 10 = .ok (.if_icmp .ge 21, 3) := by decide +kernel
theorem dX2_taken_13 : decode cX2_taken 13 = .ok (.iload_n 1, 1) := by decide +kernel
theorem dX2_taken_14 : decode cX2_taken 14 = .ok (.aload_n 0, 1) := by decide +kernel
theorem dX2_taken_15 : decode cX2_taken 15 = .ok (.getfield 14, 3) := by decide +kernel
theorem dX2_taken_18 : decode cX2_taken 18 = .ok (.iload_n 2, 1) := by decide +kernel
theorem dX2_taken_19 : decode cX2_taken 19 = .ok (.aaload, 1) := by decide +kernel
theorem dX2_taken_20 : decode cX2_taken 20 = .ok (.invokevirtual 49, 3) := by decide +kernel
theorem dX2_taken_23 : decode cX2_taken 23 = .ok (.iadd, 1) := by decide +kernel
theorem dX2_taken_24 : decode cX2_taken 24 = .ok (.istore_n 1, 1) := by decide +kernel
theorem dX2_taken_25 : decode cX2_taken 25 = .ok (.iinc 2 1, 3) := by decide +kernel
theorem dX2_taken_28 : decode cX2_taken 28 = .ok (.goto (-24), 3) := by decide +kernel
theorem dX2_taken_31 : decode cX2_taken 31 = .ok (.iload_n 1, 1) := by decide +kernel
theorem dX2_taken_32 : decode cX2_taken 32 = .ok (.ireturn, 1) := by decide +kernel
theorem dX2_pushLeft_0 : decode cX2_pushLeft 0 = .ok (.iconst 0, 1) := by decide +kernel
theorem dX2_pushLeft_1 : decode cX2_pushLeft 1 = .ok (.istore_n 1, 1) := by decide +kernel
theorem dX2_pushLeft_2 : decode cX2_pushLeft 2 = .ok (.iconst 0, 1) := by decide +kernel
theorem dX2_pushLeft_3 : decode cX2_pushLeft 3 = .ok (.istore_n 2, 1) := by decide +kernel
theorem dX2_pushLeft_4 : decode cX2_pushLeft 4 = .ok (.iload_n 2, 1) := by decide +kernel
theorem dX2_pushLeft_5 : decode cX2_pushLeft 5 = .ok (.aload_n 0, 1) := by decide +kernel
theorem dX2_pushLeft_6 : decode cX2_pushLeft 6 = .ok (.getfield 14, 3) := by decide +kernel
theorem dX2_pushLeft_9 : decode cX2_pushLeft 9 = .ok (.arraylength, 1) := by decide +kernel
theorem dX2_pushLeft_10 : decode cX2_pushLeft 10 = .ok (.if_icmp .ge 21, 3) := by decide +kernel
theorem dX2_pushLeft_13 : decode cX2_pushLeft 13 = .ok (.iload_n 1, 1) := by decide +kernel
theorem dX2_pushLeft_14 : decode cX2_pushLeft 14 = .ok (.aload_n 0, 1) := by decide +kernel
theorem dX2_pushLeft_15 : decode cX2_pushLeft 15 = .ok (.getfield 14, 3) := by decide +kernel
theorem dX2_pushLeft_18 : decode cX2_pushLeft 18 = .ok (.iload_n 2, 1) := by decide +kernel
theorem dX2_pushLeft_19 : decode cX2_pushLeft 19 = .ok (.aaload, 1) := by decide +kernel
theorem dX2_pushLeft_20 : decode cX2_pushLeft 20 = .ok (.invokevirtual 53, 3) := by decide +kernel
theorem dX2_pushLeft_23 : decode cX2_pushLeft 23 = .ok (.iadd, 1) := by decide +kernel
theorem dX2_pushLeft_24 : decode cX2_pushLeft 24 = .ok (.istore_n 1, 1) := by decide +kernel
theorem dX2_pushLeft_25 : decode cX2_pushLeft 25 = .ok (.iinc 2 1, 3) := by decide +kernel
theorem dX2_pushLeft_28 : decode cX2_pushLeft 28 = .ok (.goto (-24), 3) := by decide +kernel
theorem dX2_pushLeft_31 : decode cX2_pushLeft 31 = .ok (.iload_n 1, 1) := by decide +kernel
theorem dX2_pushLeft_32 : decode cX2_pushLeft 32 = .ok (.ireturn, 1) := by decide +kernel
theorem dX2_copyFrom_0 : decode cX2_copyFrom 0 = .ok (.iconst 0, 1) := by decide +kernel
theorem dX2_copyFrom_1 : decode cX2_copyFrom 1 = .ok (.istore_n 2, 1) := by decide +kernel
theorem dX2_copyFrom_2 : decode cX2_copyFrom 2 = .ok (.iload_n 2, 1) := by decide +kernel
theorem dX2_copyFrom_3 : decode cX2_copyFrom 3 = .ok (.aload_n 0, 1) := by decide +kernel
theorem dX2_copyFrom_4 : decode cX2_copyFrom 4 = .ok (.getfield 14, 3) := by decide +kernel
theorem dX2_copyFrom_7 : decode cX2_copyFrom 7 = .ok (.arraylength, 1) := by decide +kernel
theorem dX2_copyFrom_8 : decode cX2_copyFrom 8 = .ok (.if_icmp .ge 24, 3) := by decide +kernel
theorem dX2_copyFrom_11 : decode cX2_copyFrom 11 = .ok (.aload_n 0, 1) := by decide +kernel
theorem dX2_copyFrom_12 : decode cX2_copyFrom 12 = .ok (.getfield 14, 3) := by decide +kernel
theorem dX2_copyFrom_15 : decode cX2_copyFrom 15 = .ok (.iload_n 2, 1) := by decide +kernel
theorem dX2_copyFrom_16 : decode cX2_copyFrom 16 = .ok (.aaload, 1) := by decide +kernel
theorem dX2_copyFrom_17 : decode cX2_copyFrom 17 = .ok (.aload_n 1, 1) := by decide +kernel
theorem dX2_copyFrom_18 : decode cX2_copyFrom 18 = .ok (.getfield 14, 3) := by decide +kernel
theorem dX2_copyFrom_21 : decode cX2_copyFrom 21 = .ok (.iload_n 2, 1) := by decide +kernel
theorem dX2_copyFrom_22 : decode cX2_copyFrom 22 = .ok (.aaload, 1) := by decide +kernel
theorem dX2_copyFrom_23 : decode cX2_copyFrom 23 = .ok (.invokevirtual 56, 3) := by decide +kernel
theorem dX2_copyFrom_26 : decode cX2_copyFrom 26 = .ok (.iinc 2 1, 3) := by decide +kernel
theorem dX2_copyFrom_29 : decode cX2_copyFrom 29 = .ok (.goto (-27), 3) := by decide +kernel
theorem dX2_copyFrom_32 : decode cX2_copyFrom 32 = .ok (.return_, 1) := by decide +kernel
theorem dX3_init_0 : decode cX3_init 0 = .ok (.aload_n 0, 1) := by decide +kernel
theorem dX3_init_1 : decode cX3_init 1 = .ok (.invokespecial 3, 3) := by decide +kernel
theorem dX3_init_4 : decode cX3_init 4 = .ok (.aload_n 0, 1) := by decide +kernel
theorem dX3_init_5 : decode cX3_init 5 = .ok (.iload_n 1, 1) := by decide +kernel
theorem dX3_init_6 : decode cX3_init 6 = .ok (.newarray .int, 2) := by decide +kernel
theorem dX3_init_8 : decode cX3_init 8 = .ok (.putfield 9, 3) := by decide +kernel
theorem dX3_init_11 : decode cX3_init 11 = .ok (.iconst 0, 1) := by decide +kernel
theorem dX3_init_12 : decode cX3_init 12 = .ok (.istore_n 2, 1) := by decide +kernel
theorem dX3_init_13 : decode cX3_init 13 = .ok (.iload_n 2, 1) := by decide +kernel
theorem dX3_init_14 : decode cX3_init 14 = .ok (.iload_n 1, 1) := by decide +kernel
theorem dX3_init_15 : decode cX3_init 15 = .ok (.if_icmp .ge 16, 3) := by decide +kernel
theorem dX3_init_18 : decode cX3_init 18 = .ok (.aload_n 0, 1) := by decide +kernel
theorem dX3_init_19 : decode cX3_init 19 = .ok (.getfield 9, 3) := by decide +kernel
theorem dX3_init_22 : decode cX3_init 22 = .ok (.iload_n 2, 1) := by decide +kernel
theorem dX3_init_23 : decode cX3_init 23 = .ok (.iconst (-1), 1) := by decide +kernel
theorem dX3_init_24 : decode cX3_init 24 = .ok (.iastore, 1) := by decide +kernel
theorem dX3_init_25 : decode cX3_init 25 = .ok (.iinc 2 1, 3) := by decide +kernel
theorem dX3_init_28 : decode cX3_init 28 = .ok (.goto (-15), 3) := by decide +kernel
theorem dX3_init_31 : decode cX3_init 31 = .ok (.return_, 1) := by decide +kernel
theorem dX3_gapFor_0 : decode cX3_gapFor 0 = .ok (.iconst 0, 1) := by decide +kernel
theorem dX3_gapFor_1 : decode cX3_gapFor 1 = .ok (.istore_n 2, 1) := by decide +kernel
theorem dX3_gapFor_2 : decode cX3_gapFor 2 = .ok (.iconst 0, 1) := by decide +kernel
theorem dX3_gapFor_3 : decode cX3_gapFor 3 = .ok (.istore_n 3, 1) := by decide +kernel
theorem dX3_gapFor_4 : decode cX3_gapFor 4 = .ok (.iload_n 3, 1) := by decide +kernel
theorem dX3_gapFor_5 : decode cX3_gapFor 5 = .ok (.aload_n 0, 1) := by decide +kernel
theorem dX3_gapFor_6 : decode cX3_gapFor 6 = .ok (.getfield 9, 3) := by decide +kernel
theorem dX3_gapFor_9 : decode cX3_gapFor 9 = .ok (.arraylength, 1) := by decide +kernel
theorem dX3_gapFor_10 : decode cX3_gapFor 10 = .ok (.if_icmp .ge 38, 3) := by decide +kernel
theorem dX3_gapFor_13 : decode cX3_gapFor 13 = .ok (.aload_n 0, 1) := by decide +kernel
theorem dX3_gapFor_14 : decode cX3_gapFor 14 = .ok (.getfield 9, 3) := by decide +kernel
theorem dX3_gapFor_17 : decode cX3_gapFor 17 = .ok (.iload_n 3, 1) := by decide +kernel
theorem dX3_gapFor_18 : decode cX3_gapFor 18 = .ok (.iaload, 1) := by decide +kernel
theorem dX3_gapFor_19 : decode cX3_gapFor 19 = .ok (.iconst (-1), 1) := by decide +kernel
theorem dX3_gapFor_20 : decode cX3_gapFor 20 = .ok (.if_icmp .ne 9, 3) := by decide +kernel
theorem dX3_gapFor_23 : decode cX3_gapFor 23 = .ok (.iload_n 2, 1) := by decide +kernel
theorem dX3_gapFor_24 : decode cX3_gapFor 24 = .ok (.iconst 1, 1) := by decide +kernel
theorem dX3_gapFor_25 : decode cX3_gapFor 25 = .ok (.iadd, 1) := by decide +kernel
theorem dX3_gapFor_26 : decode cX3_gapFor 26 = .ok (.goto 4, 3) := by decide +kernel
theorem dX3_gapFor_29 : decode cX3_gapFor 29 = .ok (.iconst 0, 1) := by decide +kernel
theorem dX3_gapFor_30 : decode cX3_gapFor 30 = .ok (.istore_n 2, 1) := by decide +kernel
theorem dX3_gapFor_31 : decode cX3_gapFor 31 = .ok (.iload_n 2, 1) := by decide +kernel
theorem dX3_gapFor_32 : decode cX3_gapFor 32 = .ok (.iload_n 1, 1) := by decide +kernel
theorem dX3_gapFor_33 : decode cX3_gapFor 33 = .ok (.if_icmp .ne 9, 3) := by decide +kernel
theorem dX3_gapFor_36 : decode cX3_gapFor 36 = .ok (.iload_n 3, 1) := by decide +kernel
theorem dX3_gapFor_37 : decode cX3_gapFor 37 = .ok (.iload_n 1, 1) := by decide +kernel
theorem dX3_gapFor_38 : decode cX3_gapFor 38 = .ok (.isub, 1) := by decide +kernel
theorem dX3_gapFor_39 : decode cX3_gapFor 39 = .ok (.iconst 1, 1) := by decide +kernel
theorem dX3_gapFor_40 : decode cX3_gapFor 40 = .ok (.iadd, 1) := by decide +kernel
theorem dX3_gapFor_41 : decode cX3_gapFor 41 = .ok (.ireturn, 1) := by decide +kernel
theorem dX3_gapFor_42 : decode cX3_gapFor 42 = .ok (.iinc 3 1, 3) := by decide +kernel
theorem dX3_gapFor_45 : decode cX3_gapFor 45 = .ok (.goto (-41), 3) := by decide +kernel
theorem dX3_gapFor_48 : decode cX3_gapFor 48 = .ok (.iconst (-1), 1) := by decide +kernel
theorem dX3_gapFor_49 : decode cX3_gapFor 49 = .ok (.ireturn, 1) := by decide +kernel
theorem dX3_lay_0 : decode cX3_lay 0 = .ok (.iconst 0, 1) := by decide +kernel
theorem dX3_lay_1 : decode cX3_lay 1 = .ok (.istore 4, 2) := by decide +kernel
theorem dX3_lay_3 : decode cX3_lay 3 = .ok (.iload 4, 2) := by decide +kernel
theorem dX3_lay_5 : decode cX3_lay 5 = .ok (.aload_n 0, 1) := by decide +kernel
theorem dX3_lay_6 : decode cX3_lay 6 = .ok (.getfield 9, 3) := by decide +kernel
theorem dX3_lay_9 : decode cX3_lay 9 = .ok (.arraylength, 1) := by decide +kernel
theorem dX3_lay_10 : decode cX3_lay 10 = .ok (.if_icmp .ge 31, 3) := by decide +kernel
theorem dX3_lay_13 : decode cX3_lay 13 = .ok (.iload 4, 2) := by decide +kernel
theorem dX3_lay_15 : decode cX3_lay 15 = .ok (.iload_n 2, 1) := by decide +kernel
theorem dX3_lay_16 : decode cX3_lay 16 = .ok (.if_icmp .lt 19, 3) := by decide +kernel
theorem dX3_lay_19 : decode cX3_lay 19 = .ok (.iload 4, 2) := by decide +kernel
theorem dX3_lay_21 : decode cX3_lay 21 = .ok (.iload_n 2, 1) := by decide +kernel
theorem dX3_lay_22 : decode cX3_lay 22 = .ok (.iload_n 3, 1) := by decide +kernel
theorem dX3_lay_23 : decode cX3_lay 23 = .ok (.iadd, 1) := by decide +kernel
theorem dX3_lay_24 : decode cX3_lay 24 = .ok (.if_icmp .ge 11, 3) := by decide +kernel
theorem dX3_lay_27 : decode cX3_lay 27 = .ok (.aload_n 0, 1) := by decide +kernel
theorem dX3_lay_28 : decode cX3_lay 28 = .ok (.getfield 9, 3) := by decide +kernel
theorem dX3_lay_31 : decode cX3_lay 31 = .ok (.iload 4, 2) := by decide +kernel
theorem dX3_lay_33 : decode cX3_lay 33 = .ok (.iload_n 1, 1) := by decide +kernel
theorem dX3_lay_34 : decode cX3_lay 34 = .ok (.iastore, 1) := by decide +kernel
theorem dX3_lay_35 : decode cX3_lay 35 = .ok (.iinc 4 1, 3) := by decide +kernel
theorem dX3_lay_38 : decode cX3_lay 38 = .ok (.goto (-35), 3) := by decide +kernel
theorem dX3_lay_41 : decode cX3_lay 41 = .ok (.return_, 1) := by decide +kernel
theorem dX3_clear_0 : decode cX3_clear 0 = .ok (.iconst 0, 1) := by decide +kernel
theorem dX3_clear_1 : decode cX3_clear 1 = .ok (.istore_n 2, 1) := by decide +kernel
theorem dX3_clear_2 : decode cX3_clear 2 = .ok (.iload_n 2, 1) := by decide +kernel
theorem dX3_clear_3 : decode cX3_clear 3 = .ok (.aload_n 0, 1) := by decide +kernel
theorem dX3_clear_4 : decode cX3_clear 4 = .ok (.getfield 9, 3) := by decide +kernel
theorem dX3_clear_7 : decode cX3_clear 7 = .ok (.arraylength, 1) := by decide +kernel
theorem dX3_clear_8 : decode cX3_clear 8 = .ok (.if_icmp .ge 26, 3) := by decide +kernel
theorem dX3_clear_11 : decode cX3_clear 11 = .ok (.aload_n 0, 1) := by decide +kernel
theorem dX3_clear_12 : decode cX3_clear 12 = .ok (.getfield 9, 3) := by decide +kernel
theorem dX3_clear_15 : decode cX3_clear 15 = .ok (.iload_n 2, 1) := by decide +kernel
theorem dX3_clear_16 : decode cX3_clear 16 = .ok (.iaload, 1) := by decide +kernel
theorem dX3_clear_17 : decode cX3_clear 17 = .ok (.iload_n 1, 1) := by decide +kernel
theorem dX3_clear_18 : decode cX3_clear 18 = .ok (.if_icmp .ne 10, 3) := by decide +kernel
theorem dX3_clear_21 : decode cX3_clear 21 = .ok (.aload_n 0, 1) := by decide +kernel
theorem dX3_clear_22 : decode cX3_clear 22 = .ok (.getfield 9, 3) := by decide +kernel
theorem dX3_clear_25 : decode cX3_clear 25 = .ok (.iload_n 2, 1) := by decide +kernel
theorem dX3_clear_26 : decode cX3_clear 26 = .ok (.iconst (-1), 1) := by decide +kernel
theorem dX3_clear_27 : decode cX3_clear 27 = .ok (.iastore, 1) := by decide +kernel
theorem dX3_clear_28 : decode cX3_clear 28 = .ok (.iinc 2 1, 3) := by decide +kernel
theorem dX3_clear_31 : decode cX3_clear 31 = .ok (.goto (-29), 3) := by decide +kernel
theorem dX3_clear_34 : decode cX3_clear 34 = .ok (.return_, 1) := by decide +kernel
theorem dX3_leftmostOf_0 : decode cX3_leftmostOf 0 = .ok (.iconst 0, 1) := by decide +kernel
theorem dX3_leftmostOf_1 : decode cX3_leftmostOf 1 = .ok (.istore_n 2, 1) := by decide +kernel
theorem dX3_leftmostOf_2 : decode cX3_leftmostOf 2 = .ok (.iload_n 2, 1) := by decide +kernel
theorem dX3_leftmostOf_3 : decode cX3_leftmostOf 3 = .ok (.aload_n 0, 1) := by decide +kernel
theorem dX3_leftmostOf_4 : decode cX3_leftmostOf 4 = .ok (.getfield 9, 3) := by decide +kernel
theorem dX3_leftmostOf_7 : decode cX3_leftmostOf 7 = .ok (.arraylength, 1) := by decide +kernel
theorem dX3_leftmostOf_8 : decode cX3_leftmostOf 8 = .ok (.if_icmp .ge 21, 3) := by decide +kernel
theorem dX3_leftmostOf_11 : decode cX3_leftmostOf 11 = .ok (.aload_n 0, 1) := by decide +kernel
theorem dX3_leftmostOf_12 : decode cX3_leftmostOf 12 = .ok (.getfield 9, 3) := by decide +kernel
theorem dX3_leftmostOf_15 : decode cX3_leftmostOf 15 = .ok (.iload_n 2, 1) := by decide +kernel
theorem dX3_leftmostOf_16 : decode cX3_leftmostOf 16 = .ok (.iaload, 1) := by decide +kernel
theorem dX3_leftmostOf_17 : decode cX3_leftmostOf 17 = .ok (.iload_n 1, 1) := by decide +kernel
theorem dX3_leftmostOf_18 : decode cX3_leftmostOf 18 = .ok (.if_icmp .ne 5, 3) := by decide +kernel
theorem dX3_leftmostOf_21 : decode cX3_leftmostOf 21 = .ok (.iload_n 2, 1) := by decide +kernel
theorem dX3_leftmostOf_22 : decode cX3_leftmostOf 22 = .ok (.ireturn, 1) := by decide +kernel
theorem dX3_leftmostOf_23 : decode cX3_leftmostOf 23 = .ok (.iinc 2 1, 3) := by decide +kernel
theorem dX3_leftmostOf_26 : decode cX3_leftmostOf 26 = .ok (.goto (-24), 3) := by decide +kernel
theorem dX3_leftmostOf_29 : decode cX3_leftmostOf 29 = .ok (.iconst (-1), 1) := by decide +kernel
theorem dX3_leftmostOf_30 : decode cX3_leftmostOf 30 = .ok (.ireturn, 1) := by decide +kernel
theorem dX3_taken_0 : decode cX3_taken 0 = .ok (.iconst 0, 1) := by decide +kernel
theorem dX3_taken_1 : decode cX3_taken 1 = .ok (.istore_n 1, 1) := by decide +kernel
theorem dX3_taken_2 : decode cX3_taken 2 = .ok (.iconst 0, 1) := by decide +kernel
theorem dX3_taken_3 : decode cX3_taken 3 = .ok (.istore_n 2, 1) := by decide +kernel
theorem dX3_taken_4 : decode cX3_taken 4 = .ok (.iload_n 2, 1) := by decide +kernel
theorem dX3_taken_5 : decode cX3_taken 5 = .ok (.aload_n 0, 1) := by decide +kernel
theorem dX3_taken_6 : decode cX3_taken 6 = .ok (.getfield 9, 3) := by decide +kernel
theorem dX3_taken_9 : decode cX3_taken 9 = .ok (.arraylength, 1) := by decide +kernel
theorem dX3_taken_10 : decode cX3_taken 10 = .ok (.if_icmp .ge 22, 3) := by decide +kernel
theorem dX3_taken_13 : decode cX3_taken 13 = .ok (.aload_n 0, 1) := by decide +kernel
theorem dX3_taken_14 : decode cX3_taken 14 = .ok (.getfield 9, 3) := by decide +kernel
theorem dX3_taken_17 : decode cX3_taken 17 = .ok (.iload_n 2, 1) := by decide +kernel
theorem dX3_taken_18 : decode cX3_taken 18 = .ok (.iaload, 1) := by decide +kernel
theorem dX3_taken_19 : decode cX3_taken 19 = .ok (.iconst (-1), 1) := by decide +kernel
theorem dX3_taken_20 : decode cX3_taken 20 = .ok (.if_icmp .eq 6, 3) := by decide +kernel
theorem dX3_taken_23 : decode cX3_taken 23 = .ok (.iinc 1 1, 3) := by decide +kernel
theorem dX3_taken_26 : decode cX3_taken 26 = .ok (.iinc 2 1, 3) := by decide +kernel
theorem dX3_taken_29 : decode cX3_taken 29 = .ok (.goto (-25), 3) := by decide +kernel
theorem dX3_taken_32 : decode cX3_taken 32 = .ok (.iload_n 1, 1) := by decide +kernel
theorem dX3_taken_33 : decode cX3_taken 33 = .ok (.ireturn, 1) := by decide +kernel
theorem dX3_pushLeft_0 : decode cX3_pushLeft 0 = .ok (.iconst 0, 1) := by decide +kernel
theorem dX3_pushLeft_1 : decode cX3_pushLeft 1 = .ok (.istore_n 1, 1) := by decide +kernel
theorem dX3_pushLeft_2 : decode cX3_pushLeft 2 = .ok (.iconst (-1), 1) := by decide +kernel
theorem dX3_pushLeft_3 : decode cX3_pushLeft 3 = .ok (.istore_n 2, 1) := by decide +kernel
theorem dX3_pushLeft_4 : decode cX3_pushLeft 4 = .ok (.iconst 0, 1) := by decide +kernel
theorem dX3_pushLeft_5 : decode cX3_pushLeft 5 = .ok (.istore_n 3, 1) := by decide +kernel
theorem dX3_pushLeft_6 : decode cX3_pushLeft 6 = .ok (.iconst 0, 1) := by decide +kernel
theorem dX3_pushLeft_7 : decode cX3_pushLeft 7 = .ok (.istore 4, 2) := by decide +kernel
theorem dX3_pushLeft_9 : decode cX3_pushLeft 9 = .ok (.iload 4, 2) := by decide +kernel
theorem dX3_pushLeft_11 : decode cX3_pushLeft 11 = .ok (.aload_n 0, 1) := by decide +kernel
theorem dX3_pushLeft_12 : decode cX3_pushLeft 12 = .ok (.getfield 9, 3) := by decide +kernel
theorem dX3_pushLeft_15 : decode cX3_pushLeft 15 = .ok (.arraylength, 1) := by decide +kernel
theorem dX3_pushLeft_16 : decode cX3_pushLeft 16 = .ok (.if_icmp .ge 61, 3) := by decide +kernel
theorem dX3_pushLeft_19 : decode cX3_pushLeft 19 = .ok (.aload_n 0, 1) := by decide +kernel
theorem dX3_pushLeft_20 : decode cX3_pushLeft 20 = .ok (.getfield 9, 3) := by decide +kernel
theorem dX3_pushLeft_23 : decode cX3_pushLeft 23 = .ok (.iload 4, 2) := by decide +kernel
theorem dX3_pushLeft_25 : decode cX3_pushLeft 25 = .ok (.iaload, 1) := by decide +kernel
theorem dX3_pushLeft_26 : decode cX3_pushLeft 26 = .ok (.istore 5, 2) := by decide +kernel
theorem dX3_pushLeft_28 : decode cX3_pushLeft 28 = .ok (.iload 5, 2) := by decide +kernel
theorem dX3_pushLeft_30 : decode cX3_pushLeft 30 = .ok (.iconst (-1), 1) := by decide +kernel
theorem dX3_pushLeft_31 : decode cX3_pushLeft 31 = .ok (.if_icmp .eq 40, 3) := by decide +kernel
theorem dX3_pushLeft_34 : decode cX3_pushLeft 34 = .ok (.iload 5, 2) := by decide +kernel
theorem dX3_pushLeft_36 : decode cX3_pushLeft 36 = .ok (.iload_n 2, 1) := by decide +kernel
theorem dX3_pushLeft_37 : decode cX3_pushLeft 37 = .ok (.if_icmp .eq 12, 3) := by decide +kernel
theorem dX3_pushLeft_40 : decode cX3_pushLeft 40 = .ok (.iload_n 3, 1) := by decide +kernel
theorem dX3_pushLeft_41 : decode cX3_pushLeft 41 = .ok (.iload 4, 2) := by decide +kernel
theorem dX3_pushLeft_43 : decode cX3_pushLeft 43 = .ok (.if_icmp .ge 6, 3) := by decide +kernel
theorem dX3_pushLeft_46 : decode cX3_pushLeft 46 = .ok (.iinc 1 1, 3) := by decide +kernel
theorem dX3_pushLeft_49 : decode cX3_pushLeft 49 = .ok (.iload 5, 2) := by decide +kernel
theorem dX3_pushLeft_51 : decode cX3_pushLeft 51 = .ok (.istore_n 2, 1) := by decide +kernel
theorem dX3_pushLeft_52 : decode cX3_pushLeft 52 = .ok (.aload_n 0, 1) := by decide +kernel
theorem dX3_pushLeft_53 : decode cX3_pushLeft 53 = .ok (.getfield 9, 3) := by decide +kernel
theorem dX3_pushLeft_56 : decode cX3_pushLeft 56 = .ok (.iload 4, 2) := by decide +kernel
theorem dX3_pushLeft_58 : decode cX3_pushLeft 58 = .ok (.iconst (-1), 1) := by decide +kernel
theorem dX3_pushLeft_59 : decode cX3_pushLeft 59 = .ok (.iastore, 1) := by decide +kernel
theorem dX3_pushLeft_60 : decode cX3_pushLeft 60 = .ok (.aload_n 0, 1) := by decide +kernel
theorem dX3_pushLeft_61 : decode cX3_pushLeft 61 = .ok (.getfield 9, 3) := by decide +kernel
theorem dX3_pushLeft_64 : decode cX3_pushLeft 64 = .ok (.iload_n 3, 1) := by decide +kernel
theorem dX3_pushLeft_65 : decode cX3_pushLeft 65 = .ok (.iload 5, 2) := by decide +kernel
theorem dX3_pushLeft_67 : decode cX3_pushLeft 67 = .ok (.iastore, 1) := by decide +kernel
theorem dX3_pushLeft_68 : decode cX3_pushLeft 68 = .ok (.iinc 3 1, 3) := by decide +kernel
theorem dX3_pushLeft_71 : decode cX3_pushLeft 71 = .ok (.iinc 4 1, 3) := by decide +kernel
theorem dX3_pushLeft_74 : decode cX3_pushLeft 74 = .ok (.goto (-65), 3) := by decide +kernel
theorem dX3_pushLeft_77 : decode cX3_pushLeft 77 = .ok (.iload_n 1, 1) := by decide +kernel
theorem dX3_pushLeft_78 : decode cX3_pushLeft 78 = .ok (.ireturn, 1) := by decide +kernel
theorem dX3_copyFrom_0 : decode cX3_copyFrom 0 = .ok (.iconst 0, 1) := by decide +kernel
theorem dX3_copyFrom_1 : decode cX3_copyFrom 1 = .ok (.istore_n 2, 1) := by decide +kernel
theorem dX3_copyFrom_2 : decode cX3_copyFrom 2 = .ok (.iload_n 2, 1) := by decide +kernel
theorem dX3_copyFrom_3 : decode cX3_copyFrom 3 = .ok (.aload_n 0, 1) := by decide +kernel
theorem dX3_copyFrom_4 : decode cX3_copyFrom 4 = .ok (.getfield 9, 3) := by decide +kernel
theorem dX3_copyFrom_7 : decode cX3_copyFrom 7 = .ok (.arraylength, 1) := by decide +kernel
theorem dX3_copyFrom_8 : decode cX3_copyFrom 8 = .ok (.if_icmp .ge 30, 3) := by decide +kernel
theorem dX3_copyFrom_11 : decode cX3_copyFrom 11 = .ok (.iload_n 2, 1) := by decide +kernel
theorem dX3_copyFrom_12 : decode cX3_copyFrom 12 = .ok (.aload_n 1, 1) := by decide +kernel
theorem dX3_copyFrom_13 : decode cX3_copyFrom 13 = .ok (.getfield 9, 3) := by decide +kernel
theorem dX3_copyFrom_16 : decode cX3_copyFrom 16 = .ok (.arraylength, 1) := by decide +kernel
theorem dX3_copyFrom_17 : decode cX3_copyFrom 17 = .ok (.if_icmp .ge 21, 3) := by decide +kernel
theorem dX3_copyFrom_20 : decode cX3_copyFrom 20 = .ok (.aload_n 0, 1) := by decide +kernel
theorem dX3_copyFrom_21 : decode cX3_copyFrom 21 = .ok (.getfield 9, 3) := by decide +kernel
theorem dX3_copyFrom_24 : decode cX3_copyFrom 24 = .ok (.iload_n 2, 1) := by decide +kernel
theorem dX3_copyFrom_25 : decode cX3_copyFrom 25 = .ok (.aload_n 1, 1) := by decide +kernel
theorem dX3_copyFrom_26 : decode cX3_copyFrom 26 = .ok (.getfield 9, 3) := by decide +kernel
theorem dX3_copyFrom_29 : decode cX3_copyFrom 29 = .ok (.iload_n 2, 1) := by decide +kernel
theorem dX3_copyFrom_30 : decode cX3_copyFrom 30 = .ok (.iaload, 1) := by decide +kernel
theorem dX3_copyFrom_31 : decode cX3_copyFrom 31 = .ok (.iastore, 1) := by decide +kernel
theorem dX3_copyFrom_32 : decode cX3_copyFrom 32 = .ok (.iinc 2 1, 3) := by decide +kernel
theorem dX3_copyFrom_35 : decode cX3_copyFrom 35 = .ok (.goto (-33), 3) := by decide +kernel
theorem dX3_copyFrom_38 : decode cX3_copyFrom 38 = .ok (.return_, 1) := by decide +kernel
theorem dX5_init_0 : decode cX5_init 0 = .ok (.aload_n 0, 1) := by decide +kernel
theorem dX5_init_1 : decode cX5_init 1 = .ok (.invokespecial 3, 3) := by decide +kernel
theorem dX5_init_4 : decode cX5_init 4 = .ok (.return_, 1) := by decide +kernel
theorem dX5_describe_0 : decode cX5_describe 0 = .ok (.aload_n 0, 1) := by decide +kernel
theorem dX5_describe_1 : decode cX5_describe 1 = .ok (.iload_n 1, 1) := by decide +kernel
theorem dX5_describe_2 : decode cX5_describe 2 = .ok (.putfield 9, 3) := by decide +kernel
theorem dX5_describe_5 : decode cX5_describe 5 = .ok (.aload_n 0, 1) := by decide +kernel
theorem dX5_describe_6 : decode cX5_describe 6 = .ok (.iload_n 2, 1) := by decide +kernel
theorem dX5_describe_7 : decode cX5_describe 7 = .ok (.putfield 15, 3) := by decide +kernel
theorem dX5_describe_10 : decode cX5_describe 10 = .ok (.aload_n 0, 1) := by decide +kernel
theorem dX5_describe_11 : decode cX5_describe 11 = .ok (.iload_n 3, 1) := by decide +kernel
theorem dX5_describe_12 : decode cX5_describe 12 = .ok (.putfield 18, 3) := by decide +kernel
theorem dX5_describe_15 : decode cX5_describe 15 = .ok (.aload_n 0, 1) := by decide +kernel
theorem dX5_describe_16 : decode cX5_describe 16 = .ok (.iload 4, 2) := by decide +kernel
theorem dX5_describe_18 : decode cX5_describe 18 = .ok (.putfield 21, 3) := by decide +kernel
theorem dX5_describe_21 : decode cX5_describe 21 = .ok (.return_, 1) := by decide +kernel
theorem dX5_lend_0 : decode cX5_lend 0 = .ok (.aload_n 0, 1) := by decide +kernel
theorem dX5_lend_1 : decode cX5_lend 1 = .ok (.iload_n 1, 1) := by decide +kernel
theorem dX5_lend_2 : decode cX5_lend 2 = .ok (.putfield 24, 3) := by decide +kernel
theorem dX5_lend_5 : decode cX5_lend 5 = .ok (.aload_n 0, 1) := by decide +kernel
theorem dX5_lend_6 : decode cX5_lend 6 = .ok (.iload_n 2, 1) := by decide +kernel
theorem dX5_lend_7 : decode cX5_lend 7 = .ok (.putfield 27, 3) := by decide +kernel
theorem dX5_lend_10 : decode cX5_lend 10 = .ok (.aload_n 0, 1) := by decide +kernel
theorem dX5_lend_11 : decode cX5_lend 11 = .ok (.iload_n 2, 1) := by decide +kernel
theorem dX5_lend_12 : decode cX5_lend 12 = .ok (.bipush 60, 2) := by decide +kernel
theorem dX5_lend_14 : decode cX5_lend 14 = .ok (.iadd, 1) := by decide +kernel
theorem dX5_lend_15 : decode cX5_lend 15 = .ok (.putfield 30, 3) := by decide +kernel
theorem dX5_lend_18 : decode cX5_lend 18 = .ok (.aload_n 0, 1) := by decide +kernel
theorem dX5_lend_19 : decode cX5_lend 19 = .ok (.iconst 0, 1) := by decide +kernel
theorem dX5_lend_20 : decode cX5_lend 20 = .ok (.putfield 33, 3) := by decide +kernel
theorem dX5_lend_23 : decode cX5_lend 23 = .ok (.aload_n 0, 1) := by decide +kernel
theorem dX5_lend_24 : decode cX5_lend 24 = .ok (.iconst 0, 1) := by decide +kernel
theorem dX5_lend_25 : decode cX5_lend 25 = .ok (.putfield 36, 3) := by decide +kernel
theorem dX5_lend_28 : decode cX5_lend 28 = .ok (.aload_n 0, 1) := by decide +kernel
theorem dX5_lend_29 : decode cX5_lend 29 = .ok (.iconst 0, 1) := by decide +kernel
theorem dX5_lend_30 : decode cX5_lend 30 = .ok (.putfield 39, 3) := by decide +kernel
theorem dX5_lend_33 : decode cX5_lend 33 = .ok (.return_, 1) := by decide +kernel
theorem dX5_extend_0 : decode cX5_extend 0 = .ok (.aload_n 0, 1) := by decide +kernel
theorem dX5_extend_1 : decode cX5_extend 1 = .ok (.iload_n 1, 1) := by decide +kernel
theorem dX5_extend_2 : decode cX5_extend 2 = .ok (.putfield 27, 3) := by decide +kernel
theorem dX5_extend_5 : decode cX5_extend 5 = .ok (.aload_n 0, 1) := by decide +kernel
theorem dX5_extend_6 : decode cX5_extend 6 = .ok (.iload_n 1, 1) := by decide +kernel
theorem dX5_extend_7 : decode cX5_extend 7 = .ok (.bipush 60, 2) := by decide +kernel
theorem dX5_extend_9 : decode cX5_extend 9 = .ok (.iadd, 1) := by decide +kernel
theorem dX5_extend_10 : decode cX5_extend 10 = .ok (.putfield 30, 3) := by decide +kernel
theorem dX5_extend_13 : decode cX5_extend 13 = .ok (.aload_n 0, 1) := by decide +kernel
theorem dX5_extend_14 : decode cX5_extend 14 = .ok (.dup, 1) := by decide +kernel
theorem dX5_extend_15 : decode cX5_extend 15 = .ok (.getfield 39, 3) := by decide +kernel
theorem dX5_extend_18 : decode cX5_extend 18 = .ok (.iconst 1, 1) := by decide +kernel
theorem dX5_extend_19 : decode cX5_extend 19 = .ok (.iadd, 1) := by decide +kernel
theorem dX5_extend_20 : decode cX5_extend 20 = .ok (.putfield 39, 3) := by decide +kernel
theorem dX5_extend_23 : decode cX5_extend 23 = .ok (.return_, 1) := by decide +kernel
theorem dX5_interest_0 : decode cX5_interest 0 = .ok (.iload_n 1, 1) := by decide +kernel
theorem dX5_interest_1 : decode cX5_interest 1 = .ok (.aload_n 0, 1) := by decide +kernel
theorem dX5_interest_2 : decode cX5_interest 2 = .ok (.getfield 27, 3) := by decide +kernel
theorem dX5_interest_5 : decode cX5_interest 5 = .ok (.isub, 1) := by decide +kernel
theorem dX5_interest_6 : decode cX5_interest 6 = .ok (.bipush 30, 2) := by decide +kernel
theorem dX5_interest_8 : decode cX5_interest 8 = .ok (.idiv, 1) := by decide +kernel
theorem dX5_interest_9 : decode cX5_interest 9 = .ok (.iconst 1, 1) := by decide +kernel
theorem dX5_interest_10 : decode cX5_interest 10 = .ok (.iadd, 1) := by decide +kernel
theorem dX5_interest_11 : decode cX5_interest 11 = .ok (.istore_n 2, 1) := by decide +kernel
theorem dX5_interest_12 : decode cX5_interest 12 = .ok (.iload_n 2, 1) := by decide +kernel
theorem dX5_interest_13 : decode cX5_interest 13 = .ok (.iconst 1, 1) := by decide +kernel
theorem dX5_interest_14 : decode cX5_interest 14 = .ok (.aload_n 0, 1) := by decide +kernel
theorem dX5_interest_15 : decode cX5_interest 15 = .ok (.getfield 24, 3) := by decide +kernel
theorem dX5_interest_18 : decode cX5_interest 18 = .ok (.iconst 5, 1) := by decide +kernel
theorem dX5_interest_19 : decode cX5_interest 19 = .ok (.imul, 1) := by decide +kernel
theorem dX5_interest_20 : decode cX5_interest 20 = .ok (.bipush 100, 2) := by decide +kernel
theorem dX5_interest_22 : decode cX5_interest 22 = .ok (.idiv, 1) := by decide +kernel
theorem dX5_interest_23 : decode cX5_interest 23 = .ok (.invokestatic 42, 3) := by decide +kernel
theorem dX5_interest_26 : decode cX5_interest 26 = .ok (.imul, 1) := by decide +kernel
theorem dX5_interest_27 : decode cX5_interest 27 = .ok (.ireturn, 1) := by decide +kernel
theorem dX5_debt_0 : decode cX5_debt 0 = .ok (.aload_n 0, 1) := by decide +kernel
theorem dX5_debt_1 : decode cX5_debt 1 = .ok (.getfield 33, 3) := by decide +kernel
theorem dX5_debt_4 : decode cX5_debt 4 = .ok (.ifCond .ne 16, 3) := by decide +kernel
theorem dX5_debt_7 : decode cX5_debt 7 = .ok (.aload_n 0, 1) := by decide +kernel
theorem dX5_debt_8 : decode cX5_debt 8 = .ok (.getfield 24, 3) := by decide +kernel
theorem dX5_debt_11 : decode cX5_debt 11 = .ok (.aload_n 0, 1) := by decide +kernel
theorem dX5_debt_12 : decode cX5_debt 12 = .ok (.iload_n 1, 1) := by decide +kernel
theorem dX5_debt_13 : decode cX5_debt 13 = .ok (.invokevirtual 48, 3) := by decide +kernel
theorem dX5_debt_16 : decode cX5_debt 16 = .ok (.iadd, 1) := by decide +kernel
theorem dX5_debt_17 : decode cX5_debt 17 = .ok (.goto 4, 3) := by decide +kernel
theorem dX5_debt_20 : decode cX5_debt 20 = .ok (.iconst 0, 1) := by decide +kernel
theorem dX5_debt_21 : decode cX5_debt 21 = .ok (.ireturn, 1) := by decide +kernel
theorem dX5_offer_0 : decode cX5_offer 0 = .ok (.aload_n 0, 1) := by decide +kernel
theorem dX5_offer_1 : decode cX5_offer 1 = .ok (.iconst 2, 1) := by decide +kernel
theorem dX5_offer_2 : decode cX5_offer 2 = .ok (.putfield 33, 3) := by decide +kernel
theorem dX5_offer_5 : decode cX5_offer 5 = .ok (.aload_n 0, 1) := by decide +kernel
theorem dX5_offer_6 : decode cX5_offer 6 = .ok (.aload_n 0, 1) := by decide +kernel
theorem dX5_offer_7 : decode cX5_offer 7 = .ok (.getfield 18, 3) := by decide +kernel
theorem dX5_offer_10 : decode cX5_offer 10 = .ok (.putfield 36, 3) := by decide +kernel
theorem dX5_offer_13 : decode cX5_offer 13 = .ok (.return_, 1) := by decide +kernel
theorem dX5_cheapen_0 : decode cX5_cheapen 0 = .ok (.aload_n 0, 1) := by decide +kernel
theorem dX5_cheapen_1 : decode cX5_cheapen 1 = .ok (.aload_n 0, 1) := by decide +kernel
theorem dX5_cheapen_2 : decode cX5_cheapen 2 = .ok (.getfield 36, 3) := by decide +kernel
theorem dX5_cheapen_5 : decode cX5_cheapen 5 = .ok (.aload_n 0, 1) := by decide +kernel
theorem dX5_cheapen_6 : decode cX5_cheapen 6 = .ok (.getfield 18, 3) := by decide +kernel
theorem dX5_cheapen_9 : decode cX5_cheapen 9 = .ok (.bipush 20, 2) := by decide +kernel
theorem dX5_cheapen_11 : decode cX5_cheapen 11 = .ok (.idiv, 1) := by decide +kernel
theorem dX5_cheapen_12 : decode cX5_cheapen 12 = .ok (.isub, 1) := by decide +kernel
theorem dX5_cheapen_13 : decode cX5_cheapen 13 = .ok (.aload_n 0, 1) := by decide +kernel
theorem dX5_cheapen_14 : decode cX5_cheapen 14 = .ok (.getfield 18, 3) := by decide +kernel
theorem dX5_cheapen_17 : decode cX5_cheapen 17 = .ok (.iconst 3, 1) := by decide +kernel
theorem dX5_cheapen_18 : decode cX5_cheapen 18 = .ok (.imul, 1) := by decide +kernel
theorem dX5_cheapen_19 : decode cX5_cheapen 19 = .ok (.bipush 10, 2) := by decide +kernel
theorem dX5_cheapen_21 : decode cX5_cheapen 21 = .ok (.idiv, 1) := by decide +kernel
theorem dX5_cheapen_22 : decode cX5_cheapen 22 = .ok (.invokestatic 42, 3) := by decide +kernel
theorem dX5_cheapen_25 : decode cX5_cheapen 25 = .ok (.putfield 36, 3) := by decide +kernel
theorem dX5_cheapen_28 : decode cX5_cheapen 28 = .ok (.return_, 1) := by decide +kernel
theorem dX5_copyFrom_0 : decode cX5_copyFrom 0 = .ok (.aload_n 0, 1) := by decide +kernel
theorem dX5_copyFrom_1 : decode cX5_copyFrom 1 = .ok (.aload_n 1, 1) := by decide +kernel
theorem dX5_copyFrom_2 : decode cX5_copyFrom 2 = .ok (.getfield 9, 3) := by decide +kernel
theorem dX5_copyFrom_5 : decode cX5_copyFrom 5 = .ok (.aload_n 1, 1) := by decide +kernel
theorem dX5_copyFrom_6 : decode cX5_copyFrom 6 = .ok (.getfield 15, 3) := by decide +kernel
theorem dX5_copyFrom_9 : decode cX5_copyFrom 9 = .ok (.aload_n 1, 1) := by decide +kernel
theorem dX5_copyFrom_10 : decode cX5_copyFrom 10 = .ok (.getfield 18, 3) := by decide +kernel
theorem dX5_copyFrom_13 : decode cX5_copyFrom 13 = .ok (.aload_n 1, 1) := by decide +kernel
theorem dX5_copyFrom_14 : decode cX5_copyFrom 14 = .ok (.getfield 21, 3) := by decide +kernel
theorem dX5_copyFrom_17 : decode cX5_copyFrom 17 = .ok (.invokevirtual 52, 3) := by decide +kernel
theorem dX5_copyFrom_20 : decode cX5_copyFrom 20 = .ok (.aload_n 0, 1) := by decide +kernel
theorem dX5_copyFrom_21 : decode cX5_copyFrom 21 = .ok (.aload_n 1, 1) := by decide +kernel
theorem dX5_copyFrom_22 : decode cX5_copyFrom 22 = .ok (.getfield 24, 3) := by decide +kernel
theorem dX5_copyFrom_25 : decode cX5_copyFrom 25 = .ok (.putfield 24, 3) := by decide +kernel
theorem dX5_copyFrom_28 : decode cX5_copyFrom 28 = .ok (.aload_n 0, 1) := by decide +kernel
theorem dX5_copyFrom_29 : decode cX5_copyFrom 29 = .ok (.aload_n 1, 1) := by decide +kernel
theorem dX5_copyFrom_30 : decode cX5_copyFrom 30 = .ok (.getfield 27, 3) := by decide +kernel
theorem dX5_copyFrom_33 : decode cX5_copyFrom 33 = .ok (.putfield 27, 3) := by decide +kernel
theorem dX5_copyFrom_36 : decode cX5_copyFrom 36 = .ok (.aload_n 0, 1) := by decide +kernel
theorem dX5_copyFrom_37 : decode cX5_copyFrom 37 = .ok (.aload_n 1, 1) := by decide +kernel
theorem dX5_copyFrom_38 : decode cX5_copyFrom 38 = .ok (.getfield 30, 3) := by decide +kernel
theorem dX5_copyFrom_41 : decode cX5_copyFrom 41 = .ok (.putfield 30, 3) := by decide +kernel
theorem dX5_copyFrom_44 : decode cX5_copyFrom 44 = .ok (.aload_n 0, 1) := by decide +kernel
theorem dX5_copyFrom_45 : decode cX5_copyFrom 45 = .ok (.aload_n 1, 1) := by decide +kernel
theorem dX5_copyFrom_46 : decode cX5_copyFrom 46 = .ok (.getfield 33, 3) := by decide +kernel
theorem dX5_copyFrom_49 : decode cX5_copyFrom 49 = .ok (.putfield 33, 3) := by decide +kernel
theorem dX5_copyFrom_52 : decode cX5_copyFrom 52 = .ok (.aload_n 0, 1) := by decide +kernel
theorem dX5_copyFrom_53 : decode cX5_copyFrom 53 = .ok (.aload_n 1, 1) := by decide +kernel
theorem dX5_copyFrom_54 : decode cX5_copyFrom 54 = .ok (.getfield 36, 3) := by decide +kernel
theorem dX5_copyFrom_57 : decode cX5_copyFrom 57 = .ok (.putfield 36, 3) := by decide +kernel
theorem dX5_copyFrom_60 : decode cX5_copyFrom 60 = .ok (.aload_n 0, 1) := by decide +kernel
theorem dX5_copyFrom_61 : decode cX5_copyFrom 61 = .ok (.aload_n 1, 1) := by decide +kernel
theorem dX5_copyFrom_62 : decode cX5_copyFrom 62 = .ok (.getfield 39, 3) := by decide +kernel
theorem dX5_copyFrom_65 : decode cX5_copyFrom 65 = .ok (.putfield 39, 3) := by decide +kernel
theorem dX5_copyFrom_68 : decode cX5_copyFrom 68 = .ok (.return_, 1) := by decide +kernel
theorem dJ9_floorMod_7cf53_0 : decode cJ9_floorMod_7cf53 0 = .ok (.iload_n 0, 1) := by decide +kernel
theorem dJ9_floorMod_7cf53_1 : decode cJ9_floorMod_7cf53 1 = .ok (.iload_n 1, 1) := by decide +kernel
theorem dJ9_floorMod_7cf53_2 : decode cJ9_floorMod_7cf53 2 = .ok (.irem, 1) := by decide +kernel
theorem dJ9_floorMod_7cf53_3 : decode cJ9_floorMod_7cf53 3 = .ok (.istore_n 2, 1) := by decide +kernel
theorem dJ9_floorMod_7cf53_4 : decode cJ9_floorMod_7cf53 4 = .ok (.iload_n 0, 1) := by decide +kernel
theorem dJ9_floorMod_7cf53_5 : decode cJ9_floorMod_7cf53 5 = .ok (.iload_n 1, 1) := by decide +kernel
theorem dJ9_floorMod_7cf53_6 : decode cJ9_floorMod_7cf53 6 = .ok (.ixor, 1) := by decide +kernel
theorem dJ9_floorMod_7cf53_7 : decode cJ9_floorMod_7cf53 7 = .ok (.ifCond .ge 11, 3) := by decide +kernel
theorem dJ9_floorMod_7cf53_10 : decode cJ9_floorMod_7cf53 10 = .ok (.iload_n 2, 1) := by decide +kernel
theorem dJ9_floorMod_7cf53_11 : decode cJ9_floorMod_7cf53 11 = .ok (.ifCond .eq 7, 3) := by decide +kernel
theorem dJ9_floorMod_7cf53_14 : decode cJ9_floorMod_7cf53 14 = .ok (.iload_n 2, 1) := by decide +kernel
theorem dJ9_floorMod_7cf53_15 : decode cJ9_floorMod_7cf53 15 = .ok (.iload_n 1, 1) := by decide +kernel
theorem dJ9_floorMod_7cf53_16 : decode cJ9_floorMod_7cf53 16 = .ok (.iadd, 1) := by decide +kernel
theorem dJ9_floorMod_7cf53_17 : decode cJ9_floorMod_7cf53 17 = .ok (.ireturn, 1) := by decide +kernel
theorem dJ9_floorMod_7cf53_18 : decode cJ9_floorMod_7cf53 18 = .ok (.iload_n 2, 1) := by decide +kernel
theorem dJ9_floorMod_7cf53_19 : decode cJ9_floorMod_7cf53 19 = .ok (.ireturn, 1) := by decide +kernel
theorem dJ9_max_7cf53_0 : decode cJ9_max_7cf53 0 = .ok (.iload_n 0, 1) := by decide +kernel
theorem dJ9_max_7cf53_1 : decode cJ9_max_7cf53 1 = .ok (.iload_n 1, 1) := by decide +kernel
theorem dJ9_max_7cf53_2 : decode cJ9_max_7cf53 2 = .ok (.if_icmp .lt 7, 3) := by decide +kernel
theorem dJ9_max_7cf53_5 : decode cJ9_max_7cf53 5 = .ok (.iload_n 0, 1) := by decide +kernel
theorem dJ9_max_7cf53_6 : decode cJ9_max_7cf53 6 = .ok (.goto 4, 3) := by decide +kernel
theorem dJ9_max_7cf53_9 : decode cJ9_max_7cf53 9 = .ok (.iload_n 1, 1) := by decide +kernel
theorem dJ9_max_7cf53_10 : decode cJ9_max_7cf53 10 = .ok (.ireturn, 1) := by decide +kernel
theorem dJ9_min_7cf53_0 : decode cJ9_min_7cf53 0 = .ok (.iload_n 0, 1) := by decide +kernel
theorem dJ9_min_7cf53_1 : decode cJ9_min_7cf53 1 = .ok (.iload_n 1, 1) := by decide +kernel
theorem dJ9_min_7cf53_2 : decode cJ9_min_7cf53 2 = .ok (.if_icmp .gt 7, 3) := by decide +kernel
theorem dJ9_min_7cf53_5 : decode cJ9_min_7cf53 5 = .ok (.iload_n 0, 1) := by decide +kernel
theorem dJ9_min_7cf53_6 : decode cJ9_min_7cf53 6 = .ok (.goto 4, 3) := by decide +kernel
theorem dJ9_min_7cf53_9 : decode cJ9_min_7cf53 9 = .ok (.iload_n 1, 1) := by decide +kernel
theorem dJ9_min_7cf53_10 : decode cJ9_min_7cf53 10 = .ok (.ireturn, 1) := by decide +kernel
end
section
theorem dX4_init_0 : decode cX4_init 0 = .ok (.aload_n 0, 1) := by decide +kernel
theorem dX4_init_1 : decode cX4_init 1 = .ok (.invokespecial 3, 3) := by decide +kernel
theorem dX4_init_4 : decode cX4_init 4 = .ok (.aload_n 0, 1) := by decide +kernel
theorem dX4_init_5 : decode cX4_init 5 = .ok (.sipush 400, 3) := by decide +kernel
theorem dX4_init_8 : decode cX4_init 8 = .ok (.putfield 11, 3) := by decide +kernel
theorem dX4_init_11 : decode cX4_init 11 = .ok (.aload_n 0, 1) := by decide +kernel
theorem dX4_init_12 : decode cX4_init 12 = .ok (.bipush 10, 2) := by decide +kernel
theorem dX4_init_14 : decode cX4_init 14 = .ok (.anewarray 15, 3) := by decide +kernel
theorem dX4_init_17 : decode cX4_init 17 = .ok (.putfield 17, 3) := by decide +kernel
theorem dX4_init_20 : decode cX4_init 20 = .ok (.aload_n 0, 1) := by decide +kernel
theorem dX4_init_21 : decode cX4_init 21 = .ok (.bipush 40, 2) := by decide +kernel
theorem dX4_init_23 : decode cX4_init 23 = .ok (.anewarray 21, 3) := by decide +kernel
theorem dX4_init_26 : decode cX4_init 26 = .ok (.putfield 23, 3) := by decide +kernel
theorem dX4_init_29 : decode cX4_init 29 = .ok (.aload_n 0, 1) := by decide +kernel
theorem dX4_init_30 : decode cX4_init 30 = .ok (.bipush 7, 2) := by decide +kernel
theorem dX4_init_32 : decode cX4_init 32 = .ok (.anewarray 27, 3) := by decide +kernel
theorem dX4_init_35 : decode cX4_init 35 = .ok (.putfield 29, 3) := by decide +kernel
theorem dX4_init_38 : decode cX4_init 38 = .ok (.aload_n 0, 1) := by decide +kernel
theorem dX4_init_39 : decode cX4_init 39 = .ok (.new 33, 3) := by decide +kernel
theorem dX4_init_42 : decode cX4_init 42 = .ok (.dup, 1) := by decide +kernel
theorem dX4_init_43 : decode cX4_init 43 = .ok (.invokespecial 35, 3) := by decide +kernel
theorem dX4_init_46 : decode cX4_init 46 = .ok (.putfield 36, 3) := by decide +kernel
theorem dX4_init_49 : decode cX4_init 49 = .ok (.iconst 0, 1) := by decide +kernel
theorem dX4_init_50 : decode cX4_init 50 = .ok (.istore_n 1, 1) := by decide +kernel
theorem dX4_init_51 : decode cX4_init 51 = .ok (.iload_n 1, 1) := by decide +kernel
theorem dX4_init_52 : decode cX4_init 52 = .ok (.bipush 10, 2) := by decide +kernel
theorem dX4_init_54 : decode cX4_init 54 = .ok (.if_icmp .ge 22, 3) := by decide +kernel
theorem dX4_init_57 : decode cX4_init 57 = .ok (.aload_n 0, 1) := by decide +kernel
theorem dX4_init_58 : decode cX4_init 58 = .ok (.getfield 17, 3) := by decide +kernel
theorem dX4_init_61 : decode cX4_init 61 = .ok (.iload_n 1, 1) := by decide +kernel
theorem dX4_init_62 : decode cX4_init 62 = .ok (.new 15, 3) := by decide +kernel
theorem dX4_init_65 : decode cX4_init 65 = .ok (.dup, 1) := by decide +kernel
theorem dX4_init_66 : decode cX4_init 66 = .ok (.invokespecial 40, 3) := by decide +kernel
theorem dX4_init_69 : decode cX4_init 69 = .ok (.aastore, 1) := by decide +kernel
theorem dX4_init_70 : decode cX4_init 70 = .ok (.iinc 1 1, 3) := by decide +kernel
theorem dX4_init_73 : decode cX4_init 73 = .ok (.goto (-22), 3) := by decide +kernel
theorem dX4_init_76 : decode cX4_init 76 = .ok (.iconst 0, 1) := by decide +kernel
theorem dX4_init_77 : decode cX4_init 77 = .ok (.istore_n 1, 1) := by decide +kernel
theorem dX4_init_78 : decode cX4_init 78 = .ok (.iload_n 1, 1) := by decide +kernel
theorem dX4_init_79 : decode cX4_init 79 = .ok (.bipush 40, 2) := by decide +kernel
theorem dX4_init_81 : decode cX4_init 81 = .ok (.if_icmp .ge 22, 3) := by decide +kernel
theorem dX4_init_84 : decode cX4_init 84 = .ok (.aload_n 0, 1) := by decide +kernel
theorem dX4_init_85 : decode cX4_init 85 = .ok (.getfield 23, 3) := by decide +kernel
theorem dX4_init_88 : decode cX4_init 88 = .ok (.iload_n 1, 1) := by decide +kernel
theorem dX4_init_89 : decode cX4_init 89 = .ok (.new 21, 3) := by decide +kernel
theorem dX4_init_92 : decode cX4_init 92 = .ok (.dup, 1) := by decide +kernel
theorem dX4_init_93 : decode cX4_init 93 = .ok (.invokespecial 41, 3) := by decide +kernel
theorem dX4_init_96 : decode cX4_init 96 = .ok (.aastore, 1) := by decide +kernel
theorem dX4_init_97 : decode cX4_init 97 = .ok (.iinc 1 1, 3) := by decide +kernel
theorem dX4_init_100 : decode cX4_init 100 = .ok (.goto (-22), 3) := by decide +kernel
theorem dX4_init_103 : decode cX4_init 103 = .ok (.iconst 0, 1) := by decide +kernel
theorem dX4_init_104 : decode cX4_init 104 = .ok (.istore_n 1, 1) := by decide +kernel
theorem dX4_init_105 : decode cX4_init 105 = .ok (.iload_n 1, 1) := by decide +kernel
theorem dX4_init_106 : decode cX4_init 106 = .ok (.bipush 7, 2) := by decide +kernel
theorem dX4_init_108 : decode cX4_init 108 = .ok (.if_icmp .ge 22, 3) := by decide +kernel
theorem dX4_init_111 : decode cX4_init 111 = .ok (.aload_n 0, 1) := by decide +kernel
theorem dX4_init_112 : decode cX4_init 112 = .ok (.getfield 29, 3) := by decide +kernel
theorem dX4_init_115 : decode cX4_init 115 = .ok (.iload_n 1, 1) := by decide +kernel
theorem dX4_init_116 : decode cX4_init 116 = .ok (.new 27, 3) := by decide +kernel
theorem dX4_init_119 : decode cX4_init 119 = .ok (.dup, 1) := by decide +kernel
theorem dX4_init_120 : decode cX4_init 120 = .ok (.invokespecial 42, 3) := by decide +kernel
theorem dX4_init_123 : decode cX4_init 123 = .ok (.aastore, 1) := by decide +kernel
theorem dX4_init_124 : decode cX4_init 124 = .ok (.iinc 1 1, 3) := by decide +kernel
theorem dX4_init_127 : decode cX4_init 127 = .ok (.goto (-22), 3) := by decide +kernel
theorem dX4_init_130 : decode cX4_init 130 = .ok (.return_, 1) := by decide +kernel
theorem dX4_hasCustomer_0 : decode cX4_hasCustomer 0 = .ok (.iload_n 1, 1) := by decide +kernel
theorem dX4_hasCustomer_1 : decode cX4_hasCustomer 1 = .ok (.iconst 0, 1) := by decide +kernel
theorem dX4_hasCustomer_2 : decode cX4_hasCustomer 2 = .ok (.aload_n 0, 1) := by decide +kernel
theorem dX4_hasCustomer_3 : decode cX4_hasCustomer 3 = .ok (.getfield 43, 3) := by decide +kernel
theorem dX4_hasCustomer_6 : decode cX4_hasCustomer 6 = .ok (.iconst 1, 1) := by decide +kernel
theorem dX4_hasCustomer_7 : decode cX4_hasCustomer 7 = .ok (.isub, 1) := by decide +kernel
theorem dX4_hasCustomer_8 : decode cX4_hasCustomer 8 = .ok (.invokestatic 46, 3) := by decide +kernel
theorem dX4_hasCustomer_11 : decode cX4_hasCustomer 11 = .ok (.ireturn, 1) := by decide +kernel
theorem dX4_hasTicket_0 : decode cX4_hasTicket 0 = .ok (.iload_n 1, 1) := by decide +kernel
theorem dX4_hasTicket_1 : decode cX4_hasTicket 1 = .ok (.iconst 0, 1) := by decide +kernel
theorem dX4_hasTicket_2 : decode cX4_hasTicket 2 = .ok (.aload_n 0, 1) := by decide +kernel
theorem dX4_hasTicket_3 : decode cX4_hasTicket 3 = .ok (.getfield 50, 3) := by decide +kernel
theorem dX4_hasTicket_6 : decode cX4_hasTicket 6 = .ok (.iconst 1, 1) := by decide +kernel
theorem dX4_hasTicket_7 : decode cX4_hasTicket 7 = .ok (.isub, 1) := by decide +kernel
theorem dX4_hasTicket_8 : decode cX4_hasTicket 8 = .ok (.invokestatic 46, 3) := by decide +kernel
theorem dX4_hasTicket_11 : decode cX4_hasTicket 11 = .ok (.ireturn, 1) := by decide +kernel
theorem dX4_addCustomer_0 : decode cX4_addCustomer 0 = .ok (.aload_n 0, 1) := by decide +kernel
theorem dX4_addCustomer_1 : decode cX4_addCustomer 1 = .ok (.getfield 43, 3) := by decide +kernel
theorem dX4_addCustomer_4 : decode cX4_addCustomer 4 = .ok (.istore_n 2, 1) := by decide +kernel
theorem dX4_addCustomer_5 : decode cX4_addCustomer 5 = .ok (.aload_n 0, 1) := by decide +kernel
theorem dX4_addCustomer_6 : decode cX4_addCustomer 6 = .ok (.getfield 17, 3) := by decide +kernel
theorem dX4_addCustomer_9 : decode cX4_addCustomer 9 = .ok (.iload_n 2, 1) := by decide +kernel
theorem dX4_addCustomer_10 : decode cX4_addCustomer 10 = .ok (.aaload, 1) := by decide +kernel
theorem dX4_addCustomer_11 : decode cX4_addCustomer 11 = .ok (.iload_n 1, 1) := by decide +kernel
theorem dX4_addCustomer_12 : decode cX4_addCustomer 12 = .ok (.invokevirtual 53, 3) := by decide +kernel
theorem dX4_addCustomer_15 : decode cX4_addCustomer 15 = .ok (.aload_n 0, 1) := by decide +kernel
theorem dX4_addCustomer_16 : decode cX4_addCustomer 16 = .ok (.dup, 1) := by decide +kernel
theorem dX4_addCustomer_17 : decode cX4_addCustomer 17 = .ok (.getfield 43, 3) := by decide +kernel
theorem dX4_addCustomer_20 : decode cX4_addCustomer 20 = .ok (.iconst 1, 1) := by decide +kernel
theorem dX4_addCustomer_21 : decode cX4_addCustomer 21 = .ok (.iadd, 1) := by decide +kernel
theorem dX4_addCustomer_22 : decode cX4_addCustomer 22 = .ok (.putfield 43, 3) := by decide +kernel
theorem dX4_addCustomer_25 : decode cX4_addCustomer 25 = .ok (.iload_n 2, 1) := by decide +kernel
theorem dX4_addCustomer_26 : decode cX4_addCustomer 26 = .ok (.ireturn, 1) := by decide +kernel
theorem dX4_addTicket_0 : decode cX4_addTicket 0 = .ok (.aload_n 0, 1) := by decide +kernel
theorem dX4_addTicket_1 : decode cX4_addTicket 1 = .ok (.getfield 50, 3) := by decide +kernel
theorem dX4_addTicket_4 : decode cX4_addTicket 4 = .ok (.istore 5, 2) := by decide +kernel
theorem dX4_addTicket_6 : decode cX4_addTicket 6 = .ok (.aload_n 0, 1) := by decide +kernel
theorem dX4_addTicket_7 : decode cX4_addTicket 7 = .ok (.getfield 17, 3) := by decide +kernel
theorem dX4_addTicket_10 : decode cX4_addTicket 10 = .ok (.iload_n 1, 1) := by decide +kernel
theorem dX4_addTicket_11 : decode cX4_addTicket 11 = .ok (.aaload, 1) := by decide +kernel
theorem dX4_addTicket_12 : decode cX4_addTicket 12 = .ok (.iload_n 3, 1) := by decide +kernel
theorem dX4_addTicket_13 : decode cX4_addTicket 13 = .ok (.invokevirtual 57, 3) := by decide +kernel
theorem dX4_addTicket_16 : decode cX4_addTicket 16 = .ok (.istore 6, 2) := by decide +kernel
theorem dX4_addTicket_18 : decode cX4_addTicket 18 = .ok (.aload_n 0, 1) := by decide +kernel
theorem dX4_addTicket_19 : decode cX4_addTicket 19 = .ok (.getfield 23, 3) := by decide +kernel
theorem dX4_addTicket_22 : decode cX4_addTicket 22 = .ok (.iload 5, 2) := by decide +kernel
theorem dX4_addTicket_24 : decode cX4_addTicket 24 = .ok (.aaload, 1) := by decide +kernel
theorem dX4_addTicket_25 : decode cX4_addTicket 25 = .ok (.iload_n 1, 1) := by decide +kernel
theorem dX4_addTicket_26 : decode cX4_addTicket 26 = .ok (.iload_n 2, 1) := by decide +kernel
theorem dX4_addTicket_27 : decode cX4_addTicket 27 = .ok (.iload_n 3, 1) := by decide +kernel
theorem dX4_addTicket_28 : decode cX4_addTicket 28 = .ok (.iload 4, 2) := by decide +kernel
theorem dX4_addTicket_30 : decode cX4_addTicket 30 = .ok (.invokevirtual 61, 3) := by decide +kernel
theorem dX4_addTicket_33 : decode cX4_addTicket 33 = .ok (.aload_n 0, 1) := by decide +kernel
theorem dX4_addTicket_34 : decode cX4_addTicket 34 = .ok (.getfield 23, 3) := by decide +kernel
theorem dX4_addTicket_37 : decode cX4_addTicket 37 = .ok (.iload 5, 2) := by decide +kernel
theorem dX4_addTicket_39 : decode cX4_addTicket 39 = .ok (.aaload, 1) := by decide +kernel
theorem dX4_addTicket_40 : decode cX4_addTicket 40 = .ok (.iload 6, 2) := by decide +kernel
theorem dX4_addTicket_42 : decode cX4_addTicket 42 = .ok (.aload_n 0, 1) := by decide +kernel
theorem dX4_addTicket_43 : decode cX4_addTicket 43 = .ok (.getfield 65, 3) := by decide +kernel
theorem dX4_addTicket_46 : decode cX4_addTicket 46 = .ok (.invokevirtual 68, 3) := by decide +kernel
theorem dX4_addTicket_49 : decode cX4_addTicket 49 = .ok (.aload_n 0, 1) := by decide +kernel
theorem dX4_addTicket_50 : decode cX4_addTicket 50 = .ok (.getfield 36, 3) := by decide +kernel
theorem dX4_addTicket_53 : decode cX4_addTicket 53 = .ok (.iload 5, 2) := by decide +kernel
theorem dX4_addTicket_55 : decode cX4_addTicket 55 = .ok (.iload 4, 2) := by decide +kernel
theorem dX4_addTicket_57 : decode cX4_addTicket 57 = .ok (.invokevirtual 72, 3) := by decide +kernel
theorem dX4_addTicket_60 : decode cX4_addTicket 60 = .ok (.aload_n 0, 1) := by decide +kernel
theorem dX4_addTicket_61 : decode cX4_addTicket 61 = .ok (.dup, 1) := by decide +kernel
theorem dX4_addTicket_62 : decode cX4_addTicket 62 = .ok (.getfield 11, 3) := by decide +kernel
theorem dX4_addTicket_65 : decode cX4_addTicket 65 = .ok (.iload 6, 2) := by decide +kernel
theorem dX4_addTicket_67 : decode cX4_addTicket 67 = .ok (.isub, 1) := by decide +kernel
theorem dX4_addTicket_68 : decode cX4_addTicket 68 = .ok (.putfield 11, 3) := by decide +kernel
theorem dX4_addTicket_71 : decode cX4_addTicket 71 = .ok (.aload_n 0, 1) := by decide +kernel
theorem dX4_addTicket_72 : decode cX4_addTicket 72 = .ok (.getfield 17, 3) := by decide +kernel
theorem dX4_addTicket_75 : decode cX4_addTicket 75 = .ok (.iload_n 1, 1) := by decide +kernel
theorem dX4_addTicket_76 : decode cX4_addTicket 76 = .ok (.aaload, 1) := by decide +kernel
theorem dX4_addTicket_77 : decode cX4_addTicket 77 = .ok (.dup, 1) := by decide +kernel
theorem dX4_addTicket_78 : decode cX4_addTicket 78 = .ok (.getfield 75, 3) := by decide +kernel
theorem dX4_addTicket_81 : decode cX4_addTicket 81 = .ok (.iload 6, 2) := by decide +kernel
theorem dX4_addTicket_83 : decode cX4_addTicket 83 = .ok (.iadd, 1) := by decide +kernel
theorem dX4_addTicket_84 : decode cX4_addTicket 84 = .ok (.putfield 75, 3) := by decide +kernel
theorem dX4_addTicket_87 : decode cX4_addTicket 87 = .ok (.aload_n 0, 1) := by decide +kernel
theorem dX4_addTicket_88 : decode cX4_addTicket 88 = .ok (.dup, 1) := by decide +kernel
theorem dX4_addTicket_89 : decode cX4_addTicket 89 = .ok (.getfield 50, 3) := by decide +kernel
theorem dX4_addTicket_92 : decode cX4_addTicket 92 = .ok (.iconst 1, 1) := by decide +kernel
theorem dX4_addTicket_93 : decode cX4_addTicket 93 = .ok (.iadd, 1) := by decide +kernel
theorem dX4_addTicket_94 : decode cX4_addTicket 94 = .ok (.putfield 50, 3) := by decide +kernel
theorem dX4_addTicket_97 : decode cX4_addTicket 97 = .ok (.iload 5, 2) := by decide +kernel
theorem dX4_addTicket_99 : decode cX4_addTicket 99 = .ok (.ireturn, 1) := by decide +kernel
theorem dX4_canPay_0 : decode cX4_canPay 0 = .ok (.aload_n 0, 1) := by decide +kernel
theorem dX4_canPay_1 : decode cX4_canPay 1 = .ok (.iload_n 1, 1) := by decide +kernel
theorem dX4_canPay_2 : decode cX4_canPay 2 = .ok (.invokevirtual 76, 3) := by decide +kernel
theorem dX4_canPay_5 : decode cX4_canPay 5 = .ok (.ifCond .eq 20, 3) := by decide +kernel
theorem dX4_canPay_8 : decode cX4_canPay 8 = .ok (.aload_n 0, 1) := by decide +kernel
theorem dX4_canPay_9 : decode cX4_canPay 9 = .ok (.getfield 17, 3) := by decide +kernel
theorem dX4_canPay_12 : decode cX4_canPay 12 = .ok (.iload_n 1, 1) := by decide +kernel
theorem dX4_canPay_13 : decode cX4_canPay 13 = .ok (.aaload, 1) := by decide +kernel
theorem dX4_canPay_14 : decode cX4_canPay 14 = .ok (.getfield 75, 3) := by decide +kernel
theorem dX4_canPay_17 : decode cX4_canPay 17 = .ok (.iload_n 2, 1) := by decide +kernel
theorem dX4_canPay_18 : decode cX4_canPay 18 = .ok (.if_icmp .lt 7, 3) := by decide +kernel
theorem dX4_canPay_21 : decode cX4_canPay 21 = .ok (.iconst 1, 1) := by decide +kernel
theorem dX4_canPay_22 : decode cX4_canPay 22 = .ok (.goto 4, 3) := by decide +kernel
theorem dX4_canPay_25 : decode cX4_canPay 25 = .ok (.iconst 0, 1) := by decide +kernel
theorem dX4_canPay_26 : decode cX4_canPay 26 = .ok (.ireturn, 1) := by decide +kernel
theorem dX4_takeFrom_0 : decode cX4_takeFrom 0 = .ok (.aload_n 0, 1) := by decide +kernel
theorem dX4_takeFrom_1 : decode cX4_takeFrom 1 = .ok (.iload_n 1, 1) := by decide +kernel
theorem dX4_takeFrom_2 : decode cX4_takeFrom 2 = .ok (.invokevirtual 76, 3) := by decide +kernel
theorem dX4_takeFrom_5 : decode cX4_takeFrom 5 = .ok (.ifCond .eq 38, 3) := by decide +kernel
theorem dX4_takeFrom_8 : decode cX4_takeFrom 8 = .ok (.aload_n 0, 1) := by decide +kernel
theorem dX4_takeFrom_9 : decode cX4_takeFrom 9 = .ok (.getfield 17, 3) := by decide +kernel
theorem dX4_takeFrom_12 : decode cX4_takeFrom 12 = .ok (.iload_n 1, 1) := by decide +kernel
theorem dX4_takeFrom_13 : decode cX4_takeFrom 13 = .ok (.aaload, 1) := by decide +kernel
theorem dX4_takeFrom_14 : decode cX4_takeFrom 14 = .ok (.dup, 1) := by decide +kernel
theorem dX4_takeFrom_15 : decode cX4_takeFrom 15 = .ok (.getfield 75, 3) := by decide +kernel
theorem dX4_takeFrom_18 : decode cX4_takeFrom 18 = .ok (.iload_n 2, 1) := by decide +kernel
theorem dX4_takeFrom_19 : decode cX4_takeFrom 19 = .ok (.isub, 1) := by decide +kernel
theorem dX4_takeFrom_20 : decode cX4_takeFrom 20 = .ok (.putfield 75, 3) := by decide +kernel
theorem dX4_takeFrom_23 : decode cX4_takeFrom 23 = .ok (.aload_n 0, 1) := by decide +kernel
theorem dX4_takeFrom_24 : decode cX4_takeFrom 24 = .ok (.dup, 1) := by decide +kernel
theorem dX4_takeFrom_25 : decode cX4_takeFrom 25 = .ok (.getfield 11, 3) := by decide +kernel
theorem dX4_takeFrom_28 : decode cX4_takeFrom 28 = .ok (.iload_n 2, 1) := by decide +kernel
theorem dX4_takeFrom_29 : decode cX4_takeFrom 29 = .ok (.iadd, 1) := by decide +kernel
theorem dX4_takeFrom_30 : decode cX4_takeFrom 30 = .ok (.putfield 11, 3) := by decide +kernel
theorem dX4_takeFrom_33 : decode cX4_takeFrom 33 = .ok (.aload_n 0, 1) := by decide +kernel
theorem dX4_takeFrom_34 : decode cX4_takeFrom 34 = .ok (.dup, 1) := by decide +kernel
theorem dX4_takeFrom_35 : decode cX4_takeFrom 35 = .ok (.getfield 80, 3) := by decide +kernel
theorem dX4_takeFrom_38 : decode cX4_takeFrom 38 = .ok (.iload_n 3, 1) := by decide +kernel
theorem dX4_takeFrom_39 : decode cX4_takeFrom 39 = .ok (.iadd, 1) := by decide +kernel
theorem dX4_takeFrom_40 : decode cX4_takeFrom 40 = .ok (.putfield 80, 3) := by decide +kernel
theorem dX4_takeFrom_43 : decode cX4_takeFrom 43 = .ok (.return_, 1) := by decide +kernel
theorem dX4_handOut_0 : decode cX4_handOut 0 = .ok (.aload_n 0, 1) := by decide +kernel
theorem dX4_handOut_1 : decode cX4_handOut 1 = .ok (.getfield 23, 3) := by decide +kernel
theorem dX4_handOut_4 : decode cX4_handOut 4 = .ok (.iload_n 1, 1) := by decide +kernel
theorem dX4_handOut_5 : decode cX4_handOut 5 = .ok (.aaload, 1) := by decide +kernel
theorem dX4_handOut_6 : decode cX4_handOut 6 = .ok (.iconst 1, 1) := by decide +kernel
theorem dX4_handOut_7 : decode cX4_handOut 7 = .ok (.putfield 83, 3) := by decide +kernel
theorem dX4_handOut_10 : decode cX4_handOut 10 = .ok (.aload_n 0, 1) := by decide +kernel
theorem dX4_handOut_11 : decode cX4_handOut 11 = .ok (.getfield 36, 3) := by decide +kernel
theorem dX4_handOut_14 : decode cX4_handOut 14 = .ok (.iload_n 1, 1) := by decide +kernel
theorem dX4_handOut_15 : decode cX4_handOut 15 = .ok (.invokevirtual 86, 3) := by decide +kernel
theorem dX4_handOut_18 : decode cX4_handOut 18 = .ok (.aload_n 0, 1) := by decide +kernel
theorem dX4_handOut_19 : decode cX4_handOut 19 = .ok (.aload_n 0, 1) := by decide +kernel
theorem dX4_handOut_20 : decode cX4_handOut 20 = .ok (.getfield 23, 3) := by decide +kernel
theorem dX4_handOut_23 : decode cX4_handOut 23 = .ok (.iload_n 1, 1) := by decide +kernel
theorem dX4_handOut_24 : decode cX4_handOut 24 = .ok (.aaload, 1) := by decide +kernel
theorem dX4_handOut_25 : decode cX4_handOut 25 = .ok (.getfield 89, 3) := by decide +kernel
theorem dX4_handOut_28 : decode cX4_handOut 28 = .ok (.iconst 1, 1) := by decide +kernel
theorem dX4_handOut_29 : decode cX4_handOut 29 = .ok (.invokevirtual 92, 3) := by decide +kernel
theorem dX4_handOut_32 : decode cX4_handOut 32 = .ok (.return_, 1) := by decide +kernel
theorem dX4_changeTrust_0 : decode cX4_changeTrust 0 = .ok (.aload_n 0, 1) := by decide +kernel
theorem dX4_changeTrust_1 : decode cX4_changeTrust 1 = .ok (.iload_n 1, 1) := by decide +kernel
theorem dX4_changeTrust_2 : decode cX4_changeTrust 2 = .ok (.invokevirtual 76, 3) := by decide +kernel
theorem dX4_changeTrust_5 : decode cX4_changeTrust 5 = .ok (.ifCond .eq 13, 3) := by decide +kernel
theorem dX4_changeTrust_8 : decode cX4_changeTrust 8 = .ok (.aload_n 0, 1) := by decide +kernel
theorem dX4_changeTrust_9 : decode cX4_changeTrust 9 = .ok (.getfield 17, 3) := by decide +kernel
theorem dX4_changeTrust_12 : decode cX4_changeTrust 12 = .ok (.iload_n 1, 1) := by decide +kernel
theorem dX4_changeTrust_13 : decode cX4_changeTrust 13 = .ok (.aaload, 1) := by decide +kernel
theorem dX4_changeTrust_14 : decode cX4_changeTrust 14 = .ok (.iload_n 2, 1) := by decide +kernel
theorem dX4_changeTrust_15 : decode cX4_changeTrust 15 = .ok (.invokevirtual 95, 3) := by decide +kernel
theorem dX4_changeTrust_18 : decode cX4_changeTrust 18 = .ok (.return_, 1) := by decide +kernel
theorem dX4_goOn_0 : decode cX4_goOn 0 = .ok (.iconst 0, 1) := by decide +kernel
theorem dX4_goOn_1 : decode cX4_goOn 1 = .ok (.istore_n 2, 1) := by decide +kernel
theorem dX4_goOn_2 : decode cX4_goOn 2 = .ok (.iconst 0, 1) := by decide +kernel
theorem dX4_goOn_3 : decode cX4_goOn 3 = .ok (.istore_n 3, 1) := by decide +kernel
theorem dX4_goOn_4 : decode cX4_goOn 4 = .ok (.iload_n 3, 1) := by decide +kernel
theorem dX4_goOn_5 : decode cX4_goOn 5 = .ok (.iload_n 1, 1) := by decide +kernel
theorem dX4_goOn_6 : decode cX4_goOn 6 = .ok (.if_icmp .ge 47, 3) := by decide +kernel
theorem dX4_goOn_9 : decode cX4_goOn 9 = .ok (.aload_n 0, 1) := by decide +kernel
theorem dX4_goOn_10 : decode cX4_goOn 10 = .ok (.invokevirtual 97, 3) := by decide +kernel
theorem dX4_goOn_13 : decode cX4_goOn 13 = .ok (.aload_n 0, 1) := by decide +kernel
theorem dX4_goOn_14 : decode cX4_goOn 14 = .ok (.aload_n 0, 1) := by decide +kernel
theorem dX4_goOn_15 : decode cX4_goOn 15 = .ok (.getfield 29, 3) := by decide +kernel
theorem dX4_goOn_18 : decode cX4_goOn 18 = .ok (.aload_n 0, 1) := by decide +kernel
theorem dX4_goOn_19 : decode cX4_goOn 19 = .ok (.getfield 65, 3) := by decide +kernel
theorem dX4_goOn_22 : decode cX4_goOn 22 = .ok (.bipush 7, 2) := by decide +kernel
theorem dX4_goOn_24 : decode cX4_goOn 24 = .ok (.invokestatic 100, 3) := by decide +kernel
theorem dX4_goOn_27 : decode cX4_goOn 27 = .ok (.aaload, 1) := by decide +kernel
theorem dX4_goOn_28 : decode cX4_goOn 28 = .ok (.invokevirtual 106, 3) := by decide +kernel
theorem dX4_goOn_31 : decode cX4_goOn 31 = .ok (.ifCond .eq 6, 3) := by decide +kernel
theorem dX4_goOn_34 : decode cX4_goOn 34 = .ok (.iinc 2 1, 3) := by decide +kernel
theorem dX4_goOn_37 : decode cX4_goOn 37 = .ok (.aload_n 0, 1) := by decide +kernel
theorem dX4_goOn_38 : decode cX4_goOn 38 = .ok (.dup, 1) := by decide +kernel
theorem dX4_goOn_39 : decode cX4_goOn 39 = .ok (.getfield 65, 3) := by decide +kernel
theorem dX4_goOn_42 : decode cX4_goOn 42 = .ok (.iconst 1, 1) := by decide +kernel
theorem dX4_goOn_43 : decode cX4_goOn 43 = .ok (.iadd, 1) := by decide +kernel
theorem dX4_goOn_44 : decode cX4_goOn 44 = .ok (.putfield 65, 3) := by decide +kernel
theorem dX4_goOn_47 : decode cX4_goOn 47 = .ok (.iinc 3 1, 3) := by decide +kernel
theorem dX4_goOn_50 : decode cX4_goOn 50 = .ok (.goto (-46), 3) := by decide +kernel
theorem dX4_goOn_53 : decode cX4_goOn 53 = .ok (.iload_n 2, 1) := by decide +kernel
theorem dX4_goOn_54 : decode cX4_goOn 54 = .ok (.ireturn, 1) := by decide +kernel
theorem dX4_ageTickets_0 : decode cX4_ageTickets 0 = .ok (.iconst 0, 1) := by decide +kernel
theorem dX4_ageTickets_1 : decode cX4_ageTickets 1 = .ok (.istore_n 1, 1) := by decide +kernel
theorem dX4_ageTickets_2 : decode cX4_ageTickets 2 = .ok (.iload_n 1, 1) := by decide +kernel
theorem dX4_ageTickets_3 : decode cX4_ageTickets 3 = .ok (.aload_n 0, 1) := by decide +kernel
theorem dX4_ageTickets_4 : decode cX4_ageTickets 4 = .ok (.getfield 50, 3) := by decide +kernel
theorem dX4_ageTickets_7 : decode cX4_ageTickets 7 = .ok (.if_icmp .ge 63, 3) := by decide +kernel
theorem dX4_ageTickets_10 : decode cX4_ageTickets 10 = .ok (.aload_n 0, 1) := by decide +kernel
theorem dX4_ageTickets_11 : decode cX4_ageTickets 11 = .ok (.getfield 23, 3) := by decide +kernel
theorem dX4_ageTickets_14 : decode cX4_ageTickets 14 = .ok (.iload_n 1, 1) := by decide +kernel
theorem dX4_ageTickets_15 : decode cX4_ageTickets 15 = .ok (.aaload, 1) := by decide +kernel
theorem dX4_ageTickets_16 : decode cX4_ageTickets 16 = .ok (.astore_n 2, 1) := by decide +kernel
theorem dX4_ageTickets_17 : decode cX4_ageTickets 17 = .ok (.aload_n 2, 1) := by decide +kernel
theorem dX4_ageTickets_18 : decode cX4_ageTickets 18 = .ok (.getfield 83, 3) := by decide +kernel
theorem dX4_ageTickets_21 : decode cX4_ageTickets 21 = .ok (.iconst 2, 1) := by decide +kernel
theorem dX4_ageTickets_22 : decode cX4_ageTickets 22 = .ok (.if_icmp .ne 10, 3) := by decide +kernel
theorem dX4_ageTickets_25 : decode cX4_ageTickets 25 = .ok (.aload_n 2, 1) := by decide +kernel
theorem dX4_ageTickets_26 : decode cX4_ageTickets 26 = .ok (.invokevirtual 110, 3) := by decide +kernel
theorem dX4_ageTickets_29 : decode cX4_ageTickets 29 = .ok (.goto 35, 3) := by decide +kernel
theorem dX4_ageTickets_32 : decode cX4_ageTickets 32 = .ok (.aload_n 2, 1) := by decide +kernel
theorem dX4_ageTickets_33 : decode cX4_ageTickets 33 = .ok (.getfield 83, 3) := by decide +kernel
theorem dX4_ageTickets_36 : decode cX4_ageTickets 36 = .ok (.ifCond .ne 28, 3) := by decide +kernel
theorem dX4_ageTickets_39 : decode cX4_ageTickets 39 = .ok (.aload_n 2, 1) := by decide +kernel
theorem dX4_ageTickets_40 : decode cX4_ageTickets 40 = .ok (.getfield 113, 3) := by decide +kernel
theorem dX4_ageTickets_43 : decode cX4_ageTickets 43 = .ok (.aload_n 0, 1) := by decide +kernel
theorem dX4_ageTickets_44 : decode cX4_ageTickets 44 = .ok (.getfield 65, 3) := by decide +kernel
theorem dX4_ageTickets_47 : decode cX4_ageTickets 47 = .ok (.if_icmp .ge 17, 3) := by decide +kernel
theorem dX4_ageTickets_50 : decode cX4_ageTickets 50 = .ok (.aload_n 2, 1) := by decide +kernel
theorem dX4_ageTickets_51 : decode cX4_ageTickets 51 = .ok (.invokevirtual 116, 3) := by decide +kernel
theorem dX4_ageTickets_54 : decode cX4_ageTickets 54 = .ok (.aload_n 0, 1) := by decide +kernel
theorem dX4_ageTickets_55 : decode cX4_ageTickets 55 = .ok (.aload_n 2, 1) := by decide +kernel
theorem dX4_ageTickets_56 : decode cX4_ageTickets 56 = .ok (.getfield 89, 3) := by decide +kernel
theorem dX4_ageTickets_59 : decode cX4_ageTickets 59 = .ok (.bipush (-2), 2) := by decide +kernel
theorem dX4_ageTickets_61 : decode cX4_ageTickets 61 = .ok (.invokevirtual 92, 3) := by decide +kernel
theorem dX4_ageTickets_64 : decode cX4_ageTickets 64 = .ok (.iinc 1 1, 3) := by decide +kernel
theorem dX4_ageTickets_67 : decode cX4_ageTickets 67 = .ok (.goto (-65), 3) := by decide +kernel
theorem dX4_ageTickets_70 : decode cX4_ageTickets 70 = .ok (.return_, 1) := by decide +kernel
theorem dX4_sellToBuyer_0 : decode cX4_sellToBuyer 0 = .ok (.aload_n 0, 1) := by decide +kernel
theorem dX4_sellToBuyer_1 : decode cX4_sellToBuyer 1 = .ok (.aload_n 1, 1) := by decide +kernel
theorem dX4_sellToBuyer_2 : decode cX4_sellToBuyer 2 = .ok (.invokevirtual 119, 3) := by decide +kernel
theorem dX4_sellToBuyer_5 : decode cX4_sellToBuyer 5 = .ok (.istore_n 2, 1) := by decide +kernel
theorem dX4_sellToBuyer_6 : decode cX4_sellToBuyer 6 = .ok (.iload_n 2, 1) := by decide +kernel
theorem dX4_sellToBuyer_7 : decode cX4_sellToBuyer 7 = .ok (.iconst (-1), 1) := by decide +kernel
theorem dX4_sellToBuyer_8 : decode cX4_sellToBuyer 8 = .ok (.if_icmp .ne 5, 3) := by decide +kernel
theorem dX4_sellToBuyer_11 : decode cX4_sellToBuyer 11 = .ok (.iconst 0, 1) := by decide +kernel
theorem dX4_sellToBuyer_12 : decode cX4_sellToBuyer 12 = .ok (.ireturn, 1) := by decide +kernel
theorem dX4_sellToBuyer_13 : decode cX4_sellToBuyer 13 = .ok (.aload_n 0, 1) := by decide +kernel
theorem dX4_sellToBuyer_14 : decode cX4_sellToBuyer 14 = .ok (.getfield 23, 3) := by decide +kernel
theorem dX4_sellToBuyer_17 : decode cX4_sellToBuyer 17 = .ok (.iload_n 2, 1) := by decide +kernel
theorem dX4_sellToBuyer_18 : decode cX4_sellToBuyer 18 = .ok (.aaload, 1) := by decide +kernel
theorem dX4_sellToBuyer_19 : decode cX4_sellToBuyer 19 = .ok (.iconst 3, 1) := by decide +kernel
theorem dX4_sellToBuyer_20 : decode cX4_sellToBuyer 20 = .ok (.putfield 83, 3) := by decide +kernel
theorem dX4_sellToBuyer_23 : decode cX4_sellToBuyer 23 = .ok (.aload_n 0, 1) := by decide +kernel
theorem dX4_sellToBuyer_24 : decode cX4_sellToBuyer 24 = .ok (.dup, 1) := by decide +kernel
theorem dX4_sellToBuyer_25 : decode cX4_sellToBuyer 25 = .ok (.getfield 11, 3) := by decide +kernel
theorem dX4_sellToBuyer_28 : decode cX4_sellToBuyer 28 = .ok (.aload_n 0, 1) := by decide +kernel
theorem dX4_sellToBuyer_29 : decode cX4_sellToBuyer 29 = .ok (.getfield 23, 3) := by decide +kernel
theorem dX4_sellToBuyer_32 : decode cX4_sellToBuyer 32 = .ok (.iload_n 2, 1) := by decide +kernel
theorem dX4_sellToBuyer_33 : decode cX4_sellToBuyer 33 = .ok (.aaload, 1) := by decide +kernel
theorem dX4_sellToBuyer_34 : decode cX4_sellToBuyer 34 = .ok (.getfield 123, 3) := by decide +kernel
theorem dX4_sellToBuyer_37 : decode cX4_sellToBuyer 37 = .ok (.iadd, 1) := by decide +kernel
theorem dX4_sellToBuyer_38 : decode cX4_sellToBuyer 38 = .ok (.putfield 11, 3) := by decide +kernel
theorem dX4_sellToBuyer_41 : decode cX4_sellToBuyer 41 = .ok (.aload_n 0, 1) := by decide +kernel
theorem dX4_sellToBuyer_42 : decode cX4_sellToBuyer 42 = .ok (.getfield 36, 3) := by decide +kernel
theorem dX4_sellToBuyer_45 : decode cX4_sellToBuyer 45 = .ok (.iload_n 2, 1) := by decide +kernel
theorem dX4_sellToBuyer_46 : decode cX4_sellToBuyer 46 = .ok (.invokevirtual 86, 3) := by decide +kernel
theorem dX4_sellToBuyer_49 : decode cX4_sellToBuyer 49 = .ok (.iconst 1, 1) := by decide +kernel
theorem dX4_sellToBuyer_50 : decode cX4_sellToBuyer 50 = .ok (.ireturn, 1) := by decide +kernel
theorem dX4_dearestFor_0 : decode cX4_dearestFor 0 = .ok (.iconst (-1), 1) := by decide +kernel
theorem dX4_dearestFor_1 : decode cX4_dearestFor 1 = .ok (.istore_n 2, 1) := by decide +kernel
theorem dX4_dearestFor_2 : decode cX4_dearestFor 2 = .ok (.iconst (-1), 1) := by decide +kernel
theorem dX4_dearestFor_3 : decode cX4_dearestFor 3 = .ok (.istore_n 3, 1) := by decide +kernel
theorem dX4_dearestFor_4 : decode cX4_dearestFor 4 = .ok (.iconst 0, 1) := by decide +kernel
theorem dX4_dearestFor_5 : decode cX4_dearestFor 5 = .ok (.istore 4, 2) := by decide +kernel
theorem dX4_dearestFor_7 : decode cX4_dearestFor 7 = .ok (.iload 4, 2) := by decide +kernel
theorem dX4_dearestFor_9 : decode cX4_dearestFor 9 = .ok (.aload_n 0, 1) := by decide +kernel
theorem dX4_dearestFor_10 : decode cX4_dearestFor 10 = .ok (.getfield 50, 3) := by decide +kernel
theorem dX4_dearestFor_13 : decode cX4_dearestFor 13 = .ok (.if_icmp .ge 51, 3) := by decide +kernel
theorem dX4_dearestFor_16 : decode cX4_dearestFor 16 = .ok (.aload_n 1, 1) := by decide +kernel
theorem dX4_dearestFor_17 : decode cX4_dearestFor 17 = .ok (.aload_n 0, 1) := by decide +kernel
theorem dX4_dearestFor_18 : decode cX4_dearestFor 18 = .ok (.getfield 23, 3) := by decide +kernel
theorem dX4_dearestFor_21 : decode cX4_dearestFor 21 = .ok (.iload 4, 2) := by decide +kernel
theorem dX4_dearestFor_23 : decode cX4_dearestFor 23 = .ok (.aaload, 1) := by decide +kernel
theorem dX4_dearestFor_24 : decode cX4_dearestFor 24 = .ok (.invokevirtual 126, 3) := by decide +kernel
theorem dX4_dearestFor_27 : decode cX4_dearestFor 27 = .ok (.ifCond .eq 31, 3) := by decide +kernel
theorem dX4_dearestFor_30 : decode cX4_dearestFor 30 = .ok (.aload_n 0, 1) := by decide +kernel
theorem dX4_dearestFor_31 : decode cX4_dearestFor 31 = .ok (.getfield 23, 3) := by decide +kernel
theorem dX4_dearestFor_34 : decode cX4_dearestFor 34 = .ok (.iload 4, 2) := by decide +kernel
theorem dX4_dearestFor_36 : decode cX4_dearestFor 36 = .ok (.aaload, 1) := by decide +kernel
theorem dX4_dearestFor_37 : decode cX4_dearestFor 37 = .ok (.getfield 123, 3) := by decide +kernel
theorem dX4_dearestFor_40 : decode cX4_dearestFor 40 = .ok (.iload_n 3, 1) := by decide +kernel
theorem dX4_dearestFor_41 : decode cX4_dearestFor 41 = .ok (.if_icmp .le 17, 3) := by decide +kernel
theorem dX4_dearestFor_44 : decode cX4_dearestFor 44 = .ok (.iload 4, 2) := by decide +kernel
theorem dX4_dearestFor_46 : decode cX4_dearestFor 46 = .ok (.istore_n 2, 1) := by decide +kernel
theorem dX4_dearestFor_47 : decode cX4_dearestFor 47 = .ok (.aload_n 0, 1) := by decide +kernel
theorem dX4_dearestFor_48 : decode cX4_dearestFor 48 = .ok (.getfield 23, 3) := by decide +kernel
theorem dX4_dearestFor_51 : decode cX4_dearestFor 51 = .ok (.iload 4, 2) := by decide +kernel
theorem dX4_dearestFor_53 : decode cX4_dearestFor 53 = .ok (.aaload, 1) := by decide +kernel
theorem dX4_dearestFor_54 : decode cX4_dearestFor 54 = .ok (.getfield 123, 3) := by decide +kernel
theorem dX4_dearestFor_57 : decode cX4_dearestFor 57 = .ok (.istore_n 3, 1) := by decide +kernel
theorem dX4_dearestFor_58 : decode cX4_dearestFor 58 = .ok (.iinc 4 1, 3) := by decide +kernel
theorem dX4_dearestFor_61 : decode cX4_dearestFor 61 = .ok (.goto (-54), 3) := by decide +kernel
theorem dX4_dearestFor_64 : decode cX4_dearestFor 64 = .ok (.iload_n 2, 1) := by decide +kernel
theorem dX4_dearestFor_65 : decode cX4_dearestFor 65 = .ok (.ireturn, 1) := by decide +kernel
theorem dX4_bestFor_0 : decode cX4_bestFor 0 = .ok (.iconst (-1), 1) := by decide +kernel
theorem dX4_bestFor_1 : decode cX4_bestFor 1 = .ok (.istore_n 2, 1) := by decide +kernel
theorem dX4_bestFor_2 : decode cX4_bestFor 2 = .ok (.iconst 0, 1) := by decide +kernel
theorem dX4_bestFor_3 : decode cX4_bestFor 3 = .ok (.istore_n 3, 1) := by decide +kernel
theorem dX4_bestFor_4 : decode cX4_bestFor 4 = .ok (.iconst 0, 1) := by decide +kernel
theorem dX4_bestFor_5 : decode cX4_bestFor 5 = .ok (.istore 4, 2) := by decide +kernel
theorem dX4_bestFor_7 : decode cX4_bestFor 7 = .ok (.iload 4, 2) := by decide +kernel
theorem dX4_bestFor_9 : decode cX4_bestFor 9 = .ok (.aload_n 0, 1) := by decide +kernel
theorem dX4_bestFor_10 : decode cX4_bestFor 10 = .ok (.getfield 50, 3) := by decide +kernel
theorem dX4_bestFor_13 : decode cX4_bestFor 13 = .ok (.if_icmp .ge 77, 3) := by decide +kernel
theorem dX4_bestFor_16 : decode cX4_bestFor 16 = .ok (.aload_n 0, 1) := by decide +kernel
theorem dX4_bestFor_17 : decode cX4_bestFor 17 = .ok (.getfield 23, 3) := by decide +kernel
theorem dX4_bestFor_20 : decode cX4_bestFor 20 = .ok (.iload 4, 2) := by decide +kernel
theorem dX4_bestFor_22 : decode cX4_bestFor 22 = .ok (.aaload, 1) := by decide +kernel
theorem dX4_bestFor_23 : decode cX4_bestFor 23 = .ok (.aload_n 0, 1) := by decide +kernel
theorem dX4_bestFor_24 : decode cX4_bestFor 24 = .ok (.getfield 65, 3) := by decide +kernel
theorem dX4_bestFor_27 : decode cX4_bestFor 27 = .ok (.invokevirtual 130, 3) := by decide +kernel
theorem dX4_bestFor_30 : decode cX4_bestFor 30 = .ok (.istore 5, 2) := by decide +kernel
theorem dX4_bestFor_32 : decode cX4_bestFor 32 = .ok (.aload_n 0, 1) := by decide +kernel
theorem dX4_bestFor_33 : decode cX4_bestFor 33 = .ok (.getfield 23, 3) := by decide +kernel
theorem dX4_bestFor_36 : decode cX4_bestFor 36 = .ok (.iload 4, 2) := by decide +kernel
theorem dX4_bestFor_38 : decode cX4_bestFor 38 = .ok (.aaload, 1) := by decide +kernel
theorem dX4_bestFor_39 : decode cX4_bestFor 39 = .ok (.getfield 133, 3) := by decide +kernel
theorem dX4_bestFor_42 : decode cX4_bestFor 42 = .ok (.iload 5, 2) := by decide +kernel
theorem dX4_bestFor_44 : decode cX4_bestFor 44 = .ok (.isub, 1) := by decide +kernel
theorem dX4_bestFor_45 : decode cX4_bestFor 45 = .ok (.istore 6, 2) := by decide +kernel
theorem dX4_bestFor_47 : decode cX4_bestFor 47 = .ok (.aload_n 0, 1) := by decide +kernel
theorem dX4_bestFor_48 : decode cX4_bestFor 48 = .ok (.iload 4, 2) := by decide +kernel
theorem dX4_bestFor_50 : decode cX4_bestFor 50 = .ok (.iload_n 1, 1) := by decide +kernel
theorem dX4_bestFor_51 : decode cX4_bestFor 51 = .ok (.invokevirtual 136, 3) := by decide +kernel
theorem dX4_bestFor_54 : decode cX4_bestFor 54 = .ok (.ifCond .eq 30, 3) := by decide +kernel
theorem dX4_bestFor_57 : decode cX4_bestFor 57 = .ok (.aload_n 0, 1) := by decide +kernel
theorem dX4_bestFor_58 : decode cX4_bestFor 58 = .ok (.iload_n 1, 1) := by decide +kernel
theorem dX4_bestFor_59 : decode cX4_bestFor 59 = .ok (.iload 5, 2) := by decide +kernel
theorem dX4_bestFor_61 : decode cX4_bestFor 61 = .ok (.invokevirtual 140, 3) := by decide +kernel
theorem dX4_bestFor_64 : decode cX4_bestFor 64 = .ok (.ifCond .eq 20, 3) := by decide +kernel
theorem dX4_bestFor_67 : decode cX4_bestFor 67 = .ok (.iload_n 2, 1) := by decide +kernel
theorem dX4_bestFor_68 : decode cX4_bestFor 68 = .ok (.iconst (-1), 1) := by decide +kernel
theorem dX4_bestFor_69 : decode cX4_bestFor 69 = .ok (.if_icmp .eq 9, 3) := by decide +kernel
theorem dX4_bestFor_72 : decode cX4_bestFor 72 = .ok (.iload 6, 2) := by decide +kernel
theorem dX4_bestFor_74 : decode cX4_bestFor 74 = .ok (.iload_n 3, 1) := by decide +kernel
theorem dX4_bestFor_75 : decode cX4_bestFor 75 = .ok (.if_icmp .le 9, 3) := by decide +kernel
theorem dX4_bestFor_78 : decode cX4_bestFor 78 = .ok (.iload 4, 2) := by decide +kernel
theorem dX4_bestFor_80 : decode cX4_bestFor 80 = .ok (.istore_n 2, 1) := by decide +kernel
theorem dX4_bestFor_81 : decode cX4_bestFor 81 = .ok (.iload 6, 2) := by decide +kernel
theorem dX4_bestFor_83 : decode cX4_bestFor 83 = .ok (.istore_n 3, 1) := by decide +kernel
theorem dX4_bestFor_84 : decode cX4_bestFor 84 = .ok (.iinc 4 1, 3) := by decide +kernel
theorem dX4_bestFor_87 : decode cX4_bestFor 87 = .ok (.goto (-80), 3) := by decide +kernel
theorem dX4_bestFor_90 : decode cX4_bestFor 90 = .ok (.iload_n 2, 1) := by decide +kernel
theorem dX4_bestFor_91 : decode cX4_bestFor 91 = .ok (.ireturn, 1) := by decide +kernel
theorem dX4_isHeldBy_0 : decode cX4_isHeldBy 0 = .ok (.aload_n 0, 1) := by decide +kernel
theorem dX4_isHeldBy_1 : decode cX4_isHeldBy 1 = .ok (.getfield 23, 3) := by decide +kernel
theorem dX4_isHeldBy_4 : decode cX4_isHeldBy 4 = .ok (.iload_n 1, 1) := by decide +kernel
theorem dX4_isHeldBy_5 : decode cX4_isHeldBy 5 = .ok (.aaload, 1) := by decide +kernel
theorem dX4_isHeldBy_6 : decode cX4_isHeldBy 6 = .ok (.getfield 83, 3) := by decide +kernel
theorem dX4_isHeldBy_9 : decode cX4_isHeldBy 9 = .ok (.ifCond .ne 20, 3) := by decide +kernel
theorem dX4_isHeldBy_12 : decode cX4_isHeldBy 12 = .ok (.aload_n 0, 1) := by decide +kernel
theorem dX4_isHeldBy_13 : decode cX4_isHeldBy 13 = .ok (.getfield 23, 3) := by decide +kernel
theorem dX4_isHeldBy_16 : decode cX4_isHeldBy 16 = .ok (.iload_n 1, 1) := by decide +kernel
theorem dX4_isHeldBy_17 : decode cX4_isHeldBy 17 = .ok (.aaload, 1) := by decide +kernel
theorem dX4_isHeldBy_18 : decode cX4_isHeldBy 18 = .ok (.getfield 89, 3) := by decide +kernel
theorem dX4_isHeldBy_21 : decode cX4_isHeldBy 21 = .ok (.iload_n 2, 1) := by decide +kernel
theorem dX4_isHeldBy_22 : decode cX4_isHeldBy 22 = .ok (.if_icmp .ne 7, 3) := by decide +kernel
theorem dX4_isHeldBy_25 : decode cX4_isHeldBy 25 = .ok (.iconst 1, 1) := by decide +kernel
theorem dX4_isHeldBy_26 : decode cX4_isHeldBy 26 = .ok (.goto 4, 3) := by decide +kernel
theorem dX4_isHeldBy_29 : decode cX4_isHeldBy 29 = .ok (.iconst 0, 1) := by decide +kernel
theorem dX4_isHeldBy_30 : decode cX4_isHeldBy 30 = .ok (.ireturn, 1) := by decide +kernel
theorem dX4_putPrices_0 : decode cX4_putPrices 0 = .ok (.iconst 0, 1) := by decide +kernel
theorem dX4_putPrices_1 : decode cX4_putPrices 1 = .ok (.istore_n 2, 1) := by decide +kernel
theorem dX4_putPrices_2 : decode cX4_putPrices 2 = .ok (.iconst 0, 1) := by decide +kernel
theorem dX4_putPrices_3 : decode cX4_putPrices 3 = .ok (.istore_n 3, 1) := by decide +kernel
theorem dX4_putPrices_4 : decode cX4_putPrices 4 = .ok (.iload_n 3, 1) := by decide +kernel
theorem dX4_putPrices_5 : decode cX4_putPrices 5 = .ok (.aload_n 0, 1) := by decide +kernel
theorem dX4_putPrices_6 : decode cX4_putPrices 6 = .ok (.getfield 50, 3) := by decide +kernel
theorem dX4_putPrices_9 : decode cX4_putPrices 9 = .ok (.if_icmp .ge 43, 3) := by decide +kernel
theorem dX4_putPrices_12 : decode cX4_putPrices 12 = .ok (.aload_n 0, 1) := by decide +kernel
theorem dX4_putPrices_13 : decode cX4_putPrices 13 = .ok (.getfield 23, 3) := by decide +kernel
theorem dX4_putPrices_16 : decode cX4_putPrices 16 = .ok (.iload_n 3, 1) := by decide +kernel
theorem dX4_putPrices_17 : decode cX4_putPrices 17 = .ok (.aaload, 1) := by decide +kernel
theorem dX4_putPrices_18 : decode cX4_putPrices 18 = .ok (.getfield 83, 3) := by decide +kernel
theorem dX4_putPrices_21 : decode cX4_putPrices 21 = .ok (.iconst 2, 1) := by decide +kernel
theorem dX4_putPrices_22 : decode cX4_putPrices 22 = .ok (.if_icmp .ne 24, 3) := by decide +kernel
theorem dX4_putPrices_25 : decode cX4_putPrices 25 = .ok (.iload_n 2, 1) := by decide +kernel
theorem dX4_putPrices_26 : decode cX4_putPrices 26 = .ok (.aload_n 1, 1) := by decide +kernel
theorem dX4_putPrices_27 : decode cX4_putPrices 27 = .ok (.arraylength, 1) := by decide +kernel
theorem dX4_putPrices_28 : decode cX4_putPrices 28 = .ok (.if_icmp .ge 18, 3) := by decide +kernel
theorem dX4_putPrices_31 : decode cX4_putPrices 31 = .ok (.aload_n 1, 1) := by decide +kernel
theorem dX4_putPrices_32 : decode cX4_putPrices 32 = .ok (.iload_n 2, 1) := by decide +kernel
theorem dX4_putPrices_33 : decode cX4_putPrices 33 = .ok (.aload_n 0, 1) := by decide +kernel
theorem dX4_putPrices_34 : decode cX4_putPrices 34 = .ok (.getfield 23, 3) := by decide +kernel
theorem dX4_putPrices_37 : decode cX4_putPrices 37 = .ok (.iload_n 3, 1) := by decide +kernel
theorem dX4_putPrices_38 : decode cX4_putPrices 38 = .ok (.aaload, 1) := by decide +kernel
theorem dX4_putPrices_39 : decode cX4_putPrices 39 = .ok (.getfield 123, 3) := by decide +kernel
theorem dX4_putPrices_42 : decode cX4_putPrices 42 = .ok (.iastore, 1) := by decide +kernel
theorem dX4_putPrices_43 : decode cX4_putPrices 43 = .ok (.iinc 2 1, 3) := by decide +kernel
theorem dX4_putPrices_46 : decode cX4_putPrices 46 = .ok (.iinc 3 1, 3) := by decide +kernel
theorem dX4_putPrices_49 : decode cX4_putPrices 49 = .ok (.goto (-45), 3) := by decide +kernel
theorem dX4_putPrices_52 : decode cX4_putPrices 52 = .ok (.iload_n 2, 1) := by decide +kernel
theorem dX4_putPrices_53 : decode cX4_putPrices 53 = .ok (.ireturn, 1) := by decide +kernel
theorem dX4_putDebts_0 : decode cX4_putDebts 0 = .ok (.iconst 0, 1) := by decide +kernel
theorem dX4_putDebts_1 : decode cX4_putDebts 1 = .ok (.istore_n 3, 1) := by decide +kernel
theorem dX4_putDebts_2 : decode cX4_putDebts 2 = .ok (.iconst 0, 1) := by decide +kernel
theorem dX4_putDebts_3 : decode cX4_putDebts 3 = .ok (.istore 4, 2) := by decide +kernel
theorem dX4_putDebts_5 : decode cX4_putDebts 5 = .ok (.iload 4, 2) := by decide +kernel
theorem dX4_putDebts_7 : decode cX4_putDebts 7 = .ok (.aload_n 0, 1) := by decide +kernel
theorem dX4_putDebts_8 : decode cX4_putDebts 8 = .ok (.getfield 50, 3) := by decide +kernel
theorem dX4_putDebts_11 : decode cX4_putDebts 11 = .ok (.if_icmp .ge 45, 3) := by decide +kernel
theorem dX4_putDebts_14 : decode cX4_putDebts 14 = .ok (.aload_n 0, 1) := by decide +kernel
theorem dX4_putDebts_15 : decode cX4_putDebts 15 = .ok (.iload 4, 2) := by decide +kernel
theorem dX4_putDebts_17 : decode cX4_putDebts 17 = .ok (.iload_n 1, 1) := by decide +kernel
theorem dX4_putDebts_18 : decode cX4_putDebts 18 = .ok (.invokevirtual 136, 3) := by decide +kernel
theorem dX4_putDebts_21 : decode cX4_putDebts 21 = .ok (.ifCond .eq 29, 3) := by decide +kernel
theorem dX4_putDebts_24 : decode cX4_putDebts 24 = .ok (.iload_n 3, 1) := by decide +kernel
theorem dX4_putDebts_25 : decode cX4_putDebts 25 = .ok (.aload_n 2, 1) := by decide +kernel
theorem dX4_putDebts_26 : decode cX4_putDebts 26 = .ok (.arraylength, 1) := by decide +kernel
theorem dX4_putDebts_27 : decode cX4_putDebts 27 = .ok (.if_icmp .ge 23, 3) := by decide +kernel
theorem dX4_putDebts_30 : decode cX4_putDebts 30 = .ok (.aload_n 2, 1) := by decide +kernel
theorem dX4_putDebts_31 : decode cX4_putDebts 31 = .ok (.iload_n 3, 1) := by decide +kernel
theorem dX4_putDebts_32 : decode cX4_putDebts 32 = .ok (.aload_n 0, 1) := by decide +kernel
theorem dX4_putDebts_33 : decode cX4_putDebts 33 = .ok (.getfield 23, 3) := by decide +kernel
theorem dX4_putDebts_36 : decode cX4_putDebts 36 = .ok (.iload 4, 2) := by decide +kernel
theorem dX4_putDebts_38 : decode cX4_putDebts 38 = .ok (.aaload, 1) := by decide +kernel
theorem dX4_putDebts_39 : decode cX4_putDebts 39 = .ok (.aload_n 0, 1) := by decide +kernel
theorem dX4_putDebts_40 : decode cX4_putDebts 40 = .ok (.getfield 65, 3) := by decide +kernel
theorem dX4_putDebts_43 : decode cX4_putDebts 43 = .ok (.invokevirtual 130, 3) := by decide +kernel
theorem dX4_putDebts_46 : decode cX4_putDebts 46 = .ok (.iastore, 1) := by decide +kernel
theorem dX4_putDebts_47 : decode cX4_putDebts 47 = .ok (.iinc 3 1, 3) := by decide +kernel
theorem dX4_putDebts_50 : decode cX4_putDebts 50 = .ok (.iinc 4 1, 3) := by decide +kernel
theorem dX4_putDebts_53 : decode cX4_putDebts 53 = .ok (.goto (-48), 3) := by decide +kernel
theorem dX4_putDebts_56 : decode cX4_putDebts 56 = .ok (.iload_n 3, 1) := by decide +kernel
theorem dX4_putDebts_57 : decode cX4_putDebts 57 = .ok (.ireturn, 1) := by decide +kernel
theorem dX4_ticketsIn_0 : decode cX4_ticketsIn 0 = .ok (.iconst 0, 1) := by decide +kernel
theorem dX4_ticketsIn_1 : decode cX4_ticketsIn 1 = .ok (.istore_n 2, 1) := by decide +kernel
theorem dX4_ticketsIn_2 : decode cX4_ticketsIn 2 = .ok (.iconst 0, 1) := by decide +kernel
theorem dX4_ticketsIn_3 : decode cX4_ticketsIn 3 = .ok (.istore_n 3, 1) := by decide +kernel
theorem dX4_ticketsIn_4 : decode cX4_ticketsIn 4 = .ok (.iload_n 3, 1) := by decide +kernel
theorem dX4_ticketsIn_5 : decode cX4_ticketsIn 5 = .ok (.aload_n 0, 1) := by decide +kernel
theorem dX4_ticketsIn_6 : decode cX4_ticketsIn 6 = .ok (.getfield 50, 3) := by decide +kernel
theorem dX4_ticketsIn_9 : decode cX4_ticketsIn 9 = .ok (.if_icmp .ge 25, 3) := by decide +kernel
theorem dX4_ticketsIn_12 : decode cX4_ticketsIn 12 = .ok (.aload_n 0, 1) := by decide +kernel
theorem dX4_ticketsIn_13 : decode cX4_ticketsIn 13 = .ok (.getfield 23, 3) := by decide +kernel
theorem dX4_ticketsIn_16 : decode cX4_ticketsIn 16 = .ok (.iload_n 3, 1) := by decide +kernel
theorem dX4_ticketsIn_17 : decode cX4_ticketsIn 17 = .ok (.aaload, 1) := by decide +kernel
theorem dX4_ticketsIn_18 : decode cX4_ticketsIn 18 = .ok (.getfield 83, 3) := by decide +kernel
theorem dX4_ticketsIn_21 : decode cX4_ticketsIn 21 = .ok (.iload_n 1, 1) := by decide +kernel
theorem dX4_ticketsIn_22 : decode cX4_ticketsIn 22 = .ok (.if_icmp .ne 6, 3) := by decide +kernel
theorem dX4_ticketsIn_25 : decode cX4_ticketsIn 25 = .ok (.iinc 2 1, 3) := by decide +kernel
theorem dX4_ticketsIn_28 : decode cX4_ticketsIn 28 = .ok (.iinc 3 1, 3) := by decide +kernel
theorem dX4_ticketsIn_31 : decode cX4_ticketsIn 31 = .ok (.goto (-27), 3) := by decide +kernel
theorem dX4_ticketsIn_34 : decode cX4_ticketsIn 34 = .ok (.iload_n 2, 1) := by decide +kernel
theorem dX4_ticketsIn_35 : decode cX4_ticketsIn 35 = .ok (.ireturn, 1) := by decide +kernel
theorem dX4_ticketsOf_0 : decode cX4_ticketsOf 0 = .ok (.iconst 0, 1) := by decide +kernel
theorem dX4_ticketsOf_1 : decode cX4_ticketsOf 1 = .ok (.istore_n 3, 1) := by decide +kernel
theorem dX4_ticketsOf_2 : decode cX4_ticketsOf 2 = .ok (.iconst 0, 1) := by decide +kernel
theorem dX4_ticketsOf_3 : decode cX4_ticketsOf 3 = .ok (.istore 4, 2) := by decide +kernel
theorem dX4_ticketsOf_5 : decode cX4_ticketsOf 5 = .ok (.iload 4, 2) := by decide +kernel
theorem dX4_ticketsOf_7 : decode cX4_ticketsOf 7 = .ok (.aload_n 0, 1) := by decide +kernel
theorem dX4_ticketsOf_8 : decode cX4_ticketsOf 8 = .ok (.getfield 50, 3) := by decide +kernel
theorem dX4_ticketsOf_11 : decode cX4_ticketsOf 11 = .ok (.if_icmp .ge 40, 3) := by decide +kernel
theorem dX4_ticketsOf_14 : decode cX4_ticketsOf 14 = .ok (.aload_n 0, 1) := by decide +kernel
theorem dX4_ticketsOf_15 : decode cX4_ticketsOf 15 = .ok (.getfield 23, 3) := by decide +kernel
theorem dX4_ticketsOf_18 : decode cX4_ticketsOf 18 = .ok (.iload 4, 2) := by decide +kernel
theorem dX4_ticketsOf_20 : decode cX4_ticketsOf 20 = .ok (.aaload, 1) := by decide +kernel
theorem dX4_ticketsOf_21 : decode cX4_ticketsOf 21 = .ok (.getfield 89, 3) := by decide +kernel
theorem dX4_ticketsOf_24 : decode cX4_ticketsOf 24 = .ok (.iload_n 1, 1) := by decide +kernel
theorem dX4_ticketsOf_25 : decode cX4_ticketsOf 25 = .ok (.if_icmp .ne 20, 3) := by decide +kernel
theorem dX4_ticketsOf_28 : decode cX4_ticketsOf 28 = .ok (.aload_n 0, 1) := by decide +kernel
theorem dX4_ticketsOf_29 : decode cX4_ticketsOf 29 = .ok (.getfield 23, 3) := by decide +kernel
theorem dX4_ticketsOf_32 : decode cX4_ticketsOf 32 = .ok (.iload 4, 2) := by decide +kernel
theorem dX4_ticketsOf_34 : decode cX4_ticketsOf 34 = .ok (.aaload, 1) := by decide +kernel
theorem dX4_ticketsOf_35 : decode cX4_ticketsOf 35 = .ok (.getfield 83, 3) := by decide +kernel
theorem dX4_ticketsOf_38 : decode cX4_ticketsOf 38 = .ok (.iload_n 2, 1) := by decide +kernel
theorem dX4_ticketsOf_39 : decode cX4_ticketsOf 39 = .ok (.if_icmp .ne 6, 3) := by decide +kernel
theorem dX4_ticketsOf_42 : decode cX4_ticketsOf 42 = .ok (.iinc 3 1, 3) := by decide +kernel
theorem dX4_ticketsOf_45 : decode cX4_ticketsOf 45 = .ok (.iinc 4 1, 3) := by decide +kernel
theorem dX4_ticketsOf_48 : decode cX4_ticketsOf 48 = .ok (.goto (-43), 3) := by decide +kernel
theorem dX4_ticketsOf_51 : decode cX4_ticketsOf 51 = .ok (.iload_n 3, 1) := by decide +kernel
theorem dX4_ticketsOf_52 : decode cX4_ticketsOf 52 = .ok (.ireturn, 1) := by decide +kernel
theorem dX4_debtOf_0 : decode cX4_debtOf 0 = .ok (.iconst 0, 1) := by decide +kernel
theorem dX4_debtOf_1 : decode cX4_debtOf 1 = .ok (.istore_n 2, 1) := by decide +kernel
theorem dX4_debtOf_2 : decode cX4_debtOf 2 = .ok (.iconst 0, 1) := by decide +kernel
theorem dX4_debtOf_3 : decode cX4_debtOf 3 = .ok (.istore_n 3, 1) := by decide +kernel
theorem dX4_debtOf_4 : decode cX4_debtOf 4 = .ok (.iload_n 3, 1) := by decide +kernel
theorem dX4_debtOf_5 : decode cX4_debtOf 5 = .ok (.aload_n 0, 1) := by decide +kernel
theorem dX4_debtOf_6 : decode cX4_debtOf 6 = .ok (.getfield 50, 3) := by decide +kernel
theorem dX4_debtOf_9 : decode cX4_debtOf 9 = .ok (.if_icmp .ge 38, 3) := by decide +kernel
theorem dX4_debtOf_12 : decode cX4_debtOf 12 = .ok (.aload_n 0, 1) := by decide +kernel
theorem dX4_debtOf_13 : decode cX4_debtOf 13 = .ok (.getfield 23, 3) := by decide +kernel
theorem dX4_debtOf_16 : decode cX4_debtOf 16 = .ok (.iload_n 3, 1) := by decide +kernel
theorem dX4_debtOf_17 : decode cX4_debtOf 17 = .ok (.aaload, 1) := by decide +kernel
theorem dX4_debtOf_18 : decode cX4_debtOf 18 = .ok (.getfield 89, 3) := by decide +kernel
theorem dX4_debtOf_21 : decode cX4_debtOf 21 = .ok (.iload_n 1, 1) := by decide +kernel
theorem dX4_debtOf_22 : decode cX4_debtOf 22 = .ok (.if_icmp .ne 19, 3) := by decide +kernel
theorem dX4_debtOf_25 : decode cX4_debtOf 25 = .ok (.iload_n 2, 1) := by decide +kernel
theorem dX4_debtOf_26 : decode cX4_debtOf 26 = .ok (.aload_n 0, 1) := by decide +kernel
theorem dX4_debtOf_27 : decode cX4_debtOf 27 = .ok (.getfield 23, 3) := by decide +kernel
theorem dX4_debtOf_30 : decode cX4_debtOf 30 = .ok (.iload_n 3, 1) := by decide +kernel
theorem dX4_debtOf_31 : decode cX4_debtOf 31 = .ok (.aaload, 1) := by decide +kernel
theorem dX4_debtOf_32 : decode cX4_debtOf 32 = .ok (.aload_n 0, 1) := by decide +kernel
theorem dX4_debtOf_33 : decode cX4_debtOf 33 = .ok (.getfield 65, 3) := by decide +kernel
theorem dX4_debtOf_36 : decode cX4_debtOf 36 = .ok (.invokevirtual 130, 3) := by decide +kernel
theorem dX4_debtOf_39 : decode cX4_debtOf 39 = .ok (.iadd, 1) := by decide +kernel
theorem dX4_debtOf_40 : decode cX4_debtOf 40 = .ok (.istore_n 2, 1) := by decide +kernel
theorem dX4_debtOf_41 : decode cX4_debtOf 41 = .ok (.iinc 3 1, 3) := by decide +kernel
theorem dX4_debtOf_44 : decode cX4_debtOf 44 = .ok (.goto (-40), 3) := by decide +kernel
theorem dX4_debtOf_47 : decode cX4_debtOf 47 = .ok (.iload_n 2, 1) := by decide +kernel
theorem dX4_debtOf_48 : decode cX4_debtOf 48 = .ok (.ireturn, 1) := by decide +kernel
theorem dX4_loansHeld_0 : decode cX4_loansHeld 0 = .ok (.iconst 0, 1) := by decide +kernel
theorem dX4_loansHeld_1 : decode cX4_loansHeld 1 = .ok (.istore_n 1, 1) := by decide +kernel
theorem dX4_loansHeld_2 : decode cX4_loansHeld 2 = .ok (.iconst 0, 1) := by decide +kernel
theorem dX4_loansHeld_3 : decode cX4_loansHeld 3 = .ok (.istore_n 2, 1) := by decide +kernel
theorem dX4_loansHeld_4 : decode cX4_loansHeld 4 = .ok (.iload_n 2, 1) := by decide +kernel
theorem dX4_loansHeld_5 : decode cX4_loansHeld 5 = .ok (.aload_n 0, 1) := by decide +kernel
theorem dX4_loansHeld_6 : decode cX4_loansHeld 6 = .ok (.getfield 50, 3) := by decide +kernel
theorem dX4_loansHeld_9 : decode cX4_loansHeld 9 = .ok (.if_icmp .ge 33, 3) := by decide +kernel
theorem dX4_loansHeld_12 : decode cX4_loansHeld 12 = .ok (.aload_n 0, 1) := by decide +kernel
theorem dX4_loansHeld_13 : decode cX4_loansHeld 13 = .ok (.getfield 23, 3) := by decide +kernel
theorem dX4_loansHeld_16 : decode cX4_loansHeld 16 = .ok (.iload_n 2, 1) := by decide +kernel
theorem dX4_loansHeld_17 : decode cX4_loansHeld 17 = .ok (.aaload, 1) := by decide +kernel
theorem dX4_loansHeld_18 : decode cX4_loansHeld 18 = .ok (.getfield 83, 3) := by decide +kernel
theorem dX4_loansHeld_21 : decode cX4_loansHeld 21 = .ok (.ifCond .ne 15, 3) := by decide +kernel
theorem dX4_loansHeld_24 : decode cX4_loansHeld 24 = .ok (.iload_n 1, 1) := by decide +kernel
theorem dX4_loansHeld_25 : decode cX4_loansHeld 25 = .ok (.aload_n 0, 1) := by decide +kernel
theorem dX4_loansHeld_26 : decode cX4_loansHeld 26 = .ok (.getfield 23, 3) := by decide +kernel
theorem dX4_loansHeld_29 : decode cX4_loansHeld 29 = .ok (.iload_n 2, 1) := by decide +kernel
theorem dX4_loansHeld_30 : decode cX4_loansHeld 30 = .ok (.aaload, 1) := by decide +kernel
theorem dX4_loansHeld_31 : decode cX4_loansHeld 31 = .ok (.getfield 143, 3) := by decide +kernel
theorem dX4_loansHeld_34 : decode cX4_loansHeld 34 = .ok (.iadd, 1) := by decide +kernel
theorem dX4_loansHeld_35 : decode cX4_loansHeld 35 = .ok (.istore_n 1, 1) := by decide +kernel
theorem dX4_loansHeld_36 : decode cX4_loansHeld 36 = .ok (.iinc 2 1, 3) := by decide +kernel
theorem dX4_loansHeld_39 : decode cX4_loansHeld 39 = .ok (.goto (-35), 3) := by decide +kernel
theorem dX4_loansHeld_42 : decode cX4_loansHeld 42 = .ok (.iload_n 1, 1) := by decide +kernel
theorem dX4_loansHeld_43 : decode cX4_loansHeld 43 = .ok (.ireturn, 1) := by decide +kernel
theorem dX4_tellCount_0 : decode cX4_tellCount 0 = .ok (.iload_n 1, 1) := by decide +kernel
theorem dX4_tellCount_1 : decode cX4_tellCount 1 = .ok (.tableswitch 112 0 9 #[55, 60, 65, 70, 75, 81, 87, 93, 99, 107], 55) := by decide +kernel
theorem dX4_tellCount_56 : decode cX4_tellCount 56 = .ok (.aload_n 0, 1) := by decide +kernel
theorem dX4_tellCount_57 : decode cX4_tellCount 57 = .ok (.getfield 65, 3) := by decide +kernel
theorem dX4_tellCount_60 : decode cX4_tellCount 60 = .ok (.ireturn, 1) := by decide +kernel
theorem dX4_tellCount_61 : decode cX4_tellCount 61 = .ok (.aload_n 0, 1) := by decide +kernel
theorem dX4_tellCount_62 : decode cX4_tellCount 62 = .ok (.getfield 11, 3) := by decide +kernel
theorem dX4_tellCount_65 : decode cX4_tellCount 65 = .ok (.ireturn, 1) := by decide +kernel
theorem dX4_tellCount_66 : decode cX4_tellCount 66 = .ok (.aload_n 0, 1) := by decide +kernel
theorem dX4_tellCount_67 : decode cX4_tellCount 67 = .ok (.getfield 43, 3) := by decide +kernel
theorem dX4_tellCount_70 : decode cX4_tellCount 70 = .ok (.ireturn, 1) := by decide +kernel
theorem dX4_tellCount_71 : decode cX4_tellCount 71 = .ok (.aload_n 0, 1) := by decide +kernel
theorem dX4_tellCount_72 : decode cX4_tellCount 72 = .ok (.getfield 50, 3) := by decide +kernel
theorem dX4_tellCount_75 : decode cX4_tellCount 75 = .ok (.ireturn, 1) := by decide +kernel
theorem dX4_tellCount_76 : decode cX4_tellCount 76 = .ok (.aload_n 0, 1) := by decide +kernel
theorem dX4_tellCount_77 : decode cX4_tellCount 77 = .ok (.iconst 0, 1) := by decide +kernel
theorem dX4_tellCount_78 : decode cX4_tellCount 78 = .ok (.invokevirtual 146, 3) := by decide +kernel
theorem dX4_tellCount_81 : decode cX4_tellCount 81 = .ok (.ireturn, 1) := by decide +kernel
theorem dX4_tellCount_82 : decode cX4_tellCount 82 = .ok (.aload_n 0, 1) := by decide +kernel
theorem dX4_tellCount_83 : decode cX4_tellCount 83 = .ok (.iconst 1, 1) := by decide +kernel
theorem dX4_tellCount_84 : decode cX4_tellCount 84 = .ok (.invokevirtual 146, 3) := by decide +kernel
theorem dX4_tellCount_87 : decode cX4_tellCount 87 = .ok (.ireturn, 1) := by decide +kernel
theorem dX4_tellCount_88 : decode cX4_tellCount 88 = .ok (.aload_n 0, 1) := by decide +kernel
theorem dX4_tellCount_89 : decode cX4_tellCount 89 = .ok (.iconst 2, 1) := by decide +kernel
theorem dX4_tellCount_90 : decode cX4_tellCount 90 = .ok (.invokevirtual 146, 3) := by decide +kernel
theorem dX4_tellCount_93 : decode cX4_tellCount 93 = .ok (.ireturn, 1) := by decide +kernel
theorem dX4_tellCount_94 : decode cX4_tellCount 94 = .ok (.aload_n 0, 1) := by decide +kernel
theorem dX4_tellCount_95 : decode cX4_tellCount 95 = .ok (.iconst 3, 1) := by decide +kernel
theorem dX4_tellCount_96 : decode cX4_tellCount 96 = .ok (.invokevirtual 146, 3) := by decide +kernel
theorem dX4_tellCount_99 : decode cX4_tellCount 99 = .ok (.ireturn, 1) := by decide +kernel
theorem dX4_tellCount_100 : decode cX4_tellCount 100 = .ok (.aload_n 0, 1) := by decide +kernel
theorem dX4_tellCount_101 : decode cX4_tellCount 101 = .ok (.getfield 36, 3) := by decide +kernel
theorem dX4_tellCount_104 : decode cX4_tellCount 104 = .ok (.invokevirtual 149, 3) := by decide +kernel
theorem dX4_tellCount_107 : decode cX4_tellCount 107 = .ok (.ireturn, 1) := by decide +kernel
theorem dX4_tellCount_108 : decode cX4_tellCount 108 = .ok (.aload_n 0, 1) := by decide +kernel
theorem dX4_tellCount_109 : decode cX4_tellCount 109 = .ok (.invokevirtual 153, 3) := by decide +kernel
theorem dX4_tellCount_112 : decode cX4_tellCount 112 = .ok (.ireturn, 1) := by decide +kernel
theorem dX4_tellCount_113 : decode cX4_tellCount 113 = .ok (.aload_n 0, 1) := by decide +kernel
theorem dX4_tellCount_114 : decode cX4_tellCount 114 = .ok (.getfield 80, 3) := by decide +kernel
theorem dX4_tellCount_117 : decode cX4_tellCount 117 = .ok (.ireturn, 1) := by decide +kernel
theorem dX4_tellCustomer_0 : decode cX4_tellCustomer 0 = .ok (.iload_n 2, 1) := by decide +kernel
theorem dX4_tellCustomer_1 : decode cX4_tellCustomer 1 = .ok (.tableswitch 64 0 3 #[31, 41, 51, 58], 31) := by decide +kernel
theorem dX4_tellCustomer_32 : decode cX4_tellCustomer 32 = .ok (.aload_n 0, 1) := by decide +kernel
theorem dX4_tellCustomer_33 : decode cX4_tellCustomer 33 = .ok (.getfield 17, 3) := by decide +kernel
theorem dX4_tellCustomer_36 : decode cX4_tellCustomer 36 = .ok (.iload_n 1, 1) := by decide +kernel
theorem dX4_tellCustomer_37 : decode cX4_tellCustomer 37 = .ok (.aaload, 1) := by decide +kernel
theorem dX4_tellCustomer_38 : decode cX4_tellCustomer 38 = .ok (.getfield 75, 3) := by decide +kernel
theorem dX4_tellCustomer_41 : decode cX4_tellCustomer 41 = .ok (.ireturn, 1) := by decide +kernel
theorem dX4_tellCustomer_42 : decode cX4_tellCustomer 42 = .ok (.aload_n 0, 1) := by decide +kernel
theorem dX4_tellCustomer_43 : decode cX4_tellCustomer 43 = .ok (.getfield 17, 3) := by decide +kernel
theorem dX4_tellCustomer_46 : decode cX4_tellCustomer 46 = .ok (.iload_n 1, 1) := by decide +kernel
theorem dX4_tellCustomer_47 : decode cX4_tellCustomer 47 = .ok (.aaload, 1) := by decide +kernel
theorem dX4_tellCustomer_48 : decode cX4_tellCustomer 48 = .ok (.getfield 156, 3) := by decide +kernel
theorem dX4_tellCustomer_51 : decode cX4_tellCustomer 51 = .ok (.ireturn, 1) := by decide +kernel
theorem dX4_tellCustomer_52 : decode cX4_tellCustomer 52 = .ok (.aload_n 0, 1) := by decide +kernel
theorem dX4_tellCustomer_53 : decode cX4_tellCustomer 53 = .ok (.iload_n 1, 1) := by decide +kernel
theorem dX4_tellCustomer_54 : decode cX4_tellCustomer 54 = .ok (.iconst 0, 1) := by decide +kernel
theorem dX4_tellCustomer_55 : decode cX4_tellCustomer 55 = .ok (.invokevirtual 159, 3) := by decide +kernel
theorem dX4_tellCustomer_58 : decode cX4_tellCustomer 58 = .ok (.ireturn, 1) := by decide +kernel
theorem dX4_tellCustomer_59 : decode cX4_tellCustomer 59 = .ok (.aload_n 0, 1) := by decide +kernel
theorem dX4_tellCustomer_60 : decode cX4_tellCustomer 60 = .ok (.iload_n 1, 1) := by decide +kernel
theorem dX4_tellCustomer_61 : decode cX4_tellCustomer 61 = .ok (.invokevirtual 162, 3) := by decide +kernel
theorem dX4_tellCustomer_64 : decode cX4_tellCustomer 64 = .ok (.ireturn, 1) := by decide +kernel
theorem dX4_tellCustomer_65 : decode cX4_tellCustomer 65 = .ok (.aload_n 0, 1) := by decide +kernel
theorem dX4_tellCustomer_66 : decode cX4_tellCustomer 66 = .ok (.iload_n 1, 1) := by decide +kernel
theorem dX4_tellCustomer_67 : decode cX4_tellCustomer 67 = .ok (.iconst 1, 1) := by decide +kernel
theorem dX4_tellCustomer_68 : decode cX4_tellCustomer 68 = .ok (.invokevirtual 159, 3) := by decide +kernel
theorem dX4_tellCustomer_71 : decode cX4_tellCustomer 71 = .ok (.ireturn, 1) := by decide +kernel
theorem dX4_tellTicket_0 : decode cX4_tellTicket 0 = .ok (.aload_n 0, 1) := by decide +kernel
theorem dX4_tellTicket_1 : decode cX4_tellTicket 1 = .ok (.getfield 23, 3) := by decide +kernel
theorem dX4_tellTicket_4 : decode cX4_tellTicket 4 = .ok (.iload_n 1, 1) := by decide +kernel
theorem dX4_tellTicket_5 : decode cX4_tellTicket 5 = .ok (.aaload, 1) := by decide +kernel
theorem dX4_tellTicket_6 : decode cX4_tellTicket 6 = .ok (.astore_n 3, 1) := by decide +kernel
theorem dX4_tellTicket_7 : decode cX4_tellTicket 7 = .ok (.iload_n 2, 1) := by decide +kernel
theorem dX4_tellTicket_8 : decode cX4_tellTicket 8 = .ok (.tableswitch 114 0 9 #[56, 61, 66, 71, 76, 81, 86, 91, 100, 109], 56) := by decide +kernel
theorem dX4_tellTicket_64 : decode cX4_tellTicket 64 = .ok (.aload_n 3, 1) := by decide +kernel
theorem dX4_tellTicket_65 : decode cX4_tellTicket 65 = .ok (.getfield 89, 3) := by decide +kernel
theorem dX4_tellTicket_68 : decode cX4_tellTicket 68 = .ok (.ireturn, 1) := by decide +kernel
theorem dX4_tellTicket_69 : decode cX4_tellTicket 69 = .ok (.aload_n 3, 1) := by decide +kernel
theorem dX4_tellTicket_70 : decode cX4_tellTicket 70 = .ok (.getfield 165, 3) := by decide +kernel
theorem dX4_tellTicket_73 : decode cX4_tellTicket 73 = .ok (.ireturn, 1) := by decide +kernel
theorem dX4_tellTicket_74 : decode cX4_tellTicket 74 = .ok (.aload_n 3, 1) := by decide +kernel
theorem dX4_tellTicket_75 : decode cX4_tellTicket 75 = .ok (.getfield 133, 3) := by decide +kernel
theorem dX4_tellTicket_78 : decode cX4_tellTicket 78 = .ok (.ireturn, 1) := by decide +kernel
theorem dX4_tellTicket_79 : decode cX4_tellTicket 79 = .ok (.aload_n 3, 1) := by decide +kernel
theorem dX4_tellTicket_80 : decode cX4_tellTicket 80 = .ok (.getfield 168, 3) := by decide +kernel
theorem dX4_tellTicket_83 : decode cX4_tellTicket 83 = .ok (.ireturn, 1) := by decide +kernel
theorem dX4_tellTicket_84 : decode cX4_tellTicket 84 = .ok (.aload_n 3, 1) := by decide +kernel
theorem dX4_tellTicket_85 : decode cX4_tellTicket 85 = .ok (.getfield 143, 3) := by decide +kernel
theorem dX4_tellTicket_88 : decode cX4_tellTicket 88 = .ok (.ireturn, 1) := by decide +kernel
theorem dX4_tellTicket_89 : decode cX4_tellTicket 89 = .ok (.aload_n 3, 1) := by decide +kernel
theorem dX4_tellTicket_90 : decode cX4_tellTicket 90 = .ok (.getfield 113, 3) := by decide +kernel
theorem dX4_tellTicket_93 : decode cX4_tellTicket 93 = .ok (.ireturn, 1) := by decide +kernel
theorem dX4_tellTicket_94 : decode cX4_tellTicket 94 = .ok (.aload_n 3, 1) := by decide +kernel
theorem dX4_tellTicket_95 : decode cX4_tellTicket 95 = .ok (.getfield 83, 3) := by decide +kernel
theorem dX4_tellTicket_98 : decode cX4_tellTicket 98 = .ok (.ireturn, 1) := by decide +kernel
theorem dX4_tellTicket_99 : decode cX4_tellTicket 99 = .ok (.aload_n 0, 1) := by decide +kernel
theorem dX4_tellTicket_100 : decode cX4_tellTicket 100 = .ok (.getfield 36, 3) := by decide +kernel
theorem dX4_tellTicket_103 : decode cX4_tellTicket 103 = .ok (.iload_n 1, 1) := by decide +kernel
theorem dX4_tellTicket_104 : decode cX4_tellTicket 104 = .ok (.invokevirtual 171, 3) := by decide +kernel
theorem dX4_tellTicket_107 : decode cX4_tellTicket 107 = .ok (.ireturn, 1) := by decide +kernel
theorem dX4_tellTicket_108 : decode cX4_tellTicket 108 = .ok (.aload_n 0, 1) := by decide +kernel
theorem dX4_tellTicket_109 : decode cX4_tellTicket 109 = .ok (.getfield 36, 3) := by decide +kernel
theorem dX4_tellTicket_112 : decode cX4_tellTicket 112 = .ok (.iload_n 1, 1) := by decide +kernel
theorem dX4_tellTicket_113 : decode cX4_tellTicket 113 = .ok (.invokevirtual 174, 3) := by decide +kernel
theorem dX4_tellTicket_116 : decode cX4_tellTicket 116 = .ok (.ireturn, 1) := by decide +kernel
theorem dX4_tellTicket_117 : decode cX4_tellTicket 117 = .ok (.aload_n 3, 1) := by decide +kernel
theorem dX4_tellTicket_118 : decode cX4_tellTicket 118 = .ok (.getfield 123, 3) := by decide +kernel
theorem dX4_tellTicket_121 : decode cX4_tellTicket 121 = .ok (.ireturn, 1) := by decide +kernel
theorem dX4_tellTicket_122 : decode cX4_tellTicket 122 = .ok (.aload_n 3, 1) := by decide +kernel
theorem dX4_tellTicket_123 : decode cX4_tellTicket 123 = .ok (.getfield 177, 3) := by decide +kernel
theorem dX4_tellTicket_126 : decode cX4_tellTicket 126 = .ok (.ireturn, 1) := by decide +kernel
theorem dX4_copyFrom_0 : decode cX4_copyFrom 0 = .ok (.aload_n 0, 1) := by decide +kernel
theorem dX4_copyFrom_1 : decode cX4_copyFrom 1 = .ok (.aload_n 1, 1) := by decide +kernel
theorem dX4_copyFrom_2 : decode cX4_copyFrom 2 = .ok (.getfield 65, 3) := by decide +kernel
theorem dX4_copyFrom_5 : decode cX4_copyFrom 5 = .ok (.putfield 65, 3) := by decide +kernel
theorem dX4_copyFrom_8 : decode cX4_copyFrom 8 = .ok (.aload_n 0, 1) := by decide +kernel
theorem dX4_copyFrom_9 : decode cX4_copyFrom 9 = .ok (.aload_n 1, 1) := by decide +kernel
theorem dX4_copyFrom_10 : decode cX4_copyFrom 10 = .ok (.getfield 11, 3) := by decide +kernel
theorem dX4_copyFrom_13 : decode cX4_copyFrom 13 = .ok (.putfield 11, 3) := by decide +kernel
theorem dX4_copyFrom_16 : decode cX4_copyFrom 16 = .ok (.aload_n 0, 1) := by decide +kernel
theorem dX4_copyFrom_17 : decode cX4_copyFrom 17 = .ok (.aload_n 1, 1) := by decide +kernel
theorem dX4_copyFrom_18 : decode cX4_copyFrom 18 = .ok (.getfield 80, 3) := by decide +kernel
theorem dX4_copyFrom_21 : decode cX4_copyFrom 21 = .ok (.putfield 80, 3) := by decide +kernel
theorem dX4_copyFrom_24 : decode cX4_copyFrom 24 = .ok (.aload_n 0, 1) := by decide +kernel
theorem dX4_copyFrom_25 : decode cX4_copyFrom 25 = .ok (.aload_n 1, 1) := by decide +kernel
theorem dX4_copyFrom_26 : decode cX4_copyFrom 26 = .ok (.getfield 43, 3) := by decide +kernel
theorem dX4_copyFrom_29 : decode cX4_copyFrom 29 = .ok (.putfield 43, 3) := by decide +kernel
theorem dX4_copyFrom_32 : decode cX4_copyFrom 32 = .ok (.aload_n 0, 1) := by decide +kernel
theorem dX4_copyFrom_33 : decode cX4_copyFrom 33 = .ok (.aload_n 1, 1) := by decide +kernel
theorem dX4_copyFrom_34 : decode cX4_copyFrom 34 = .ok (.getfield 50, 3) := by decide +kernel
theorem dX4_copyFrom_37 : decode cX4_copyFrom 37 = .ok (.putfield 50, 3) := by decide +kernel
theorem dX4_copyFrom_40 : decode cX4_copyFrom 40 = .ok (.iconst 0, 1) := by decide +kernel
theorem dX4_copyFrom_41 : decode cX4_copyFrom 41 = .ok (.istore_n 2, 1) := by decide +kernel
theorem dX4_copyFrom_42 : decode cX4_copyFrom 42 = .ok (.iload_n 2, 1) := by decide +kernel
theorem dX4_copyFrom_43 : decode cX4_copyFrom 43 = .ok (.aload_n 0, 1) := by decide +kernel
theorem dX4_copyFrom_44 : decode cX4_copyFrom 44 = .ok (.getfield 43, 3) := by decide +kernel
theorem dX4_copyFrom_47 : decode cX4_copyFrom 47 = .ok (.if_icmp .ge 24, 3) := by decide +kernel
theorem dX4_copyFrom_50 : decode cX4_copyFrom 50 = .ok (.aload_n 0, 1) := by decide +kernel
theorem dX4_copyFrom_51 : decode cX4_copyFrom 51 = .ok (.getfield 17, 3) := by decide +kernel
theorem dX4_copyFrom_54 : decode cX4_copyFrom 54 = .ok (.iload_n 2, 1) := by decide +kernel
theorem dX4_copyFrom_55 : decode cX4_copyFrom 55 = .ok (.aaload, 1) := by decide +kernel
theorem dX4_copyFrom_56 : decode cX4_copyFrom 56 = .ok (.aload_n 1, 1) := by decide +kernel
theorem dX4_copyFrom_57 : decode cX4_copyFrom 57 = .ok (.getfield 17, 3) := by decide +kernel
theorem dX4_copyFrom_60 : decode cX4_copyFrom 60 = .ok (.iload_n 2, 1) := by decide +kernel
theorem dX4_copyFrom_61 : decode cX4_copyFrom 61 = .ok (.aaload, 1) := by decide +kernel
theorem dX4_copyFrom_62 : decode cX4_copyFrom 62 = .ok (.invokevirtual 180, 3) := by decide +kernel
theorem dX4_copyFrom_65 : decode cX4_copyFrom 65 = .ok (.iinc 2 1, 3) := by decide +kernel
theorem dX4_copyFrom_68 : decode cX4_copyFrom 68 = .ok (.goto (-26), 3) := by decide +kernel
theorem dX4_copyFrom_71 : decode cX4_copyFrom 71 = .ok (.iconst 0, 1) := by decide +kernel
theorem dX4_copyFrom_72 : decode cX4_copyFrom 72 = .ok (.istore_n 2, 1) := by decide +kernel
theorem dX4_copyFrom_73 : decode cX4_copyFrom 73 = .ok (.iload_n 2, 1) := by decide +kernel
theorem dX4_copyFrom_74 : decode cX4_copyFrom 74 = .ok (.aload_n 0, 1) := by decide +kernel
theorem dX4_copyFrom_75 : decode cX4_copyFrom 75 = .ok (.getfield 50, 3) := by decide +kernel
theorem dX4_copyFrom_78 : decode cX4_copyFrom 78 = .ok (.if_icmp .ge 24, 3) := by decide +kernel
theorem dX4_copyFrom_81 : decode cX4_copyFrom 81 = .ok (.aload_n 0, 1) := by decide +kernel
theorem dX4_copyFrom_82 : decode cX4_copyFrom 82 = .ok (.getfield 23, 3) := by decide +kernel
theorem dX4_copyFrom_85 : decode cX4_copyFrom 85 = .ok (.iload_n 2, 1) := by decide +kernel
theorem dX4_copyFrom_86 : decode cX4_copyFrom 86 = .ok (.aaload, 1) := by decide +kernel
theorem dX4_copyFrom_87 : decode cX4_copyFrom 87 = .ok (.aload_n 1, 1) := by decide +kernel
theorem dX4_copyFrom_88 : decode cX4_copyFrom 88 = .ok (.getfield 23, 3) := by decide +kernel
theorem dX4_copyFrom_91 : decode cX4_copyFrom 91 = .ok (.iload_n 2, 1) := by decide +kernel
theorem dX4_copyFrom_92 : decode cX4_copyFrom 92 = .ok (.aaload, 1) := by decide +kernel
theorem dX4_copyFrom_93 : decode cX4_copyFrom 93 = .ok (.invokevirtual 184, 3) := by decide +kernel
theorem dX4_copyFrom_96 : decode cX4_copyFrom 96 = .ok (.iinc 2 1, 3) := by decide +kernel
theorem dX4_copyFrom_99 : decode cX4_copyFrom 99 = .ok (.goto (-26), 3) := by decide +kernel
theorem dX4_copyFrom_102 : decode cX4_copyFrom 102 = .ok (.iconst 0, 1) := by decide +kernel
theorem dX4_copyFrom_103 : decode cX4_copyFrom 103 = .ok (.istore_n 2, 1) := by decide +kernel
theorem dX4_copyFrom_104 : decode cX4_copyFrom 104 = .ok (.iload_n 2, 1) := by decide +kernel
theorem dX4_copyFrom_105 : decode cX4_copyFrom 105 = .ok (.bipush 7, 2) := by decide +kernel
theorem dX4_copyFrom_107 : decode cX4_copyFrom 107 = .ok (.if_icmp .ge 36, 3) := by decide +kernel
theorem dX4_copyFrom_110 : decode cX4_copyFrom 110 = .ok (.aload_n 0, 1) := by decide +kernel
theorem dX4_copyFrom_111 : decode cX4_copyFrom 111 = .ok (.getfield 29, 3) := by decide +kernel
theorem dX4_copyFrom_114 : decode cX4_copyFrom 114 = .ok (.iload_n 2, 1) := by decide +kernel
theorem dX4_copyFrom_115 : decode cX4_copyFrom 115 = .ok (.aaload, 1) := by decide +kernel
theorem dX4_copyFrom_116 : decode cX4_copyFrom 116 = .ok (.aload_n 1, 1) := by decide +kernel
theorem dX4_copyFrom_117 : decode cX4_copyFrom 117 = .ok (.getfield 29, 3) := by decide +kernel
theorem dX4_copyFrom_120 : decode cX4_copyFrom 120 = .ok (.iload_n 2, 1) := by decide +kernel
theorem dX4_copyFrom_121 : decode cX4_copyFrom 121 = .ok (.aaload, 1) := by decide +kernel
theorem dX4_copyFrom_122 : decode cX4_copyFrom 122 = .ok (.getfield 187, 3) := by decide +kernel
theorem dX4_copyFrom_125 : decode cX4_copyFrom 125 = .ok (.aload_n 1, 1) := by decide +kernel
theorem dX4_copyFrom_126 : decode cX4_copyFrom 126 = .ok (.getfield 29, 3) := by decide +kernel
theorem dX4_copyFrom_129 : decode cX4_copyFrom 129 = .ok (.iload_n 2, 1) := by decide +kernel
theorem dX4_copyFrom_130 : decode cX4_copyFrom 130 = .ok (.aaload, 1) := by decide +kernel
theorem dX4_copyFrom_131 : decode cX4_copyFrom 131 = .ok (.getfield 188, 3) := by decide +kernel
theorem dX4_copyFrom_134 : decode cX4_copyFrom 134 = .ok (.invokevirtual 191, 3) := by decide +kernel
theorem dX4_copyFrom_137 : decode cX4_copyFrom 137 = .ok (.iinc 2 1, 3) := by decide +kernel
theorem dX4_copyFrom_140 : decode cX4_copyFrom 140 = .ok (.goto (-36), 3) := by decide +kernel
theorem dX4_copyFrom_143 : decode cX4_copyFrom 143 = .ok (.aload_n 0, 1) := by decide +kernel
theorem dX4_copyFrom_144 : decode cX4_copyFrom 144 = .ok (.getfield 36, 3) := by decide +kernel
theorem dX4_copyFrom_147 : decode cX4_copyFrom 147 = .ok (.aload_n 1, 1) := by decide +kernel
theorem dX4_copyFrom_148 : decode cX4_copyFrom 148 = .ok (.getfield 36, 3) := by decide +kernel
theorem dX4_copyFrom_151 : decode cX4_copyFrom 151 = .ok (.invokevirtual 194, 3) := by decide +kernel
theorem dX4_copyFrom_154 : decode cX4_copyFrom 154 = .ok (.return_, 1) := by decide +kernel
end
section
theorem dX6_init_0 : decode cX6_init 0 = .ok (.aload_n 0, 1) := by decide +kernel
theorem dX6_init_1 : decode cX6_init 1 = .ok (.invokespecial 1, 3) := by decide +kernel
theorem dX6_init_4 : decode cX6_init 4 = .ok (.aload_n 0, 1) := by decide +kernel
theorem dX6_init_5 : decode cX6_init 5 = .ok (.new 7, 3) := by decide +kernel
theorem dX6_init_8 : decode cX6_init 8 = .ok (.dup, 1) := by decide +kernel
theorem dX6_init_9 : decode cX6_init 9 = .ok (.invokespecial 9, 3) := by decide +kernel
theorem dX6_init_12 : decode cX6_init 12 = .ok (.putfield 10, 3) := by decide +kernel
theorem dX6_init_15 : decode cX6_init 15 = .ok (.aload_n 0, 1) := by decide +kernel
theorem dX6_init_16 : decode cX6_init 16 = .ok (.new 7, 3) := by decide +kernel
theorem dX6_init_19 : decode cX6_init 19 = .ok (.dup, 1) := by decide +kernel
theorem dX6_init_20 : decode cX6_init 20 = .ok (.invokespecial 9, 3) := by decide +kernel
theorem dX6_init_23 : decode cX6_init 23 = .ok (.putfield 16, 3) := by decide +kernel
theorem dX6_init_26 : decode cX6_init 26 = .ok (.aload_n 0, 1) := by decide +kernel
theorem dX6_init_27 : decode cX6_init 27 = .ok (.bipush 40, 2) := by decide +kernel
theorem dX6_init_29 : decode cX6_init 29 = .ok (.newarray .int, 2) := by decide +kernel
theorem dX6_init_31 : decode cX6_init 31 = .ok (.putfield 19, 3) := by decide +kernel
theorem dX6_init_34 : decode cX6_init 34 = .ok (.return_, 1) := by decide +kernel
theorem dX6_come_0 : decode cX6_come 0 = .ok (.iload_n 1, 1) := by decide +kernel
theorem dX6_come_1 : decode cX6_come 1 = .ok (.iconst 0, 1) := by decide +kernel
theorem dX6_come_2 : decode cX6_come 2 = .ok (.sipush 2000, 3) := by decide +kernel
theorem dX6_come_5 : decode cX6_come 5 = .ok (.invokestatic 23, 3) := by decide +kernel
theorem dX6_come_8 : decode cX6_come 8 = .ok (.invokestatic 27, 3) := by decide +kernel
theorem dX6_come_11 : decode cX6_come 11 = .ok (.aload_n 0, 1) := by decide +kernel
theorem dX6_come_12 : decode cX6_come 12 = .ok (.getfield 10, 3) := by decide +kernel
theorem dX6_come_15 : decode cX6_come 15 = .ok (.getfield 31, 3) := by decide +kernel
theorem dX6_come_18 : decode cX6_come 18 = .ok (.bipush 10, 2) := by decide +kernel
theorem dX6_come_20 : decode cX6_come 20 = .ok (.if_icmp .ge 7, 3) := by decide +kernel
theorem dX6_come_23 : decode cX6_come 23 = .ok (.iconst 1, 1) := by decide +kernel
theorem dX6_come_24 : decode cX6_come 24 = .ok (.goto 4, 3) := by decide +kernel
theorem dX6_come_27 : decode cX6_come 27 = .ok (.iconst 0, 1) := by decide +kernel
theorem dX6_come_28 : decode cX6_come 28 = .ok (.invokestatic 35, 3) := by decide +kernel
theorem dX6_come_31 : decode cX6_come 31 = .ok (.aload_n 0, 1) := by decide +kernel
theorem dX6_come_32 : decode cX6_come 32 = .ok (.getfield 10, 3) := by decide +kernel
theorem dX6_come_35 : decode cX6_come 35 = .ok (.iload_n 1, 1) := by decide +kernel
theorem dX6_come_36 : decode cX6_come 36 = .ok (.invokevirtual 38, 3) := by decide +kernel
theorem dX6_come_39 : decode cX6_come 39 = .ok (.ireturn, 1) := by decide +kernel
theorem dX6_earn_0 : decode cX6_earn 0 = .ok (.aload_n 0, 1) := by decide +kernel
theorem dX6_earn_1 : decode cX6_earn 1 = .ok (.getfield 10, 3) := by decide +kernel
theorem dX6_earn_4 : decode cX6_earn 4 = .ok (.iload_n 1, 1) := by decide +kernel
theorem dX6_earn_5 : decode cX6_earn 5 = .ok (.invokevirtual 42, 3) := by decide +kernel
theorem dX6_earn_8 : decode cX6_earn 8 = .ok (.invokestatic 46, 3) := by decide +kernel
theorem dX6_earn_11 : decode cX6_earn 11 = .ok (.iload_n 2, 1) := by decide +kernel
theorem dX6_earn_12 : decode cX6_earn 12 = .ok (.iconst 1, 1) := by decide +kernel
theorem dX6_earn_13 : decode cX6_earn 13 = .ok (.sipush 1000, 3) := by decide +kernel
theorem dX6_earn_16 : decode cX6_earn 16 = .ok (.invokestatic 23, 3) := by decide +kernel
theorem dX6_earn_19 : decode cX6_earn 19 = .ok (.invokestatic 27, 3) := by decide +kernel
theorem dX6_earn_22 : decode cX6_earn 22 = .ok (.aload_n 0, 1) := by decide +kernel
theorem dX6_earn_23 : decode cX6_earn 23 = .ok (.getfield 10, 3) := by decide +kernel
theorem dX6_earn_26 : decode cX6_earn 26 = .ok (.getfield 49, 3) := by decide +kernel
theorem dX6_earn_29 : decode cX6_earn 29 = .ok (.iload_n 1, 1) := by decide +kernel
theorem dX6_earn_30 : decode cX6_earn 30 = .ok (.aaload, 1) := by decide +kernel
theorem dX6_earn_31 : decode cX6_earn 31 = .ok (.astore_n 3, 1) := by decide +kernel
theorem dX6_earn_32 : decode cX6_earn 32 = .ok (.aload_n 3, 1) := by decide +kernel
theorem dX6_earn_33 : decode cX6_earn 33 = .ok (.dup, 1) := by decide +kernel
theorem dX6_earn_34 : decode cX6_earn 34 = .ok (.getfield 53, 3) := by decide +kernel
theorem dX6_earn_37 : decode cX6_earn 37 = .ok (.iload_n 2, 1) := by decide +kernel
theorem dX6_earn_38 : decode cX6_earn 38 = .ok (.iadd, 1) := by decide +kernel
theorem dX6_earn_39 : decode cX6_earn 39 = .ok (.putfield 53, 3) := by decide +kernel
theorem dX6_earn_42 : decode cX6_earn 42 = .ok (.aload_n 3, 1) := by decide +kernel
theorem dX6_earn_43 : decode cX6_earn 43 = .ok (.getfield 53, 3) := by decide +kernel
theorem dX6_earn_46 : decode cX6_earn 46 = .ok (.ireturn, 1) := by decide +kernel
theorem dX6_setBuyer_0 : decode cX6_setBuyer 0 = .ok (.iload_n 1, 1) := by decide +kernel
theorem dX6_setBuyer_1 : decode cX6_setBuyer 1 = .ok (.iconst 0, 1) := by decide +kernel
theorem dX6_setBuyer_2 : decode cX6_setBuyer 2 = .ok (.bipush 6, 2) := by decide +kernel
theorem dX6_setBuyer_4 : decode cX6_setBuyer 4 = .ok (.invokestatic 23, 3) := by decide +kernel
theorem dX6_setBuyer_7 : decode cX6_setBuyer 7 = .ok (.invokestatic 46, 3) := by decide +kernel
theorem dX6_setBuyer_10 : decode cX6_setBuyer 10 = .ok (.iload_n 2, 1) := by decide +kernel
theorem dX6_setBuyer_11 : decode cX6_setBuyer 11 = .ok (.iconst (-1), 1) := by decide +kernel
theorem dX6_setBuyer_12 : decode cX6_setBuyer 12 = .ok (.iconst 4, 1) := by decide +kernel
theorem dX6_setBuyer_13 : decode cX6_setBuyer 13 = .ok (.invokestatic 23, 3) := by decide +kernel
theorem dX6_setBuyer_16 : decode cX6_setBuyer 16 = .ok (.ifCond .eq 18, 3) := by decide +kernel
theorem dX6_setBuyer_19 : decode cX6_setBuyer 19 = .ok (.iload_n 3, 1) := by decide +kernel
theorem dX6_setBuyer_20 : decode cX6_setBuyer 20 = .ok (.iconst 0, 1) := by decide +kernel
theorem dX6_setBuyer_21 : decode cX6_setBuyer 21 = .ok (.sipush 500, 3) := by decide +kernel
theorem dX6_setBuyer_24 : decode cX6_setBuyer 24 = .ok (.invokestatic 23, 3) := by decide +kernel
theorem dX6_setBuyer_27 : decode cX6_setBuyer 27 = .ok (.ifCond .eq 7, 3) := by decide +kernel
theorem dX6_setBuyer_30 : decode cX6_setBuyer 30 = .ok (.iconst 1, 1) := by decide +kernel
theorem dX6_setBuyer_31 : decode cX6_setBuyer 31 = .ok (.goto 4, 3) := by decide +kernel
theorem dX6_setBuyer_34 : decode cX6_setBuyer 34 = .ok (.iconst 0, 1) := by decide +kernel
theorem dX6_setBuyer_35 : decode cX6_setBuyer 35 = .ok (.invokestatic 27, 3) := by decide +kernel
theorem dX6_setBuyer_38 : decode cX6_setBuyer 38 = .ok (.aload_n 0, 1) := by decide +kernel
theorem dX6_setBuyer_39 : decode cX6_setBuyer 39 = .ok (.getfield 10, 3) := by decide +kernel
theorem dX6_setBuyer_42 : decode cX6_setBuyer 42 = .ok (.getfield 58, 3) := by decide +kernel
theorem dX6_setBuyer_45 : decode cX6_setBuyer 45 = .ok (.iload_n 1, 1) := by decide +kernel
theorem dX6_setBuyer_46 : decode cX6_setBuyer 46 = .ok (.aaload, 1) := by decide +kernel
theorem dX6_setBuyer_47 : decode cX6_setBuyer 47 = .ok (.astore 4, 2) := by decide +kernel
theorem dX6_setBuyer_49 : decode cX6_setBuyer 49 = .ok (.aload 4, 2) := by decide +kernel
theorem dX6_setBuyer_51 : decode cX6_setBuyer 51 = .ok (.getfield 62, 3) := by decide +kernel
theorem dX6_setBuyer_54 : decode cX6_setBuyer 54 = .ok (.istore 5, 2) := by decide +kernel
theorem dX6_setBuyer_56 : decode cX6_setBuyer 56 = .ok (.aload 4, 2) := by decide +kernel
theorem dX6_setBuyer_58 : decode cX6_setBuyer 58 = .ok (.iload_n 2, 1) := by decide +kernel
theorem dX6_setBuyer_59 : decode cX6_setBuyer 59 = .ok (.iload_n 3, 1) := by decide +kernel
theorem dX6_setBuyer_60 : decode cX6_setBuyer 60 = .ok (.invokevirtual 67, 3) := by decide +kernel
theorem dX6_setBuyer_63 : decode cX6_setBuyer 63 = .ok (.iload 5, 2) := by decide +kernel
theorem dX6_setBuyer_65 : decode cX6_setBuyer 65 = .ok (.ireturn, 1) := by decide +kernel
theorem dX6_customer_0 : decode cX6_customer 0 = .ok (.aload_n 0, 1) := by decide +kernel
theorem dX6_customer_1 : decode cX6_customer 1 = .ok (.getfield 10, 3) := by decide +kernel
theorem dX6_customer_4 : decode cX6_customer 4 = .ok (.iload_n 1, 1) := by decide +kernel
theorem dX6_customer_5 : decode cX6_customer 5 = .ok (.invokevirtual 42, 3) := by decide +kernel
theorem dX6_customer_8 : decode cX6_customer 8 = .ok (.ifCond .eq 16, 3) := by decide +kernel
theorem dX6_customer_11 : decode cX6_customer 11 = .ok (.iload_n 2, 1) := by decide +kernel
theorem dX6_customer_12 : decode cX6_customer 12 = .ok (.iconst 0, 1) := by decide +kernel
theorem dX6_customer_13 : decode cX6_customer 13 = .ok (.iconst 4, 1) := by decide +kernel
theorem dX6_customer_14 : decode cX6_customer 14 = .ok (.invokestatic 23, 3) := by decide +kernel
theorem dX6_customer_17 : decode cX6_customer 17 = .ok (.ifCond .eq 7, 3) := by decide +kernel
theorem dX6_customer_20 : decode cX6_customer 20 = .ok (.iconst 1, 1) := by decide +kernel
theorem dX6_customer_21 : decode cX6_customer 21 = .ok (.goto 4, 3) := by decide +kernel
theorem dX6_customer_24 : decode cX6_customer 24 = .ok (.iconst 0, 1) := by decide +kernel
theorem dX6_customer_25 : decode cX6_customer 25 = .ok (.invokestatic 46, 3) := by decide +kernel
theorem dX6_customer_28 : decode cX6_customer 28 = .ok (.aload_n 0, 1) := by decide +kernel
theorem dX6_customer_29 : decode cX6_customer 29 = .ok (.getfield 10, 3) := by decide +kernel
theorem dX6_customer_32 : decode cX6_customer 32 = .ok (.iload_n 1, 1) := by decide +kernel
theorem dX6_customer_33 : decode cX6_customer 33 = .ok (.iload_n 2, 1) := by decide +kernel
theorem dX6_customer_34 : decode cX6_customer 34 = .ok (.invokevirtual 71, 3) := by decide +kernel
theorem dX6_customer_37 : decode cX6_customer 37 = .ok (.ireturn, 1) := by decide +kernel
theorem dX6_pledge_0 : decode cX6_pledge 0 = .ok (.aload_n 0, 1) := by decide +kernel
theorem dX6_pledge_1 : decode cX6_pledge 1 = .ok (.getfield 10, 3) := by decide +kernel
theorem dX6_pledge_4 : decode cX6_pledge 4 = .ok (.iload_n 1, 1) := by decide +kernel
theorem dX6_pledge_5 : decode cX6_pledge 5 = .ok (.invokevirtual 42, 3) := by decide +kernel
theorem dX6_pledge_8 : decode cX6_pledge 8 = .ok (.invokestatic 46, 3) := by decide +kernel
theorem dX6_pledge_11 : decode cX6_pledge 11 = .ok (.iload_n 2, 1) := by decide +kernel
theorem dX6_pledge_12 : decode cX6_pledge 12 = .ok (.iconst 0, 1) := by decide +kernel
theorem dX6_pledge_13 : decode cX6_pledge 13 = .ok (.iconst 4, 1) := by decide +kernel
theorem dX6_pledge_14 : decode cX6_pledge 14 = .ok (.invokestatic 23, 3) := by decide +kernel
theorem dX6_pledge_17 : decode cX6_pledge 17 = .ok (.ifCond .eq 29, 3) := by decide +kernel
theorem dX6_pledge_20 : decode cX6_pledge 20 = .ok (.iload_n 3, 1) := by decide +kernel
theorem dX6_pledge_21 : decode cX6_pledge 21 = .ok (.iconst 1, 1) := by decide +kernel
theorem dX6_pledge_22 : decode cX6_pledge 22 = .ok (.sipush 500, 3) := by decide +kernel
theorem dX6_pledge_25 : decode cX6_pledge 25 = .ok (.invokestatic 23, 3) := by decide +kernel
theorem dX6_pledge_28 : decode cX6_pledge 28 = .ok (.ifCond .eq 18, 3) := by decide +kernel
theorem dX6_pledge_31 : decode cX6_pledge 31 = .ok (.iload 4, 2) := by decide +kernel
theorem dX6_pledge_33 : decode cX6_pledge 33 = .ok (.iconst 1, 1) := by decide +kernel
theorem dX6_pledge_34 : decode cX6_pledge 34 = .ok (.bipush 10, 2) := by decide +kernel
theorem dX6_pledge_36 : decode cX6_pledge 36 = .ok (.invokestatic 23, 3) := by decide +kernel
theorem dX6_pledge_39 : decode cX6_pledge 39 = .ok (.ifCond .eq 7, 3) := by decide +kernel
theorem dX6_pledge_42 : decode cX6_pledge 42 = .ok (.iconst 1, 1) := by decide +kernel
theorem dX6_pledge_43 : decode cX6_pledge 43 = .ok (.goto 4, 3) := by decide +kernel
theorem dX6_pledge_46 : decode cX6_pledge 46 = .ok (.iconst 0, 1) := by decide +kernel
theorem dX6_pledge_47 : decode cX6_pledge 47 = .ok (.invokestatic 27, 3) := by decide +kernel
theorem dX6_pledge_50 : decode cX6_pledge 50 = .ok (.aload_n 0, 1) := by decide +kernel
theorem dX6_pledge_51 : decode cX6_pledge 51 = .ok (.getfield 10, 3) := by decide +kernel
theorem dX6_pledge_54 : decode cX6_pledge 54 = .ok (.getfield 75, 3) := by decide +kernel
theorem dX6_pledge_57 : decode cX6_pledge 57 = .ok (.bipush 40, 2) := by decide +kernel
theorem dX6_pledge_59 : decode cX6_pledge 59 = .ok (.if_icmp .ge 7, 3) := by decide +kernel
theorem dX6_pledge_62 : decode cX6_pledge 62 = .ok (.iconst 1, 1) := by decide +kernel
theorem dX6_pledge_63 : decode cX6_pledge 63 = .ok (.goto 4, 3) := by decide +kernel
theorem dX6_pledge_66 : decode cX6_pledge 66 = .ok (.iconst 0, 1) := by decide +kernel
theorem dX6_pledge_67 : decode cX6_pledge 67 = .ok (.invokestatic 35, 3) := by decide +kernel
theorem dX6_pledge_70 : decode cX6_pledge 70 = .ok (.aload_n 0, 1) := by decide +kernel
theorem dX6_pledge_71 : decode cX6_pledge 71 = .ok (.getfield 10, 3) := by decide +kernel
theorem dX6_pledge_74 : decode cX6_pledge 74 = .ok (.getfield 78, 3) := by decide +kernel
theorem dX6_pledge_77 : decode cX6_pledge 77 = .ok (.aload_n 0, 1) := by decide +kernel
theorem dX6_pledge_78 : decode cX6_pledge 78 = .ok (.getfield 10, 3) := by decide +kernel
theorem dX6_pledge_81 : decode cX6_pledge 81 = .ok (.getfield 49, 3) := by decide +kernel
theorem dX6_pledge_84 : decode cX6_pledge 84 = .ok (.iload_n 1, 1) := by decide +kernel
theorem dX6_pledge_85 : decode cX6_pledge 85 = .ok (.aaload, 1) := by decide +kernel
theorem dX6_pledge_86 : decode cX6_pledge 86 = .ok (.iload_n 3, 1) := by decide +kernel
theorem dX6_pledge_87 : decode cX6_pledge 87 = .ok (.invokevirtual 79, 3) := by decide +kernel
theorem dX6_pledge_90 : decode cX6_pledge 90 = .ok (.if_icmp .lt 7, 3) := by decide +kernel
theorem dX6_pledge_93 : decode cX6_pledge 93 = .ok (.iconst 1, 1) := by decide +kernel
theorem dX6_pledge_94 : decode cX6_pledge 94 = .ok (.goto 4, 3) := by decide +kernel
theorem dX6_pledge_97 : decode cX6_pledge 97 = .ok (.iconst 0, 1) := by decide +kernel
theorem dX6_pledge_98 : decode cX6_pledge 98 = .ok (.invokestatic 35, 3) := by decide +kernel
theorem dX6_pledge_101 : decode cX6_pledge 101 = .ok (.aload_n 0, 1) := by decide +kernel
theorem dX6_pledge_102 : decode cX6_pledge 102 = .ok (.getfield 10, 3) := by decide +kernel
theorem dX6_pledge_105 : decode cX6_pledge 105 = .ok (.getfield 82, 3) := by decide +kernel
theorem dX6_pledge_108 : decode cX6_pledge 108 = .ok (.iload 4, 2) := by decide +kernel
theorem dX6_pledge_110 : decode cX6_pledge 110 = .ok (.invokevirtual 86, 3) := by decide +kernel
theorem dX6_pledge_113 : decode cX6_pledge 113 = .ok (.iconst (-1), 1) := by decide +kernel
theorem dX6_pledge_114 : decode cX6_pledge 114 = .ok (.if_icmp .eq 7, 3) := by decide +kernel
theorem dX6_pledge_117 : decode cX6_pledge 117 = .ok (.iconst 1, 1) := by decide +kernel
theorem dX6_pledge_118 : decode cX6_pledge 118 = .ok (.goto 4, 3) := by decide +kernel
theorem dX6_pledge_121 : decode cX6_pledge 121 = .ok (.iconst 0, 1) := by decide +kernel
theorem dX6_pledge_122 : decode cX6_pledge 122 = .ok (.invokestatic 35, 3) := by decide +kernel
theorem dX6_pledge_125 : decode cX6_pledge 125 = .ok (.aload_n 0, 1) := by decide +kernel
theorem dX6_pledge_126 : decode cX6_pledge 126 = .ok (.getfield 10, 3) := by decide +kernel
theorem dX6_pledge_129 : decode cX6_pledge 129 = .ok (.iload_n 1, 1) := by decide +kernel
theorem dX6_pledge_130 : decode cX6_pledge 130 = .ok (.iload_n 2, 1) := by decide +kernel
theorem dX6_pledge_131 : decode cX6_pledge 131 = .ok (.iload_n 3, 1) := by decide +kernel
theorem dX6_pledge_132 : decode cX6_pledge 132 = .ok (.iload 4, 2) := by decide +kernel
theorem dX6_pledge_134 : decode cX6_pledge 134 = .ok (.invokevirtual 91, 3) := by decide +kernel
theorem dX6_pledge_137 : decode cX6_pledge 137 = .ok (.ireturn, 1) := by decide +kernel
theorem dX6_ticket_0 : decode cX6_ticket 0 = .ok (.aload_n 0, 1) := by decide +kernel
theorem dX6_ticket_1 : decode cX6_ticket 1 = .ok (.getfield 10, 3) := by decide +kernel
theorem dX6_ticket_4 : decode cX6_ticket 4 = .ok (.iload_n 1, 1) := by decide +kernel
theorem dX6_ticket_5 : decode cX6_ticket 5 = .ok (.invokevirtual 95, 3) := by decide +kernel
theorem dX6_ticket_8 : decode cX6_ticket 8 = .ok (.ifCond .eq 17, 3) := by decide +kernel
theorem dX6_ticket_11 : decode cX6_ticket 11 = .ok (.iload_n 2, 1) := by decide +kernel
theorem dX6_ticket_12 : decode cX6_ticket 12 = .ok (.iconst 0, 1) := by decide +kernel
theorem dX6_ticket_13 : decode cX6_ticket 13 = .ok (.bipush 10, 2) := by decide +kernel
theorem dX6_ticket_15 : decode cX6_ticket 15 = .ok (.invokestatic 23, 3) := by decide +kernel
theorem dX6_ticket_18 : decode cX6_ticket 18 = .ok (.ifCond .eq 7, 3) := by decide +kernel
theorem dX6_ticket_21 : decode cX6_ticket 21 = .ok (.iconst 1, 1) := by decide +kernel
theorem dX6_ticket_22 : decode cX6_ticket 22 = .ok (.goto 4, 3) := by decide +kernel
theorem dX6_ticket_25 : decode cX6_ticket 25 = .ok (.iconst 0, 1) := by decide +kernel
theorem dX6_ticket_26 : decode cX6_ticket 26 = .ok (.invokestatic 46, 3) := by decide +kernel
theorem dX6_ticket_29 : decode cX6_ticket 29 = .ok (.aload_n 0, 1) := by decide +kernel
theorem dX6_ticket_30 : decode cX6_ticket 30 = .ok (.getfield 10, 3) := by decide +kernel
theorem dX6_ticket_33 : decode cX6_ticket 33 = .ok (.iload_n 1, 1) := by decide +kernel
theorem dX6_ticket_34 : decode cX6_ticket 34 = .ok (.iload_n 2, 1) := by decide +kernel
theorem dX6_ticket_35 : decode cX6_ticket 35 = .ok (.invokevirtual 98, 3) := by decide +kernel
theorem dX6_ticket_38 : decode cX6_ticket 38 = .ok (.ireturn, 1) := by decide +kernel
theorem dX6_owes_0 : decode cX6_owes 0 = .ok (.aload_n 0, 1) := by decide +kernel
theorem dX6_owes_1 : decode cX6_owes 1 = .ok (.getfield 10, 3) := by decide +kernel
theorem dX6_owes_4 : decode cX6_owes 4 = .ok (.iload_n 1, 1) := by decide +kernel
theorem dX6_owes_5 : decode cX6_owes 5 = .ok (.invokevirtual 95, 3) := by decide +kernel
theorem dX6_owes_8 : decode cX6_owes 8 = .ok (.invokestatic 46, 3) := by decide +kernel
theorem dX6_owes_11 : decode cX6_owes 11 = .ok (.aload_n 0, 1) := by decide +kernel
theorem dX6_owes_12 : decode cX6_owes 12 = .ok (.getfield 10, 3) := by decide +kernel
theorem dX6_owes_15 : decode cX6_owes 15 = .ok (.getfield 101, 3) := by decide +kernel
theorem dX6_owes_18 : decode cX6_owes 18 = .ok (.iload_n 1, 1) := by decide +kernel
theorem dX6_owes_19 : decode cX6_owes 19 = .ok (.aaload, 1) := by decide +kernel
theorem dX6_owes_20 : decode cX6_owes 20 = .ok (.aload_n 0, 1) := by decide +kernel
theorem dX6_owes_21 : decode cX6_owes 21 = .ok (.getfield 10, 3) := by decide +kernel
theorem dX6_owes_24 : decode cX6_owes 24 = .ok (.getfield 105, 3) := by decide +kernel
theorem dX6_owes_27 : decode cX6_owes 27 = .ok (.invokevirtual 108, 3) := by decide +kernel
theorem dX6_owes_30 : decode cX6_owes 30 = .ok (.ireturn, 1) := by decide +kernel
theorem dX6_renew_0 : decode cX6_renew 0 = .ok (.aload_n 0, 1) := by decide +kernel
theorem dX6_renew_1 : decode cX6_renew 1 = .ok (.getfield 10, 3) := by decide +kernel
theorem dX6_renew_4 : decode cX6_renew 4 = .ok (.iload_n 1, 1) := by decide +kernel
theorem dX6_renew_5 : decode cX6_renew 5 = .ok (.invokevirtual 95, 3) := by decide +kernel
theorem dX6_renew_8 : decode cX6_renew 8 = .ok (.invokestatic 46, 3) := by decide +kernel
theorem dX6_renew_11 : decode cX6_renew 11 = .ok (.aload_n 0, 1) := by decide +kernel
theorem dX6_renew_12 : decode cX6_renew 12 = .ok (.getfield 10, 3) := by decide +kernel
theorem dX6_renew_15 : decode cX6_renew 15 = .ok (.getfield 101, 3) := by decide +kernel
theorem dX6_renew_18 : decode cX6_renew 18 = .ok (.iload_n 1, 1) := by decide +kernel
theorem dX6_renew_19 : decode cX6_renew 19 = .ok (.aaload, 1) := by decide +kernel
theorem dX6_renew_20 : decode cX6_renew 20 = .ok (.astore_n 2, 1) := by decide +kernel
theorem dX6_renew_21 : decode cX6_renew 21 = .ok (.aload_n 2, 1) := by decide +kernel
theorem dX6_renew_22 : decode cX6_renew 22 = .ok (.getfield 113, 3) := by decide +kernel
theorem dX6_renew_25 : decode cX6_renew 25 = .ok (.ifCond .ne 15, 3) := by decide +kernel
theorem dX6_renew_28 : decode cX6_renew 28 = .ok (.aload_n 2, 1) := by decide +kernel
theorem dX6_renew_29 : decode cX6_renew 29 = .ok (.getfield 116, 3) := by decide +kernel
theorem dX6_renew_32 : decode cX6_renew 32 = .ok (.iconst 3, 1) := by decide +kernel
theorem dX6_renew_33 : decode cX6_renew 33 = .ok (.if_icmp .ge 7, 3) := by decide +kernel
theorem dX6_renew_36 : decode cX6_renew 36 = .ok (.iconst 1, 1) := by decide +kernel
theorem dX6_renew_37 : decode cX6_renew 37 = .ok (.goto 4, 3) := by decide +kernel
theorem dX6_renew_40 : decode cX6_renew 40 = .ok (.iconst 0, 1) := by decide +kernel
theorem dX6_renew_41 : decode cX6_renew 41 = .ok (.invokestatic 35, 3) := by decide +kernel
theorem dX6_renew_44 : decode cX6_renew 44 = .ok (.aload_n 2, 1) := by decide +kernel
theorem dX6_renew_45 : decode cX6_renew 45 = .ok (.aload_n 0, 1) := by decide +kernel
theorem dX6_renew_46 : decode cX6_renew 46 = .ok (.getfield 10, 3) := by decide +kernel
theorem dX6_renew_49 : decode cX6_renew 49 = .ok (.getfield 105, 3) := by decide +kernel
theorem dX6_renew_52 : decode cX6_renew 52 = .ok (.invokevirtual 119, 3) := by decide +kernel
theorem dX6_renew_55 : decode cX6_renew 55 = .ok (.istore_n 3, 1) := by decide +kernel
theorem dX6_renew_56 : decode cX6_renew 56 = .ok (.aload_n 0, 1) := by decide +kernel
theorem dX6_renew_57 : decode cX6_renew 57 = .ok (.getfield 10, 3) := by decide +kernel
theorem dX6_renew_60 : decode cX6_renew 60 = .ok (.aload_n 2, 1) := by decide +kernel
theorem dX6_renew_61 : decode cX6_renew 61 = .ok (.getfield 122, 3) := by decide +kernel
theorem dX6_renew_64 : decode cX6_renew 64 = .ok (.iload_n 3, 1) := by decide +kernel
theorem dX6_renew_65 : decode cX6_renew 65 = .ok (.invokevirtual 125, 3) := by decide +kernel
theorem dX6_renew_68 : decode cX6_renew 68 = .ok (.invokestatic 35, 3) := by decide +kernel
theorem dX6_renew_71 : decode cX6_renew 71 = .ok (.aload_n 0, 1) := by decide +kernel
theorem dX6_renew_72 : decode cX6_renew 72 = .ok (.getfield 10, 3) := by decide +kernel
theorem dX6_renew_75 : decode cX6_renew 75 = .ok (.aload_n 2, 1) := by decide +kernel
theorem dX6_renew_76 : decode cX6_renew 76 = .ok (.getfield 122, 3) := by decide +kernel
theorem dX6_renew_79 : decode cX6_renew 79 = .ok (.iload_n 3, 1) := by decide +kernel
theorem dX6_renew_80 : decode cX6_renew 80 = .ok (.iload_n 3, 1) := by decide +kernel
theorem dX6_renew_81 : decode cX6_renew 81 = .ok (.invokevirtual 129, 3) := by decide +kernel
theorem dX6_renew_84 : decode cX6_renew 84 = .ok (.aload_n 2, 1) := by decide +kernel
theorem dX6_renew_85 : decode cX6_renew 85 = .ok (.aload_n 0, 1) := by decide +kernel
theorem dX6_renew_86 : decode cX6_renew 86 = .ok (.getfield 10, 3) := by decide +kernel
theorem dX6_renew_89 : decode cX6_renew 89 = .ok (.getfield 105, 3) := by decide +kernel
theorem dX6_renew_92 : decode cX6_renew 92 = .ok (.invokevirtual 133, 3) := by decide +kernel
theorem dX6_renew_95 : decode cX6_renew 95 = .ok (.iload_n 3, 1) := by decide +kernel
theorem dX6_renew_96 : decode cX6_renew 96 = .ok (.ireturn, 1) := by decide +kernel
theorem dX6_fetch_0 : decode cX6_fetch 0 = .ok (.aload_n 0, 1) := by decide +kernel
theorem dX6_fetch_1 : decode cX6_fetch 1 = .ok (.getfield 10, 3) := by decide +kernel
theorem dX6_fetch_4 : decode cX6_fetch 4 = .ok (.iload_n 1, 1) := by decide +kernel
theorem dX6_fetch_5 : decode cX6_fetch 5 = .ok (.invokevirtual 95, 3) := by decide +kernel
theorem dX6_fetch_8 : decode cX6_fetch 8 = .ok (.invokestatic 46, 3) := by decide +kernel
theorem dX6_fetch_11 : decode cX6_fetch 11 = .ok (.aload_n 0, 1) := by decide +kernel
theorem dX6_fetch_12 : decode cX6_fetch 12 = .ok (.getfield 10, 3) := by decide +kernel
theorem dX6_fetch_15 : decode cX6_fetch 15 = .ok (.getfield 101, 3) := by decide +kernel
theorem dX6_fetch_18 : decode cX6_fetch 18 = .ok (.iload_n 1, 1) := by decide +kernel
theorem dX6_fetch_19 : decode cX6_fetch 19 = .ok (.aaload, 1) := by decide +kernel
theorem dX6_fetch_20 : decode cX6_fetch 20 = .ok (.astore_n 2, 1) := by decide +kernel
theorem dX6_fetch_21 : decode cX6_fetch 21 = .ok (.aload_n 2, 1) := by decide +kernel
theorem dX6_fetch_22 : decode cX6_fetch 22 = .ok (.getfield 113, 3) := by decide +kernel
theorem dX6_fetch_25 : decode cX6_fetch 25 = .ok (.ifCond .ne 7, 3) := by decide +kernel
theorem dX6_fetch_28 : decode cX6_fetch 28 = .ok (.iconst 1, 1) := by decide +kernel
theorem dX6_fetch_29 : decode cX6_fetch 29 = .ok (.goto 4, 3) := by decide +kernel
theorem dX6_fetch_32 : decode cX6_fetch 32 = .ok (.iconst 0, 1) := by decide +kernel
theorem dX6_fetch_33 : decode cX6_fetch 33 = .ok (.invokestatic 35, 3) := by decide +kernel
theorem dX6_fetch_36 : decode cX6_fetch 36 = .ok (.aload_n 2, 1) := by decide +kernel
theorem dX6_fetch_37 : decode cX6_fetch 37 = .ok (.aload_n 0, 1) := by decide +kernel
theorem dX6_fetch_38 : decode cX6_fetch 38 = .ok (.getfield 10, 3) := by decide +kernel
theorem dX6_fetch_41 : decode cX6_fetch 41 = .ok (.getfield 105, 3) := by decide +kernel
theorem dX6_fetch_44 : decode cX6_fetch 44 = .ok (.invokevirtual 108, 3) := by decide +kernel
theorem dX6_fetch_47 : decode cX6_fetch 47 = .ok (.istore_n 3, 1) := by decide +kernel
theorem dX6_fetch_48 : decode cX6_fetch 48 = .ok (.aload_n 0, 1) := by decide +kernel
theorem dX6_fetch_49 : decode cX6_fetch 49 = .ok (.getfield 10, 3) := by decide +kernel
theorem dX6_fetch_52 : decode cX6_fetch 52 = .ok (.aload_n 2, 1) := by decide +kernel
theorem dX6_fetch_53 : decode cX6_fetch 53 = .ok (.getfield 122, 3) := by decide +kernel
theorem dX6_fetch_56 : decode cX6_fetch 56 = .ok (.iload_n 3, 1) := by decide +kernel
theorem dX6_fetch_57 : decode cX6_fetch 57 = .ok (.invokevirtual 125, 3) := by decide +kernel
theorem dX6_fetch_60 : decode cX6_fetch 60 = .ok (.invokestatic 35, 3) := by decide +kernel
theorem dX6_fetch_63 : decode cX6_fetch 63 = .ok (.aload_n 0, 1) := by decide +kernel
theorem dX6_fetch_64 : decode cX6_fetch 64 = .ok (.getfield 10, 3) := by decide +kernel
theorem dX6_fetch_67 : decode cX6_fetch 67 = .ok (.aload_n 2, 1) := by decide +kernel
theorem dX6_fetch_68 : decode cX6_fetch 68 = .ok (.getfield 122, 3) := by decide +kernel
theorem dX6_fetch_71 : decode cX6_fetch 71 = .ok (.iload_n 3, 1) := by decide +kernel
theorem dX6_fetch_72 : decode cX6_fetch 72 = .ok (.aload_n 2, 1) := by decide +kernel
theorem dX6_fetch_73 : decode cX6_fetch 73 = .ok (.aload_n 0, 1) := by decide +kernel
theorem dX6_fetch_74 : decode cX6_fetch 74 = .ok (.getfield 10, 3) := by decide +kernel
theorem dX6_fetch_77 : decode cX6_fetch 77 = .ok (.getfield 105, 3) := by decide +kernel
theorem dX6_fetch_80 : decode cX6_fetch 80 = .ok (.invokevirtual 119, 3) := by decide +kernel
theorem dX6_fetch_83 : decode cX6_fetch 83 = .ok (.invokevirtual 129, 3) := by decide +kernel
theorem dX6_fetch_86 : decode cX6_fetch 86 = .ok (.aload_n 0, 1) := by decide +kernel
theorem dX6_fetch_87 : decode cX6_fetch 87 = .ok (.getfield 10, 3) := by decide +kernel
theorem dX6_fetch_90 : decode cX6_fetch 90 = .ok (.iload_n 1, 1) := by decide +kernel
theorem dX6_fetch_91 : decode cX6_fetch 91 = .ok (.invokevirtual 137, 3) := by decide +kernel
theorem dX6_fetch_94 : decode cX6_fetch 94 = .ok (.iload_n 3, 1) := by decide +kernel
theorem dX6_fetch_95 : decode cX6_fetch 95 = .ok (.ireturn, 1) := by decide +kernel
theorem dX6_at_0 : decode cX6_at 0 = .ok (.aload_n 0, 1) := by decide +kernel
theorem dX6_at_1 : decode cX6_at 1 = .ok (.getfield 10, 3) := by decide +kernel
theorem dX6_at_4 : decode cX6_at 4 = .ok (.getfield 82, 3) := by decide +kernel
theorem dX6_at_7 : decode cX6_at 7 = .ok (.iload_n 1, 1) := by decide +kernel
theorem dX6_at_8 : decode cX6_at 8 = .ok (.iload_n 2, 1) := by decide +kernel
theorem dX6_at_9 : decode cX6_at 9 = .ok (.invokevirtual 140, 3) := by decide +kernel
theorem dX6_at_12 : decode cX6_at 12 = .ok (.invokestatic 46, 3) := by decide +kernel
theorem dX6_at_15 : decode cX6_at 15 = .ok (.aload_n 0, 1) := by decide +kernel
theorem dX6_at_16 : decode cX6_at 16 = .ok (.getfield 10, 3) := by decide +kernel
theorem dX6_at_19 : decode cX6_at 19 = .ok (.getfield 82, 3) := by decide +kernel
theorem dX6_at_22 : decode cX6_at 22 = .ok (.getfield 143, 3) := by decide +kernel
theorem dX6_at_25 : decode cX6_at 25 = .ok (.iload_n 1, 1) := by decide +kernel
theorem dX6_at_26 : decode cX6_at 26 = .ok (.aaload, 1) := by decide +kernel
theorem dX6_at_27 : decode cX6_at 27 = .ok (.getfield 147, 3) := by decide +kernel
theorem dX6_at_30 : decode cX6_at 30 = .ok (.iload_n 2, 1) := by decide +kernel
theorem dX6_at_31 : decode cX6_at 31 = .ok (.iaload, 1) := by decide +kernel
theorem dX6_at_32 : decode cX6_at 32 = .ok (.ireturn, 1) := by decide +kernel
theorem dX6_room_0 : decode cX6_room 0 = .ok (.iload_n 1, 1) := by decide +kernel
theorem dX6_room_1 : decode cX6_room 1 = .ok (.iconst 1, 1) := by decide +kernel
theorem dX6_room_2 : decode cX6_room 2 = .ok (.bipush 10, 2) := by decide +kernel
theorem dX6_room_4 : decode cX6_room 4 = .ok (.invokestatic 23, 3) := by decide +kernel
theorem dX6_room_7 : decode cX6_room 7 = .ok (.invokestatic 27, 3) := by decide +kernel
theorem dX6_room_10 : decode cX6_room 10 = .ok (.aload_n 0, 1) := by decide +kernel
theorem dX6_room_11 : decode cX6_room 11 = .ok (.getfield 10, 3) := by decide +kernel
theorem dX6_room_14 : decode cX6_room 14 = .ok (.getfield 82, 3) := by decide +kernel
theorem dX6_room_17 : decode cX6_room 17 = .ok (.iload_n 1, 1) := by decide +kernel
theorem dX6_room_18 : decode cX6_room 18 = .ok (.invokevirtual 86, 3) := by decide +kernel
theorem dX6_room_21 : decode cX6_room 21 = .ok (.ireturn, 1) := by decide +kernel
theorem dX6_tidy_0 : decode cX6_tidy 0 = .ok (.aload_n 0, 1) := by decide +kernel
theorem dX6_tidy_1 : decode cX6_tidy 1 = .ok (.getfield 10, 3) := by decide +kernel
theorem dX6_tidy_4 : decode cX6_tidy 4 = .ok (.getfield 82, 3) := by decide +kernel
theorem dX6_tidy_7 : decode cX6_tidy 7 = .ok (.invokevirtual 152, 3) := by decide +kernel
theorem dX6_tidy_10 : decode cX6_tidy 10 = .ok (.ireturn, 1) := by decide +kernel
theorem dX6_pass_0 : decode cX6_pass 0 = .ok (.iload_n 1, 1) := by decide +kernel
theorem dX6_pass_1 : decode cX6_pass 1 = .ok (.iconst 1, 1) := by decide +kernel
theorem dX6_pass_2 : decode cX6_pass 2 = .ok (.sipush 200, 3) := by decide +kernel
theorem dX6_pass_5 : decode cX6_pass 5 = .ok (.invokestatic 23, 3) := by decide +kernel
theorem dX6_pass_8 : decode cX6_pass 8 = .ok (.invokestatic 27, 3) := by decide +kernel
theorem dX6_pass_11 : decode cX6_pass 11 = .ok (.aload_n 0, 1) := by decide +kernel
theorem dX6_pass_12 : decode cX6_pass 12 = .ok (.getfield 10, 3) := by decide +kernel
theorem dX6_pass_15 : decode cX6_pass 15 = .ok (.iload_n 1, 1) := by decide +kernel
theorem dX6_pass_16 : decode cX6_pass 16 = .ok (.invokevirtual 156, 3) := by decide +kernel
theorem dX6_pass_19 : decode cX6_pass 19 = .ok (.ireturn, 1) := by decide +kernel
theorem dX6_count_0 : decode cX6_count 0 = .ok (.iload_n 1, 1) := by decide +kernel
theorem dX6_count_1 : decode cX6_count 1 = .ok (.iconst 0, 1) := by decide +kernel
theorem dX6_count_2 : decode cX6_count 2 = .ok (.bipush 10, 2) := by decide +kernel
theorem dX6_count_4 : decode cX6_count 4 = .ok (.invokestatic 23, 3) := by decide +kernel
theorem dX6_count_7 : decode cX6_count 7 = .ok (.invokestatic 46, 3) := by decide +kernel
theorem dX6_count_10 : decode cX6_count 10 = .ok (.aload_n 0, 1) := by decide +kernel
theorem dX6_count_11 : decode cX6_count 11 = .ok (.getfield 10, 3) := by decide +kernel
theorem dX6_count_14 : decode cX6_count 14 = .ok (.iload_n 1, 1) := by decide +kernel
theorem dX6_count_15 : decode cX6_count 15 = .ok (.invokevirtual 159, 3) := by decide +kernel
theorem dX6_count_18 : decode cX6_count 18 = .ok (.ireturn, 1) := by decide +kernel
theorem dX6_foresee_0 : decode cX6_foresee 0 = .ok (.iload_n 1, 1) := by decide +kernel
theorem dX6_foresee_1 : decode cX6_foresee 1 = .ok (.iconst 1, 1) := by decide +kernel
theorem dX6_foresee_2 : decode cX6_foresee 2 = .ok (.sipush 200, 3) := by decide +kernel
theorem dX6_foresee_5 : decode cX6_foresee 5 = .ok (.invokestatic 23, 3) := by decide +kernel
theorem dX6_foresee_8 : decode cX6_foresee 8 = .ok (.invokestatic 27, 3) := by decide +kernel
theorem dX6_foresee_11 : decode cX6_foresee 11 = .ok (.iload_n 2, 1) := by decide +kernel
theorem dX6_foresee_12 : decode cX6_foresee 12 = .ok (.iconst 0, 1) := by decide +kernel
theorem dX6_foresee_13 : decode cX6_foresee 13 = .ok (.iconst 2, 1) := by decide +kernel
theorem dX6_foresee_14 : decode cX6_foresee 14 = .ok (.invokestatic 23, 3) := by decide +kernel
theorem dX6_foresee_17 : decode cX6_foresee 17 = .ok (.invokestatic 46, 3) := by decide +kernel
theorem dX6_foresee_20 : decode cX6_foresee 20 = .ok (.aload_n 0, 1) := by decide +kernel
theorem dX6_foresee_21 : decode cX6_foresee 21 = .ok (.getfield 16, 3) := by decide +kernel
theorem dX6_foresee_24 : decode cX6_foresee 24 = .ok (.aload_n 0, 1) := by decide +kernel
theorem dX6_foresee_25 : decode cX6_foresee 25 = .ok (.getfield 10, 3) := by decide +kernel
theorem dX6_foresee_28 : decode cX6_foresee 28 = .ok (.invokevirtual 162, 3) := by decide +kernel
theorem dX6_foresee_31 : decode cX6_foresee 31 = .ok (.aload_n 0, 1) := by decide +kernel
theorem dX6_foresee_32 : decode cX6_foresee 32 = .ok (.getfield 16, 3) := by decide +kernel
theorem dX6_foresee_35 : decode cX6_foresee 35 = .ok (.iload_n 1, 1) := by decide +kernel
theorem dX6_foresee_36 : decode cX6_foresee 36 = .ok (.invokevirtual 156, 3) := by decide +kernel
theorem dX6_foresee_39 : decode cX6_foresee 39 = .ok (.istore_n 3, 1) := by decide +kernel
theorem dX6_foresee_40 : decode cX6_foresee 40 = .ok (.iload_n 2, 1) := by decide +kernel
theorem dX6_foresee_41 : decode cX6_foresee 41 = .ok (.lookupswitch 37 #[(0, 27), (1, 35)], 27) := by decide +kernel
theorem dX6_foresee_68 : decode cX6_foresee 68 = .ok (.aload_n 0, 1) := by decide +kernel
theorem dX6_foresee_69 : decode cX6_foresee 69 = .ok (.getfield 16, 3) := by decide +kernel
theorem dX6_foresee_72 : decode cX6_foresee 72 = .ok (.getfield 78, 3) := by decide +kernel
theorem dX6_foresee_75 : decode cX6_foresee 75 = .ok (.ireturn, 1) := by decide +kernel
theorem dX6_foresee_76 : decode cX6_foresee 76 = .ok (.iload_n 3, 1) := by decide +kernel
theorem dX6_foresee_77 : decode cX6_foresee 77 = .ok (.ireturn, 1) := by decide +kernel
theorem dX6_foresee_78 : decode cX6_foresee 78 = .ok (.aload_n 0, 1) := by decide +kernel
theorem dX6_foresee_79 : decode cX6_foresee 79 = .ok (.getfield 16, 3) := by decide +kernel
theorem dX6_foresee_82 : decode cX6_foresee 82 = .ok (.iconst 2, 1) := by decide +kernel
theorem dX6_foresee_83 : decode cX6_foresee 83 = .ok (.invokevirtual 166, 3) := by decide +kernel
theorem dX6_foresee_86 : decode cX6_foresee 86 = .ok (.ireturn, 1) := by decide +kernel
theorem dX6_raise_0 : decode cX6_raise 0 = .ok (.iload_n 1, 1) := by decide +kernel
theorem dX6_raise_1 : decode cX6_raise 1 = .ok (.iconst 1, 1) := by decide +kernel
theorem dX6_raise_2 : decode cX6_raise 2 = .ok (.if_icmp .lt 7, 3) := by decide +kernel
theorem dX6_raise_5 : decode cX6_raise 5 = .ok (.iconst 1, 1) := by decide +kernel
theorem dX6_raise_6 : decode cX6_raise 6 = .ok (.goto 4, 3) := by decide +kernel
theorem dX6_raise_9 : decode cX6_raise 9 = .ok (.iconst 0, 1) := by decide +kernel
theorem dX6_raise_10 : decode cX6_raise 10 = .ok (.invokestatic 27, 3) := by decide +kernel
theorem dX6_raise_13 : decode cX6_raise 13 = .ok (.aload_n 0, 1) := by decide +kernel
theorem dX6_raise_14 : decode cX6_raise 14 = .ok (.getfield 10, 3) := by decide +kernel
theorem dX6_raise_17 : decode cX6_raise 17 = .ok (.aload_n 0, 1) := by decide +kernel
theorem dX6_raise_18 : decode cX6_raise 18 = .ok (.getfield 19, 3) := by decide +kernel
theorem dX6_raise_21 : decode cX6_raise 21 = .ok (.invokevirtual 169, 3) := by decide +kernel
theorem dX6_raise_24 : decode cX6_raise 24 = .ok (.istore_n 2, 1) := by decide +kernel
theorem dX6_raise_25 : decode cX6_raise 25 = .ok (.aload_n 0, 1) := by decide +kernel
theorem dX6_raise_26 : decode cX6_raise 26 = .ok (.getfield 19, 3) := by decide +kernel
theorem dX6_raise_29 : decode cX6_raise 29 = .ok (.iload_n 2, 1) := by decide +kernel
theorem dX6_raise_30 : decode cX6_raise 30 = .ok (.invokestatic 173, 3) := by decide +kernel
theorem dX6_raise_33 : decode cX6_raise 33 = .ok (.iconst 0, 1) := by decide +kernel
theorem dX6_raise_34 : decode cX6_raise 34 = .ok (.istore_n 3, 1) := by decide +kernel
theorem dX6_raise_35 : decode cX6_raise 35 = .ok (.iload_n 2, 1) := by decide +kernel
theorem dX6_raise_36 : decode cX6_raise 36 = .ok (.iconst 1, 1) := by decide +kernel
theorem dX6_raise_37 : decode cX6_raise 37 = .ok (.isub, 1) := by decide +kernel
theorem dX6_raise_38 : decode cX6_raise 38 = .ok (.istore 4, 2) := by decide +kernel
theorem dX6_raise_40 : decode cX6_raise 40 = .ok (.iload 4, 2) := by decide +kernel
theorem dX6_raise_42 : decode cX6_raise 42 = .ok (.ifCond .lt 29, 3) := by decide +kernel
theorem dX6_raise_45 : decode cX6_raise 45 = .ok (.iload_n 3, 1) := by decide +kernel
theorem dX6_raise_46 : decode cX6_raise 46 = .ok (.aload_n 0, 1) := by decide +kernel
theorem dX6_raise_47 : decode cX6_raise 47 = .ok (.getfield 19, 3) := by decide +kernel
theorem dX6_raise_50 : decode cX6_raise 50 = .ok (.iload 4, 2) := by decide +kernel
theorem dX6_raise_52 : decode cX6_raise 52 = .ok (.iaload, 1) := by decide +kernel
theorem dX6_raise_53 : decode cX6_raise 53 = .ok (.iadd, 1) := by decide +kernel
theorem dX6_raise_54 : decode cX6_raise 54 = .ok (.istore_n 3, 1) := by decide +kernel
theorem dX6_raise_55 : decode cX6_raise 55 = .ok (.iload_n 3, 1) := by decide +kernel
theorem dX6_raise_56 : decode cX6_raise 56 = .ok (.iload_n 1, 1) := by decide +kernel
theorem dX6_raise_57 : decode cX6_raise 57 = .ok (.if_icmp .lt 8, 3) := by decide +kernel
theorem dX6_raise_60 : decode cX6_raise 60 = .ok (.iload_n 2, 1) := by decide +kernel
theorem dX6_raise_61 : decode cX6_raise 61 = .ok (.iload 4, 2) := by decide +kernel
theorem dX6_raise_63 : decode cX6_raise 63 = .ok (.isub, 1) := by decide +kernel
theorem dX6_raise_64 : decode cX6_raise 64 = .ok (.ireturn, 1) := by decide +kernel
theorem dX6_raise_65 : decode cX6_raise 65 = .ok (.iinc 4 (-1), 3) := by decide +kernel
theorem dX6_raise_68 : decode cX6_raise 68 = .ok (.goto (-28), 3) := by decide +kernel
theorem dX6_raise_71 : decode cX6_raise 71 = .ok (.iconst (-1), 1) := by decide +kernel
theorem dX6_raise_72 : decode cX6_raise 72 = .ok (.ireturn, 1) := by decide +kernel
theorem dX6_best_0 : decode cX6_best 0 = .ok (.aload_n 0, 1) := by decide +kernel
theorem dX6_best_1 : decode cX6_best 1 = .ok (.getfield 10, 3) := by decide +kernel
theorem dX6_best_4 : decode cX6_best 4 = .ok (.iload_n 1, 1) := by decide +kernel
theorem dX6_best_5 : decode cX6_best 5 = .ok (.invokevirtual 42, 3) := by decide +kernel
theorem dX6_best_8 : decode cX6_best 8 = .ok (.invokestatic 46, 3) := by decide +kernel
theorem dX6_best_11 : decode cX6_best 11 = .ok (.aload_n 0, 1) := by decide +kernel
theorem dX6_best_12 : decode cX6_best 12 = .ok (.getfield 10, 3) := by decide +kernel
theorem dX6_best_15 : decode cX6_best 15 = .ok (.iload_n 1, 1) := by decide +kernel
theorem dX6_best_16 : decode cX6_best 16 = .ok (.invokevirtual 177, 3) := by decide +kernel
theorem dX6_best_19 : decode cX6_best 19 = .ok (.ireturn, 1) := by decide +kernel
theorem dX6_most_0 : decode cX6_most 0 = .ok (.aload_n 0, 1) := by decide +kernel
theorem dX6_most_1 : decode cX6_most 1 = .ok (.getfield 10, 3) := by decide +kernel
theorem dX6_most_4 : decode cX6_most 4 = .ok (.iload_n 1, 1) := by decide +kernel
theorem dX6_most_5 : decode cX6_most 5 = .ok (.invokevirtual 42, 3) := by decide +kernel
theorem dX6_most_8 : decode cX6_most 8 = .ok (.invokestatic 46, 3) := by decide +kernel
theorem dX6_most_11 : decode cX6_most 11 = .ok (.aload_n 0, 1) := by decide +kernel
theorem dX6_most_12 : decode cX6_most 12 = .ok (.getfield 10, 3) := by decide +kernel
theorem dX6_most_15 : decode cX6_most 15 = .ok (.iload_n 1, 1) := by decide +kernel
theorem dX6_most_16 : decode cX6_most 16 = .ok (.aload_n 0, 1) := by decide +kernel
theorem dX6_most_17 : decode cX6_most 17 = .ok (.getfield 19, 3) := by decide +kernel
theorem dX6_most_20 : decode cX6_most 20 = .ok (.invokevirtual 180, 3) := by decide +kernel
theorem dX6_most_23 : decode cX6_most 23 = .ok (.istore_n 2, 1) := by decide +kernel
theorem dX6_most_24 : decode cX6_most 24 = .ok (.aload_n 0, 1) := by decide +kernel
theorem dX6_most_25 : decode cX6_most 25 = .ok (.getfield 19, 3) := by decide +kernel
theorem dX6_most_28 : decode cX6_most 28 = .ok (.iload_n 2, 1) := by decide +kernel
theorem dX6_most_29 : decode cX6_most 29 = .ok (.invokestatic 173, 3) := by decide +kernel
theorem dX6_most_32 : decode cX6_most 32 = .ok (.aload_n 0, 1) := by decide +kernel
theorem dX6_most_33 : decode cX6_most 33 = .ok (.getfield 10, 3) := by decide +kernel
theorem dX6_most_36 : decode cX6_most 36 = .ok (.getfield 49, 3) := by decide +kernel
theorem dX6_most_39 : decode cX6_most 39 = .ok (.iload_n 1, 1) := by decide +kernel
theorem dX6_most_40 : decode cX6_most 40 = .ok (.aaload, 1) := by decide +kernel
theorem dX6_most_41 : decode cX6_most 41 = .ok (.getfield 53, 3) := by decide +kernel
theorem dX6_most_44 : decode cX6_most 44 = .ok (.istore_n 3, 1) := by decide +kernel
theorem dX6_most_45 : decode cX6_most 45 = .ok (.iconst 0, 1) := by decide +kernel
theorem dX6_most_46 : decode cX6_most 46 = .ok (.istore 4, 2) := by decide +kernel
theorem dX6_most_48 : decode cX6_most 48 = .ok (.iload 4, 2) := by decide +kernel
theorem dX6_most_50 : decode cX6_most 50 = .ok (.iload_n 2, 1) := by decide +kernel
theorem dX6_most_51 : decode cX6_most 51 = .ok (.if_icmp .ge 30, 3) := by decide +kernel
theorem dX6_most_54 : decode cX6_most 54 = .ok (.aload_n 0, 1) := by decide +kernel
theorem dX6_most_55 : decode cX6_most 55 = .ok (.getfield 19, 3) := by decide +kernel
theorem dX6_most_58 : decode cX6_most 58 = .ok (.iload 4, 2) := by decide +kernel
theorem dX6_most_60 : decode cX6_most 60 = .ok (.iaload, 1) := by decide +kernel
theorem dX6_most_61 : decode cX6_most 61 = .ok (.iload_n 3, 1) := by decide +kernel
theorem dX6_most_62 : decode cX6_most 62 = .ok (.if_icmp .gt 19, 3) := by decide +kernel
theorem dX6_most_65 : decode cX6_most 65 = .ok (.iload_n 3, 1) := by decide +kernel
theorem dX6_most_66 : decode cX6_most 66 = .ok (.aload_n 0, 1) := by decide +kernel
theorem dX6_most_67 : decode cX6_most 67 = .ok (.getfield 19, 3) := by decide +kernel
theorem dX6_most_70 : decode cX6_most 70 = .ok (.iload 4, 2) := by decide +kernel
theorem dX6_most_72 : decode cX6_most 72 = .ok (.iaload, 1) := by decide +kernel
theorem dX6_most_73 : decode cX6_most 73 = .ok (.isub, 1) := by decide +kernel
theorem dX6_most_74 : decode cX6_most 74 = .ok (.istore_n 3, 1) := by decide +kernel
theorem dX6_most_75 : decode cX6_most 75 = .ok (.iinc 4 1, 3) := by decide +kernel
theorem dX6_most_78 : decode cX6_most 78 = .ok (.goto (-30), 3) := by decide +kernel
theorem dX6_most_81 : decode cX6_most 81 = .ok (.iload 4, 2) := by decide +kernel
theorem dX6_most_83 : decode cX6_most 83 = .ok (.ireturn, 1) := by decide +kernel
theorem dX6_fetched_0 : decode cX6_fetched 0 = .ok (.aload_n 0, 1) := by decide +kernel
theorem dX6_fetched_1 : decode cX6_fetched 1 = .ok (.getfield 10, 3) := by decide +kernel
theorem dX6_fetched_4 : decode cX6_fetched 4 = .ok (.iconst 1, 1) := by decide +kernel
theorem dX6_fetched_5 : decode cX6_fetched 5 = .ok (.invokevirtual 166, 3) := by decide +kernel
theorem dX6_fetched_8 : decode cX6_fetched 8 = .ok (.istore_n 1, 1) := by decide +kernel
theorem dX6_fetched_9 : decode cX6_fetched 9 = .ok (.iload_n 1, 1) := by decide +kernel
theorem dX6_fetched_10 : decode cX6_fetched 10 = .ok (.aload_n 0, 1) := by decide +kernel
theorem dX6_fetched_11 : decode cX6_fetched 11 = .ok (.getfield 10, 3) := by decide +kernel
theorem dX6_fetched_14 : decode cX6_fetched 14 = .ok (.iconst 2, 1) := by decide +kernel
theorem dX6_fetched_15 : decode cX6_fetched 15 = .ok (.invokevirtual 166, 3) := by decide +kernel
theorem dX6_fetched_18 : decode cX6_fetched 18 = .ok (.iadd, 1) := by decide +kernel
theorem dX6_fetched_19 : decode cX6_fetched 19 = .ok (.aload_n 0, 1) := by decide +kernel
theorem dX6_fetched_20 : decode cX6_fetched 20 = .ok (.getfield 10, 3) := by decide +kernel
theorem dX6_fetched_23 : decode cX6_fetched 23 = .ok (.iconst 3, 1) := by decide +kernel
theorem dX6_fetched_24 : decode cX6_fetched 24 = .ok (.invokevirtual 166, 3) := by decide +kernel
theorem dX6_fetched_27 : decode cX6_fetched 27 = .ok (.iadd, 1) := by decide +kernel
theorem dX6_fetched_28 : decode cX6_fetched 28 = .ok (.istore_n 2, 1) := by decide +kernel
theorem dX6_fetched_29 : decode cX6_fetched 29 = .ok (.iload_n 2, 1) := by decide +kernel
theorem dX6_fetched_30 : decode cX6_fetched 30 = .ok (.ifCond .ne 7, 3) := by decide +kernel
theorem dX6_fetched_33 : decode cX6_fetched 33 = .ok (.dconst 0, 1) := by decide +kernel
theorem dX6_fetched_34 : decode cX6_fetched 34 = .ok (.goto 8, 3) := by decide +kernel
theorem dX6_fetched_37 : decode cX6_fetched 37 = .ok (.iload_n 1, 1) := by decide +kernel
theorem dX6_fetched_38 : decode cX6_fetched 38 = .ok (.i2d, 1) := by decide +kernel
theorem dX6_fetched_39 : decode cX6_fetched 39 = .ok (.iload_n 2, 1) := by decide +kernel
theorem dX6_fetched_40 : decode cX6_fetched 40 = .ok (.i2d, 1) := by decide +kernel
theorem dX6_fetched_41 : decode cX6_fetched 41 = .ok (.ddiv, 1) := by decide +kernel
theorem dX6_fetched_42 : decode cX6_fetched 42 = .ok (.dreturn, 1) := by decide +kernel
theorem dX6_digest_0 : decode cX6_digest 0 = .ok (.ldc2_w 184, 3) := by decide +kernel
theorem dX6_digest_3 : decode cX6_digest 3 = .ok (.lstore_n 1, 1) := by decide +kernel
theorem dX6_digest_4 : decode cX6_digest 4 = .ok (.iconst 0, 1) := by decide +kernel
theorem dX6_digest_5 : decode cX6_digest 5 = .ok (.istore_n 3, 1) := by decide +kernel
theorem dX6_digest_6 : decode cX6_digest 6 = .ok (.iload_n 3, 1) := by decide +kernel
theorem dX6_digest_7 : decode cX6_digest 7 = .ok (.bipush 11, 2) := by decide +kernel
theorem dX6_digest_9 : decode cX6_digest 9 = .ok (.if_icmp .ge 25, 3) := by decide +kernel
theorem dX6_digest_12 : decode cX6_digest 12 = .ok (.lload_n 1, 1) := by decide +kernel
theorem dX6_digest_13 : decode cX6_digest 13 = .ok (.ldc2_w 186, 3) := by decide +kernel
theorem dX6_digest_16 : decode cX6_digest 16 = .ok (.lmul, 1) := by decide +kernel
theorem dX6_digest_17 : decode cX6_digest 17 = .ok (.aload_n 0, 1) := by decide +kernel
theorem dX6_digest_18 : decode cX6_digest 18 = .ok (.getfield 10, 3) := by decide +kernel
theorem dX6_digest_21 : decode cX6_digest 21 = .ok (.iload_n 3, 1) := by decide +kernel
theorem dX6_digest_22 : decode cX6_digest 22 = .ok (.invokevirtual 159, 3) := by decide +kernel
theorem dX6_digest_25 : decode cX6_digest 25 = .ok (.i2l, 1) := by decide +kernel
theorem dX6_digest_26 : decode cX6_digest 26 = .ok (.ladd, 1) := by decide +kernel
theorem dX6_digest_27 : decode cX6_digest 27 = .ok (.lstore_n 1, 1) := by decide +kernel
theorem dX6_digest_28 : decode cX6_digest 28 = .ok (.iinc 3 1, 3) := by decide +kernel
theorem dX6_digest_31 : decode cX6_digest 31 = .ok (.goto (-25), 3) := by decide +kernel
theorem dX6_digest_34 : decode cX6_digest 34 = .ok (.iconst 0, 1) := by decide +kernel
theorem dX6_digest_35 : decode cX6_digest 35 = .ok (.istore_n 3, 1) := by decide +kernel
theorem dX6_digest_36 : decode cX6_digest 36 = .ok (.iload_n 3, 1) := by decide +kernel
theorem dX6_digest_37 : decode cX6_digest 37 = .ok (.bipush 7, 2) := by decide +kernel
theorem dX6_digest_39 : decode cX6_digest 39 = .ok (.if_icmp .ge 49, 3) := by decide +kernel
theorem dX6_digest_42 : decode cX6_digest 42 = .ok (.lload_n 1, 1) := by decide +kernel
theorem dX6_digest_43 : decode cX6_digest 43 = .ok (.ldc2_w 186, 3) := by decide +kernel
theorem dX6_digest_46 : decode cX6_digest 46 = .ok (.lmul, 1) := by decide +kernel
theorem dX6_digest_47 : decode cX6_digest 47 = .ok (.aload_n 0, 1) := by decide +kernel
theorem dX6_digest_48 : decode cX6_digest 48 = .ok (.getfield 10, 3) := by decide +kernel
theorem dX6_digest_51 : decode cX6_digest 51 = .ok (.getfield 58, 3) := by decide +kernel
theorem dX6_digest_54 : decode cX6_digest 54 = .ok (.iload_n 3, 1) := by decide +kernel
theorem dX6_digest_55 : decode cX6_digest 55 = .ok (.aaload, 1) := by decide +kernel
theorem dX6_digest_56 : decode cX6_digest 56 = .ok (.getfield 62, 3) := by decide +kernel
theorem dX6_digest_59 : decode cX6_digest 59 = .ok (.i2l, 1) := by decide +kernel
theorem dX6_digest_60 : decode cX6_digest 60 = .ok (.ladd, 1) := by decide +kernel
theorem dX6_digest_61 : decode cX6_digest 61 = .ok (.lstore_n 1, 1) := by decide +kernel
theorem dX6_digest_62 : decode cX6_digest 62 = .ok (.lload_n 1, 1) := by decide +kernel
theorem dX6_digest_63 : decode cX6_digest 63 = .ok (.ldc2_w 186, 3) := by decide +kernel
theorem dX6_digest_66 : decode cX6_digest 66 = .ok (.lmul, 1) := by decide +kernel
theorem dX6_digest_67 : decode cX6_digest 67 = .ok (.aload_n 0, 1) := by decide +kernel
theorem dX6_digest_68 : decode cX6_digest 68 = .ok (.getfield 10, 3) := by decide +kernel
theorem dX6_digest_71 : decode cX6_digest 71 = .ok (.getfield 58, 3) := by decide +kernel
theorem dX6_digest_74 : decode cX6_digest 74 = .ok (.iload_n 3, 1) := by decide +kernel
theorem dX6_digest_75 : decode cX6_digest 75 = .ok (.aaload, 1) := by decide +kernel
theorem dX6_digest_76 : decode cX6_digest 76 = .ok (.getfield 188, 3) := by decide +kernel
theorem dX6_digest_79 : decode cX6_digest 79 = .ok (.i2l, 1) := by decide +kernel
theorem dX6_digest_80 : decode cX6_digest 80 = .ok (.ladd, 1) := by decide +kernel
theorem dX6_digest_81 : decode cX6_digest 81 = .ok (.lstore_n 1, 1) := by decide +kernel
theorem dX6_digest_82 : decode cX6_digest 82 = .ok (.iinc 3 1, 3) := by decide +kernel
theorem dX6_digest_85 : decode cX6_digest 85 = .ok (.goto (-49), 3) := by decide +kernel
theorem dX6_digest_88 : decode cX6_digest 88 = .ok (.iconst 0, 1) := by decide +kernel
theorem dX6_digest_89 : decode cX6_digest 89 = .ok (.istore_n 3, 1) := by decide +kernel
theorem dX6_digest_90 : decode cX6_digest 90 = .ok (.iload_n 3, 1) := by decide +kernel
theorem dX6_digest_91 : decode cX6_digest 91 = .ok (.aload_n 0, 1) := by decide +kernel
theorem dX6_digest_92 : decode cX6_digest 92 = .ok (.getfield 10, 3) := by decide +kernel
theorem dX6_digest_95 : decode cX6_digest 95 = .ok (.getfield 31, 3) := by decide +kernel
theorem dX6_digest_98 : decode cX6_digest 98 = .ok (.if_icmp .ge 42, 3) := by decide +kernel
theorem dX6_digest_101 : decode cX6_digest 101 = .ok (.iconst 0, 1) := by decide +kernel
theorem dX6_digest_102 : decode cX6_digest 102 = .ok (.istore 4, 2) := by decide +kernel
theorem dX6_digest_104 : decode cX6_digest 104 = .ok (.iload 4, 2) := by decide +kernel
theorem dX6_digest_106 : decode cX6_digest 106 = .ok (.iconst 5, 1) := by decide +kernel
theorem dX6_digest_107 : decode cX6_digest 107 = .ok (.if_icmp .ge 27, 3) := by decide +kernel
theorem dX6_digest_110 : decode cX6_digest 110 = .ok (.lload_n 1, 1) := by decide +kernel
theorem dX6_digest_111 : decode cX6_digest 111 = .ok (.ldc2_w 186, 3) := by decide +kernel
theorem dX6_digest_114 : decode cX6_digest 114 = .ok (.lmul, 1) := by decide +kernel
theorem dX6_digest_115 : decode cX6_digest 115 = .ok (.aload_n 0, 1) := by decide +kernel
theorem dX6_digest_116 : decode cX6_digest 116 = .ok (.getfield 10, 3) := by decide +kernel
theorem dX6_digest_119 : decode cX6_digest 119 = .ok (.iload_n 3, 1) := by decide +kernel
theorem dX6_digest_120 : decode cX6_digest 120 = .ok (.iload 4, 2) := by decide +kernel
theorem dX6_digest_122 : decode cX6_digest 122 = .ok (.invokevirtual 71, 3) := by decide +kernel
theorem dX6_digest_125 : decode cX6_digest 125 = .ok (.i2l, 1) := by decide +kernel
theorem dX6_digest_126 : decode cX6_digest 126 = .ok (.ladd, 1) := by decide +kernel
theorem dX6_digest_127 : decode cX6_digest 127 = .ok (.lstore_n 1, 1) := by decide +kernel
theorem dX6_digest_128 : decode cX6_digest 128 = .ok (.iinc 4 1, 3) := by decide +kernel
theorem dX6_digest_131 : decode cX6_digest 131 = .ok (.goto (-27), 3) := by decide +kernel
theorem dX6_digest_134 : decode cX6_digest 134 = .ok (.iinc 3 1, 3) := by decide +kernel
theorem dX6_digest_137 : decode cX6_digest 137 = .ok (.goto (-47), 3) := by decide +kernel
theorem dX6_digest_140 : decode cX6_digest 140 = .ok (.iconst 0, 1) := by decide +kernel
theorem dX6_digest_141 : decode cX6_digest 141 = .ok (.istore_n 3, 1) := by decide +kernel
theorem dX6_digest_142 : decode cX6_digest 142 = .ok (.iload_n 3, 1) := by decide +kernel
theorem dX6_digest_143 : decode cX6_digest 143 = .ok (.aload_n 0, 1) := by decide +kernel
theorem dX6_digest_144 : decode cX6_digest 144 = .ok (.getfield 10, 3) := by decide +kernel
theorem dX6_digest_147 : decode cX6_digest 147 = .ok (.getfield 75, 3) := by decide +kernel
theorem dX6_digest_150 : decode cX6_digest 150 = .ok (.if_icmp .ge 70, 3) := by decide +kernel
theorem dX6_digest_153 : decode cX6_digest 153 = .ok (.iconst 0, 1) := by decide +kernel
theorem dX6_digest_154 : decode cX6_digest 154 = .ok (.istore 4, 2) := by decide +kernel
theorem dX6_digest_156 : decode cX6_digest 156 = .ok (.iload 4, 2) := by decide +kernel
theorem dX6_digest_158 : decode cX6_digest 158 = .ok (.bipush 11, 2) := by decide +kernel
theorem dX6_digest_160 : decode cX6_digest 160 = .ok (.if_icmp .ge 27, 3) := by decide +kernel
theorem dX6_digest_163 : decode cX6_digest 163 = .ok (.lload_n 1, 1) := by decide +kernel
theorem dX6_digest_164 : decode cX6_digest 164 = .ok (.ldc2_w 186, 3) := by decide +kernel
theorem dX6_digest_167 : decode cX6_digest 167 = .ok (.lmul, 1) := by decide +kernel
theorem dX6_digest_168 : decode cX6_digest 168 = .ok (.aload_n 0, 1) := by decide +kernel
theorem dX6_digest_169 : decode cX6_digest 169 = .ok (.getfield 10, 3) := by decide +kernel
theorem dX6_digest_172 : decode cX6_digest 172 = .ok (.iload_n 3, 1) := by decide +kernel
theorem dX6_digest_173 : decode cX6_digest 173 = .ok (.iload 4, 2) := by decide +kernel
theorem dX6_digest_175 : decode cX6_digest 175 = .ok (.invokevirtual 98, 3) := by decide +kernel
theorem dX6_digest_178 : decode cX6_digest 178 = .ok (.i2l, 1) := by decide +kernel
theorem dX6_digest_179 : decode cX6_digest 179 = .ok (.ladd, 1) := by decide +kernel
theorem dX6_digest_180 : decode cX6_digest 180 = .ok (.lstore_n 1, 1) := by decide +kernel
theorem dX6_digest_181 : decode cX6_digest 181 = .ok (.iinc 4 1, 3) := by decide +kernel
theorem dX6_digest_184 : decode cX6_digest 184 = .ok (.goto (-28), 3) := by decide +kernel
theorem dX6_digest_187 : decode cX6_digest 187 = .ok (.lload_n 1, 1) := by decide +kernel
theorem dX6_digest_188 : decode cX6_digest 188 = .ok (.ldc2_w 186, 3) := by decide +kernel
theorem dX6_digest_191 : decode cX6_digest 191 = .ok (.lmul, 1) := by decide +kernel
theorem dX6_digest_192 : decode cX6_digest 192 = .ok (.aload_n 0, 1) := by decide +kernel
theorem dX6_digest_193 : decode cX6_digest 193 = .ok (.getfield 10, 3) := by decide +kernel
theorem dX6_digest_196 : decode cX6_digest 196 = .ok (.getfield 101, 3) := by decide +kernel
theorem dX6_digest_199 : decode cX6_digest 199 = .ok (.iload_n 3, 1) := by decide +kernel
theorem dX6_digest_200 : decode cX6_digest 200 = .ok (.aaload, 1) := by decide +kernel
theorem dX6_digest_201 : decode cX6_digest 201 = .ok (.aload_n 0, 1) := by decide +kernel
theorem dX6_digest_202 : decode cX6_digest 202 = .ok (.getfield 10, 3) := by decide +kernel
theorem dX6_digest_205 : decode cX6_digest 205 = .ok (.getfield 105, 3) := by decide +kernel
theorem dX6_digest_208 : decode cX6_digest 208 = .ok (.invokevirtual 108, 3) := by decide +kernel
theorem dX6_digest_211 : decode cX6_digest 211 = .ok (.i2l, 1) := by decide +kernel
theorem dX6_digest_212 : decode cX6_digest 212 = .ok (.ladd, 1) := by decide +kernel
theorem dX6_digest_213 : decode cX6_digest 213 = .ok (.lstore_n 1, 1) := by decide +kernel
theorem dX6_digest_214 : decode cX6_digest 214 = .ok (.iinc 3 1, 3) := by decide +kernel
theorem dX6_digest_217 : decode cX6_digest 217 = .ok (.goto (-75), 3) := by decide +kernel
theorem dX6_digest_220 : decode cX6_digest 220 = .ok (.lload_n 1, 1) := by decide +kernel
theorem dX6_digest_221 : decode cX6_digest 221 = .ok (.lreturn, 1) := by decide +kernel
theorem dX6_isWithin_0 : decode cX6_isWithin 0 = .ok (.iload_n 0, 1) := by decide +kernel
theorem dX6_isWithin_1 : decode cX6_isWithin 1 = .ok (.iload_n 1, 1) := by decide +kernel
theorem dX6_isWithin_2 : decode cX6_isWithin 2 = .ok (.if_icmp .lt 12, 3) := by decide +kernel
theorem dX6_isWithin_5 : decode cX6_isWithin 5 = .ok (.iload_n 0, 1) := by decide +kernel
theorem dX6_isWithin_6 : decode cX6_isWithin 6 = .ok (.iload_n 2, 1) := by decide +kernel
theorem dX6_isWithin_7 : decode cX6_isWithin 7 = .ok (.if_icmp .gt 7, 3) := by decide +kernel
theorem dX6_isWithin_10 : decode cX6_isWithin 10 = .ok (.iconst 1, 1) := by decide +kernel
theorem dX6_isWithin_11 : decode cX6_isWithin 11 = .ok (.goto 4, 3) := by decide +kernel
theorem dX6_isWithin_14 : decode cX6_isWithin 14 = .ok (.iconst 0, 1) := by decide +kernel
theorem dX6_isWithin_15 : decode cX6_isWithin 15 = .ok (.ireturn, 1) := by decide +kernel
theorem dX6_checkIndex_0 : decode cX6_checkIndex 0 = .ok (.iload_n 0, 1) := by decide +kernel
theorem dX6_checkIndex_1 : decode cX6_checkIndex 1 = .ok (.ifCond .ne 13, 3) := by decide +kernel
theorem dX6_checkIndex_4 : decode cX6_checkIndex 4 = .ok (.new 191, 3) := by decide +kernel
theorem dX6_checkIndex_7 : decode cX6_checkIndex 7 = .ok (.dup, 1) := by decide +kernel
theorem dX6_checkIndex_8 : decode cX6_checkIndex 8 = .ok (.ldc 193, 2) := by decide +kernel
theorem dX6_checkIndex_10 : decode cX6_checkIndex 10 = .ok (.invokespecial 195, 3) := by decide +kernel
theorem dX6_checkIndex_13 : decode cX6_checkIndex 13 = .ok (.athrow, 1) := by decide +kernel
theorem dX6_checkIndex_14 : decode cX6_checkIndex 14 = .ok (.return_, 1) := by decide +kernel
theorem dX6_checkArgument_0 : decode cX6_checkArgument 0 = .ok (.iload_n 0, 1) := by decide +kernel
theorem dX6_checkArgument_1 : decode cX6_checkArgument 1 = .ok (.ifCond .ne 13, 3) := by decide +kernel
theorem dX6_checkArgument_4 : decode cX6_checkArgument 4 = .ok (.new 198, 3) := by decide +kernel
theorem dX6_checkArgument_7 : decode cX6_checkArgument 7 = .ok (.dup, 1) := by decide +kernel
theorem dX6_checkArgument_8 : decode cX6_checkArgument 8 = .ok (.ldc 200, 2) := by decide +kernel
theorem dX6_checkArgument_10 : decode cX6_checkArgument 10 = .ok (.invokespecial 202, 3) := by decide +kernel
theorem dX6_checkArgument_13 : decode cX6_checkArgument 13 = .ok (.athrow, 1) := by decide +kernel
theorem dX6_checkArgument_14 : decode cX6_checkArgument 14 = .ok (.return_, 1) := by decide +kernel
theorem dX6_checkState_0 : decode cX6_checkState 0 = .ok (.iload_n 0, 1) := by decide +kernel
theorem dX6_checkState_1 : decode cX6_checkState 1 = .ok (.ifCond .ne 13, 3) := by decide +kernel
theorem dX6_checkState_4 : decode cX6_checkState 4 = .ok (.new 203, 3) := by decide +kernel
theorem dX6_checkState_7 : decode cX6_checkState 7 = .ok (.dup, 1) := by decide +kernel
theorem dX6_checkState_8 : decode cX6_checkState 8 = .ok (.ldc 205, 2) := by decide +kernel
theorem dX6_checkState_10 : decode cX6_checkState 10 = .ok (.invokespecial 207, 3) := by decide +kernel
theorem dX6_checkState_13 : decode cX6_checkState 13 = .ok (.athrow, 1) := by decide +kernel
theorem dX6_checkState_14 : decode cX6_checkState 14 = .ok (.return_, 1) := by decide +kernel
theorem dX6_sortUp_0 : decode cX6_sortUp 0 = .ok (.iconst 1, 1) := by decide +kernel
theorem dX6_sortUp_1 : decode cX6_sortUp 1 = .ok (.istore_n 2, 1) := by decide +kernel
theorem dX6_sortUp_2 : decode cX6_sortUp 2 = .ok (.iload_n 2, 1) := by decide +kernel
theorem dX6_sortUp_3 : decode cX6_sortUp 3 = .ok (.iload_n 1, 1) := by decide +kernel
theorem dX6_sortUp_4 : decode cX6_sortUp 4 = .ok (.if_icmp .ge 52, 3) := by decide +kernel
theorem dX6_sortUp_7 : decode cX6_sortUp 7 = .ok (.aload_n 0, 1) := by decide +kernel
theorem dX6_sortUp_8 : decode cX6_sortUp 8 = .ok (.iload_n 2, 1) := by decide +kernel
theorem dX6_sortUp_9 : decode cX6_sortUp 9 = .ok (.iaload, 1) := by decide +kernel
theorem dX6_sortUp_10 : decode cX6_sortUp 10 = .ok (.istore_n 3, 1) := by decide +kernel
theorem dX6_sortUp_11 : decode cX6_sortUp 11 = .ok (.iload_n 2, 1) := by decide +kernel
theorem dX6_sortUp_12 : decode cX6_sortUp 12 = .ok (.istore 4, 2) := by decide +kernel
theorem dX6_sortUp_14 : decode cX6_sortUp 14 = .ok (.iload 4, 2) := by decide +kernel
theorem dX6_sortUp_16 : decode cX6_sortUp 16 = .ok (.ifCond .le 29, 3) := by decide +kernel
theorem dX6_sortUp_19 : decode cX6_sortUp 19 = .ok (.aload_n 0, 1) := by decide +kernel
theorem dX6_sortUp_20 : decode cX6_sortUp 20 = .ok (.iload 4, 2) := by decide +kernel
theorem dX6_sortUp_22 : decode cX6_sortUp 22 = .ok (.iconst 1, 1) := by decide +kernel
theorem dX6_sortUp_23 : decode cX6_sortUp 23 = .ok (.isub, 1) := by decide +kernel
theorem dX6_sortUp_24 : decode cX6_sortUp 24 = .ok (.iaload, 1) := by decide +kernel
theorem dX6_sortUp_25 : decode cX6_sortUp 25 = .ok (.iload_n 3, 1) := by decide +kernel
theorem dX6_sortUp_26 : decode cX6_sortUp 26 = .ok (.if_icmp .le 19, 3) := by decide +kernel
theorem dX6_sortUp_29 : decode cX6_sortUp 29 = .ok (.aload_n 0, 1) := by decide +kernel
theorem dX6_sortUp_30 : decode cX6_sortUp 30 = .ok (.iload 4, 2) := by decide +kernel
theorem dX6_sortUp_32 : decode cX6_sortUp 32 = .ok (.aload_n 0, 1) := by decide +kernel
theorem dX6_sortUp_33 : decode cX6_sortUp 33 = .ok (.iload 4, 2) := by decide +kernel
theorem dX6_sortUp_35 : decode cX6_sortUp 35 = .ok (.iconst 1, 1) := by decide +kernel
theorem dX6_sortUp_36 : decode cX6_sortUp 36 = .ok (.isub, 1) := by decide +kernel
theorem dX6_sortUp_37 : decode cX6_sortUp 37 = .ok (.iaload, 1) := by decide +kernel
theorem dX6_sortUp_38 : decode cX6_sortUp 38 = .ok (.iastore, 1) := by decide +kernel
theorem dX6_sortUp_39 : decode cX6_sortUp 39 = .ok (.iinc 4 (-1), 3) := by decide +kernel
theorem dX6_sortUp_42 : decode cX6_sortUp 42 = .ok (.goto (-28), 3) := by decide +kernel
theorem dX6_sortUp_45 : decode cX6_sortUp 45 = .ok (.aload_n 0, 1) := by decide +kernel
theorem dX6_sortUp_46 : decode cX6_sortUp 46 = .ok (.iload 4, 2) := by decide +kernel
theorem dX6_sortUp_48 : decode cX6_sortUp 48 = .ok (.iload_n 3, 1) := by decide +kernel
theorem dX6_sortUp_49 : decode cX6_sortUp 49 = .ok (.iastore, 1) := by decide +kernel
theorem dX6_sortUp_50 : decode cX6_sortUp 50 = .ok (.iinc 2 1, 3) := by decide +kernel
theorem dX6_sortUp_53 : decode cX6_sortUp 53 = .ok (.goto (-51), 3) := by decide +kernel
theorem dX6_sortUp_56 : decode cX6_sortUp 56 = .ok (.return_, 1) := by decide +kernel
end
section
theorem dX7_init_0 : decode cX7_init 0 = .ok (.aload_n 0, 1) := by decide +kernel
theorem dX7_init_1 : decode cX7_init 1 = .ok (.aload_n 1, 1) := by decide +kernel
theorem dX7_init_2 : decode cX7_init 2 = .ok (.putfield 3, 3) := by decide +kernel
theorem dX7_init_5 : decode cX7_init 5 = .ok (.aload_n 0, 1) := by decide +kernel
theorem dX7_init_6 : decode cX7_init 6 = .ok (.invokespecial 9, 3) := by decide +kernel
theorem dX7_init_9 : decode cX7_init 9 = .ok (.aload_n 0, 1) := by decide +kernel
theorem dX7_init_10 : decode cX7_init 10 = .ok (.sipush 400, 3) := by decide +kernel
theorem dX7_init_13 : decode cX7_init 13 = .ok (.putfield 15, 3) := by decide +kernel
theorem dX7_init_16 : decode cX7_init 16 = .ok (.aload_n 0, 1) := by decide +kernel
theorem dX7_init_17 : decode cX7_init 17 = .ok (.bipush 10, 2) := by decide +kernel
theorem dX7_init_19 : decode cX7_init 19 = .ok (.newarray .int, 2) := by decide +kernel
theorem dX7_init_21 : decode cX7_init 21 = .ok (.putfield 19, 3) := by decide +kernel
theorem dX7_init_24 : decode cX7_init 24 = .ok (.aload_n 0, 1) := by decide +kernel
theorem dX7_init_25 : decode cX7_init 25 = .ok (.bipush 10, 2) := by decide +kernel
theorem dX7_init_27 : decode cX7_init 27 = .ok (.newarray .int, 2) := by decide +kernel
theorem dX7_init_29 : decode cX7_init 29 = .ok (.putfield 23, 3) := by decide +kernel
theorem dX7_init_32 : decode cX7_init 32 = .ok (.aload_n 0, 1) := by decide +kernel
theorem dX7_init_33 : decode cX7_init 33 = .ok (.sipush 440, 3) := by decide +kernel
theorem dX7_init_36 : decode cX7_init 36 = .ok (.newarray .int, 2) := by decide +kernel
theorem dX7_init_38 : decode cX7_init 38 = .ok (.putfield 26, 3) := by decide +kernel
theorem dX7_init_41 : decode cX7_init 41 = .ok (.aload_n 0, 1) := by decide +kernel
theorem dX7_init_42 : decode cX7_init 42 = .ok (.bipush 60, 2) := by decide +kernel
theorem dX7_init_44 : decode cX7_init 44 = .ok (.newarray .int, 2) := by decide +kernel
theorem dX7_init_46 : decode cX7_init 46 = .ok (.putfield 29, 3) := by decide +kernel
theorem dX7_init_49 : decode cX7_init 49 = .ok (.iconst 0, 1) := by decide +kernel
theorem dX7_init_50 : decode cX7_init 50 = .ok (.istore_n 2, 1) := by decide +kernel
theorem dX7_init_51 : decode cX7_init 51 = .ok (.iload_n 2, 1) := by decide +kernel
theorem dX7_init_52 : decode cX7_init 52 = .ok (.bipush 60, 2) := by decide +kernel
theorem dX7_init_54 : decode cX7_init 54 = .ok (.if_icmp .ge 16, 3) := by decide +kernel
theorem dX7_init_57 : decode cX7_init 57 = .ok (.aload_n 0, 1) := by decide +kernel
theorem dX7_init_58 : decode cX7_init 58 = .ok (.getfield 29, 3) := by decide +kernel
theorem dX7_init_61 : decode cX7_init 61 = .ok (.iload_n 2, 1) := by decide +kernel
theorem dX7_init_62 : decode cX7_init 62 = .ok (.iconst (-1), 1) := by decide +kernel
theorem dX7_init_63 : decode cX7_init 63 = .ok (.iastore, 1) := by decide +kernel
theorem dX7_init_64 : decode cX7_init 64 = .ok (.iinc 2 1, 3) := by decide +kernel
theorem dX7_init_67 : decode cX7_init 67 = .ok (.goto (-16), 3) := by decide +kernel
theorem dX7_init_70 : decode cX7_init 70 = .ok (.return_, 1) := by decide +kernel
theorem dX7_copy_0 : decode cX7_copy 0 = .ok (.aload_n 1, 1) := by decide +kernel
theorem dX7_copy_1 : decode cX7_copy 1 = .ok (.iconst 0, 1) := by decide +kernel
theorem dX7_copy_2 : decode cX7_copy 2 = .ok (.aload_n 2, 1) := by decide +kernel
theorem dX7_copy_3 : decode cX7_copy 3 = .ok (.iconst 0, 1) := by decide +kernel
theorem dX7_copy_4 : decode cX7_copy 4 = .ok (.aload_n 1, 1) := by decide +kernel
theorem dX7_copy_5 : decode cX7_copy 5 = .ok (.arraylength, 1) := by decide +kernel
theorem dX7_copy_6 : decode cX7_copy 6 = .ok (.invokestatic 32, 3) := by decide +kernel
theorem dX7_copy_9 : decode cX7_copy 9 = .ok (.return_, 1) := by decide +kernel
theorem dX7_become_0 : decode cX7_become 0 = .ok (.aload_n 0, 1) := by decide +kernel
theorem dX7_become_1 : decode cX7_become 1 = .ok (.aload_n 1, 1) := by decide +kernel
theorem dX7_become_2 : decode cX7_become 2 = .ok (.getfield 38, 3) := by decide +kernel
theorem dX7_become_5 : decode cX7_become 5 = .ok (.putfield 38, 3) := by decide +kernel
theorem dX7_become_8 : decode cX7_become 8 = .ok (.aload_n 0, 1) := by decide +kernel
theorem dX7_become_9 : decode cX7_become 9 = .ok (.aload_n 1, 1) := by decide +kernel
theorem dX7_become_10 : decode cX7_become 10 = .ok (.getfield 15, 3) := by decide +kernel
theorem dX7_become_13 : decode cX7_become 13 = .ok (.putfield 15, 3) := by decide +kernel
theorem dX7_become_16 : decode cX7_become 16 = .ok (.aload_n 0, 1) := by decide +kernel
theorem dX7_become_17 : decode cX7_become 17 = .ok (.aload_n 1, 1) := by decide +kernel
theorem dX7_become_18 : decode cX7_become 18 = .ok (.getfield 41, 3) := by decide +kernel
theorem dX7_become_21 : decode cX7_become 21 = .ok (.putfield 41, 3) := by decide +kernel
theorem dX7_become_24 : decode cX7_become 24 = .ok (.aload_n 0, 1) := by decide +kernel
theorem dX7_become_25 : decode cX7_become 25 = .ok (.aload_n 1, 1) := by decide +kernel
theorem dX7_become_26 : decode cX7_become 26 = .ok (.getfield 44, 3) := by decide +kernel
theorem dX7_become_29 : decode cX7_become 29 = .ok (.putfield 44, 3) := by decide +kernel
theorem dX7_become_32 : decode cX7_become 32 = .ok (.aload_n 0, 1) := by decide +kernel
theorem dX7_become_33 : decode cX7_become 33 = .ok (.aload_n 1, 1) := by decide +kernel
theorem dX7_become_34 : decode cX7_become 34 = .ok (.getfield 19, 3) := by decide +kernel
theorem dX7_become_37 : decode cX7_become 37 = .ok (.aload_n 0, 1) := by decide +kernel
theorem dX7_become_38 : decode cX7_become 38 = .ok (.getfield 19, 3) := by decide +kernel
theorem dX7_become_41 : decode cX7_become 41 = .ok (.invokevirtual 47, 3) := by decide +kernel
theorem dX7_become_44 : decode cX7_become 44 = .ok (.aload_n 0, 1) := by decide +kernel
theorem dX7_become_45 : decode cX7_become 45 = .ok (.aload_n 1, 1) := by decide +kernel
theorem dX7_become_46 : decode cX7_become 46 = .ok (.getfield 23, 3) := by decide +kernel
theorem dX7_become_49 : decode cX7_become 49 = .ok (.aload_n 0, 1) := by decide +kernel
theorem dX7_become_50 : decode cX7_become 50 = .ok (.getfield 23, 3) := by decide +kernel
theorem dX7_become_53 : decode cX7_become 53 = .ok (.invokevirtual 47, 3) := by decide +kernel
theorem dX7_become_56 : decode cX7_become 56 = .ok (.aload_n 0, 1) := by decide +kernel
theorem dX7_become_57 : decode cX7_become 57 = .ok (.aload_n 1, 1) := by decide +kernel
theorem dX7_become_58 : decode cX7_become 58 = .ok (.getfield 26, 3) := by decide +kernel
theorem dX7_become_61 : decode cX7_become 61 = .ok (.aload_n 0, 1) := by decide +kernel
theorem dX7_become_62 : decode cX7_become 62 = .ok (.getfield 26, 3) := by decide +kernel
theorem dX7_become_65 : decode cX7_become 65 = .ok (.invokevirtual 47, 3) := by decide +kernel
theorem dX7_become_68 : decode cX7_become 68 = .ok (.aload_n 0, 1) := by decide +kernel
theorem dX7_become_69 : decode cX7_become 69 = .ok (.aload_n 1, 1) := by decide +kernel
theorem dX7_become_70 : decode cX7_become 70 = .ok (.getfield 29, 3) := by decide +kernel
theorem dX7_become_73 : decode cX7_become 73 = .ok (.aload_n 0, 1) := by decide +kernel
theorem dX7_become_74 : decode cX7_become 74 = .ok (.getfield 29, 3) := by decide +kernel
theorem dX7_become_77 : decode cX7_become 77 = .ok (.invokevirtual 47, 3) := by decide +kernel
theorem dX7_become_80 : decode cX7_become 80 = .ok (.return_, 1) := by decide +kernel
theorem dX7_get_0 : decode cX7_get 0 = .ok (.aload_n 0, 1) := by decide +kernel
theorem dX7_get_1 : decode cX7_get 1 = .ok (.getfield 26, 3) := by decide +kernel
theorem dX7_get_4 : decode cX7_get 4 = .ok (.bipush 11, 2) := by decide +kernel
theorem dX7_get_6 : decode cX7_get 6 = .ok (.iload_n 1, 1) := by decide +kernel
theorem dX7_get_7 : decode cX7_get 7 = .ok (.imul, 1) := by decide +kernel
theorem dX7_get_8 : decode cX7_get 8 = .ok (.iload_n 2, 1) := by decide +kernel
theorem dX7_get_9 : decode cX7_get 9 = .ok (.iadd, 1) := by decide +kernel
theorem dX7_get_10 : decode cX7_get 10 = .ok (.iaload, 1) := by decide +kernel
theorem dX7_get_11 : decode cX7_get 11 = .ok (.ireturn, 1) := by decide +kernel
theorem dX7_set_0 : decode cX7_set 0 = .ok (.aload_n 0, 1) := by decide +kernel
theorem dX7_set_1 : decode cX7_set 1 = .ok (.getfield 26, 3) := by decide +kernel
theorem dX7_set_4 : decode cX7_set 4 = .ok (.bipush 11, 2) := by decide +kernel
theorem dX7_set_6 : decode cX7_set 6 = .ok (.iload_n 1, 1) := by decide +kernel
theorem dX7_set_7 : decode cX7_set 7 = .ok (.imul, 1) := by decide +kernel
theorem dX7_set_8 : decode cX7_set 8 = .ok (.iload_n 2, 1) := by decide +kernel
theorem dX7_set_9 : decode cX7_set 9 = .ok (.iadd, 1) := by decide +kernel
theorem dX7_set_10 : decode cX7_set 10 = .ok (.iload_n 3, 1) := by decide +kernel
theorem dX7_set_11 : decode cX7_set 11 = .ok (.iastore, 1) := by decide +kernel
theorem dX7_set_12 : decode cX7_set 12 = .ok (.return_, 1) := by decide +kernel
theorem dX7_gap_0 : decode cX7_gap 0 = .ok (.iconst 0, 1) := by decide +kernel
theorem dX7_gap_1 : decode cX7_gap 1 = .ok (.istore_n 2, 1) := by decide +kernel
theorem dX7_gap_2 : decode cX7_gap 2 = .ok (.iload_n 2, 1) := by decide +kernel
theorem dX7_gap_3 : decode cX7_gap 3 = .ok (.iconst 3, 1) := by decide +kernel
theorem dX7_gap_4 : decode cX7_gap 4 = .ok (.if_icmp .ge 67, 3) := by decide +kernel
theorem dX7_gap_7 : decode cX7_gap 7 = .ok (.iconst 0, 1) := by decide +kernel
theorem dX7_gap_8 : decode cX7_gap 8 = .ok (.istore_n 3, 1) := by decide +kernel
theorem dX7_gap_9 : decode cX7_gap 9 = .ok (.getstatic 51, 3) := by decide +kernel
theorem dX7_gap_12 : decode cX7_gap 12 = .ok (.iload_n 2, 1) := by decide +kernel
theorem dX7_gap_13 : decode cX7_gap 13 = .ok (.iaload, 1) := by decide +kernel
theorem dX7_gap_14 : decode cX7_gap 14 = .ok (.istore 4, 2) := by decide +kernel
theorem dX7_gap_16 : decode cX7_gap 16 = .ok (.iload 4, 2) := by decide +kernel
theorem dX7_gap_18 : decode cX7_gap 18 = .ok (.getstatic 51, 3) := by decide +kernel
theorem dX7_gap_21 : decode cX7_gap 21 = .ok (.iload_n 2, 1) := by decide +kernel
theorem dX7_gap_22 : decode cX7_gap 22 = .ok (.iconst 1, 1) := by decide +kernel
theorem dX7_gap_23 : decode cX7_gap 23 = .ok (.iadd, 1) := by decide +kernel
theorem dX7_gap_24 : decode cX7_gap 24 = .ok (.iaload, 1) := by decide +kernel
theorem dX7_gap_25 : decode cX7_gap 25 = .ok (.if_icmp .ge 40, 3) := by decide +kernel
theorem dX7_gap_28 : decode cX7_gap 28 = .ok (.aload_n 0, 1) := by decide +kernel
theorem dX7_gap_29 : decode cX7_gap 29 = .ok (.getfield 29, 3) := by decide +kernel
theorem dX7_gap_32 : decode cX7_gap 32 = .ok (.iload 4, 2) := by decide +kernel
theorem dX7_gap_34 : decode cX7_gap 34 = .ok (.iaload, 1) := by decide +kernel
theorem dX7_gap_35 : decode cX7_gap 35 = .ok (.iconst (-1), 1) := by decide +kernel
theorem dX7_gap_36 : decode cX7_gap 36 = .ok (.if_icmp .ne 9, 3) := by decide +kernel
theorem dX7_gap_39 : decode cX7_gap 39 = .ok (.iload_n 3, 1) := by decide +kernel
theorem dX7_gap_40 : decode cX7_gap 40 = .ok (.iconst 1, 1) := by decide +kernel
theorem dX7_gap_41 : decode cX7_gap 41 = .ok (.iadd, 1) := by decide +kernel
theorem dX7_gap_42 : decode cX7_gap 42 = .ok (.goto 4, 3) := by decide +kernel
theorem dX7_gap_45 : decode cX7_gap 45 = .ok (.iconst 0, 1) := by decide +kernel
theorem dX7_gap_46 : decode cX7_gap 46 = .ok (.istore_n 3, 1) := by decide +kernel
theorem dX7_gap_47 : decode cX7_gap 47 = .ok (.iload_n 3, 1) := by decide +kernel
theorem dX7_gap_48 : decode cX7_gap 48 = .ok (.iload_n 1, 1) := by decide +kernel
theorem dX7_gap_49 : decode cX7_gap 49 = .ok (.if_icmp .ne 10, 3) := by decide +kernel
theorem dX7_gap_52 : decode cX7_gap 52 = .ok (.iload 4, 2) := by decide +kernel
theorem dX7_gap_54 : decode cX7_gap 54 = .ok (.iload_n 1, 1) := by decide +kernel
theorem dX7_gap_55 : decode cX7_gap 55 = .ok (.isub, 1) := by decide +kernel
theorem dX7_gap_56 : decode cX7_gap 56 = .ok (.iconst 1, 1) := by decide +kernel
theorem dX7_gap_57 : decode cX7_gap 57 = .ok (.iadd, 1) := by decide +kernel
theorem dX7_gap_58 : decode cX7_gap 58 = .ok (.ireturn, 1) := by decide +kernel
theorem dX7_gap_59 : decode cX7_gap 59 = .ok (.iinc 4 1, 3) := by decide +kernel
theorem dX7_gap_62 : decode cX7_gap 62 = .ok (.goto (-46), 3) := by decide +kernel
theorem dX7_gap_65 : decode cX7_gap 65 = .ok (.iinc 2 1, 3) := by decide +kernel
theorem dX7_gap_68 : decode cX7_gap 68 = .ok (.goto (-66), 3) := by decide +kernel
theorem dX7_gap_71 : decode cX7_gap 71 = .ok (.iconst (-1), 1) := by decide +kernel
theorem dX7_gap_72 : decode cX7_gap 72 = .ok (.ireturn, 1) := by decide +kernel
theorem dX7_lay_0 : decode cX7_lay 0 = .ok (.aload_n 0, 1) := by decide +kernel
theorem dX7_lay_1 : decode cX7_lay 1 = .ok (.iload_n 1, 1) := by decide +kernel
theorem dX7_lay_2 : decode cX7_lay 2 = .ok (.bipush 7, 2) := by decide +kernel
theorem dX7_lay_4 : decode cX7_lay 4 = .ok (.iload_n 2, 1) := by decide +kernel
theorem dX7_lay_5 : decode cX7_lay 5 = .ok (.invokevirtual 54, 3) := by decide +kernel
theorem dX7_lay_8 : decode cX7_lay 8 = .ok (.iload_n 2, 1) := by decide +kernel
theorem dX7_lay_9 : decode cX7_lay 9 = .ok (.istore_n 3, 1) := by decide +kernel
theorem dX7_lay_10 : decode cX7_lay 10 = .ok (.iload_n 3, 1) := by decide +kernel
theorem dX7_lay_11 : decode cX7_lay 11 = .ok (.iload_n 2, 1) := by decide +kernel
theorem dX7_lay_12 : decode cX7_lay 12 = .ok (.aload_n 0, 1) := by decide +kernel
theorem dX7_lay_13 : decode cX7_lay 13 = .ok (.iload_n 1, 1) := by decide +kernel
theorem dX7_lay_14 : decode cX7_lay 14 = .ok (.iconst 3, 1) := by decide +kernel
theorem dX7_lay_15 : decode cX7_lay 15 = .ok (.invokevirtual 58, 3) := by decide +kernel
theorem dX7_lay_18 : decode cX7_lay 18 = .ok (.iadd, 1) := by decide +kernel
theorem dX7_lay_19 : decode cX7_lay 19 = .ok (.if_icmp .ge 16, 3) := by decide +kernel
theorem dX7_lay_22 : decode cX7_lay 22 = .ok (.aload_n 0, 1) := by decide +kernel
theorem dX7_lay_23 : decode cX7_lay 23 = .ok (.getfield 29, 3) := by decide +kernel
theorem dX7_lay_26 : decode cX7_lay 26 = .ok (.iload_n 3, 1) := by decide +kernel
theorem dX7_lay_27 : decode cX7_lay 27 = .ok (.iload_n 1, 1) := by decide +kernel
theorem dX7_lay_28 : decode cX7_lay 28 = .ok (.iastore, 1) := by decide +kernel
theorem dX7_lay_29 : decode cX7_lay 29 = .ok (.iinc 3 1, 3) := by decide +kernel
theorem dX7_lay_32 : decode cX7_lay 32 = .ok (.goto (-22), 3) := by decide +kernel
theorem dX7_lay_35 : decode cX7_lay 35 = .ok (.return_, 1) := by decide +kernel
theorem dX7_take_0 : decode cX7_take 0 = .ok (.iconst 0, 1) := by decide +kernel
theorem dX7_take_1 : decode cX7_take 1 = .ok (.istore_n 2, 1) := by decide +kernel
theorem dX7_take_2 : decode cX7_take 2 = .ok (.iload_n 2, 1) := by decide +kernel
theorem dX7_take_3 : decode cX7_take 3 = .ok (.bipush 60, 2) := by decide +kernel
theorem dX7_take_5 : decode cX7_take 5 = .ok (.if_icmp .ge 26, 3) := by decide +kernel
theorem dX7_take_8 : decode cX7_take 8 = .ok (.aload_n 0, 1) := by decide +kernel
theorem dX7_take_9 : decode cX7_take 9 = .ok (.getfield 29, 3) := by decide +kernel
theorem dX7_take_12 : decode cX7_take 12 = .ok (.iload_n 2, 1) := by decide +kernel
theorem dX7_take_13 : decode cX7_take 13 = .ok (.iaload, 1) := by decide +kernel
theorem dX7_take_14 : decode cX7_take 14 = .ok (.iload_n 1, 1) := by decide +kernel
theorem dX7_take_15 : decode cX7_take 15 = .ok (.if_icmp .ne 10, 3) := by decide +kernel
theorem dX7_take_18 : decode cX7_take 18 = .ok (.aload_n 0, 1) := by decide +kernel
theorem dX7_take_19 : decode cX7_take 19 = .ok (.getfield 29, 3) := by decide +kernel
theorem dX7_take_22 : decode cX7_take 22 = .ok (.iload_n 2, 1) := by decide +kernel
theorem dX7_take_23 : decode cX7_take 23 = .ok (.iconst (-1), 1) := by decide +kernel
theorem dX7_take_24 : decode cX7_take 24 = .ok (.iastore, 1) := by decide +kernel
theorem dX7_take_25 : decode cX7_take 25 = .ok (.iinc 2 1, 3) := by decide +kernel
theorem dX7_take_28 : decode cX7_take 28 = .ok (.goto (-26), 3) := by decide +kernel
theorem dX7_take_31 : decode cX7_take 31 = .ok (.aload_n 0, 1) := by decide +kernel
theorem dX7_take_32 : decode cX7_take 32 = .ok (.iload_n 1, 1) := by decide +kernel
theorem dX7_take_33 : decode cX7_take 33 = .ok (.bipush 7, 2) := by decide +kernel
theorem dX7_take_35 : decode cX7_take 35 = .ok (.iconst (-1), 1) := by decide +kernel
theorem dX7_take_36 : decode cX7_take 36 = .ok (.invokevirtual 54, 3) := by decide +kernel
theorem dX7_take_39 : decode cX7_take 39 = .ok (.return_, 1) := by decide +kernel
theorem dX7_interestOf_0 : decode cX7_interestOf 0 = .ok (.aload_n 0, 1) := by decide +kernel
theorem dX7_interestOf_1 : decode cX7_interestOf 1 = .ok (.getfield 38, 3) := by decide +kernel
theorem dX7_interestOf_4 : decode cX7_interestOf 4 = .ok (.aload_n 0, 1) := by decide +kernel
theorem dX7_interestOf_5 : decode cX7_interestOf 5 = .ok (.iload_n 1, 1) := by decide +kernel
theorem dX7_interestOf_6 : decode cX7_interestOf 6 = .ok (.bipush 10, 2) := by decide +kernel
theorem dX7_interestOf_8 : decode cX7_interestOf 8 = .ok (.invokevirtual 58, 3) := by decide +kernel
theorem dX7_interestOf_11 : decode cX7_interestOf 11 = .ok (.isub, 1) := by decide +kernel
theorem dX7_interestOf_12 : decode cX7_interestOf 12 = .ok (.bipush 30, 2) := by decide +kernel
theorem dX7_interestOf_14 : decode cX7_interestOf 14 = .ok (.idiv, 1) := by decide +kernel
theorem dX7_interestOf_15 : decode cX7_interestOf 15 = .ok (.iconst 1, 1) := by decide +kernel
theorem dX7_interestOf_16 : decode cX7_interestOf 16 = .ok (.iadd, 1) := by decide +kernel
theorem dX7_interestOf_17 : decode cX7_interestOf 17 = .ok (.iconst 1, 1) := by decide +kernel
theorem dX7_interestOf_18 : decode cX7_interestOf 18 = .ok (.aload_n 0, 1) := by decide +kernel
theorem dX7_interestOf_19 : decode cX7_interestOf 19 = .ok (.iload_n 1, 1) := by decide +kernel
theorem dX7_interestOf_20 : decode cX7_interestOf 20 = .ok (.iconst 4, 1) := by decide +kernel
theorem dX7_interestOf_21 : decode cX7_interestOf 21 = .ok (.invokevirtual 58, 3) := by decide +kernel
theorem dX7_interestOf_24 : decode cX7_interestOf 24 = .ok (.iconst 5, 1) := by decide +kernel
theorem dX7_interestOf_25 : decode cX7_interestOf 25 = .ok (.imul, 1) := by decide +kernel
theorem dX7_interestOf_26 : decode cX7_interestOf 26 = .ok (.bipush 100, 2) := by decide +kernel
theorem dX7_interestOf_28 : decode cX7_interestOf 28 = .ok (.idiv, 1) := by decide +kernel
theorem dX7_interestOf_29 : decode cX7_interestOf 29 = .ok (.invokestatic 62, 3) := by decide +kernel
theorem dX7_interestOf_32 : decode cX7_interestOf 32 = .ok (.imul, 1) := by decide +kernel
theorem dX7_interestOf_33 : decode cX7_interestOf 33 = .ok (.ireturn, 1) := by decide +kernel
theorem dX7_owed_0 : decode cX7_owed 0 = .ok (.aload_n 0, 1) := by decide +kernel
theorem dX7_owed_1 : decode cX7_owed 1 = .ok (.iload_n 1, 1) := by decide +kernel
theorem dX7_owed_2 : decode cX7_owed 2 = .ok (.bipush 6, 2) := by decide +kernel
theorem dX7_owed_4 : decode cX7_owed 4 = .ok (.invokevirtual 58, 3) := by decide +kernel
theorem dX7_owed_7 : decode cX7_owed 7 = .ok (.ifCond .ne 18, 3) := by decide +kernel
theorem dX7_owed_10 : decode cX7_owed 10 = .ok (.aload_n 0, 1) := by decide +kernel
theorem dX7_owed_11 : decode cX7_owed 11 = .ok (.iload_n 1, 1) := by decide +kernel
theorem dX7_owed_12 : decode cX7_owed 12 = .ok (.iconst 4, 1) := by decide +kernel
theorem dX7_owed_13 : decode cX7_owed 13 = .ok (.invokevirtual 58, 3) := by decide +kernel
theorem dX7_owed_16 : decode cX7_owed 16 = .ok (.aload_n 0, 1) := by decide +kernel
theorem dX7_owed_17 : decode cX7_owed 17 = .ok (.iload_n 1, 1) := by decide +kernel
theorem dX7_owed_18 : decode cX7_owed 18 = .ok (.invokevirtual 67, 3) := by decide +kernel
theorem dX7_owed_21 : decode cX7_owed 21 = .ok (.iadd, 1) := by decide +kernel
theorem dX7_owed_22 : decode cX7_owed 22 = .ok (.goto 4, 3) := by decide +kernel
theorem dX7_owed_25 : decode cX7_owed 25 = .ok (.iconst 0, 1) := by decide +kernel
theorem dX7_owed_26 : decode cX7_owed 26 = .ok (.ireturn, 1) := by decide +kernel
theorem dX7_isBought_0 : decode cX7_isBought 0 = .ok (.aload_n 0, 1) := by decide +kernel
theorem dX7_isBought_1 : decode cX7_isBought 1 = .ok (.getfield 3, 3) := by decide +kernel
theorem dX7_isBought_4 : decode cX7_isBought 4 = .ok (.getfield 71, 3) := by decide +kernel
theorem dX7_isBought_7 : decode cX7_isBought 7 = .ok (.aload_n 0, 1) := by decide +kernel
theorem dX7_isBought_8 : decode cX7_isBought 8 = .ok (.getfield 38, 3) := by decide +kernel
theorem dX7_isBought_11 : decode cX7_isBought 11 = .ok (.bipush 7, 2) := by decide +kernel
theorem dX7_isBought_13 : decode cX7_isBought 13 = .ok (.irem, 1) := by decide +kernel
theorem dX7_isBought_14 : decode cX7_isBought 14 = .ok (.iaload, 1) := by decide +kernel
theorem dX7_isBought_15 : decode cX7_isBought 15 = .ok (.istore_n 1, 1) := by decide +kernel
theorem dX7_isBought_16 : decode cX7_isBought 16 = .ok (.iload_n 1, 1) := by decide +kernel
theorem dX7_isBought_17 : decode cX7_isBought 17 = .ok (.iconst (-1), 1) := by decide +kernel
theorem dX7_isBought_18 : decode cX7_isBought 18 = .ok (.if_icmp .ne 5, 3) := by decide +kernel
theorem dX7_isBought_21 : decode cX7_isBought 21 = .ok (.iconst 0, 1) := by decide +kernel
theorem dX7_isBought_22 : decode cX7_isBought 22 = .ok (.ireturn, 1) := by decide +kernel
theorem dX7_isBought_23 : decode cX7_isBought 23 = .ok (.iconst (-1), 1) := by decide +kernel
theorem dX7_isBought_24 : decode cX7_isBought 24 = .ok (.istore_n 2, 1) := by decide +kernel
theorem dX7_isBought_25 : decode cX7_isBought 25 = .ok (.iconst 0, 1) := by decide +kernel
theorem dX7_isBought_26 : decode cX7_isBought 26 = .ok (.istore_n 3, 1) := by decide +kernel
theorem dX7_isBought_27 : decode cX7_isBought 27 = .ok (.iload_n 3, 1) := by decide +kernel
theorem dX7_isBought_28 : decode cX7_isBought 28 = .ok (.aload_n 0, 1) := by decide +kernel
theorem dX7_isBought_29 : decode cX7_isBought 29 = .ok (.getfield 41, 3) := by decide +kernel
theorem dX7_isBought_32 : decode cX7_isBought 32 = .ok (.if_icmp .ge 82, 3) := by decide +kernel
theorem dX7_isBought_35 : decode cX7_isBought 35 = .ok (.aload_n 0, 1) := by decide +kernel
theorem dX7_isBought_36 : decode cX7_isBought 36 = .ok (.iload_n 3, 1) := by decide +kernel
theorem dX7_isBought_37 : decode cX7_isBought 37 = .ok (.bipush 6, 2) := by decide +kernel
theorem dX7_isBought_39 : decode cX7_isBought 39 = .ok (.invokevirtual 58, 3) := by decide +kernel
theorem dX7_isBought_42 : decode cX7_isBought 42 = .ok (.iconst 2, 1) := by decide +kernel
theorem dX7_isBought_43 : decode cX7_isBought 43 = .ok (.if_icmp .ne 65, 3) := by decide +kernel
theorem dX7_isBought_46 : decode cX7_isBought 46 = .ok (.aload_n 0, 1) := by decide +kernel
theorem dX7_isBought_47 : decode cX7_isBought 47 = .ok (.iload_n 3, 1) := by decide +kernel
theorem dX7_isBought_48 : decode cX7_isBought 48 = .ok (.iconst 1, 1) := by decide +kernel
theorem dX7_isBought_49 : decode cX7_isBought 49 = .ok (.invokevirtual 58, 3) := by decide +kernel
theorem dX7_isBought_52 : decode cX7_isBought 52 = .ok (.iload_n 1, 1) := by decide +kernel
theorem dX7_isBought_53 : decode cX7_isBought 53 = .ok (.if_icmp .ne 55, 3) := by decide +kernel
theorem dX7_isBought_56 : decode cX7_isBought 56 = .ok (.aload_n 0, 1) := by decide +kernel
theorem dX7_isBought_57 : decode cX7_isBought 57 = .ok (.iload_n 3, 1) := by decide +kernel
theorem dX7_isBought_58 : decode cX7_isBought 58 = .ok (.bipush 8, 2) := by decide +kernel
theorem dX7_isBought_60 : decode cX7_isBought 60 = .ok (.invokevirtual 58, 3) := by decide +kernel
theorem dX7_isBought_63 : decode cX7_isBought 63 = .ok (.aload_n 0, 1) := by decide +kernel
theorem dX7_isBought_64 : decode cX7_isBought 64 = .ok (.getfield 3, 3) := by decide +kernel
theorem dX7_isBought_67 : decode cX7_isBought 67 = .ok (.getfield 74, 3) := by decide +kernel
theorem dX7_isBought_70 : decode cX7_isBought 70 = .ok (.aload_n 0, 1) := by decide +kernel
theorem dX7_isBought_71 : decode cX7_isBought 71 = .ok (.getfield 38, 3) := by decide +kernel
theorem dX7_isBought_74 : decode cX7_isBought 74 = .ok (.bipush 7, 2) := by decide +kernel
theorem dX7_isBought_76 : decode cX7_isBought 76 = .ok (.irem, 1) := by decide +kernel
theorem dX7_isBought_77 : decode cX7_isBought 77 = .ok (.iaload, 1) := by decide +kernel
theorem dX7_isBought_78 : decode cX7_isBought 78 = .ok (.if_icmp .le 6, 3) := by decide +kernel
theorem dX7_isBought_81 : decode cX7_isBought 81 = .ok (.goto 27, 3) := by decide +kernel
theorem dX7_isBought_84 : decode cX7_isBought 84 = .ok (.iload_n 2, 1) := by decide +kernel
theorem dX7_isBought_85 : decode cX7_isBought 85 = .ok (.iconst (-1), 1) := by decide +kernel
theorem dX7_isBought_86 : decode cX7_isBought 86 = .ok (.if_icmp .eq 20, 3) := by decide +kernel
theorem dX7_isBought_89 : decode cX7_isBought 89 = .ok (.aload_n 0, 1) := by decide +kernel
theorem dX7_isBought_90 : decode cX7_isBought 90 = .ok (.iload_n 3, 1) := by decide +kernel
theorem dX7_isBought_91 : decode cX7_isBought 91 = .ok (.bipush 8, 2) := by decide +kernel
theorem dX7_isBought_93 : decode cX7_isBought 93 = .ok (.invokevirtual 58, 3) := by decide +kernel
theorem dX7_isBought_96 : decode cX7_isBought 96 = .ok (.aload_n 0, 1) := by decide +kernel
theorem dX7_isBought_97 : decode cX7_isBought 97 = .ok (.iload_n 2, 1) := by decide +kernel
theorem dX7_isBought_98 : decode cX7_isBought 98 = .ok (.bipush 8, 2) := by decide +kernel
theorem dX7_isBought_100 : decode cX7_isBought 100 = .ok (.invokevirtual 58, 3) := by decide +kernel
theorem dX7_isBought_103 : decode cX7_isBought 103 = .ok (.if_icmp .le 5, 3) := by decide +kernel
theorem dX7_isBought_106 : decode cX7_isBought 106 = .ok (.iload_n 3, 1) := by decide +kernel
theorem dX7_isBought_107 : decode cX7_isBought 107 = .ok (.istore_n 2, 1) := by decide +kernel
theorem dX7_isBought_108 : decode cX7_isBought 108 = .ok (.iinc 3 1, 3) := by decide +kernel
theorem dX7_isBought_111 : decode cX7_isBought 111 = .ok (.goto (-84), 3) := by decide +kernel
theorem dX7_isBought_114 : decode cX7_isBought 114 = .ok (.iload_n 2, 1) := by decide +kernel
theorem dX7_isBought_115 : decode cX7_isBought 115 = .ok (.iconst (-1), 1) := by decide +kernel
theorem dX7_isBought_116 : decode cX7_isBought 116 = .ok (.if_icmp .ne 5, 3) := by decide +kernel
theorem dX7_isBought_119 : decode cX7_isBought 119 = .ok (.iconst 0, 1) := by decide +kernel
theorem dX7_isBought_120 : decode cX7_isBought 120 = .ok (.ireturn, 1) := by decide +kernel
theorem dX7_isBought_121 : decode cX7_isBought 121 = .ok (.aload_n 0, 1) := by decide +kernel
theorem dX7_isBought_122 : decode cX7_isBought 122 = .ok (.dup, 1) := by decide +kernel
theorem dX7_isBought_123 : decode cX7_isBought 123 = .ok (.getfield 15, 3) := by decide +kernel
theorem dX7_isBought_126 : decode cX7_isBought 126 = .ok (.aload_n 0, 1) := by decide +kernel
theorem dX7_isBought_127 : decode cX7_isBought 127 = .ok (.iload_n 2, 1) := by decide +kernel
theorem dX7_isBought_128 : decode cX7_isBought 128 = .ok (.bipush 8, 2) := by decide +kernel
theorem dX7_isBought_130 : decode cX7_isBought 130 = .ok (.invokevirtual 58, 3) := by decide +kernel
theorem dX7_isBought_133 : decode cX7_isBought 133 = .ok (.iadd, 1) := by decide +kernel
theorem dX7_isBought_134 : decode cX7_isBought 134 = .ok (.putfield 15, 3) := by decide +kernel
theorem dX7_isBought_137 : decode cX7_isBought 137 = .ok (.aload_n 0, 1) := by decide +kernel
theorem dX7_isBought_138 : decode cX7_isBought 138 = .ok (.iload_n 2, 1) := by decide +kernel
theorem dX7_isBought_139 : decode cX7_isBought 139 = .ok (.bipush 6, 2) := by decide +kernel
theorem dX7_isBought_141 : decode cX7_isBought 141 = .ok (.iconst 3, 1) := by decide +kernel
theorem dX7_isBought_142 : decode cX7_isBought 142 = .ok (.invokevirtual 54, 3) := by decide +kernel
theorem dX7_isBought_145 : decode cX7_isBought 145 = .ok (.aload_n 0, 1) := by decide +kernel
theorem dX7_isBought_146 : decode cX7_isBought 146 = .ok (.iload_n 2, 1) := by decide +kernel
theorem dX7_isBought_147 : decode cX7_isBought 147 = .ok (.invokevirtual 77, 3) := by decide +kernel
theorem dX7_isBought_150 : decode cX7_isBought 150 = .ok (.iconst 1, 1) := by decide +kernel
theorem dX7_isBought_151 : decode cX7_isBought 151 = .ok (.ireturn, 1) := by decide +kernel
theorem dX7_pass_0 : decode cX7_pass 0 = .ok (.iconst 0, 1) := by decide +kernel
theorem dX7_pass_1 : decode cX7_pass 1 = .ok (.istore_n 1, 1) := by decide +kernel
theorem dX7_pass_2 : decode cX7_pass 2 = .ok (.iload_n 1, 1) := by decide +kernel
theorem dX7_pass_3 : decode cX7_pass 3 = .ok (.aload_n 0, 1) := by decide +kernel
theorem dX7_pass_4 : decode cX7_pass 4 = .ok (.getfield 41, 3) := by decide +kernel
theorem dX7_pass_7 : decode cX7_pass 7 = .ok (.if_icmp .ge 125, 3) := by decide +kernel
theorem dX7_pass_10 : decode cX7_pass 10 = .ok (.aload_n 0, 1) := by decide +kernel
theorem dX7_pass_11 : decode cX7_pass 11 = .ok (.iload_n 1, 1) := by decide +kernel
theorem dX7_pass_12 : decode cX7_pass 12 = .ok (.iconst 2, 1) := by decide +kernel
theorem dX7_pass_13 : decode cX7_pass 13 = .ok (.invokevirtual 58, 3) := by decide +kernel
theorem dX7_pass_16 : decode cX7_pass 16 = .ok (.istore_n 2, 1) := by decide +kernel
theorem dX7_pass_17 : decode cX7_pass 17 = .ok (.aload_n 0, 1) := by decide +kernel
theorem dX7_pass_18 : decode cX7_pass 18 = .ok (.iload_n 1, 1) := by decide +kernel
theorem dX7_pass_19 : decode cX7_pass 19 = .ok (.bipush 6, 2) := by decide +kernel
theorem dX7_pass_21 : decode cX7_pass 21 = .ok (.invokevirtual 58, 3) := by decide +kernel
theorem dX7_pass_24 : decode cX7_pass 24 = .ok (.iconst 2, 1) := by decide +kernel
theorem dX7_pass_25 : decode cX7_pass 25 = .ok (.if_icmp .ne 31, 3) := by decide +kernel
theorem dX7_pass_28 : decode cX7_pass 28 = .ok (.aload_n 0, 1) := by decide +kernel
theorem dX7_pass_29 : decode cX7_pass 29 = .ok (.iload_n 1, 1) := by decide +kernel
theorem dX7_pass_30 : decode cX7_pass 30 = .ok (.bipush 8, 2) := by decide +kernel
theorem dX7_pass_32 : decode cX7_pass 32 = .ok (.iload_n 2, 1) := by decide +kernel
theorem dX7_pass_33 : decode cX7_pass 33 = .ok (.iconst 3, 1) := by decide +kernel
theorem dX7_pass_34 : decode cX7_pass 34 = .ok (.imul, 1) := by decide +kernel
theorem dX7_pass_35 : decode cX7_pass 35 = .ok (.bipush 10, 2) := by decide +kernel
theorem dX7_pass_37 : decode cX7_pass 37 = .ok (.idiv, 1) := by decide +kernel
theorem dX7_pass_38 : decode cX7_pass 38 = .ok (.aload_n 0, 1) := by decide +kernel
theorem dX7_pass_39 : decode cX7_pass 39 = .ok (.iload_n 1, 1) := by decide +kernel
theorem dX7_pass_40 : decode cX7_pass 40 = .ok (.bipush 8, 2) := by decide +kernel
theorem dX7_pass_42 : decode cX7_pass 42 = .ok (.invokevirtual 58, 3) := by decide +kernel
theorem dX7_pass_45 : decode cX7_pass 45 = .ok (.iload_n 2, 1) := by decide +kernel
theorem dX7_pass_46 : decode cX7_pass 46 = .ok (.bipush 20, 2) := by decide +kernel
theorem dX7_pass_48 : decode cX7_pass 48 = .ok (.idiv, 1) := by decide +kernel
theorem dX7_pass_49 : decode cX7_pass 49 = .ok (.isub, 1) := by decide +kernel
theorem dX7_pass_50 : decode cX7_pass 50 = .ok (.invokestatic 62, 3) := by decide +kernel
theorem dX7_pass_53 : decode cX7_pass 53 = .ok (.invokevirtual 54, 3) := by decide +kernel
theorem dX7_pass_56 : decode cX7_pass 56 = .ok (.aload_n 0, 1) := by decide +kernel
theorem dX7_pass_57 : decode cX7_pass 57 = .ok (.iload_n 1, 1) := by decide +kernel
theorem dX7_pass_58 : decode cX7_pass 58 = .ok (.bipush 6, 2) := by decide +kernel
theorem dX7_pass_60 : decode cX7_pass 60 = .ok (.invokevirtual 58, 3) := by decide +kernel
theorem dX7_pass_63 : decode cX7_pass 63 = .ok (.ifCond .ne 63, 3) := by decide +kernel
theorem dX7_pass_66 : decode cX7_pass 66 = .ok (.aload_n 0, 1) := by decide +kernel
theorem dX7_pass_67 : decode cX7_pass 67 = .ok (.iload_n 1, 1) := by decide +kernel
theorem dX7_pass_68 : decode cX7_pass 68 = .ok (.iconst 5, 1) := by decide +kernel
theorem dX7_pass_69 : decode cX7_pass 69 = .ok (.invokevirtual 58, 3) := by decide +kernel
theorem dX7_pass_72 : decode cX7_pass 72 = .ok (.aload_n 0, 1) := by decide +kernel
theorem dX7_pass_73 : decode cX7_pass 73 = .ok (.getfield 38, 3) := by decide +kernel
theorem dX7_pass_76 : decode cX7_pass 76 = .ok (.if_icmp .lt 6, 3) := by decide +kernel
theorem dX7_pass_79 : decode cX7_pass 79 = .ok (.goto 47, 3) := by decide +kernel
theorem dX7_pass_82 : decode cX7_pass 82 = .ok (.aload_n 0, 1) := by decide +kernel
theorem dX7_pass_83 : decode cX7_pass 83 = .ok (.iload_n 1, 1) := by decide +kernel
theorem dX7_pass_84 : decode cX7_pass 84 = .ok (.bipush 6, 2) := by decide +kernel
theorem dX7_pass_86 : decode cX7_pass 86 = .ok (.iconst 2, 1) := by decide +kernel
theorem dX7_pass_87 : decode cX7_pass 87 = .ok (.invokevirtual 54, 3) := by decide +kernel
theorem dX7_pass_90 : decode cX7_pass 90 = .ok (.aload_n 0, 1) := by decide +kernel
theorem dX7_pass_91 : decode cX7_pass 91 = .ok (.iload_n 1, 1) := by decide +kernel
theorem dX7_pass_92 : decode cX7_pass 92 = .ok (.bipush 8, 2) := by decide +kernel
theorem dX7_pass_94 : decode cX7_pass 94 = .ok (.iload_n 2, 1) := by decide +kernel
theorem dX7_pass_95 : decode cX7_pass 95 = .ok (.invokevirtual 54, 3) := by decide +kernel
theorem dX7_pass_98 : decode cX7_pass 98 = .ok (.aload_n 0, 1) := by decide +kernel
theorem dX7_pass_99 : decode cX7_pass 99 = .ok (.getfield 23, 3) := by decide +kernel
theorem dX7_pass_102 : decode cX7_pass 102 = .ok (.aload_n 0, 1) := by decide +kernel
theorem dX7_pass_103 : decode cX7_pass 103 = .ok (.iload_n 1, 1) := by decide +kernel
theorem dX7_pass_104 : decode cX7_pass 104 = .ok (.iconst 0, 1) := by decide +kernel
theorem dX7_pass_105 : decode cX7_pass 105 = .ok (.invokevirtual 58, 3) := by decide +kernel
theorem dX7_pass_108 : decode cX7_pass 108 = .ok (.iconst 0, 1) := by decide +kernel
theorem dX7_pass_109 : decode cX7_pass 109 = .ok (.aload_n 0, 1) := by decide +kernel
theorem dX7_pass_110 : decode cX7_pass 110 = .ok (.getfield 23, 3) := by decide +kernel
theorem dX7_pass_113 : decode cX7_pass 113 = .ok (.aload_n 0, 1) := by decide +kernel
theorem dX7_pass_114 : decode cX7_pass 114 = .ok (.iload_n 1, 1) := by decide +kernel
theorem dX7_pass_115 : decode cX7_pass 115 = .ok (.iconst 0, 1) := by decide +kernel
theorem dX7_pass_116 : decode cX7_pass 116 = .ok (.invokevirtual 58, 3) := by decide +kernel
theorem dX7_pass_119 : decode cX7_pass 119 = .ok (.iaload, 1) := by decide +kernel
theorem dX7_pass_120 : decode cX7_pass 120 = .ok (.iconst 2, 1) := by decide +kernel
theorem dX7_pass_121 : decode cX7_pass 121 = .ok (.isub, 1) := by decide +kernel
theorem dX7_pass_122 : decode cX7_pass 122 = .ok (.invokestatic 62, 3) := by decide +kernel
theorem dX7_pass_125 : decode cX7_pass 125 = .ok (.iastore, 1) := by decide +kernel
theorem dX7_pass_126 : decode cX7_pass 126 = .ok (.iinc 1 1, 3) := by decide +kernel
theorem dX7_pass_129 : decode cX7_pass 129 = .ok (.goto (-127), 3) := by decide +kernel
theorem dX7_pass_132 : decode cX7_pass 132 = .ok (.aload_n 0, 1) := by decide +kernel
theorem dX7_pass_133 : decode cX7_pass 133 = .ok (.invokevirtual 81, 3) := by decide +kernel
theorem dX7_pass_136 : decode cX7_pass 136 = .ok (.ifCond .eq 7, 3) := by decide +kernel
theorem dX7_pass_139 : decode cX7_pass 139 = .ok (.iconst 1, 1) := by decide +kernel
theorem dX7_pass_140 : decode cX7_pass 140 = .ok (.goto 4, 3) := by decide +kernel
theorem dX7_pass_143 : decode cX7_pass 143 = .ok (.iconst 0, 1) := by decide +kernel
theorem dX7_pass_144 : decode cX7_pass 144 = .ok (.istore_n 1, 1) := by decide +kernel
theorem dX7_pass_145 : decode cX7_pass 145 = .ok (.aload_n 0, 1) := by decide +kernel
theorem dX7_pass_146 : decode cX7_pass 146 = .ok (.dup, 1) := by decide +kernel
theorem dX7_pass_147 : decode cX7_pass 147 = .ok (.getfield 38, 3) := by decide +kernel
theorem dX7_pass_150 : decode cX7_pass 150 = .ok (.iconst 1, 1) := by decide +kernel
theorem dX7_pass_151 : decode cX7_pass 151 = .ok (.iadd, 1) := by decide +kernel
theorem dX7_pass_152 : decode cX7_pass 152 = .ok (.putfield 38, 3) := by decide +kernel
theorem dX7_pass_155 : decode cX7_pass 155 = .ok (.iload_n 1, 1) := by decide +kernel
theorem dX7_pass_156 : decode cX7_pass 156 = .ok (.ireturn, 1) := by decide +kernel
theorem dX7_how_0 : decode cX7_how 0 = .ok (.iconst 0, 1) := by decide +kernel
theorem dX7_how_1 : decode cX7_how 1 = .ok (.istore_n 2, 1) := by decide +kernel
theorem dX7_how_2 : decode cX7_how 2 = .ok (.iconst 0, 1) := by decide +kernel
theorem dX7_how_3 : decode cX7_how 3 = .ok (.istore_n 3, 1) := by decide +kernel
theorem dX7_how_4 : decode cX7_how 4 = .ok (.iload_n 3, 1) := by decide +kernel
theorem dX7_how_5 : decode cX7_how 5 = .ok (.aload_n 0, 1) := by decide +kernel
theorem dX7_how_6 : decode cX7_how 6 = .ok (.getfield 41, 3) := by decide +kernel
theorem dX7_how_9 : decode cX7_how 9 = .ok (.if_icmp .ge 28, 3) := by decide +kernel
theorem dX7_how_12 : decode cX7_how 12 = .ok (.iload_n 2, 1) := by decide +kernel
theorem dX7_how_13 : decode cX7_how 13 = .ok (.aload_n 0, 1) := by decide +kernel
theorem dX7_how_14 : decode cX7_how 14 = .ok (.iload_n 3, 1) := by decide +kernel
theorem dX7_how_15 : decode cX7_how 15 = .ok (.bipush 6, 2) := by decide +kernel
theorem dX7_how_17 : decode cX7_how 17 = .ok (.invokevirtual 58, 3) := by decide +kernel
theorem dX7_how_20 : decode cX7_how 20 = .ok (.iload_n 1, 1) := by decide +kernel
theorem dX7_how_21 : decode cX7_how 21 = .ok (.if_icmp .ne 7, 3) := by decide +kernel
theorem dX7_how_24 : decode cX7_how 24 = .ok (.iconst 1, 1) := by decide +kernel
theorem dX7_how_25 : decode cX7_how 25 = .ok (.goto 4, 3) := by decide +kernel
theorem dX7_how_28 : decode cX7_how 28 = .ok (.iconst 0, 1) := by decide +kernel
theorem dX7_how_29 : decode cX7_how 29 = .ok (.iadd, 1) := by decide +kernel
theorem dX7_how_30 : decode cX7_how 30 = .ok (.istore_n 2, 1) := by decide +kernel
theorem dX7_how_31 : decode cX7_how 31 = .ok (.iinc 3 1, 3) := by decide +kernel
theorem dX7_how_34 : decode cX7_how 34 = .ok (.goto (-30), 3) := by decide +kernel
theorem dX7_how_37 : decode cX7_how 37 = .ok (.iload_n 2, 1) := by decide +kernel
theorem dX7_how_38 : decode cX7_how 38 = .ok (.ireturn, 1) := by decide +kernel
end
section
theorem dX8_init_0 : decode cX8_init 0 = .ok (.aload_n 0, 1) := by decide +kernel
theorem dX8_init_1 : decode cX8_init 1 = .ok (.invokespecial 1, 3) := by decide +kernel
theorem dX8_init_4 : decode cX8_init 4 = .ok (.aload_n 0, 1) := by decide +kernel
theorem dX8_init_5 : decode cX8_init 5 = .ok (.bipush 7, 2) := by decide +kernel
theorem dX8_init_7 : decode cX8_init 7 = .ok (.newarray .int, 2) := by decide +kernel
theorem dX8_init_9 : decode cX8_init 9 = .ok (.dup, 1) := by decide +kernel
theorem dX8_init_10 : decode cX8_init 10 = .ok (.iconst 0, 1) := by decide +kernel
theorem dX8_init_11 : decode cX8_init 11 = .ok (.iconst (-1), 1) := by decide +kernel
theorem dX8_init_12 : decode cX8_init 12 = .ok (.iastore, 1) := by decide +kernel
theorem dX8_init_13 : decode cX8_init 13 = .ok (.dup, 1) := by decide +kernel
theorem dX8_init_14 : decode cX8_init 14 = .ok (.iconst 1, 1) := by decide +kernel
theorem dX8_init_15 : decode cX8_init 15 = .ok (.iconst (-1), 1) := by decide +kernel
theorem dX8_init_16 : decode cX8_init 16 = .ok (.iastore, 1) := by decide +kernel
theorem dX8_init_17 : decode cX8_init 17 = .ok (.dup, 1) := by decide +kernel
theorem dX8_init_18 : decode cX8_init 18 = .ok (.iconst 2, 1) := by decide +kernel
theorem dX8_init_19 : decode cX8_init 19 = .ok (.iconst (-1), 1) := by decide +kernel
theorem dX8_init_20 : decode cX8_init 20 = .ok (.iastore, 1) := by decide +kernel
theorem dX8_init_21 : decode cX8_init 21 = .ok (.dup, 1) := by decide +kernel
theorem dX8_init_22 : decode cX8_init 22 = .ok (.iconst 3, 1) := by decide +kernel
theorem dX8_init_23 : decode cX8_init 23 = .ok (.iconst (-1), 1) := by decide +kernel
theorem dX8_init_24 : decode cX8_init 24 = .ok (.iastore, 1) := by decide +kernel
theorem dX8_init_25 : decode cX8_init 25 = .ok (.dup, 1) := by decide +kernel
theorem dX8_init_26 : decode cX8_init 26 = .ok (.iconst 4, 1) := by decide +kernel
theorem dX8_init_27 : decode cX8_init 27 = .ok (.iconst (-1), 1) := by decide +kernel
theorem dX8_init_28 : decode cX8_init 28 = .ok (.iastore, 1) := by decide +kernel
theorem dX8_init_29 : decode cX8_init 29 = .ok (.dup, 1) := by decide +kernel
theorem dX8_init_30 : decode cX8_init 30 = .ok (.iconst 5, 1) := by decide +kernel
theorem dX8_init_31 : decode cX8_init 31 = .ok (.iconst (-1), 1) := by decide +kernel
theorem dX8_init_32 : decode cX8_init 32 = .ok (.iastore, 1) := by decide +kernel
theorem dX8_init_33 : decode cX8_init 33 = .ok (.dup, 1) := by decide +kernel
theorem dX8_init_34 : decode cX8_init 34 = .ok (.bipush 6, 2) := by decide +kernel
theorem dX8_init_36 : decode cX8_init 36 = .ok (.iconst (-1), 1) := by decide +kernel
theorem dX8_init_37 : decode cX8_init 37 = .ok (.iastore, 1) := by decide +kernel
theorem dX8_init_38 : decode cX8_init 38 = .ok (.putfield 9, 3) := by decide +kernel
theorem dX8_init_41 : decode cX8_init 41 = .ok (.aload_n 0, 1) := by decide +kernel
theorem dX8_init_42 : decode cX8_init 42 = .ok (.bipush 7, 2) := by decide +kernel
theorem dX8_init_44 : decode cX8_init 44 = .ok (.newarray .int, 2) := by decide +kernel
theorem dX8_init_46 : decode cX8_init 46 = .ok (.putfield 13, 3) := by decide +kernel
theorem dX8_init_49 : decode cX8_init 49 = .ok (.aload_n 0, 1) := by decide +kernel
theorem dX8_init_50 : decode cX8_init 50 = .ok (.new 16, 3) := by decide +kernel
theorem dX8_init_53 : decode cX8_init 53 = .ok (.dup, 1) := by decide +kernel
theorem dX8_init_54 : decode cX8_init 54 = .ok (.aload_n 0, 1) := by decide +kernel
theorem dX8_init_55 : decode cX8_init 55 = .ok (.invokespecial 18, 3) := by decide +kernel
theorem dX8_init_58 : decode cX8_init 58 = .ok (.putfield 21, 3) := by decide +kernel
theorem dX8_init_61 : decode cX8_init 61 = .ok (.aload_n 0, 1) := by decide +kernel
theorem dX8_init_62 : decode cX8_init 62 = .ok (.new 16, 3) := by decide +kernel
theorem dX8_init_65 : decode cX8_init 65 = .ok (.dup, 1) := by decide +kernel
theorem dX8_init_66 : decode cX8_init 66 = .ok (.aload_n 0, 1) := by decide +kernel
theorem dX8_init_67 : decode cX8_init 67 = .ok (.invokespecial 18, 3) := by decide +kernel
theorem dX8_init_70 : decode cX8_init 70 = .ok (.putfield 25, 3) := by decide +kernel
theorem dX8_init_73 : decode cX8_init 73 = .ok (.return_, 1) := by decide +kernel
theorem dX8_thrown_0 : decode cX8_thrown 0 = .ok (.aload_n 0, 1) := by decide +kernel
theorem dX8_thrown_1 : decode cX8_thrown 1 = .ok (.getfield 28, 3) := by decide +kernel
theorem dX8_thrown_4 : decode cX8_thrown 4 = .ok (.ireturn, 1) := by decide +kernel
theorem dX8_no_0 : decode cX8_no 0 = .ok (.aload_n 0, 1) := by decide +kernel
theorem dX8_no_1 : decode cX8_no 1 = .ok (.iload_n 1, 1) := by decide +kernel
theorem dX8_no_2 : decode cX8_no 2 = .ok (.putfield 28, 3) := by decide +kernel
theorem dX8_no_5 : decode cX8_no 5 = .ok (.iconst 0, 1) := by decide +kernel
theorem dX8_no_6 : decode cX8_no 6 = .ok (.ireturn, 1) := by decide +kernel
theorem dX8_isIn_0 : decode cX8_isIn 0 = .ok (.iload_n 0, 1) := by decide +kernel
theorem dX8_isIn_1 : decode cX8_isIn 1 = .ok (.iload_n 1, 1) := by decide +kernel
theorem dX8_isIn_2 : decode cX8_isIn 2 = .ok (.if_icmp .lt 12, 3) := by decide +kernel
theorem dX8_isIn_5 : decode cX8_isIn 5 = .ok (.iload_n 0, 1) := by decide +kernel
theorem dX8_isIn_6 : decode cX8_isIn 6 = .ok (.iload_n 2, 1) := by decide +kernel
theorem dX8_isIn_7 : decode cX8_isIn 7 = .ok (.if_icmp .gt 7, 3) := by decide +kernel
theorem dX8_isIn_10 : decode cX8_isIn 10 = .ok (.iconst 1, 1) := by decide +kernel
theorem dX8_isIn_11 : decode cX8_isIn 11 = .ok (.goto 4, 3) := by decide +kernel
theorem dX8_isIn_14 : decode cX8_isIn 14 = .ok (.iconst 0, 1) := by decide +kernel
theorem dX8_isIn_15 : decode cX8_isIn 15 = .ok (.ireturn, 1) := by decide +kernel
theorem dX8_isCustomer_0 : decode cX8_isCustomer 0 = .ok (.iload_n 1, 1) := by decide +kernel
theorem dX8_isCustomer_1 : decode cX8_isCustomer 1 = .ok (.iconst 0, 1) := by decide +kernel
theorem dX8_isCustomer_2 : decode cX8_isCustomer 2 = .ok (.aload_n 0, 1) := by decide +kernel
theorem dX8_isCustomer_3 : decode cX8_isCustomer 3 = .ok (.getfield 32, 3) := by decide +kernel
theorem dX8_isCustomer_6 : decode cX8_isCustomer 6 = .ok (.iconst 1, 1) := by decide +kernel
theorem dX8_isCustomer_7 : decode cX8_isCustomer 7 = .ok (.isub, 1) := by decide +kernel
theorem dX8_isCustomer_8 : decode cX8_isCustomer 8 = .ok (.invokestatic 35, 3) := by decide +kernel
theorem dX8_isCustomer_11 : decode cX8_isCustomer 11 = .ok (.ireturn, 1) := by decide +kernel
theorem dX8_isTicket_0 : decode cX8_isTicket 0 = .ok (.iload_n 1, 1) := by decide +kernel
theorem dX8_isTicket_1 : decode cX8_isTicket 1 = .ok (.iconst 0, 1) := by decide +kernel
theorem dX8_isTicket_2 : decode cX8_isTicket 2 = .ok (.aload_n 0, 1) := by decide +kernel
theorem dX8_isTicket_3 : decode cX8_isTicket 3 = .ok (.getfield 21, 3) := by decide +kernel
theorem dX8_isTicket_6 : decode cX8_isTicket 6 = .ok (.getfield 39, 3) := by decide +kernel
theorem dX8_isTicket_9 : decode cX8_isTicket 9 = .ok (.iconst 1, 1) := by decide +kernel
theorem dX8_isTicket_10 : decode cX8_isTicket 10 = .ok (.isub, 1) := by decide +kernel
theorem dX8_isTicket_11 : decode cX8_isTicket 11 = .ok (.invokestatic 35, 3) := by decide +kernel
theorem dX8_isTicket_14 : decode cX8_isTicket 14 = .ok (.ireturn, 1) := by decide +kernel
theorem dX8_come_0 : decode cX8_come 0 = .ok (.aload_n 0, 1) := by decide +kernel
theorem dX8_come_1 : decode cX8_come 1 = .ok (.iconst 0, 1) := by decide +kernel
theorem dX8_come_2 : decode cX8_come 2 = .ok (.putfield 28, 3) := by decide +kernel
theorem dX8_come_5 : decode cX8_come 5 = .ok (.iload_n 1, 1) := by decide +kernel
theorem dX8_come_6 : decode cX8_come 6 = .ok (.iconst 0, 1) := by decide +kernel
theorem dX8_come_7 : decode cX8_come 7 = .ok (.sipush 2000, 3) := by decide +kernel
theorem dX8_come_10 : decode cX8_come 10 = .ok (.invokestatic 35, 3) := by decide +kernel
theorem dX8_come_13 : decode cX8_come 13 = .ok (.ifCond .ne 9, 3) := by decide +kernel
theorem dX8_come_16 : decode cX8_come 16 = .ok (.aload_n 0, 1) := by decide +kernel
theorem dX8_come_17 : decode cX8_come 17 = .ok (.iconst 1, 1) := by decide +kernel
theorem dX8_come_18 : decode cX8_come 18 = .ok (.invokevirtual 42, 3) := by decide +kernel
theorem dX8_come_21 : decode cX8_come 21 = .ok (.ireturn, 1) := by decide +kernel
theorem dX8_come_22 : decode cX8_come 22 = .ok (.aload_n 0, 1) := by decide +kernel
theorem dX8_come_23 : decode cX8_come 23 = .ok (.getfield 32, 3) := by decide +kernel
theorem dX8_come_26 : decode cX8_come 26 = .ok (.bipush 10, 2) := by decide +kernel
theorem dX8_come_28 : decode cX8_come 28 = .ok (.if_icmp .ne 9, 3) := by decide +kernel
theorem dX8_come_31 : decode cX8_come 31 = .ok (.aload_n 0, 1) := by decide +kernel
theorem dX8_come_32 : decode cX8_come 32 = .ok (.iconst 2, 1) := by decide +kernel
theorem dX8_come_33 : decode cX8_come 33 = .ok (.invokevirtual 42, 3) := by decide +kernel
theorem dX8_come_36 : decode cX8_come 36 = .ok (.ireturn, 1) := by decide +kernel
theorem dX8_come_37 : decode cX8_come 37 = .ok (.aload_n 0, 1) := by decide +kernel
theorem dX8_come_38 : decode cX8_come 38 = .ok (.getfield 21, 3) := by decide +kernel
theorem dX8_come_41 : decode cX8_come 41 = .ok (.getfield 46, 3) := by decide +kernel
theorem dX8_come_44 : decode cX8_come 44 = .ok (.aload_n 0, 1) := by decide +kernel
theorem dX8_come_45 : decode cX8_come 45 = .ok (.getfield 32, 3) := by decide +kernel
theorem dX8_come_48 : decode cX8_come 48 = .ok (.iload_n 1, 1) := by decide +kernel
theorem dX8_come_49 : decode cX8_come 49 = .ok (.iastore, 1) := by decide +kernel
theorem dX8_come_50 : decode cX8_come 50 = .ok (.aload_n 0, 1) := by decide +kernel
theorem dX8_come_51 : decode cX8_come 51 = .ok (.getfield 21, 3) := by decide +kernel
theorem dX8_come_54 : decode cX8_come 54 = .ok (.getfield 49, 3) := by decide +kernel
theorem dX8_come_57 : decode cX8_come 57 = .ok (.aload_n 0, 1) := by decide +kernel
theorem dX8_come_58 : decode cX8_come 58 = .ok (.getfield 32, 3) := by decide +kernel
theorem dX8_come_61 : decode cX8_come 61 = .ok (.iconst 5, 1) := by decide +kernel
theorem dX8_come_62 : decode cX8_come 62 = .ok (.iastore, 1) := by decide +kernel
theorem dX8_come_63 : decode cX8_come 63 = .ok (.aload_n 0, 1) := by decide +kernel
theorem dX8_come_64 : decode cX8_come 64 = .ok (.dup, 1) := by decide +kernel
theorem dX8_come_65 : decode cX8_come 65 = .ok (.getfield 32, 3) := by decide +kernel
theorem dX8_come_68 : decode cX8_come 68 = .ok (.iconst 1, 1) := by decide +kernel
theorem dX8_come_69 : decode cX8_come 69 = .ok (.iadd, 1) := by decide +kernel
theorem dX8_come_70 : decode cX8_come 70 = .ok (.putfield 32, 3) := by decide +kernel
theorem dX8_come_73 : decode cX8_come 73 = .ok (.aload_n 0, 1) := by decide +kernel
theorem dX8_come_74 : decode cX8_come 74 = .ok (.getfield 32, 3) := by decide +kernel
theorem dX8_come_77 : decode cX8_come 77 = .ok (.iconst 1, 1) := by decide +kernel
theorem dX8_come_78 : decode cX8_come 78 = .ok (.isub, 1) := by decide +kernel
theorem dX8_come_79 : decode cX8_come 79 = .ok (.ireturn, 1) := by decide +kernel
theorem dX8_earn_0 : decode cX8_earn 0 = .ok (.aload_n 0, 1) := by decide +kernel
theorem dX8_earn_1 : decode cX8_earn 1 = .ok (.iconst 0, 1) := by decide +kernel
theorem dX8_earn_2 : decode cX8_earn 2 = .ok (.putfield 28, 3) := by decide +kernel
theorem dX8_earn_5 : decode cX8_earn 5 = .ok (.aload_n 0, 1) := by decide +kernel
theorem dX8_earn_6 : decode cX8_earn 6 = .ok (.iload_n 1, 1) := by decide +kernel
theorem dX8_earn_7 : decode cX8_earn 7 = .ok (.invokevirtual 52, 3) := by decide +kernel
theorem dX8_earn_10 : decode cX8_earn 10 = .ok (.ifCond .ne 9, 3) := by decide +kernel
theorem dX8_earn_13 : decode cX8_earn 13 = .ok (.aload_n 0, 1) := by decide +kernel
theorem dX8_earn_14 : decode cX8_earn 14 = .ok (.iconst 1, 1) := by decide +kernel
theorem dX8_earn_15 : decode cX8_earn 15 = .ok (.invokevirtual 42, 3) := by decide +kernel
theorem dX8_earn_18 : decode cX8_earn 18 = .ok (.ireturn, 1) := by decide +kernel
theorem dX8_earn_19 : decode cX8_earn 19 = .ok (.iload_n 2, 1) := by decide +kernel
theorem dX8_earn_20 : decode cX8_earn 20 = .ok (.iconst 1, 1) := by decide +kernel
theorem dX8_earn_21 : decode cX8_earn 21 = .ok (.sipush 1000, 3) := by decide +kernel
theorem dX8_earn_24 : decode cX8_earn 24 = .ok (.invokestatic 35, 3) := by decide +kernel
theorem dX8_earn_27 : decode cX8_earn 27 = .ok (.ifCond .ne 9, 3) := by decide +kernel
theorem dX8_earn_30 : decode cX8_earn 30 = .ok (.aload_n 0, 1) := by decide +kernel
theorem dX8_earn_31 : decode cX8_earn 31 = .ok (.iconst 2, 1) := by decide +kernel
theorem dX8_earn_32 : decode cX8_earn 32 = .ok (.invokevirtual 42, 3) := by decide +kernel
theorem dX8_earn_35 : decode cX8_earn 35 = .ok (.ireturn, 1) := by decide +kernel
theorem dX8_earn_36 : decode cX8_earn 36 = .ok (.aload_n 0, 1) := by decide +kernel
theorem dX8_earn_37 : decode cX8_earn 37 = .ok (.getfield 21, 3) := by decide +kernel
theorem dX8_earn_40 : decode cX8_earn 40 = .ok (.getfield 46, 3) := by decide +kernel
theorem dX8_earn_43 : decode cX8_earn 43 = .ok (.iload_n 1, 1) := by decide +kernel
theorem dX8_earn_44 : decode cX8_earn 44 = .ok (.dup2, 1) := by decide +kernel
theorem dX8_earn_45 : decode cX8_earn 45 = .ok (.iaload, 1) := by decide +kernel
theorem dX8_earn_46 : decode cX8_earn 46 = .ok (.iload_n 2, 1) := by decide +kernel
theorem dX8_earn_47 : decode cX8_earn 47 = .ok (.iadd, 1) := by decide +kernel
theorem dX8_earn_48 : decode cX8_earn 48 = .ok (.iastore, 1) := by decide +kernel
theorem dX8_earn_49 : decode cX8_earn 49 = .ok (.aload_n 0, 1) := by decide +kernel
theorem dX8_earn_50 : decode cX8_earn 50 = .ok (.getfield 21, 3) := by decide +kernel
theorem dX8_earn_53 : decode cX8_earn 53 = .ok (.getfield 46, 3) := by decide +kernel
theorem dX8_earn_56 : decode cX8_earn 56 = .ok (.iload_n 1, 1) := by decide +kernel
theorem dX8_earn_57 : decode cX8_earn 57 = .ok (.iaload, 1) := by decide +kernel
theorem dX8_earn_58 : decode cX8_earn 58 = .ok (.ireturn, 1) := by decide +kernel
theorem dX8_setBuyer_0 : decode cX8_setBuyer 0 = .ok (.aload_n 0, 1) := by decide +kernel
theorem dX8_setBuyer_1 : decode cX8_setBuyer 1 = .ok (.iconst 0, 1) := by decide +kernel
theorem dX8_setBuyer_2 : decode cX8_setBuyer 2 = .ok (.putfield 28, 3) := by decide +kernel
theorem dX8_setBuyer_5 : decode cX8_setBuyer 5 = .ok (.iload_n 1, 1) := by decide +kernel
theorem dX8_setBuyer_6 : decode cX8_setBuyer 6 = .ok (.iconst 0, 1) := by decide +kernel
theorem dX8_setBuyer_7 : decode cX8_setBuyer 7 = .ok (.bipush 6, 2) := by decide +kernel
theorem dX8_setBuyer_9 : decode cX8_setBuyer 9 = .ok (.invokestatic 35, 3) := by decide +kernel
theorem dX8_setBuyer_12 : decode cX8_setBuyer 12 = .ok (.ifCond .ne 9, 3) := by decide +kernel
theorem dX8_setBuyer_15 : decode cX8_setBuyer 15 = .ok (.aload_n 0, 1) := by decide +kernel
theorem dX8_setBuyer_16 : decode cX8_setBuyer 16 = .ok (.iconst 1, 1) := by decide +kernel
theorem dX8_setBuyer_17 : decode cX8_setBuyer 17 = .ok (.invokevirtual 42, 3) := by decide +kernel
theorem dX8_setBuyer_20 : decode cX8_setBuyer 20 = .ok (.ireturn, 1) := by decide +kernel
theorem dX8_setBuyer_21 : decode cX8_setBuyer 21 = .ok (.iload_n 2, 1) := by decide +kernel
theorem dX8_setBuyer_22 : decode cX8_setBuyer 22 = .ok (.iconst (-1), 1) := by decide +kernel
theorem dX8_setBuyer_23 : decode cX8_setBuyer 23 = .ok (.iconst 4, 1) := by decide +kernel
theorem dX8_setBuyer_24 : decode cX8_setBuyer 24 = .ok (.invokestatic 35, 3) := by decide +kernel
theorem dX8_setBuyer_27 : decode cX8_setBuyer 27 = .ok (.ifCond .eq 14, 3) := by decide +kernel
theorem dX8_setBuyer_30 : decode cX8_setBuyer 30 = .ok (.iload_n 3, 1) := by decide +kernel
theorem dX8_setBuyer_31 : decode cX8_setBuyer 31 = .ok (.iconst 0, 1) := by decide +kernel
theorem dX8_setBuyer_32 : decode cX8_setBuyer 32 = .ok (.sipush 500, 3) := by decide +kernel
theorem dX8_setBuyer_35 : decode cX8_setBuyer 35 = .ok (.invokestatic 35, 3) := by decide +kernel
theorem dX8_setBuyer_38 : decode cX8_setBuyer 38 = .ok (.ifCond .ne 9, 3) := by decide +kernel
theorem dX8_setBuyer_41 : decode cX8_setBuyer 41 = .ok (.aload_n 0, 1) := by decide +kernel
theorem dX8_setBuyer_42 : decode cX8_setBuyer 42 = .ok (.iconst 2, 1) := by decide +kernel
theorem dX8_setBuyer_43 : decode cX8_setBuyer 43 = .ok (.invokevirtual 42, 3) := by decide +kernel
theorem dX8_setBuyer_46 : decode cX8_setBuyer 46 = .ok (.ireturn, 1) := by decide +kernel
theorem dX8_setBuyer_47 : decode cX8_setBuyer 47 = .ok (.aload_n 0, 1) := by decide +kernel
theorem dX8_setBuyer_48 : decode cX8_setBuyer 48 = .ok (.getfield 9, 3) := by decide +kernel
theorem dX8_setBuyer_51 : decode cX8_setBuyer 51 = .ok (.iload_n 1, 1) := by decide +kernel
theorem dX8_setBuyer_52 : decode cX8_setBuyer 52 = .ok (.iaload, 1) := by decide +kernel
theorem dX8_setBuyer_53 : decode cX8_setBuyer 53 = .ok (.istore 4, 2) := by decide +kernel
theorem dX8_setBuyer_55 : decode cX8_setBuyer 55 = .ok (.aload_n 0, 1) := by decide +kernel
theorem dX8_setBuyer_56 : decode cX8_setBuyer 56 = .ok (.getfield 9, 3) := by decide +kernel
theorem dX8_setBuyer_59 : decode cX8_setBuyer 59 = .ok (.iload_n 1, 1) := by decide +kernel
theorem dX8_setBuyer_60 : decode cX8_setBuyer 60 = .ok (.iload_n 2, 1) := by decide +kernel
theorem dX8_setBuyer_61 : decode cX8_setBuyer 61 = .ok (.iastore, 1) := by decide +kernel
theorem dX8_setBuyer_62 : decode cX8_setBuyer 62 = .ok (.aload_n 0, 1) := by decide +kernel
theorem dX8_setBuyer_63 : decode cX8_setBuyer 63 = .ok (.getfield 13, 3) := by decide +kernel
theorem dX8_setBuyer_66 : decode cX8_setBuyer 66 = .ok (.iload_n 1, 1) := by decide +kernel
theorem dX8_setBuyer_67 : decode cX8_setBuyer 67 = .ok (.iload_n 2, 1) := by decide +kernel
theorem dX8_setBuyer_68 : decode cX8_setBuyer 68 = .ok (.iconst (-1), 1) := by decide +kernel
theorem dX8_setBuyer_69 : decode cX8_setBuyer 69 = .ok (.if_icmp .ne 7, 3) := by decide +kernel
theorem dX8_setBuyer_72 : decode cX8_setBuyer 72 = .ok (.iconst 0, 1) := by decide +kernel
theorem dX8_setBuyer_73 : decode cX8_setBuyer 73 = .ok (.goto 4, 3) := by decide +kernel
theorem dX8_setBuyer_76 : decode cX8_setBuyer 76 = .ok (.iload_n 3, 1) := by decide +kernel
theorem dX8_setBuyer_77 : decode cX8_setBuyer 77 = .ok (.iastore, 1) := by decide +kernel
theorem dX8_setBuyer_78 : decode cX8_setBuyer 78 = .ok (.iload 4, 2) := by decide +kernel
theorem dX8_setBuyer_80 : decode cX8_setBuyer 80 = .ok (.ireturn, 1) := by decide +kernel
theorem dX8_customerTold_0 : decode cX8_customerTold 0 = .ok (.iload_n 2, 1) := by decide +kernel
theorem dX8_customerTold_1 : decode cX8_customerTold 1 = .ok (.iconst 2, 1) := by decide +kernel
theorem dX8_customerTold_2 : decode cX8_customerTold 2 = .ok (.if_icmp .ge 29, 3) := by decide +kernel
theorem dX8_customerTold_5 : decode cX8_customerTold 5 = .ok (.iload_n 2, 1) := by decide +kernel
theorem dX8_customerTold_6 : decode cX8_customerTold 6 = .ok (.ifCond .ne 15, 3) := by decide +kernel
theorem dX8_customerTold_9 : decode cX8_customerTold 9 = .ok (.aload_n 0, 1) := by decide +kernel
theorem dX8_customerTold_10 : decode cX8_customerTold 10 = .ok (.getfield 21, 3) := by decide +kernel
theorem dX8_customerTold_13 : decode cX8_customerTold 13 = .ok (.getfield 46, 3) := by decide +kernel
theorem dX8_customerTold_16 : decode cX8_customerTold 16 = .ok (.iload_n 1, 1) := by decide +kernel
theorem dX8_customerTold_17 : decode cX8_customerTold 17 = .ok (.iaload, 1) := by decide +kernel
theorem dX8_customerTold_18 : decode cX8_customerTold 18 = .ok (.goto 12, 3) := by decide +kernel
theorem dX8_customerTold_21 : decode cX8_customerTold 21 = .ok (.aload_n 0, 1) := by decide +kernel
theorem dX8_customerTold_22 : decode cX8_customerTold 22 = .ok (.getfield 21, 3) := by decide +kernel
theorem dX8_customerTold_25 : decode cX8_customerTold 25 = .ok (.getfield 49, 3) := by decide +kernel
theorem dX8_customerTold_28 : decode cX8_customerTold 28 = .ok (.iload_n 1, 1) := by decide +kernel
theorem dX8_customerTold_29 : decode cX8_customerTold 29 = .ok (.iaload, 1) := by decide +kernel
theorem dX8_customerTold_30 : decode cX8_customerTold 30 = .ok (.ireturn, 1) := by decide +kernel
theorem dX8_customerTold_31 : decode cX8_customerTold 31 = .ok (.iconst 0, 1) := by decide +kernel
theorem dX8_customerTold_32 : decode cX8_customerTold 32 = .ok (.istore_n 3, 1) := by decide +kernel
theorem dX8_customerTold_33 : decode cX8_customerTold 33 = .ok (.iconst 0, 1) := by decide +kernel
theorem dX8_customerTold_34 : decode cX8_customerTold 34 = .ok (.istore 4, 2) := by decide +kernel
theorem dX8_customerTold_36 : decode cX8_customerTold 36 = .ok (.iload 4, 2) := by decide +kernel
theorem dX8_customerTold_38 : decode cX8_customerTold 38 = .ok (.aload_n 0, 1) := by decide +kernel
theorem dX8_customerTold_39 : decode cX8_customerTold 39 = .ok (.getfield 21, 3) := by decide +kernel
theorem dX8_customerTold_42 : decode cX8_customerTold 42 = .ok (.getfield 39, 3) := by decide +kernel
theorem dX8_customerTold_45 : decode cX8_customerTold 45 = .ok (.if_icmp .ge 71, 3) := by decide +kernel
theorem dX8_customerTold_48 : decode cX8_customerTold 48 = .ok (.aload_n 0, 1) := by decide +kernel
theorem dX8_customerTold_49 : decode cX8_customerTold 49 = .ok (.getfield 21, 3) := by decide +kernel
theorem dX8_customerTold_52 : decode cX8_customerTold 52 = .ok (.iload 4, 2) := by decide +kernel
theorem dX8_customerTold_54 : decode cX8_customerTold 54 = .ok (.iconst 0, 1) := by decide +kernel
theorem dX8_customerTold_55 : decode cX8_customerTold 55 = .ok (.invokevirtual 56, 3) := by decide +kernel
theorem dX8_customerTold_58 : decode cX8_customerTold 58 = .ok (.iload_n 1, 1) := by decide +kernel
theorem dX8_customerTold_59 : decode cX8_customerTold 59 = .ok (.if_icmp .ne 51, 3) := by decide +kernel
theorem dX8_customerTold_62 : decode cX8_customerTold 62 = .ok (.aload_n 0, 1) := by decide +kernel
theorem dX8_customerTold_63 : decode cX8_customerTold 63 = .ok (.getfield 21, 3) := by decide +kernel
theorem dX8_customerTold_66 : decode cX8_customerTold 66 = .ok (.iload 4, 2) := by decide +kernel
theorem dX8_customerTold_68 : decode cX8_customerTold 68 = .ok (.bipush 6, 2) := by decide +kernel
theorem dX8_customerTold_70 : decode cX8_customerTold 70 = .ok (.invokevirtual 56, 3) := by decide +kernel
theorem dX8_customerTold_73 : decode cX8_customerTold 73 = .ok (.iload_n 2, 1) := by decide +kernel
theorem dX8_customerTold_74 : decode cX8_customerTold 74 = .ok (.iconst 4, 1) := by decide +kernel
theorem dX8_customerTold_75 : decode cX8_customerTold 75 = .ok (.if_icmp .ne 7, 3) := by decide +kernel
theorem dX8_customerTold_78 : decode cX8_customerTold 78 = .ok (.iconst 1, 1) := by decide +kernel
theorem dX8_customerTold_79 : decode cX8_customerTold 79 = .ok (.goto 4, 3) := by decide +kernel
theorem dX8_customerTold_82 : decode cX8_customerTold 82 = .ok (.iconst 0, 1) := by decide +kernel
theorem dX8_customerTold_83 : decode cX8_customerTold 83 = .ok (.if_icmp .eq 6, 3) := by decide +kernel
theorem dX8_customerTold_86 : decode cX8_customerTold 86 = .ok (.goto 24, 3) := by decide +kernel
theorem dX8_customerTold_89 : decode cX8_customerTold 89 = .ok (.iload_n 3, 1) := by decide +kernel
theorem dX8_customerTold_90 : decode cX8_customerTold 90 = .ok (.iload_n 2, 1) := by decide +kernel
theorem dX8_customerTold_91 : decode cX8_customerTold 91 = .ok (.iconst 3, 1) := by decide +kernel
theorem dX8_customerTold_92 : decode cX8_customerTold 92 = .ok (.if_icmp .ne 15, 3) := by decide +kernel
theorem dX8_customerTold_95 : decode cX8_customerTold 95 = .ok (.aload_n 0, 1) := by decide +kernel
theorem dX8_customerTold_96 : decode cX8_customerTold 96 = .ok (.getfield 21, 3) := by decide +kernel
theorem dX8_customerTold_99 : decode cX8_customerTold 99 = .ok (.iload 4, 2) := by decide +kernel
theorem dX8_customerTold_101 : decode cX8_customerTold 101 = .ok (.invokevirtual 60, 3) := by decide +kernel
theorem dX8_customerTold_104 : decode cX8_customerTold 104 = .ok (.goto 4, 3) := by decide +kernel
theorem dX8_customerTold_107 : decode cX8_customerTold 107 = .ok (.iconst 1, 1) := by decide +kernel
theorem dX8_customerTold_108 : decode cX8_customerTold 108 = .ok (.iadd, 1) := by decide +kernel
theorem dX8_customerTold_109 : decode cX8_customerTold 109 = .ok (.istore_n 3, 1) := by decide +kernel
theorem dX8_customerTold_110 : decode cX8_customerTold 110 = .ok (.iinc 4 1, 3) := by decide +kernel
theorem dX8_customerTold_113 : decode cX8_customerTold 113 = .ok (.goto (-77), 3) := by decide +kernel
theorem dX8_customerTold_116 : decode cX8_customerTold 116 = .ok (.iload_n 3, 1) := by decide +kernel
theorem dX8_customerTold_117 : decode cX8_customerTold 117 = .ok (.ireturn, 1) := by decide +kernel
theorem dX8_customer_0 : decode cX8_customer 0 = .ok (.aload_n 0, 1) := by decide +kernel
theorem dX8_customer_1 : decode cX8_customer 1 = .ok (.iconst 0, 1) := by decide +kernel
theorem dX8_customer_2 : decode cX8_customer 2 = .ok (.putfield 28, 3) := by decide +kernel
theorem dX8_customer_5 : decode cX8_customer 5 = .ok (.aload_n 0, 1) := by decide +kernel
theorem dX8_customer_6 : decode cX8_customer 6 = .ok (.iload_n 1, 1) := by decide +kernel
theorem dX8_customer_7 : decode cX8_customer 7 = .ok (.invokevirtual 52, 3) := by decide +kernel
theorem dX8_customer_10 : decode cX8_customer 10 = .ok (.ifCond .eq 21, 3) := by decide +kernel
theorem dX8_customer_13 : decode cX8_customer 13 = .ok (.iload_n 2, 1) := by decide +kernel
theorem dX8_customer_14 : decode cX8_customer 14 = .ok (.iconst 0, 1) := by decide +kernel
theorem dX8_customer_15 : decode cX8_customer 15 = .ok (.iconst 4, 1) := by decide +kernel
theorem dX8_customer_16 : decode cX8_customer 16 = .ok (.invokestatic 35, 3) := by decide +kernel
theorem dX8_customer_19 : decode cX8_customer 19 = .ok (.ifCond .eq 12, 3) := by decide +kernel
theorem dX8_customer_22 : decode cX8_customer 22 = .ok (.aload_n 0, 1) := by decide +kernel
theorem dX8_customer_23 : decode cX8_customer 23 = .ok (.iload_n 1, 1) := by decide +kernel
theorem dX8_customer_24 : decode cX8_customer 24 = .ok (.iload_n 2, 1) := by decide +kernel
theorem dX8_customer_25 : decode cX8_customer 25 = .ok (.invokevirtual 63, 3) := by decide +kernel
theorem dX8_customer_28 : decode cX8_customer 28 = .ok (.goto 8, 3) := by decide +kernel
theorem dX8_customer_31 : decode cX8_customer 31 = .ok (.aload_n 0, 1) := by decide +kernel
theorem dX8_customer_32 : decode cX8_customer 32 = .ok (.iconst 1, 1) := by decide +kernel
theorem dX8_customer_33 : decode cX8_customer 33 = .ok (.invokevirtual 42, 3) := by decide +kernel
theorem dX8_customer_36 : decode cX8_customer 36 = .ok (.ireturn, 1) := by decide +kernel
theorem dX8_pledge_0 : decode cX8_pledge 0 = .ok (.aload_n 0, 1) := by decide +kernel
theorem dX8_pledge_1 : decode cX8_pledge 1 = .ok (.iconst 0, 1) := by decide +kernel
theorem dX8_pledge_2 : decode cX8_pledge 2 = .ok (.putfield 28, 3) := by decide +kernel
theorem dX8_pledge_5 : decode cX8_pledge 5 = .ok (.aload_n 0, 1) := by decide +kernel
theorem dX8_pledge_6 : decode cX8_pledge 6 = .ok (.iload_n 1, 1) := by decide +kernel
theorem dX8_pledge_7 : decode cX8_pledge 7 = .ok (.invokevirtual 52, 3) := by decide +kernel
theorem dX8_pledge_10 : decode cX8_pledge 10 = .ok (.ifCond .ne 9, 3) := by decide +kernel
theorem dX8_pledge_13 : decode cX8_pledge 13 = .ok (.aload_n 0, 1) := by decide +kernel
theorem dX8_pledge_14 : decode cX8_pledge 14 = .ok (.iconst 1, 1) := by decide +kernel
theorem dX8_pledge_15 : decode cX8_pledge 15 = .ok (.invokevirtual 42, 3) := by decide +kernel
theorem dX8_pledge_18 : decode cX8_pledge 18 = .ok (.ireturn, 1) := by decide +kernel
theorem dX8_pledge_19 : decode cX8_pledge 19 = .ok (.iload_n 2, 1) := by decide +kernel
theorem dX8_pledge_20 : decode cX8_pledge 20 = .ok (.iconst 0, 1) := by decide +kernel
theorem dX8_pledge_21 : decode cX8_pledge 21 = .ok (.iconst 4, 1) := by decide +kernel
theorem dX8_pledge_22 : decode cX8_pledge 22 = .ok (.invokestatic 35, 3) := by decide +kernel
theorem dX8_pledge_25 : decode cX8_pledge 25 = .ok (.ifCond .eq 25, 3) := by decide +kernel
theorem dX8_pledge_28 : decode cX8_pledge 28 = .ok (.iload_n 3, 1) := by decide +kernel
theorem dX8_pledge_29 : decode cX8_pledge 29 = .ok (.iconst 1, 1) := by decide +kernel
theorem dX8_pledge_30 : decode cX8_pledge 30 = .ok (.sipush 500, 3) := by decide +kernel
theorem dX8_pledge_33 : decode cX8_pledge 33 = .ok (.invokestatic 35, 3) := by decide +kernel
theorem dX8_pledge_36 : decode cX8_pledge 36 = .ok (.ifCond .eq 14, 3) := by decide +kernel
theorem dX8_pledge_39 : decode cX8_pledge 39 = .ok (.iload 4, 2) := by decide +kernel
theorem dX8_pledge_41 : decode cX8_pledge 41 = .ok (.iconst 1, 1) := by decide +kernel
theorem dX8_pledge_42 : decode cX8_pledge 42 = .ok (.bipush 10, 2) := by decide +kernel
theorem dX8_pledge_44 : decode cX8_pledge 44 = .ok (.invokestatic 35, 3) := by decide +kernel
theorem dX8_pledge_47 : decode cX8_pledge 47 = .ok (.ifCond .ne 9, 3) := by decide +kernel
theorem dX8_pledge_50 : decode cX8_pledge 50 = .ok (.aload_n 0, 1) := by decide +kernel
theorem dX8_pledge_51 : decode cX8_pledge 51 = .ok (.iconst 2, 1) := by decide +kernel
theorem dX8_pledge_52 : decode cX8_pledge 52 = .ok (.invokevirtual 42, 3) := by decide +kernel
theorem dX8_pledge_55 : decode cX8_pledge 55 = .ok (.ireturn, 1) := by decide +kernel
theorem dX8_pledge_56 : decode cX8_pledge 56 = .ok (.iconst 1, 1) := by decide +kernel
theorem dX8_pledge_57 : decode cX8_pledge 57 = .ok (.iload_n 3, 1) := by decide +kernel
theorem dX8_pledge_58 : decode cX8_pledge 58 = .ok (.bipush 40, 2) := by decide +kernel
theorem dX8_pledge_60 : decode cX8_pledge 60 = .ok (.iconst 4, 1) := by decide +kernel
theorem dX8_pledge_61 : decode cX8_pledge 61 = .ok (.aload_n 0, 1) := by decide +kernel
theorem dX8_pledge_62 : decode cX8_pledge 62 = .ok (.getfield 21, 3) := by decide +kernel
theorem dX8_pledge_65 : decode cX8_pledge 65 = .ok (.getfield 49, 3) := by decide +kernel
theorem dX8_pledge_68 : decode cX8_pledge 68 = .ok (.iload_n 1, 1) := by decide +kernel
theorem dX8_pledge_69 : decode cX8_pledge 69 = .ok (.iaload, 1) := by decide +kernel
theorem dX8_pledge_70 : decode cX8_pledge 70 = .ok (.imul, 1) := by decide +kernel
theorem dX8_pledge_71 : decode cX8_pledge 71 = .ok (.iadd, 1) := by decide +kernel
theorem dX8_pledge_72 : decode cX8_pledge 72 = .ok (.imul, 1) := by decide +kernel
theorem dX8_pledge_73 : decode cX8_pledge 73 = .ok (.bipush 100, 2) := by decide +kernel
theorem dX8_pledge_75 : decode cX8_pledge 75 = .ok (.idiv, 1) := by decide +kernel
theorem dX8_pledge_76 : decode cX8_pledge 76 = .ok (.invokestatic 66, 3) := by decide +kernel
theorem dX8_pledge_79 : decode cX8_pledge 79 = .ok (.istore 5, 2) := by decide +kernel
theorem dX8_pledge_81 : decode cX8_pledge 81 = .ok (.aload_n 0, 1) := by decide +kernel
theorem dX8_pledge_82 : decode cX8_pledge 82 = .ok (.getfield 21, 3) := by decide +kernel
theorem dX8_pledge_85 : decode cX8_pledge 85 = .ok (.iload 4, 2) := by decide +kernel
theorem dX8_pledge_87 : decode cX8_pledge 87 = .ok (.invokevirtual 71, 3) := by decide +kernel
theorem dX8_pledge_90 : decode cX8_pledge 90 = .ok (.istore 6, 2) := by decide +kernel
theorem dX8_pledge_92 : decode cX8_pledge 92 = .ok (.aload_n 0, 1) := by decide +kernel
theorem dX8_pledge_93 : decode cX8_pledge 93 = .ok (.getfield 21, 3) := by decide +kernel
theorem dX8_pledge_96 : decode cX8_pledge 96 = .ok (.getfield 39, 3) := by decide +kernel
theorem dX8_pledge_99 : decode cX8_pledge 99 = .ok (.bipush 40, 2) := by decide +kernel
theorem dX8_pledge_101 : decode cX8_pledge 101 = .ok (.if_icmp .eq 21, 3) := by decide +kernel
theorem dX8_pledge_104 : decode cX8_pledge 104 = .ok (.iload 5, 2) := by decide +kernel
theorem dX8_pledge_106 : decode cX8_pledge 106 = .ok (.aload_n 0, 1) := by decide +kernel
theorem dX8_pledge_107 : decode cX8_pledge 107 = .ok (.getfield 21, 3) := by decide +kernel
theorem dX8_pledge_110 : decode cX8_pledge 110 = .ok (.getfield 74, 3) := by decide +kernel
theorem dX8_pledge_113 : decode cX8_pledge 113 = .ok (.if_icmp .gt 9, 3) := by decide +kernel
theorem dX8_pledge_116 : decode cX8_pledge 116 = .ok (.iload 6, 2) := by decide +kernel
theorem dX8_pledge_118 : decode cX8_pledge 118 = .ok (.iconst (-1), 1) := by decide +kernel
theorem dX8_pledge_119 : decode cX8_pledge 119 = .ok (.if_icmp .ne 9, 3) := by decide +kernel
theorem dX8_pledge_122 : decode cX8_pledge 122 = .ok (.aload_n 0, 1) := by decide +kernel
theorem dX8_pledge_123 : decode cX8_pledge 123 = .ok (.iconst 3, 1) := by decide +kernel
theorem dX8_pledge_124 : decode cX8_pledge 124 = .ok (.invokevirtual 42, 3) := by decide +kernel
theorem dX8_pledge_127 : decode cX8_pledge 127 = .ok (.ireturn, 1) := by decide +kernel
theorem dX8_pledge_128 : decode cX8_pledge 128 = .ok (.bipush 11, 2) := by decide +kernel
theorem dX8_pledge_130 : decode cX8_pledge 130 = .ok (.newarray .int, 2) := by decide +kernel
theorem dX8_pledge_132 : decode cX8_pledge 132 = .ok (.dup, 1) := by decide +kernel
theorem dX8_pledge_133 : decode cX8_pledge 133 = .ok (.iconst 0, 1) := by decide +kernel
theorem dX8_pledge_134 : decode cX8_pledge 134 = .ok (.iload_n 1, 1) := by decide +kernel
theorem dX8_pledge_135 : decode cX8_pledge 135 = .ok (.iastore, 1) := by decide +kernel
theorem dX8_pledge_136 : decode cX8_pledge 136 = .ok (.dup, 1) := by decide +kernel
theorem dX8_pledge_137 : decode cX8_pledge 137 = .ok (.iconst 1, 1) := by decide +kernel
theorem dX8_pledge_138 : decode cX8_pledge 138 = .ok (.iload_n 2, 1) := by decide +kernel
theorem dX8_pledge_139 : decode cX8_pledge 139 = .ok (.iastore, 1) := by decide +kernel
theorem dX8_pledge_140 : decode cX8_pledge 140 = .ok (.dup, 1) := by decide +kernel
theorem dX8_pledge_141 : decode cX8_pledge 141 = .ok (.iconst 2, 1) := by decide +kernel
theorem dX8_pledge_142 : decode cX8_pledge 142 = .ok (.iload_n 3, 1) := by decide +kernel
theorem dX8_pledge_143 : decode cX8_pledge 143 = .ok (.iastore, 1) := by decide +kernel
theorem dX8_pledge_144 : decode cX8_pledge 144 = .ok (.dup, 1) := by decide +kernel
theorem dX8_pledge_145 : decode cX8_pledge 145 = .ok (.iconst 3, 1) := by decide +kernel
theorem dX8_pledge_146 : decode cX8_pledge 146 = .ok (.iload 4, 2) := by decide +kernel
theorem dX8_pledge_148 : decode cX8_pledge 148 = .ok (.iastore, 1) := by decide +kernel
theorem dX8_pledge_149 : decode cX8_pledge 149 = .ok (.dup, 1) := by decide +kernel
theorem dX8_pledge_150 : decode cX8_pledge 150 = .ok (.iconst 4, 1) := by decide +kernel
theorem dX8_pledge_151 : decode cX8_pledge 151 = .ok (.iload 5, 2) := by decide +kernel
theorem dX8_pledge_153 : decode cX8_pledge 153 = .ok (.iastore, 1) := by decide +kernel
theorem dX8_pledge_154 : decode cX8_pledge 154 = .ok (.dup, 1) := by decide +kernel
theorem dX8_pledge_155 : decode cX8_pledge 155 = .ok (.iconst 5, 1) := by decide +kernel
theorem dX8_pledge_156 : decode cX8_pledge 156 = .ok (.aload_n 0, 1) := by decide +kernel
theorem dX8_pledge_157 : decode cX8_pledge 157 = .ok (.getfield 21, 3) := by decide +kernel
theorem dX8_pledge_160 : decode cX8_pledge 160 = .ok (.getfield 77, 3) := by decide +kernel
theorem dX8_pledge_163 : decode cX8_pledge 163 = .ok (.bipush 60, 2) := by decide +kernel
theorem dX8_pledge_165 : decode cX8_pledge 165 = .ok (.iadd, 1) := by decide +kernel
theorem dX8_pledge_166 : decode cX8_pledge 166 = .ok (.iastore, 1) := by decide +kernel
theorem dX8_pledge_167 : decode cX8_pledge 167 = .ok (.dup, 1) := by decide +kernel
theorem dX8_pledge_168 : decode cX8_pledge 168 = .ok (.bipush 6, 2) := by decide +kernel
theorem dX8_pledge_170 : decode cX8_pledge 170 = .ok (.iconst 0, 1) := by decide +kernel
theorem dX8_pledge_171 : decode cX8_pledge 171 = .ok (.iastore, 1) := by decide +kernel
theorem dX8_pledge_172 : decode cX8_pledge 172 = .ok (.dup, 1) := by decide +kernel
theorem dX8_pledge_173 : decode cX8_pledge 173 = .ok (.bipush 7, 2) := by decide +kernel
theorem dX8_pledge_175 : decode cX8_pledge 175 = .ok (.iload 6, 2) := by decide +kernel
theorem dX8_pledge_177 : decode cX8_pledge 177 = .ok (.iastore, 1) := by decide +kernel
theorem dX8_pledge_178 : decode cX8_pledge 178 = .ok (.dup, 1) := by decide +kernel
theorem dX8_pledge_179 : decode cX8_pledge 179 = .ok (.bipush 8, 2) := by decide +kernel
theorem dX8_pledge_181 : decode cX8_pledge 181 = .ok (.iconst 0, 1) := by decide +kernel
theorem dX8_pledge_182 : decode cX8_pledge 182 = .ok (.iastore, 1) := by decide +kernel
theorem dX8_pledge_183 : decode cX8_pledge 183 = .ok (.dup, 1) := by decide +kernel
theorem dX8_pledge_184 : decode cX8_pledge 184 = .ok (.bipush 9, 2) := by decide +kernel
theorem dX8_pledge_186 : decode cX8_pledge 186 = .ok (.iconst 0, 1) := by decide +kernel
theorem dX8_pledge_187 : decode cX8_pledge 187 = .ok (.iastore, 1) := by decide +kernel
theorem dX8_pledge_188 : decode cX8_pledge 188 = .ok (.dup, 1) := by decide +kernel
theorem dX8_pledge_189 : decode cX8_pledge 189 = .ok (.bipush 10, 2) := by decide +kernel
theorem dX8_pledge_191 : decode cX8_pledge 191 = .ok (.aload_n 0, 1) := by decide +kernel
theorem dX8_pledge_192 : decode cX8_pledge 192 = .ok (.getfield 21, 3) := by decide +kernel
theorem dX8_pledge_195 : decode cX8_pledge 195 = .ok (.getfield 77, 3) := by decide +kernel
theorem dX8_pledge_198 : decode cX8_pledge 198 = .ok (.iastore, 1) := by decide +kernel
theorem dX8_pledge_199 : decode cX8_pledge 199 = .ok (.astore 7, 2) := by decide +kernel
theorem dX8_pledge_201 : decode cX8_pledge 201 = .ok (.aload 7, 2) := by decide +kernel
theorem dX8_pledge_203 : decode cX8_pledge 203 = .ok (.iconst 0, 1) := by decide +kernel
theorem dX8_pledge_204 : decode cX8_pledge 204 = .ok (.aload_n 0, 1) := by decide +kernel
theorem dX8_pledge_205 : decode cX8_pledge 205 = .ok (.getfield 21, 3) := by decide +kernel
theorem dX8_pledge_208 : decode cX8_pledge 208 = .ok (.getfield 80, 3) := by decide +kernel
theorem dX8_pledge_211 : decode cX8_pledge 211 = .ok (.bipush 11, 2) := by decide +kernel
theorem dX8_pledge_213 : decode cX8_pledge 213 = .ok (.aload_n 0, 1) := by decide +kernel
theorem dX8_pledge_214 : decode cX8_pledge 214 = .ok (.getfield 21, 3) := by decide +kernel
theorem dX8_pledge_217 : decode cX8_pledge 217 = .ok (.getfield 39, 3) := by decide +kernel
theorem dX8_pledge_220 : decode cX8_pledge 220 = .ok (.imul, 1) := by decide +kernel
theorem dX8_pledge_221 : decode cX8_pledge 221 = .ok (.bipush 11, 2) := by decide +kernel
theorem dX8_pledge_223 : decode cX8_pledge 223 = .ok (.invokestatic 83, 3) := by decide +kernel
theorem dX8_pledge_226 : decode cX8_pledge 226 = .ok (.aload_n 0, 1) := by decide +kernel
theorem dX8_pledge_227 : decode cX8_pledge 227 = .ok (.getfield 21, 3) := by decide +kernel
theorem dX8_pledge_230 : decode cX8_pledge 230 = .ok (.aload_n 0, 1) := by decide +kernel
theorem dX8_pledge_231 : decode cX8_pledge 231 = .ok (.getfield 21, 3) := by decide +kernel
theorem dX8_pledge_234 : decode cX8_pledge 234 = .ok (.getfield 39, 3) := by decide +kernel
theorem dX8_pledge_237 : decode cX8_pledge 237 = .ok (.iload 6, 2) := by decide +kernel
theorem dX8_pledge_239 : decode cX8_pledge 239 = .ok (.invokevirtual 89, 3) := by decide +kernel
theorem dX8_pledge_242 : decode cX8_pledge 242 = .ok (.aload_n 0, 1) := by decide +kernel
theorem dX8_pledge_243 : decode cX8_pledge 243 = .ok (.getfield 21, 3) := by decide +kernel
theorem dX8_pledge_246 : decode cX8_pledge 246 = .ok (.dup, 1) := by decide +kernel
theorem dX8_pledge_247 : decode cX8_pledge 247 = .ok (.getfield 74, 3) := by decide +kernel
theorem dX8_pledge_250 : decode cX8_pledge 250 = .ok (.iload 5, 2) := by decide +kernel
theorem dX8_pledge_252 : decode cX8_pledge 252 = .ok (.isub, 1) := by decide +kernel
theorem dX8_pledge_253 : decode cX8_pledge 253 = .ok (.putfield 74, 3) := by decide +kernel
theorem dX8_pledge_256 : decode cX8_pledge 256 = .ok (.aload_n 0, 1) := by decide +kernel
theorem dX8_pledge_257 : decode cX8_pledge 257 = .ok (.getfield 21, 3) := by decide +kernel
theorem dX8_pledge_260 : decode cX8_pledge 260 = .ok (.getfield 46, 3) := by decide +kernel
theorem dX8_pledge_263 : decode cX8_pledge 263 = .ok (.iload_n 1, 1) := by decide +kernel
theorem dX8_pledge_264 : decode cX8_pledge 264 = .ok (.dup2, 1) := by decide +kernel
theorem dX8_pledge_265 : decode cX8_pledge 265 = .ok (.iaload, 1) := by decide +kernel
theorem dX8_pledge_266 : decode cX8_pledge 266 = .ok (.iload 5, 2) := by decide +kernel
theorem dX8_pledge_268 : decode cX8_pledge 268 = .ok (.iadd, 1) := by decide +kernel
theorem dX8_pledge_269 : decode cX8_pledge 269 = .ok (.iastore, 1) := by decide +kernel
theorem dX8_pledge_270 : decode cX8_pledge 270 = .ok (.aload_n 0, 1) := by decide +kernel
theorem dX8_pledge_271 : decode cX8_pledge 271 = .ok (.getfield 21, 3) := by decide +kernel
theorem dX8_pledge_274 : decode cX8_pledge 274 = .ok (.dup, 1) := by decide +kernel
theorem dX8_pledge_275 : decode cX8_pledge 275 = .ok (.getfield 39, 3) := by decide +kernel
theorem dX8_pledge_278 : decode cX8_pledge 278 = .ok (.iconst 1, 1) := by decide +kernel
theorem dX8_pledge_279 : decode cX8_pledge 279 = .ok (.iadd, 1) := by decide +kernel
theorem dX8_pledge_280 : decode cX8_pledge 280 = .ok (.putfield 39, 3) := by decide +kernel
theorem dX8_pledge_283 : decode cX8_pledge 283 = .ok (.aload_n 0, 1) := by decide +kernel
theorem dX8_pledge_284 : decode cX8_pledge 284 = .ok (.getfield 21, 3) := by decide +kernel
theorem dX8_pledge_287 : decode cX8_pledge 287 = .ok (.getfield 39, 3) := by decide +kernel
theorem dX8_pledge_290 : decode cX8_pledge 290 = .ok (.iconst 1, 1) := by decide +kernel
theorem dX8_pledge_291 : decode cX8_pledge 291 = .ok (.isub, 1) := by decide +kernel
theorem dX8_pledge_292 : decode cX8_pledge 292 = .ok (.ireturn, 1) := by decide +kernel
theorem dX8_shelfOf_0 : decode cX8_shelfOf 0 = .ok (.iload_n 0, 1) := by decide +kernel
theorem dX8_shelfOf_1 : decode cX8_shelfOf 1 = .ok (.getstatic 93, 3) := by decide +kernel
theorem dX8_shelfOf_4 : decode cX8_shelfOf 4 = .ok (.iconst 1, 1) := by decide +kernel
theorem dX8_shelfOf_5 : decode cX8_shelfOf 5 = .ok (.iaload, 1) := by decide +kernel
theorem dX8_shelfOf_6 : decode cX8_shelfOf 6 = .ok (.if_icmp .ge 7, 3) := by decide +kernel
theorem dX8_shelfOf_9 : decode cX8_shelfOf 9 = .ok (.iconst 0, 1) := by decide +kernel
theorem dX8_shelfOf_10 : decode cX8_shelfOf 10 = .ok (.goto 17, 3) := by decide +kernel
theorem dX8_shelfOf_13 : decode cX8_shelfOf 13 = .ok (.iload_n 0, 1) := by decide +kernel
theorem dX8_shelfOf_14 : decode cX8_shelfOf 14 = .ok (.getstatic 93, 3) := by decide +kernel
theorem dX8_shelfOf_17 : decode cX8_shelfOf 17 = .ok (.iconst 2, 1) := by decide +kernel
theorem dX8_shelfOf_18 : decode cX8_shelfOf 18 = .ok (.iaload, 1) := by decide +kernel
theorem dX8_shelfOf_19 : decode cX8_shelfOf 19 = .ok (.if_icmp .ge 7, 3) := by decide +kernel
theorem dX8_shelfOf_22 : decode cX8_shelfOf 22 = .ok (.iconst 1, 1) := by decide +kernel
theorem dX8_shelfOf_23 : decode cX8_shelfOf 23 = .ok (.goto 4, 3) := by decide +kernel
theorem dX8_shelfOf_26 : decode cX8_shelfOf 26 = .ok (.iconst 2, 1) := by decide +kernel
theorem dX8_shelfOf_27 : decode cX8_shelfOf 27 = .ok (.ireturn, 1) := by decide +kernel
theorem dX8_ticketTold_0 : decode cX8_ticketTold 0 = .ok (.aload_n 0, 1) := by decide +kernel
theorem dX8_ticketTold_1 : decode cX8_ticketTold 1 = .ok (.getfield 21, 3) := by decide +kernel
theorem dX8_ticketTold_4 : decode cX8_ticketTold 4 = .ok (.iload_n 1, 1) := by decide +kernel
theorem dX8_ticketTold_5 : decode cX8_ticketTold 5 = .ok (.bipush 7, 2) := by decide +kernel
theorem dX8_ticketTold_7 : decode cX8_ticketTold 7 = .ok (.invokevirtual 56, 3) := by decide +kernel
theorem dX8_ticketTold_10 : decode cX8_ticketTold 10 = .ok (.istore_n 3, 1) := by decide +kernel
theorem dX8_ticketTold_11 : decode cX8_ticketTold 11 = .ok (.iload_n 2, 1) := by decide +kernel
theorem dX8_ticketTold_12 : decode cX8_ticketTold 12 = .ok (.tableswitch 88 7 10 #[32, 46, 66, 77], 32) := by decide +kernel
theorem dX8_ticketTold_44 : decode cX8_ticketTold 44 = .ok (.iload_n 3, 1) := by decide +kernel
theorem dX8_ticketTold_45 : decode cX8_ticketTold 45 = .ok (.iconst (-1), 1) := by decide +kernel
theorem dX8_ticketTold_46 : decode cX8_ticketTold 46 = .ok (.if_icmp .ne 7, 3) := by decide +kernel
theorem dX8_ticketTold_49 : decode cX8_ticketTold 49 = .ok (.iconst (-1), 1) := by decide +kernel
theorem dX8_ticketTold_50 : decode cX8_ticketTold 50 = .ok (.goto 7, 3) := by decide +kernel
theorem dX8_ticketTold_53 : decode cX8_ticketTold 53 = .ok (.iload_n 3, 1) := by decide +kernel
theorem dX8_ticketTold_54 : decode cX8_ticketTold 54 = .ok (.invokestatic 96, 3) := by decide +kernel
theorem dX8_ticketTold_57 : decode cX8_ticketTold 57 = .ok (.ireturn, 1) := by decide +kernel
theorem dX8_ticketTold_58 : decode cX8_ticketTold 58 = .ok (.iload_n 3, 1) := by decide +kernel
theorem dX8_ticketTold_59 : decode cX8_ticketTold 59 = .ok (.iconst (-1), 1) := by decide +kernel
theorem dX8_ticketTold_60 : decode cX8_ticketTold 60 = .ok (.if_icmp .ne 7, 3) := by decide +kernel
theorem dX8_ticketTold_63 : decode cX8_ticketTold 63 = .ok (.iconst (-1), 1) := by decide +kernel
theorem dX8_ticketTold_64 : decode cX8_ticketTold 64 = .ok (.goto 13, 3) := by decide +kernel
theorem dX8_ticketTold_67 : decode cX8_ticketTold 67 = .ok (.iload_n 3, 1) := by decide +kernel
theorem dX8_ticketTold_68 : decode cX8_ticketTold 68 = .ok (.getstatic 93, 3) := by decide +kernel
theorem dX8_ticketTold_71 : decode cX8_ticketTold 71 = .ok (.iload_n 3, 1) := by decide +kernel
theorem dX8_ticketTold_72 : decode cX8_ticketTold 72 = .ok (.invokestatic 96, 3) := by decide +kernel
theorem dX8_ticketTold_75 : decode cX8_ticketTold 75 = .ok (.iaload, 1) := by decide +kernel
theorem dX8_ticketTold_76 : decode cX8_ticketTold 76 = .ok (.isub, 1) := by decide +kernel
theorem dX8_ticketTold_77 : decode cX8_ticketTold 77 = .ok (.ireturn, 1) := by decide +kernel
theorem dX8_ticketTold_78 : decode cX8_ticketTold 78 = .ok (.aload_n 0, 1) := by decide +kernel
theorem dX8_ticketTold_79 : decode cX8_ticketTold 79 = .ok (.getfield 21, 3) := by decide +kernel
theorem dX8_ticketTold_82 : decode cX8_ticketTold 82 = .ok (.iload_n 1, 1) := by decide +kernel
theorem dX8_ticketTold_83 : decode cX8_ticketTold 83 = .ok (.bipush 8, 2) := by decide +kernel
theorem dX8_ticketTold_85 : decode cX8_ticketTold 85 = .ok (.invokevirtual 56, 3) := by decide +kernel
theorem dX8_ticketTold_88 : decode cX8_ticketTold 88 = .ok (.ireturn, 1) := by decide +kernel
theorem dX8_ticketTold_89 : decode cX8_ticketTold 89 = .ok (.aload_n 0, 1) := by decide +kernel
theorem dX8_ticketTold_90 : decode cX8_ticketTold 90 = .ok (.getfield 21, 3) := by decide +kernel
theorem dX8_ticketTold_93 : decode cX8_ticketTold 93 = .ok (.iload_n 1, 1) := by decide +kernel
theorem dX8_ticketTold_94 : decode cX8_ticketTold 94 = .ok (.bipush 9, 2) := by decide +kernel
theorem dX8_ticketTold_96 : decode cX8_ticketTold 96 = .ok (.invokevirtual 56, 3) := by decide +kernel
theorem dX8_ticketTold_99 : decode cX8_ticketTold 99 = .ok (.ireturn, 1) := by decide +kernel
theorem dX8_ticketTold_100 : decode cX8_ticketTold 100 = .ok (.aload_n 0, 1) := by decide +kernel
theorem dX8_ticketTold_101 : decode cX8_ticketTold 101 = .ok (.getfield 21, 3) := by decide +kernel
theorem dX8_ticketTold_104 : decode cX8_ticketTold 104 = .ok (.iload_n 1, 1) := by decide +kernel
theorem dX8_ticketTold_105 : decode cX8_ticketTold 105 = .ok (.iload_n 2, 1) := by decide +kernel
theorem dX8_ticketTold_106 : decode cX8_ticketTold 106 = .ok (.invokevirtual 56, 3) := by decide +kernel
theorem dX8_ticketTold_109 : decode cX8_ticketTold 109 = .ok (.ireturn, 1) := by decide +kernel
theorem dX8_ticket_0 : decode cX8_ticket 0 = .ok (.aload_n 0, 1) := by decide +kernel
theorem dX8_ticket_1 : decode cX8_ticket 1 = .ok (.iconst 0, 1) := by decide +kernel
theorem dX8_ticket_2 : decode cX8_ticket 2 = .ok (.putfield 28, 3) := by decide +kernel
theorem dX8_ticket_5 : decode cX8_ticket 5 = .ok (.aload_n 0, 1) := by decide +kernel
theorem dX8_ticket_6 : decode cX8_ticket 6 = .ok (.iload_n 1, 1) := by decide +kernel
theorem dX8_ticket_7 : decode cX8_ticket 7 = .ok (.invokevirtual 99, 3) := by decide +kernel
theorem dX8_ticket_10 : decode cX8_ticket 10 = .ok (.ifCond .eq 22, 3) := by decide +kernel
theorem dX8_ticket_13 : decode cX8_ticket 13 = .ok (.iload_n 2, 1) := by decide +kernel
theorem dX8_ticket_14 : decode cX8_ticket 14 = .ok (.iconst 0, 1) := by decide +kernel
theorem dX8_ticket_15 : decode cX8_ticket 15 = .ok (.bipush 10, 2) := by decide +kernel
theorem dX8_ticket_17 : decode cX8_ticket 17 = .ok (.invokestatic 35, 3) := by decide +kernel
theorem dX8_ticket_20 : decode cX8_ticket 20 = .ok (.ifCond .eq 12, 3) := by decide +kernel
theorem dX8_ticket_23 : decode cX8_ticket 23 = .ok (.aload_n 0, 1) := by decide +kernel
theorem dX8_ticket_24 : decode cX8_ticket 24 = .ok (.iload_n 1, 1) := by decide +kernel
theorem dX8_ticket_25 : decode cX8_ticket 25 = .ok (.iload_n 2, 1) := by decide +kernel
theorem dX8_ticket_26 : decode cX8_ticket 26 = .ok (.invokevirtual 102, 3) := by decide +kernel
theorem dX8_ticket_29 : decode cX8_ticket 29 = .ok (.goto 8, 3) := by decide +kernel
theorem dX8_ticket_32 : decode cX8_ticket 32 = .ok (.aload_n 0, 1) := by decide +kernel
theorem dX8_ticket_33 : decode cX8_ticket 33 = .ok (.iconst 1, 1) := by decide +kernel
theorem dX8_ticket_34 : decode cX8_ticket 34 = .ok (.invokevirtual 42, 3) := by decide +kernel
theorem dX8_ticket_37 : decode cX8_ticket 37 = .ok (.ireturn, 1) := by decide +kernel
theorem dX8_owes_0 : decode cX8_owes 0 = .ok (.aload_n 0, 1) := by decide +kernel
theorem dX8_owes_1 : decode cX8_owes 1 = .ok (.iconst 0, 1) := by decide +kernel
theorem dX8_owes_2 : decode cX8_owes 2 = .ok (.putfield 28, 3) := by decide +kernel
theorem dX8_owes_5 : decode cX8_owes 5 = .ok (.aload_n 0, 1) := by decide +kernel
theorem dX8_owes_6 : decode cX8_owes 6 = .ok (.iload_n 1, 1) := by decide +kernel
theorem dX8_owes_7 : decode cX8_owes 7 = .ok (.invokevirtual 99, 3) := by decide +kernel
theorem dX8_owes_10 : decode cX8_owes 10 = .ok (.ifCond .eq 14, 3) := by decide +kernel
theorem dX8_owes_13 : decode cX8_owes 13 = .ok (.aload_n 0, 1) := by decide +kernel
theorem dX8_owes_14 : decode cX8_owes 14 = .ok (.getfield 21, 3) := by decide +kernel
theorem dX8_owes_17 : decode cX8_owes 17 = .ok (.iload_n 1, 1) := by decide +kernel
theorem dX8_owes_18 : decode cX8_owes 18 = .ok (.invokevirtual 60, 3) := by decide +kernel
theorem dX8_owes_21 : decode cX8_owes 21 = .ok (.goto 8, 3) := by decide +kernel
theorem dX8_owes_24 : decode cX8_owes 24 = .ok (.aload_n 0, 1) := by decide +kernel
theorem dX8_owes_25 : decode cX8_owes 25 = .ok (.iconst 1, 1) := by decide +kernel
theorem dX8_owes_26 : decode cX8_owes 26 = .ok (.invokevirtual 42, 3) := by decide +kernel
theorem dX8_owes_29 : decode cX8_owes 29 = .ok (.ireturn, 1) := by decide +kernel
theorem dX8_pay_0 : decode cX8_pay 0 = .ok (.aload_n 0, 1) := by decide +kernel
theorem dX8_pay_1 : decode cX8_pay 1 = .ok (.getfield 21, 3) := by decide +kernel
theorem dX8_pay_4 : decode cX8_pay 4 = .ok (.getfield 46, 3) := by decide +kernel
theorem dX8_pay_7 : decode cX8_pay 7 = .ok (.iload_n 1, 1) := by decide +kernel
theorem dX8_pay_8 : decode cX8_pay 8 = .ok (.dup2, 1) := by decide +kernel
theorem dX8_pay_9 : decode cX8_pay 9 = .ok (.iaload, 1) := by decide +kernel
theorem dX8_pay_10 : decode cX8_pay 10 = .ok (.iload_n 2, 1) := by decide +kernel
theorem dX8_pay_11 : decode cX8_pay 11 = .ok (.isub, 1) := by decide +kernel
theorem dX8_pay_12 : decode cX8_pay 12 = .ok (.iastore, 1) := by decide +kernel
theorem dX8_pay_13 : decode cX8_pay 13 = .ok (.aload_n 0, 1) := by decide +kernel
theorem dX8_pay_14 : decode cX8_pay 14 = .ok (.getfield 21, 3) := by decide +kernel
theorem dX8_pay_17 : decode cX8_pay 17 = .ok (.dup, 1) := by decide +kernel
theorem dX8_pay_18 : decode cX8_pay 18 = .ok (.getfield 74, 3) := by decide +kernel
theorem dX8_pay_21 : decode cX8_pay 21 = .ok (.iload_n 2, 1) := by decide +kernel
theorem dX8_pay_22 : decode cX8_pay 22 = .ok (.iadd, 1) := by decide +kernel
theorem dX8_pay_23 : decode cX8_pay 23 = .ok (.putfield 74, 3) := by decide +kernel
theorem dX8_pay_26 : decode cX8_pay 26 = .ok (.aload_n 0, 1) := by decide +kernel
theorem dX8_pay_27 : decode cX8_pay 27 = .ok (.getfield 21, 3) := by decide +kernel
theorem dX8_pay_30 : decode cX8_pay 30 = .ok (.dup, 1) := by decide +kernel
theorem dX8_pay_31 : decode cX8_pay 31 = .ok (.getfield 105, 3) := by decide +kernel
theorem dX8_pay_34 : decode cX8_pay 34 = .ok (.iload_n 3, 1) := by decide +kernel
theorem dX8_pay_35 : decode cX8_pay 35 = .ok (.iadd, 1) := by decide +kernel
theorem dX8_pay_36 : decode cX8_pay 36 = .ok (.putfield 105, 3) := by decide +kernel
theorem dX8_pay_39 : decode cX8_pay 39 = .ok (.return_, 1) := by decide +kernel
theorem dX8_renew_0 : decode cX8_renew 0 = .ok (.aload_n 0, 1) := by decide +kernel
theorem dX8_renew_1 : decode cX8_renew 1 = .ok (.iconst 0, 1) := by decide +kernel
theorem dX8_renew_2 : decode cX8_renew 2 = .ok (.putfield 28, 3) := by decide +kernel
theorem dX8_renew_5 : decode cX8_renew 5 = .ok (.aload_n 0, 1) := by decide +kernel
theorem dX8_renew_6 : decode cX8_renew 6 = .ok (.iload_n 1, 1) := by decide +kernel
theorem dX8_renew_7 : decode cX8_renew 7 = .ok (.invokevirtual 99, 3) := by decide +kernel
theorem dX8_renew_10 : decode cX8_renew 10 = .ok (.ifCond .ne 9, 3) := by decide +kernel
theorem dX8_renew_13 : decode cX8_renew 13 = .ok (.aload_n 0, 1) := by decide +kernel
theorem dX8_renew_14 : decode cX8_renew 14 = .ok (.iconst 1, 1) := by decide +kernel
theorem dX8_renew_15 : decode cX8_renew 15 = .ok (.invokevirtual 42, 3) := by decide +kernel
theorem dX8_renew_18 : decode cX8_renew 18 = .ok (.ireturn, 1) := by decide +kernel
theorem dX8_renew_19 : decode cX8_renew 19 = .ok (.aload_n 0, 1) := by decide +kernel
theorem dX8_renew_20 : decode cX8_renew 20 = .ok (.getfield 21, 3) := by decide +kernel
theorem dX8_renew_23 : decode cX8_renew 23 = .ok (.iload_n 1, 1) := by decide +kernel
theorem dX8_renew_24 : decode cX8_renew 24 = .ok (.invokevirtual 108, 3) := by decide +kernel
theorem dX8_renew_27 : decode cX8_renew 27 = .ok (.istore_n 2, 1) := by decide +kernel
theorem dX8_renew_28 : decode cX8_renew 28 = .ok (.aload_n 0, 1) := by decide +kernel
theorem dX8_renew_29 : decode cX8_renew 29 = .ok (.getfield 21, 3) := by decide +kernel
theorem dX8_renew_32 : decode cX8_renew 32 = .ok (.iload_n 1, 1) := by decide +kernel
theorem dX8_renew_33 : decode cX8_renew 33 = .ok (.iconst 0, 1) := by decide +kernel
theorem dX8_renew_34 : decode cX8_renew 34 = .ok (.invokevirtual 56, 3) := by decide +kernel
theorem dX8_renew_37 : decode cX8_renew 37 = .ok (.istore_n 3, 1) := by decide +kernel
theorem dX8_renew_38 : decode cX8_renew 38 = .ok (.aload_n 0, 1) := by decide +kernel
theorem dX8_renew_39 : decode cX8_renew 39 = .ok (.getfield 21, 3) := by decide +kernel
theorem dX8_renew_42 : decode cX8_renew 42 = .ok (.iload_n 1, 1) := by decide +kernel
theorem dX8_renew_43 : decode cX8_renew 43 = .ok (.bipush 6, 2) := by decide +kernel
theorem dX8_renew_45 : decode cX8_renew 45 = .ok (.invokevirtual 56, 3) := by decide +kernel
theorem dX8_renew_48 : decode cX8_renew 48 = .ok (.ifCond .ne 30, 3) := by decide +kernel
theorem dX8_renew_51 : decode cX8_renew 51 = .ok (.aload_n 0, 1) := by decide +kernel
theorem dX8_renew_52 : decode cX8_renew 52 = .ok (.getfield 21, 3) := by decide +kernel
theorem dX8_renew_55 : decode cX8_renew 55 = .ok (.iload_n 1, 1) := by decide +kernel
theorem dX8_renew_56 : decode cX8_renew 56 = .ok (.bipush 9, 2) := by decide +kernel
theorem dX8_renew_58 : decode cX8_renew 58 = .ok (.invokevirtual 56, 3) := by decide +kernel
theorem dX8_renew_61 : decode cX8_renew 61 = .ok (.iconst 3, 1) := by decide +kernel
theorem dX8_renew_62 : decode cX8_renew 62 = .ok (.if_icmp .eq 16, 3) := by decide +kernel
theorem dX8_renew_65 : decode cX8_renew 65 = .ok (.iload_n 2, 1) := by decide +kernel
theorem dX8_renew_66 : decode cX8_renew 66 = .ok (.aload_n 0, 1) := by decide +kernel
theorem dX8_renew_67 : decode cX8_renew 67 = .ok (.getfield 21, 3) := by decide +kernel
theorem dX8_renew_70 : decode cX8_renew 70 = .ok (.getfield 46, 3) := by decide +kernel
theorem dX8_renew_73 : decode cX8_renew 73 = .ok (.iload_n 3, 1) := by decide +kernel
theorem dX8_renew_74 : decode cX8_renew 74 = .ok (.iaload, 1) := by decide +kernel
theorem dX8_renew_75 : decode cX8_renew 75 = .ok (.if_icmp .le 9, 3) := by decide +kernel
theorem dX8_renew_78 : decode cX8_renew 78 = .ok (.aload_n 0, 1) := by decide +kernel
theorem dX8_renew_79 : decode cX8_renew 79 = .ok (.iconst 2, 1) := by decide +kernel
theorem dX8_renew_80 : decode cX8_renew 80 = .ok (.invokevirtual 42, 3) := by decide +kernel
theorem dX8_renew_83 : decode cX8_renew 83 = .ok (.ireturn, 1) := by decide +kernel
theorem dX8_renew_84 : decode cX8_renew 84 = .ok (.aload_n 0, 1) := by decide +kernel
theorem dX8_renew_85 : decode cX8_renew 85 = .ok (.iload_n 3, 1) := by decide +kernel
theorem dX8_renew_86 : decode cX8_renew 86 = .ok (.iload_n 2, 1) := by decide +kernel
theorem dX8_renew_87 : decode cX8_renew 87 = .ok (.iload_n 2, 1) := by decide +kernel
theorem dX8_renew_88 : decode cX8_renew 88 = .ok (.invokevirtual 111, 3) := by decide +kernel
theorem dX8_renew_91 : decode cX8_renew 91 = .ok (.aload_n 0, 1) := by decide +kernel
theorem dX8_renew_92 : decode cX8_renew 92 = .ok (.getfield 21, 3) := by decide +kernel
theorem dX8_renew_95 : decode cX8_renew 95 = .ok (.iload_n 1, 1) := by decide +kernel
theorem dX8_renew_96 : decode cX8_renew 96 = .ok (.iconst 5, 1) := by decide +kernel
theorem dX8_renew_97 : decode cX8_renew 97 = .ok (.aload_n 0, 1) := by decide +kernel
theorem dX8_renew_98 : decode cX8_renew 98 = .ok (.getfield 21, 3) := by decide +kernel
theorem dX8_renew_101 : decode cX8_renew 101 = .ok (.getfield 77, 3) := by decide +kernel
theorem dX8_renew_104 : decode cX8_renew 104 = .ok (.bipush 60, 2) := by decide +kernel
theorem dX8_renew_106 : decode cX8_renew 106 = .ok (.iadd, 1) := by decide +kernel
theorem dX8_renew_107 : decode cX8_renew 107 = .ok (.invokevirtual 115, 3) := by decide +kernel
theorem dX8_renew_110 : decode cX8_renew 110 = .ok (.aload_n 0, 1) := by decide +kernel
theorem dX8_renew_111 : decode cX8_renew 111 = .ok (.getfield 21, 3) := by decide +kernel
theorem dX8_renew_114 : decode cX8_renew 114 = .ok (.iload_n 1, 1) := by decide +kernel
theorem dX8_renew_115 : decode cX8_renew 115 = .ok (.bipush 10, 2) := by decide +kernel
theorem dX8_renew_117 : decode cX8_renew 117 = .ok (.aload_n 0, 1) := by decide +kernel
theorem dX8_renew_118 : decode cX8_renew 118 = .ok (.getfield 21, 3) := by decide +kernel
theorem dX8_renew_121 : decode cX8_renew 121 = .ok (.getfield 77, 3) := by decide +kernel
theorem dX8_renew_124 : decode cX8_renew 124 = .ok (.invokevirtual 115, 3) := by decide +kernel
theorem dX8_renew_127 : decode cX8_renew 127 = .ok (.aload_n 0, 1) := by decide +kernel
theorem dX8_renew_128 : decode cX8_renew 128 = .ok (.getfield 21, 3) := by decide +kernel
theorem dX8_renew_131 : decode cX8_renew 131 = .ok (.iload_n 1, 1) := by decide +kernel
theorem dX8_renew_132 : decode cX8_renew 132 = .ok (.bipush 9, 2) := by decide +kernel
theorem dX8_renew_134 : decode cX8_renew 134 = .ok (.aload_n 0, 1) := by decide +kernel
theorem dX8_renew_135 : decode cX8_renew 135 = .ok (.getfield 21, 3) := by decide +kernel
theorem dX8_renew_138 : decode cX8_renew 138 = .ok (.iload_n 1, 1) := by decide +kernel
theorem dX8_renew_139 : decode cX8_renew 139 = .ok (.bipush 9, 2) := by decide +kernel
theorem dX8_renew_141 : decode cX8_renew 141 = .ok (.invokevirtual 56, 3) := by decide +kernel
theorem dX8_renew_144 : decode cX8_renew 144 = .ok (.iconst 1, 1) := by decide +kernel
theorem dX8_renew_145 : decode cX8_renew 145 = .ok (.iadd, 1) := by decide +kernel
theorem dX8_renew_146 : decode cX8_renew 146 = .ok (.invokevirtual 115, 3) := by decide +kernel
theorem dX8_renew_149 : decode cX8_renew 149 = .ok (.iload_n 2, 1) := by decide +kernel
theorem dX8_renew_150 : decode cX8_renew 150 = .ok (.ireturn, 1) := by decide +kernel
theorem dX8_fetch_0 : decode cX8_fetch 0 = .ok (.aload_n 0, 1) := by decide +kernel
theorem dX8_fetch_1 : decode cX8_fetch 1 = .ok (.iconst 0, 1) := by decide +kernel
theorem dX8_fetch_2 : decode cX8_fetch 2 = .ok (.putfield 28, 3) := by decide +kernel
theorem dX8_fetch_5 : decode cX8_fetch 5 = .ok (.aload_n 0, 1) := by decide +kernel
theorem dX8_fetch_6 : decode cX8_fetch 6 = .ok (.iload_n 1, 1) := by decide +kernel
theorem dX8_fetch_7 : decode cX8_fetch 7 = .ok (.invokevirtual 99, 3) := by decide +kernel
theorem dX8_fetch_10 : decode cX8_fetch 10 = .ok (.ifCond .ne 9, 3) := by decide +kernel
theorem dX8_fetch_13 : decode cX8_fetch 13 = .ok (.aload_n 0, 1) := by decide +kernel
theorem dX8_fetch_14 : decode cX8_fetch 14 = .ok (.iconst 1, 1) := by decide +kernel
theorem dX8_fetch_15 : decode cX8_fetch 15 = .ok (.invokevirtual 42, 3) := by decide +kernel
theorem dX8_fetch_18 : decode cX8_fetch 18 = .ok (.ireturn, 1) := by decide +kernel
theorem dX8_fetch_19 : decode cX8_fetch 19 = .ok (.aload_n 0, 1) := by decide +kernel
theorem dX8_fetch_20 : decode cX8_fetch 20 = .ok (.getfield 21, 3) := by decide +kernel
theorem dX8_fetch_23 : decode cX8_fetch 23 = .ok (.iload_n 1, 1) := by decide +kernel
theorem dX8_fetch_24 : decode cX8_fetch 24 = .ok (.invokevirtual 60, 3) := by decide +kernel
theorem dX8_fetch_27 : decode cX8_fetch 27 = .ok (.istore_n 2, 1) := by decide +kernel
theorem dX8_fetch_28 : decode cX8_fetch 28 = .ok (.aload_n 0, 1) := by decide +kernel
theorem dX8_fetch_29 : decode cX8_fetch 29 = .ok (.getfield 21, 3) := by decide +kernel
theorem dX8_fetch_32 : decode cX8_fetch 32 = .ok (.iload_n 1, 1) := by decide +kernel
theorem dX8_fetch_33 : decode cX8_fetch 33 = .ok (.iconst 0, 1) := by decide +kernel
theorem dX8_fetch_34 : decode cX8_fetch 34 = .ok (.invokevirtual 56, 3) := by decide +kernel
theorem dX8_fetch_37 : decode cX8_fetch 37 = .ok (.istore_n 3, 1) := by decide +kernel
theorem dX8_fetch_38 : decode cX8_fetch 38 = .ok (.aload_n 0, 1) := by decide +kernel
theorem dX8_fetch_39 : decode cX8_fetch 39 = .ok (.getfield 21, 3) := by decide +kernel
theorem dX8_fetch_42 : decode cX8_fetch 42 = .ok (.iload_n 1, 1) := by decide +kernel
theorem dX8_fetch_43 : decode cX8_fetch 43 = .ok (.bipush 6, 2) := by decide +kernel
theorem dX8_fetch_45 : decode cX8_fetch 45 = .ok (.invokevirtual 56, 3) := by decide +kernel
theorem dX8_fetch_48 : decode cX8_fetch 48 = .ok (.ifCond .ne 16, 3) := by decide +kernel
theorem dX8_fetch_51 : decode cX8_fetch 51 = .ok (.iload_n 2, 1) := by decide +kernel
theorem dX8_fetch_52 : decode cX8_fetch 52 = .ok (.aload_n 0, 1) := by decide +kernel
theorem dX8_fetch_53 : decode cX8_fetch 53 = .ok (.getfield 21, 3) := by decide +kernel
theorem dX8_fetch_56 : decode cX8_fetch 56 = .ok (.getfield 46, 3) := by decide +kernel
theorem dX8_fetch_59 : decode cX8_fetch 59 = .ok (.iload_n 3, 1) := by decide +kernel
theorem dX8_fetch_60 : decode cX8_fetch 60 = .ok (.iaload, 1) := by decide +kernel
theorem dX8_fetch_61 : decode cX8_fetch 61 = .ok (.if_icmp .le 9, 3) := by decide +kernel
theorem dX8_fetch_64 : decode cX8_fetch 64 = .ok (.aload_n 0, 1) := by decide +kernel
theorem dX8_fetch_65 : decode cX8_fetch 65 = .ok (.iconst 2, 1) := by decide +kernel
theorem dX8_fetch_66 : decode cX8_fetch 66 = .ok (.invokevirtual 42, 3) := by decide +kernel
theorem dX8_fetch_69 : decode cX8_fetch 69 = .ok (.ireturn, 1) := by decide +kernel
theorem dX8_fetch_70 : decode cX8_fetch 70 = .ok (.aload_n 0, 1) := by decide +kernel
theorem dX8_fetch_71 : decode cX8_fetch 71 = .ok (.iload_n 3, 1) := by decide +kernel
theorem dX8_fetch_72 : decode cX8_fetch 72 = .ok (.iload_n 2, 1) := by decide +kernel
theorem dX8_fetch_73 : decode cX8_fetch 73 = .ok (.iload_n 2, 1) := by decide +kernel
theorem dX8_fetch_74 : decode cX8_fetch 74 = .ok (.aload_n 0, 1) := by decide +kernel
theorem dX8_fetch_75 : decode cX8_fetch 75 = .ok (.getfield 21, 3) := by decide +kernel
theorem dX8_fetch_78 : decode cX8_fetch 78 = .ok (.iload_n 1, 1) := by decide +kernel
theorem dX8_fetch_79 : decode cX8_fetch 79 = .ok (.iconst 4, 1) := by decide +kernel
theorem dX8_fetch_80 : decode cX8_fetch 80 = .ok (.invokevirtual 56, 3) := by decide +kernel
theorem dX8_fetch_83 : decode cX8_fetch 83 = .ok (.isub, 1) := by decide +kernel
theorem dX8_fetch_84 : decode cX8_fetch 84 = .ok (.invokevirtual 111, 3) := by decide +kernel
theorem dX8_fetch_87 : decode cX8_fetch 87 = .ok (.aload_n 0, 1) := by decide +kernel
theorem dX8_fetch_88 : decode cX8_fetch 88 = .ok (.getfield 21, 3) := by decide +kernel
theorem dX8_fetch_91 : decode cX8_fetch 91 = .ok (.iload_n 1, 1) := by decide +kernel
theorem dX8_fetch_92 : decode cX8_fetch 92 = .ok (.bipush 6, 2) := by decide +kernel
theorem dX8_fetch_94 : decode cX8_fetch 94 = .ok (.iconst 1, 1) := by decide +kernel
theorem dX8_fetch_95 : decode cX8_fetch 95 = .ok (.invokevirtual 115, 3) := by decide +kernel
theorem dX8_fetch_98 : decode cX8_fetch 98 = .ok (.aload_n 0, 1) := by decide +kernel
theorem dX8_fetch_99 : decode cX8_fetch 99 = .ok (.getfield 21, 3) := by decide +kernel
theorem dX8_fetch_102 : decode cX8_fetch 102 = .ok (.iload_n 1, 1) := by decide +kernel
theorem dX8_fetch_103 : decode cX8_fetch 103 = .ok (.invokevirtual 118, 3) := by decide +kernel
theorem dX8_fetch_106 : decode cX8_fetch 106 = .ok (.aload_n 0, 1) := by decide +kernel
theorem dX8_fetch_107 : decode cX8_fetch 107 = .ok (.getfield 21, 3) := by decide +kernel
theorem dX8_fetch_110 : decode cX8_fetch 110 = .ok (.getfield 49, 3) := by decide +kernel
theorem dX8_fetch_113 : decode cX8_fetch 113 = .ok (.iload_n 3, 1) := by decide +kernel
theorem dX8_fetch_114 : decode cX8_fetch 114 = .ok (.bipush 10, 2) := by decide +kernel
theorem dX8_fetch_116 : decode cX8_fetch 116 = .ok (.aload_n 0, 1) := by decide +kernel
theorem dX8_fetch_117 : decode cX8_fetch 117 = .ok (.getfield 21, 3) := by decide +kernel
theorem dX8_fetch_120 : decode cX8_fetch 120 = .ok (.getfield 49, 3) := by decide +kernel
theorem dX8_fetch_123 : decode cX8_fetch 123 = .ok (.iload_n 3, 1) := by decide +kernel
theorem dX8_fetch_124 : decode cX8_fetch 124 = .ok (.iaload, 1) := by decide +kernel
theorem dX8_fetch_125 : decode cX8_fetch 125 = .ok (.iconst 1, 1) := by decide +kernel
theorem dX8_fetch_126 : decode cX8_fetch 126 = .ok (.iadd, 1) := by decide +kernel
theorem dX8_fetch_127 : decode cX8_fetch 127 = .ok (.invokestatic 122, 3) := by decide +kernel
theorem dX8_fetch_130 : decode cX8_fetch 130 = .ok (.iastore, 1) := by decide +kernel
theorem dX8_fetch_131 : decode cX8_fetch 131 = .ok (.iload_n 2, 1) := by decide +kernel
theorem dX8_fetch_132 : decode cX8_fetch 132 = .ok (.ireturn, 1) := by decide +kernel
theorem dX8_at_0 : decode cX8_at 0 = .ok (.aload_n 0, 1) := by decide +kernel
theorem dX8_at_1 : decode cX8_at 1 = .ok (.iconst 0, 1) := by decide +kernel
theorem dX8_at_2 : decode cX8_at 2 = .ok (.putfield 28, 3) := by decide +kernel
theorem dX8_at_5 : decode cX8_at 5 = .ok (.iload_n 1, 1) := by decide +kernel
theorem dX8_at_6 : decode cX8_at 6 = .ok (.iconst 0, 1) := by decide +kernel
theorem dX8_at_7 : decode cX8_at 7 = .ok (.iconst 2, 1) := by decide +kernel
theorem dX8_at_8 : decode cX8_at 8 = .ok (.invokestatic 35, 3) := by decide +kernel
theorem dX8_at_11 : decode cX8_at 11 = .ok (.ifCond .eq 44, 3) := by decide +kernel
theorem dX8_at_14 : decode cX8_at 14 = .ok (.iload_n 2, 1) := by decide +kernel
theorem dX8_at_15 : decode cX8_at 15 = .ok (.iconst 0, 1) := by decide +kernel
theorem dX8_at_16 : decode cX8_at 16 = .ok (.getstatic 93, 3) := by decide +kernel
theorem dX8_at_19 : decode cX8_at 19 = .ok (.iload_n 1, 1) := by decide +kernel
theorem dX8_at_20 : decode cX8_at 20 = .ok (.iconst 1, 1) := by decide +kernel
theorem dX8_at_21 : decode cX8_at 21 = .ok (.iadd, 1) := by decide +kernel
theorem dX8_at_22 : decode cX8_at 22 = .ok (.iaload, 1) := by decide +kernel
theorem dX8_at_23 : decode cX8_at 23 = .ok (.getstatic 93, 3) := by decide +kernel
theorem dX8_at_26 : decode cX8_at 26 = .ok (.iload_n 1, 1) := by decide +kernel
theorem dX8_at_27 : decode cX8_at 27 = .ok (.iaload, 1) := by decide +kernel
theorem dX8_at_28 : decode cX8_at 28 = .ok (.isub, 1) := by decide +kernel
theorem dX8_at_29 : decode cX8_at 29 = .ok (.iconst 1, 1) := by decide +kernel
theorem dX8_at_30 : decode cX8_at 30 = .ok (.isub, 1) := by decide +kernel
theorem dX8_at_31 : decode cX8_at 31 = .ok (.invokestatic 35, 3) := by decide +kernel
theorem dX8_at_34 : decode cX8_at 34 = .ok (.ifCond .eq 21, 3) := by decide +kernel
theorem dX8_at_37 : decode cX8_at 37 = .ok (.aload_n 0, 1) := by decide +kernel
theorem dX8_at_38 : decode cX8_at 38 = .ok (.getfield 21, 3) := by decide +kernel
theorem dX8_at_41 : decode cX8_at 41 = .ok (.getfield 125, 3) := by decide +kernel
theorem dX8_at_44 : decode cX8_at 44 = .ok (.getstatic 93, 3) := by decide +kernel
theorem dX8_at_47 : decode cX8_at 47 = .ok (.iload_n 1, 1) := by decide +kernel
theorem dX8_at_48 : decode cX8_at 48 = .ok (.iaload, 1) := by decide +kernel
theorem dX8_at_49 : decode cX8_at 49 = .ok (.iload_n 2, 1) := by decide +kernel
theorem dX8_at_50 : decode cX8_at 50 = .ok (.iadd, 1) := by decide +kernel
theorem dX8_at_51 : decode cX8_at 51 = .ok (.iaload, 1) := by decide +kernel
theorem dX8_at_52 : decode cX8_at 52 = .ok (.goto 8, 3) := by decide +kernel
theorem dX8_at_55 : decode cX8_at 55 = .ok (.aload_n 0, 1) := by decide +kernel
theorem dX8_at_56 : decode cX8_at 56 = .ok (.iconst 1, 1) := by decide +kernel
theorem dX8_at_57 : decode cX8_at 57 = .ok (.invokevirtual 42, 3) := by decide +kernel
theorem dX8_at_60 : decode cX8_at 60 = .ok (.ireturn, 1) := by decide +kernel
theorem dX8_room_0 : decode cX8_room 0 = .ok (.aload_n 0, 1) := by decide +kernel
theorem dX8_room_1 : decode cX8_room 1 = .ok (.iconst 0, 1) := by decide +kernel
theorem dX8_room_2 : decode cX8_room 2 = .ok (.putfield 28, 3) := by decide +kernel
theorem dX8_room_5 : decode cX8_room 5 = .ok (.iload_n 1, 1) := by decide +kernel
theorem dX8_room_6 : decode cX8_room 6 = .ok (.iconst 1, 1) := by decide +kernel
theorem dX8_room_7 : decode cX8_room 7 = .ok (.bipush 10, 2) := by decide +kernel
theorem dX8_room_9 : decode cX8_room 9 = .ok (.invokestatic 35, 3) := by decide +kernel
theorem dX8_room_12 : decode cX8_room 12 = .ok (.ifCond .ne 9, 3) := by decide +kernel
theorem dX8_room_15 : decode cX8_room 15 = .ok (.aload_n 0, 1) := by decide +kernel
theorem dX8_room_16 : decode cX8_room 16 = .ok (.iconst 1, 1) := by decide +kernel
theorem dX8_room_17 : decode cX8_room 17 = .ok (.invokevirtual 42, 3) := by decide +kernel
theorem dX8_room_20 : decode cX8_room 20 = .ok (.ireturn, 1) := by decide +kernel
theorem dX8_room_21 : decode cX8_room 21 = .ok (.aload_n 0, 1) := by decide +kernel
theorem dX8_room_22 : decode cX8_room 22 = .ok (.getfield 21, 3) := by decide +kernel
theorem dX8_room_25 : decode cX8_room 25 = .ok (.iload_n 1, 1) := by decide +kernel
theorem dX8_room_26 : decode cX8_room 26 = .ok (.invokevirtual 71, 3) := by decide +kernel
theorem dX8_room_29 : decode cX8_room 29 = .ok (.istore_n 2, 1) := by decide +kernel
theorem dX8_room_30 : decode cX8_room 30 = .ok (.iload_n 2, 1) := by decide +kernel
theorem dX8_room_31 : decode cX8_room 31 = .ok (.iconst (-1), 1) := by decide +kernel
theorem dX8_room_32 : decode cX8_room 32 = .ok (.if_icmp .ne 7, 3) := by decide +kernel
theorem dX8_room_35 : decode cX8_room 35 = .ok (.iconst (-1), 1) := by decide +kernel
theorem dX8_room_36 : decode cX8_room 36 = .ok (.goto 21, 3) := by decide +kernel
theorem dX8_room_39 : decode cX8_room 39 = .ok (.bipush 100, 2) := by decide +kernel
theorem dX8_room_41 : decode cX8_room 41 = .ok (.iload_n 2, 1) := by decide +kernel
theorem dX8_room_42 : decode cX8_room 42 = .ok (.invokestatic 96, 3) := by decide +kernel
theorem dX8_room_45 : decode cX8_room 45 = .ok (.imul, 1) := by decide +kernel
theorem dX8_room_46 : decode cX8_room 46 = .ok (.iload_n 2, 1) := by decide +kernel
theorem dX8_room_47 : decode cX8_room 47 = .ok (.iadd, 1) := by decide +kernel
theorem dX8_room_48 : decode cX8_room 48 = .ok (.getstatic 93, 3) := by decide +kernel
theorem dX8_room_51 : decode cX8_room 51 = .ok (.iload_n 2, 1) := by decide +kernel
theorem dX8_room_52 : decode cX8_room 52 = .ok (.invokestatic 96, 3) := by decide +kernel
theorem dX8_room_55 : decode cX8_room 55 = .ok (.iaload, 1) := by decide +kernel
theorem dX8_room_56 : decode cX8_room 56 = .ok (.isub, 1) := by decide +kernel
theorem dX8_room_57 : decode cX8_room 57 = .ok (.ireturn, 1) := by decide +kernel
theorem dX8_tidy_0 : decode cX8_tidy 0 = .ok (.aload_n 0, 1) := by decide +kernel
theorem dX8_tidy_1 : decode cX8_tidy 1 = .ok (.iconst 0, 1) := by decide +kernel
theorem dX8_tidy_2 : decode cX8_tidy 2 = .ok (.putfield 28, 3) := by decide +kernel
theorem dX8_tidy_5 : decode cX8_tidy 5 = .ok (.iconst 0, 1) := by decide +kernel
theorem dX8_tidy_6 : decode cX8_tidy 6 = .ok (.istore_n 1, 1) := by decide +kernel
theorem dX8_tidy_7 : decode cX8_tidy 7 = .ok (.iconst 0, 1) := by decide +kernel
theorem dX8_tidy_8 : decode cX8_tidy 8 = .ok (.istore_n 2, 1) := by decide +kernel
theorem dX8_tidy_9 : decode cX8_tidy 9 = .ok (.iload_n 2, 1) := by decide +kernel
theorem dX8_tidy_10 : decode cX8_tidy 10 = .ok (.iconst 3, 1) := by decide +kernel
theorem dX8_tidy_11 : decode cX8_tidy 11 = .ok (.if_icmp .ge 118, 3) := by decide +kernel
theorem dX8_tidy_14 : decode cX8_tidy 14 = .ok (.getstatic 93, 3) := by decide +kernel
theorem dX8_tidy_17 : decode cX8_tidy 17 = .ok (.iload_n 2, 1) := by decide +kernel
theorem dX8_tidy_18 : decode cX8_tidy 18 = .ok (.iaload, 1) := by decide +kernel
theorem dX8_tidy_19 : decode cX8_tidy 19 = .ok (.istore_n 3, 1) := by decide +kernel
theorem dX8_tidy_20 : decode cX8_tidy 20 = .ok (.getstatic 93, 3) := by decide +kernel
theorem dX8_tidy_23 : decode cX8_tidy 23 = .ok (.iload_n 2, 1) := by decide +kernel
theorem dX8_tidy_24 : decode cX8_tidy 24 = .ok (.iaload, 1) := by decide +kernel
theorem dX8_tidy_25 : decode cX8_tidy 25 = .ok (.istore 4, 2) := by decide +kernel
theorem dX8_tidy_27 : decode cX8_tidy 27 = .ok (.iload 4, 2) := by decide +kernel
theorem dX8_tidy_29 : decode cX8_tidy 29 = .ok (.getstatic 93, 3) := by decide +kernel
theorem dX8_tidy_32 : decode cX8_tidy 32 = .ok (.iload_n 2, 1) := by decide +kernel
theorem dX8_tidy_33 : decode cX8_tidy 33 = .ok (.iconst 1, 1) := by decide +kernel
theorem dX8_tidy_34 : decode cX8_tidy 34 = .ok (.iadd, 1) := by decide +kernel
theorem dX8_tidy_35 : decode cX8_tidy 35 = .ok (.iaload, 1) := by decide +kernel
theorem dX8_tidy_36 : decode cX8_tidy 36 = .ok (.if_icmp .ge 87, 3) := by decide +kernel
theorem dX8_tidy_39 : decode cX8_tidy 39 = .ok (.aload_n 0, 1) := by decide +kernel
theorem dX8_tidy_40 : decode cX8_tidy 40 = .ok (.getfield 21, 3) := by decide +kernel
theorem dX8_tidy_43 : decode cX8_tidy 43 = .ok (.getfield 125, 3) := by decide +kernel
theorem dX8_tidy_46 : decode cX8_tidy 46 = .ok (.iload 4, 2) := by decide +kernel
theorem dX8_tidy_48 : decode cX8_tidy 48 = .ok (.iaload, 1) := by decide +kernel
theorem dX8_tidy_49 : decode cX8_tidy 49 = .ok (.istore 5, 2) := by decide +kernel
theorem dX8_tidy_51 : decode cX8_tidy 51 = .ok (.iload 5, 2) := by decide +kernel
theorem dX8_tidy_53 : decode cX8_tidy 53 = .ok (.iconst (-1), 1) := by decide +kernel
theorem dX8_tidy_54 : decode cX8_tidy 54 = .ok (.if_icmp .eq 63, 3) := by decide +kernel
theorem dX8_tidy_57 : decode cX8_tidy 57 = .ok (.aload_n 0, 1) := by decide +kernel
theorem dX8_tidy_58 : decode cX8_tidy 58 = .ok (.getfield 21, 3) := by decide +kernel
theorem dX8_tidy_61 : decode cX8_tidy 61 = .ok (.iload 5, 2) := by decide +kernel
theorem dX8_tidy_63 : decode cX8_tidy 63 = .ok (.bipush 7, 2) := by decide +kernel
theorem dX8_tidy_65 : decode cX8_tidy 65 = .ok (.invokevirtual 56, 3) := by decide +kernel
theorem dX8_tidy_68 : decode cX8_tidy 68 = .ok (.iload 4, 2) := by decide +kernel
theorem dX8_tidy_70 : decode cX8_tidy 70 = .ok (.if_icmp .eq 6, 3) := by decide +kernel
theorem dX8_tidy_73 : decode cX8_tidy 73 = .ok (.goto 44, 3) := by decide +kernel
theorem dX8_tidy_76 : decode cX8_tidy 76 = .ok (.iload_n 3, 1) := by decide +kernel
theorem dX8_tidy_77 : decode cX8_tidy 77 = .ok (.iload 4, 2) := by decide +kernel
theorem dX8_tidy_79 : decode cX8_tidy 79 = .ok (.if_icmp .ge 25, 3) := by decide +kernel
theorem dX8_tidy_82 : decode cX8_tidy 82 = .ok (.aload_n 0, 1) := by decide +kernel
theorem dX8_tidy_83 : decode cX8_tidy 83 = .ok (.getfield 21, 3) := by decide +kernel
theorem dX8_tidy_86 : decode cX8_tidy 86 = .ok (.iload 5, 2) := by decide +kernel
theorem dX8_tidy_88 : decode cX8_tidy 88 = .ok (.invokevirtual 118, 3) := by decide +kernel
theorem dX8_tidy_91 : decode cX8_tidy 91 = .ok (.aload_n 0, 1) := by decide +kernel
theorem dX8_tidy_92 : decode cX8_tidy 92 = .ok (.getfield 21, 3) := by decide +kernel
theorem dX8_tidy_95 : decode cX8_tidy 95 = .ok (.iload 5, 2) := by decide +kernel
theorem dX8_tidy_97 : decode cX8_tidy 97 = .ok (.iload_n 3, 1) := by decide +kernel
theorem dX8_tidy_98 : decode cX8_tidy 98 = .ok (.invokevirtual 89, 3) := by decide +kernel
theorem dX8_tidy_101 : decode cX8_tidy 101 = .ok (.iinc 1 1, 3) := by decide +kernel
theorem dX8_tidy_104 : decode cX8_tidy 104 = .ok (.iload_n 3, 1) := by decide +kernel
theorem dX8_tidy_105 : decode cX8_tidy 105 = .ok (.aload_n 0, 1) := by decide +kernel
theorem dX8_tidy_106 : decode cX8_tidy 106 = .ok (.getfield 21, 3) := by decide +kernel
theorem dX8_tidy_109 : decode cX8_tidy 109 = .ok (.iload 5, 2) := by decide +kernel
theorem dX8_tidy_111 : decode cX8_tidy 111 = .ok (.iconst 3, 1) := by decide +kernel
theorem dX8_tidy_112 : decode cX8_tidy 112 = .ok (.invokevirtual 56, 3) := by decide +kernel
theorem dX8_tidy_115 : decode cX8_tidy 115 = .ok (.iadd, 1) := by decide +kernel
theorem dX8_tidy_116 : decode cX8_tidy 116 = .ok (.istore_n 3, 1) := by decide +kernel
theorem dX8_tidy_117 : decode cX8_tidy 117 = .ok (.iinc 4 1, 3) := by decide +kernel
theorem dX8_tidy_120 : decode cX8_tidy 120 = .ok (.goto (-93), 3) := by decide +kernel
theorem dX8_tidy_123 : decode cX8_tidy 123 = .ok (.iinc 2 1, 3) := by decide +kernel
theorem dX8_tidy_126 : decode cX8_tidy 126 = .ok (.goto (-117), 3) := by decide +kernel
theorem dX8_tidy_129 : decode cX8_tidy 129 = .ok (.iload_n 1, 1) := by decide +kernel
theorem dX8_tidy_130 : decode cX8_tidy 130 = .ok (.ireturn, 1) := by decide +kernel
theorem dX8_pass_0 : decode cX8_pass 0 = .ok (.aload_n 0, 1) := by decide +kernel
theorem dX8_pass_1 : decode cX8_pass 1 = .ok (.iconst 0, 1) := by decide +kernel
theorem dX8_pass_2 : decode cX8_pass 2 = .ok (.putfield 28, 3) := by decide +kernel
theorem dX8_pass_5 : decode cX8_pass 5 = .ok (.iload_n 1, 1) := by decide +kernel
theorem dX8_pass_6 : decode cX8_pass 6 = .ok (.iconst 1, 1) := by decide +kernel
theorem dX8_pass_7 : decode cX8_pass 7 = .ok (.sipush 200, 3) := by decide +kernel
theorem dX8_pass_10 : decode cX8_pass 10 = .ok (.invokestatic 35, 3) := by decide +kernel
theorem dX8_pass_13 : decode cX8_pass 13 = .ok (.ifCond .ne 9, 3) := by decide +kernel
theorem dX8_pass_16 : decode cX8_pass 16 = .ok (.aload_n 0, 1) := by decide +kernel
theorem dX8_pass_17 : decode cX8_pass 17 = .ok (.iconst 1, 1) := by decide +kernel
theorem dX8_pass_18 : decode cX8_pass 18 = .ok (.invokevirtual 42, 3) := by decide +kernel
theorem dX8_pass_21 : decode cX8_pass 21 = .ok (.ireturn, 1) := by decide +kernel
theorem dX8_pass_22 : decode cX8_pass 22 = .ok (.iconst 0, 1) := by decide +kernel
theorem dX8_pass_23 : decode cX8_pass 23 = .ok (.istore_n 2, 1) := by decide +kernel
theorem dX8_pass_24 : decode cX8_pass 24 = .ok (.iconst 0, 1) := by decide +kernel
theorem dX8_pass_25 : decode cX8_pass 25 = .ok (.istore_n 3, 1) := by decide +kernel
theorem dX8_pass_26 : decode cX8_pass 26 = .ok (.iload_n 3, 1) := by decide +kernel
theorem dX8_pass_27 : decode cX8_pass 27 = .ok (.iload_n 1, 1) := by decide +kernel
theorem dX8_pass_28 : decode cX8_pass 28 = .ok (.if_icmp .ge 19, 3) := by decide +kernel
theorem dX8_pass_31 : decode cX8_pass 31 = .ok (.iload_n 2, 1) := by decide +kernel
theorem dX8_pass_32 : decode cX8_pass 32 = .ok (.aload_n 0, 1) := by decide +kernel
theorem dX8_pass_33 : decode cX8_pass 33 = .ok (.getfield 21, 3) := by decide +kernel
theorem dX8_pass_36 : decode cX8_pass 36 = .ok (.invokevirtual 128, 3) := by decide +kernel
theorem dX8_pass_39 : decode cX8_pass 39 = .ok (.iadd, 1) := by decide +kernel
theorem dX8_pass_40 : decode cX8_pass 40 = .ok (.istore_n 2, 1) := by decide +kernel
theorem dX8_pass_41 : decode cX8_pass 41 = .ok (.iinc 3 1, 3) := by decide +kernel
theorem dX8_pass_44 : decode cX8_pass 44 = .ok (.goto (-18), 3) := by decide +kernel
theorem dX8_pass_47 : decode cX8_pass 47 = .ok (.iload_n 2, 1) := by decide +kernel
theorem dX8_pass_48 : decode cX8_pass 48 = .ok (.ireturn, 1) := by decide +kernel
theorem dX8_counted_0 : decode cX8_counted 0 = .ok (.iconst 0, 1) := by decide +kernel
theorem dX8_counted_1 : decode cX8_counted 1 = .ok (.istore_n 2, 1) := by decide +kernel
theorem dX8_counted_2 : decode cX8_counted 2 = .ok (.iconst 0, 1) := by decide +kernel
theorem dX8_counted_3 : decode cX8_counted 3 = .ok (.istore_n 3, 1) := by decide +kernel
theorem dX8_counted_4 : decode cX8_counted 4 = .ok (.iconst 0, 1) := by decide +kernel
theorem dX8_counted_5 : decode cX8_counted 5 = .ok (.istore 4, 2) := by decide +kernel
theorem dX8_counted_7 : decode cX8_counted 7 = .ok (.iload 4, 2) := by decide +kernel
theorem dX8_counted_9 : decode cX8_counted 9 = .ok (.bipush 60, 2) := by decide +kernel
theorem dX8_counted_11 : decode cX8_counted 11 = .ok (.if_icmp .ge 31, 3) := by decide +kernel
theorem dX8_counted_14 : decode cX8_counted 14 = .ok (.iload_n 2, 1) := by decide +kernel
theorem dX8_counted_15 : decode cX8_counted 15 = .ok (.aload_n 0, 1) := by decide +kernel
theorem dX8_counted_16 : decode cX8_counted 16 = .ok (.getfield 21, 3) := by decide +kernel
theorem dX8_counted_19 : decode cX8_counted 19 = .ok (.getfield 125, 3) := by decide +kernel
theorem dX8_counted_22 : decode cX8_counted 22 = .ok (.iload 4, 2) := by decide +kernel
theorem dX8_counted_24 : decode cX8_counted 24 = .ok (.iaload, 1) := by decide +kernel
theorem dX8_counted_25 : decode cX8_counted 25 = .ok (.iconst (-1), 1) := by decide +kernel
theorem dX8_counted_26 : decode cX8_counted 26 = .ok (.if_icmp .ne 7, 3) := by decide +kernel
theorem dX8_counted_29 : decode cX8_counted 29 = .ok (.iconst 0, 1) := by decide +kernel
theorem dX8_counted_30 : decode cX8_counted 30 = .ok (.goto 4, 3) := by decide +kernel
theorem dX8_counted_33 : decode cX8_counted 33 = .ok (.iconst 1, 1) := by decide +kernel
theorem dX8_counted_34 : decode cX8_counted 34 = .ok (.iadd, 1) := by decide +kernel
theorem dX8_counted_35 : decode cX8_counted 35 = .ok (.istore_n 2, 1) := by decide +kernel
theorem dX8_counted_36 : decode cX8_counted 36 = .ok (.iinc 4 1, 3) := by decide +kernel
theorem dX8_counted_39 : decode cX8_counted 39 = .ok (.goto (-32), 3) := by decide +kernel
theorem dX8_counted_42 : decode cX8_counted 42 = .ok (.iconst 0, 1) := by decide +kernel
theorem dX8_counted_43 : decode cX8_counted 43 = .ok (.istore 4, 2) := by decide +kernel
theorem dX8_counted_45 : decode cX8_counted 45 = .ok (.iload 4, 2) := by decide +kernel
theorem dX8_counted_47 : decode cX8_counted 47 = .ok (.aload_n 0, 1) := by decide +kernel
theorem dX8_counted_48 : decode cX8_counted 48 = .ok (.getfield 21, 3) := by decide +kernel
theorem dX8_counted_51 : decode cX8_counted 51 = .ok (.getfield 39, 3) := by decide +kernel
theorem dX8_counted_54 : decode cX8_counted 54 = .ok (.if_icmp .ge 40, 3) := by decide +kernel
theorem dX8_counted_57 : decode cX8_counted 57 = .ok (.iload_n 3, 1) := by decide +kernel
theorem dX8_counted_58 : decode cX8_counted 58 = .ok (.aload_n 0, 1) := by decide +kernel
theorem dX8_counted_59 : decode cX8_counted 59 = .ok (.getfield 21, 3) := by decide +kernel
theorem dX8_counted_62 : decode cX8_counted 62 = .ok (.iload 4, 2) := by decide +kernel
theorem dX8_counted_64 : decode cX8_counted 64 = .ok (.bipush 6, 2) := by decide +kernel
theorem dX8_counted_66 : decode cX8_counted 66 = .ok (.invokevirtual 56, 3) := by decide +kernel
theorem dX8_counted_69 : decode cX8_counted 69 = .ok (.ifCond .ne 16, 3) := by decide +kernel
theorem dX8_counted_72 : decode cX8_counted 72 = .ok (.aload_n 0, 1) := by decide +kernel
theorem dX8_counted_73 : decode cX8_counted 73 = .ok (.getfield 21, 3) := by decide +kernel
theorem dX8_counted_76 : decode cX8_counted 76 = .ok (.iload 4, 2) := by decide +kernel
theorem dX8_counted_78 : decode cX8_counted 78 = .ok (.iconst 4, 1) := by decide +kernel
theorem dX8_counted_79 : decode cX8_counted 79 = .ok (.invokevirtual 56, 3) := by decide +kernel
theorem dX8_counted_82 : decode cX8_counted 82 = .ok (.goto 4, 3) := by decide +kernel
theorem dX8_counted_85 : decode cX8_counted 85 = .ok (.iconst 0, 1) := by decide +kernel
theorem dX8_counted_86 : decode cX8_counted 86 = .ok (.iadd, 1) := by decide +kernel
theorem dX8_counted_87 : decode cX8_counted 87 = .ok (.istore_n 3, 1) := by decide +kernel
theorem dX8_counted_88 : decode cX8_counted 88 = .ok (.iinc 4 1, 3) := by decide +kernel
theorem dX8_counted_91 : decode cX8_counted 91 = .ok (.goto (-46), 3) := by decide +kernel
theorem dX8_counted_94 : decode cX8_counted 94 = .ok (.bipush 11, 2) := by decide +kernel
theorem dX8_counted_96 : decode cX8_counted 96 = .ok (.newarray .int, 2) := by decide +kernel
theorem dX8_counted_98 : decode cX8_counted 98 = .ok (.dup, 1) := by decide +kernel
theorem dX8_counted_99 : decode cX8_counted 99 = .ok (.iconst 0, 1) := by decide +kernel
theorem dX8_counted_100 : decode cX8_counted 100 = .ok (.aload_n 0, 1) := by decide +kernel
theorem dX8_counted_101 : decode cX8_counted 101 = .ok (.getfield 21, 3) := by decide +kernel
theorem dX8_counted_104 : decode cX8_counted 104 = .ok (.getfield 77, 3) := by decide +kernel
theorem dX8_counted_107 : decode cX8_counted 107 = .ok (.iastore, 1) := by decide +kernel
theorem dX8_counted_108 : decode cX8_counted 108 = .ok (.dup, 1) := by decide +kernel
theorem dX8_counted_109 : decode cX8_counted 109 = .ok (.iconst 1, 1) := by decide +kernel
theorem dX8_counted_110 : decode cX8_counted 110 = .ok (.aload_n 0, 1) := by decide +kernel
theorem dX8_counted_111 : decode cX8_counted 111 = .ok (.getfield 21, 3) := by decide +kernel
theorem dX8_counted_114 : decode cX8_counted 114 = .ok (.getfield 74, 3) := by decide +kernel
theorem dX8_counted_117 : decode cX8_counted 117 = .ok (.iastore, 1) := by decide +kernel
theorem dX8_counted_118 : decode cX8_counted 118 = .ok (.dup, 1) := by decide +kernel
theorem dX8_counted_119 : decode cX8_counted 119 = .ok (.iconst 2, 1) := by decide +kernel
theorem dX8_counted_120 : decode cX8_counted 120 = .ok (.aload_n 0, 1) := by decide +kernel
theorem dX8_counted_121 : decode cX8_counted 121 = .ok (.getfield 32, 3) := by decide +kernel
theorem dX8_counted_124 : decode cX8_counted 124 = .ok (.iastore, 1) := by decide +kernel
theorem dX8_counted_125 : decode cX8_counted 125 = .ok (.dup, 1) := by decide +kernel
theorem dX8_counted_126 : decode cX8_counted 126 = .ok (.iconst 3, 1) := by decide +kernel
theorem dX8_counted_127 : decode cX8_counted 127 = .ok (.aload_n 0, 1) := by decide +kernel
theorem dX8_counted_128 : decode cX8_counted 128 = .ok (.getfield 21, 3) := by decide +kernel
theorem dX8_counted_131 : decode cX8_counted 131 = .ok (.getfield 39, 3) := by decide +kernel
theorem dX8_counted_134 : decode cX8_counted 134 = .ok (.iastore, 1) := by decide +kernel
theorem dX8_counted_135 : decode cX8_counted 135 = .ok (.dup, 1) := by decide +kernel
theorem dX8_counted_136 : decode cX8_counted 136 = .ok (.iconst 4, 1) := by decide +kernel
theorem dX8_counted_137 : decode cX8_counted 137 = .ok (.aload_n 0, 1) := by decide +kernel
theorem dX8_counted_138 : decode cX8_counted 138 = .ok (.getfield 21, 3) := by decide +kernel
theorem dX8_counted_141 : decode cX8_counted 141 = .ok (.iconst 0, 1) := by decide +kernel
theorem dX8_counted_142 : decode cX8_counted 142 = .ok (.invokevirtual 132, 3) := by decide +kernel
theorem dX8_counted_145 : decode cX8_counted 145 = .ok (.iastore, 1) := by decide +kernel
theorem dX8_counted_146 : decode cX8_counted 146 = .ok (.dup, 1) := by decide +kernel
theorem dX8_counted_147 : decode cX8_counted 147 = .ok (.iconst 5, 1) := by decide +kernel
theorem dX8_counted_148 : decode cX8_counted 148 = .ok (.aload_n 0, 1) := by decide +kernel
theorem dX8_counted_149 : decode cX8_counted 149 = .ok (.getfield 21, 3) := by decide +kernel
theorem dX8_counted_152 : decode cX8_counted 152 = .ok (.iconst 1, 1) := by decide +kernel
theorem dX8_counted_153 : decode cX8_counted 153 = .ok (.invokevirtual 132, 3) := by decide +kernel
theorem dX8_counted_156 : decode cX8_counted 156 = .ok (.iastore, 1) := by decide +kernel
theorem dX8_counted_157 : decode cX8_counted 157 = .ok (.dup, 1) := by decide +kernel
theorem dX8_counted_158 : decode cX8_counted 158 = .ok (.bipush 6, 2) := by decide +kernel
theorem dX8_counted_160 : decode cX8_counted 160 = .ok (.aload_n 0, 1) := by decide +kernel
theorem dX8_counted_161 : decode cX8_counted 161 = .ok (.getfield 21, 3) := by decide +kernel
theorem dX8_counted_164 : decode cX8_counted 164 = .ok (.iconst 2, 1) := by decide +kernel
theorem dX8_counted_165 : decode cX8_counted 165 = .ok (.invokevirtual 132, 3) := by decide +kernel
theorem dX8_counted_168 : decode cX8_counted 168 = .ok (.iastore, 1) := by decide +kernel
theorem dX8_counted_169 : decode cX8_counted 169 = .ok (.dup, 1) := by decide +kernel
theorem dX8_counted_170 : decode cX8_counted 170 = .ok (.bipush 7, 2) := by decide +kernel
theorem dX8_counted_172 : decode cX8_counted 172 = .ok (.aload_n 0, 1) := by decide +kernel
theorem dX8_counted_173 : decode cX8_counted 173 = .ok (.getfield 21, 3) := by decide +kernel
theorem dX8_counted_176 : decode cX8_counted 176 = .ok (.iconst 3, 1) := by decide +kernel
theorem dX8_counted_177 : decode cX8_counted 177 = .ok (.invokevirtual 132, 3) := by decide +kernel
theorem dX8_counted_180 : decode cX8_counted 180 = .ok (.iastore, 1) := by decide +kernel
theorem dX8_counted_181 : decode cX8_counted 181 = .ok (.dup, 1) := by decide +kernel
theorem dX8_counted_182 : decode cX8_counted 182 = .ok (.bipush 8, 2) := by decide +kernel
theorem dX8_counted_184 : decode cX8_counted 184 = .ok (.iload_n 2, 1) := by decide +kernel
theorem dX8_counted_185 : decode cX8_counted 185 = .ok (.iastore, 1) := by decide +kernel
theorem dX8_counted_186 : decode cX8_counted 186 = .ok (.dup, 1) := by decide +kernel
theorem dX8_counted_187 : decode cX8_counted 187 = .ok (.bipush 9, 2) := by decide +kernel
theorem dX8_counted_189 : decode cX8_counted 189 = .ok (.iload_n 3, 1) := by decide +kernel
theorem dX8_counted_190 : decode cX8_counted 190 = .ok (.iastore, 1) := by decide +kernel
theorem dX8_counted_191 : decode cX8_counted 191 = .ok (.dup, 1) := by decide +kernel
theorem dX8_counted_192 : decode cX8_counted 192 = .ok (.bipush 10, 2) := by decide +kernel
theorem dX8_counted_194 : decode cX8_counted 194 = .ok (.aload_n 0, 1) := by decide +kernel
theorem dX8_counted_195 : decode cX8_counted 195 = .ok (.getfield 21, 3) := by decide +kernel
theorem dX8_counted_198 : decode cX8_counted 198 = .ok (.getfield 105, 3) := by decide +kernel
theorem dX8_counted_201 : decode cX8_counted 201 = .ok (.iastore, 1) := by decide +kernel
theorem dX8_counted_202 : decode cX8_counted 202 = .ok (.astore 4, 2) := by decide +kernel
theorem dX8_counted_204 : decode cX8_counted 204 = .ok (.aload 4, 2) := by decide +kernel
theorem dX8_counted_206 : decode cX8_counted 206 = .ok (.iload_n 1, 1) := by decide +kernel
theorem dX8_counted_207 : decode cX8_counted 207 = .ok (.iaload, 1) := by decide +kernel
theorem dX8_counted_208 : decode cX8_counted 208 = .ok (.ireturn, 1) := by decide +kernel
theorem dX8_count_0 : decode cX8_count 0 = .ok (.aload_n 0, 1) := by decide +kernel
theorem dX8_count_1 : decode cX8_count 1 = .ok (.iconst 0, 1) := by decide +kernel
theorem dX8_count_2 : decode cX8_count 2 = .ok (.putfield 28, 3) := by decide +kernel
theorem dX8_count_5 : decode cX8_count 5 = .ok (.iload_n 1, 1) := by decide +kernel
theorem dX8_count_6 : decode cX8_count 6 = .ok (.iconst 0, 1) := by decide +kernel
theorem dX8_count_7 : decode cX8_count 7 = .ok (.bipush 10, 2) := by decide +kernel
theorem dX8_count_9 : decode cX8_count 9 = .ok (.invokestatic 35, 3) := by decide +kernel
theorem dX8_count_12 : decode cX8_count 12 = .ok (.ifCond .eq 11, 3) := by decide +kernel
theorem dX8_count_15 : decode cX8_count 15 = .ok (.aload_n 0, 1) := by decide +kernel
theorem dX8_count_16 : decode cX8_count 16 = .ok (.iload_n 1, 1) := by decide +kernel
theorem dX8_count_17 : decode cX8_count 17 = .ok (.invokevirtual 135, 3) := by decide +kernel
theorem dX8_count_20 : decode cX8_count 20 = .ok (.goto 8, 3) := by decide +kernel
theorem dX8_count_23 : decode cX8_count 23 = .ok (.aload_n 0, 1) := by decide +kernel
theorem dX8_count_24 : decode cX8_count 24 = .ok (.iconst 1, 1) := by decide +kernel
theorem dX8_count_25 : decode cX8_count 25 = .ok (.invokevirtual 42, 3) := by decide +kernel
theorem dX8_count_28 : decode cX8_count 28 = .ok (.ireturn, 1) := by decide +kernel
theorem dX8_foresee_0 : decode cX8_foresee 0 = .ok (.aload_n 0, 1) := by decide +kernel
theorem dX8_foresee_1 : decode cX8_foresee 1 = .ok (.iconst 0, 1) := by decide +kernel
theorem dX8_foresee_2 : decode cX8_foresee 2 = .ok (.putfield 28, 3) := by decide +kernel
theorem dX8_foresee_5 : decode cX8_foresee 5 = .ok (.iload_n 1, 1) := by decide +kernel
theorem dX8_foresee_6 : decode cX8_foresee 6 = .ok (.iconst 1, 1) := by decide +kernel
theorem dX8_foresee_7 : decode cX8_foresee 7 = .ok (.sipush 200, 3) := by decide +kernel
theorem dX8_foresee_10 : decode cX8_foresee 10 = .ok (.invokestatic 35, 3) := by decide +kernel
theorem dX8_foresee_13 : decode cX8_foresee 13 = .ok (.ifCond .ne 9, 3) := by decide +kernel
theorem dX8_foresee_16 : decode cX8_foresee 16 = .ok (.aload_n 0, 1) := by decide +kernel
theorem dX8_foresee_17 : decode cX8_foresee 17 = .ok (.iconst 1, 1) := by decide +kernel
theorem dX8_foresee_18 : decode cX8_foresee 18 = .ok (.invokevirtual 42, 3) := by decide +kernel
theorem dX8_foresee_21 : decode cX8_foresee 21 = .ok (.ireturn, 1) := by decide +kernel
theorem dX8_foresee_22 : decode cX8_foresee 22 = .ok (.iload_n 2, 1) := by decide +kernel
theorem dX8_foresee_23 : decode cX8_foresee 23 = .ok (.iconst 0, 1) := by decide +kernel
theorem dX8_foresee_24 : decode cX8_foresee 24 = .ok (.iconst 2, 1) := by decide +kernel
theorem dX8_foresee_25 : decode cX8_foresee 25 = .ok (.invokestatic 35, 3) := by decide +kernel
theorem dX8_foresee_28 : decode cX8_foresee 28 = .ok (.ifCond .ne 9, 3) := by decide +kernel
theorem dX8_foresee_31 : decode cX8_foresee 31 = .ok (.aload_n 0, 1) := by decide +kernel
theorem dX8_foresee_32 : decode cX8_foresee 32 = .ok (.iconst 2, 1) := by decide +kernel
theorem dX8_foresee_33 : decode cX8_foresee 33 = .ok (.invokevirtual 42, 3) := by decide +kernel
theorem dX8_foresee_36 : decode cX8_foresee 36 = .ok (.ireturn, 1) := by decide +kernel
theorem dX8_foresee_37 : decode cX8_foresee 37 = .ok (.aload_n 0, 1) := by decide +kernel
theorem dX8_foresee_38 : decode cX8_foresee 38 = .ok (.getfield 25, 3) := by decide +kernel
theorem dX8_foresee_41 : decode cX8_foresee 41 = .ok (.aload_n 0, 1) := by decide +kernel
theorem dX8_foresee_42 : decode cX8_foresee 42 = .ok (.getfield 21, 3) := by decide +kernel
theorem dX8_foresee_45 : decode cX8_foresee 45 = .ok (.invokevirtual 138, 3) := by decide +kernel
theorem dX8_foresee_48 : decode cX8_foresee 48 = .ok (.iconst 0, 1) := by decide +kernel
theorem dX8_foresee_49 : decode cX8_foresee 49 = .ok (.istore_n 3, 1) := by decide +kernel
theorem dX8_foresee_50 : decode cX8_foresee 50 = .ok (.iconst 0, 1) := by decide +kernel
theorem dX8_foresee_51 : decode cX8_foresee 51 = .ok (.istore 4, 2) := by decide +kernel
theorem dX8_foresee_53 : decode cX8_foresee 53 = .ok (.iload 4, 2) := by decide +kernel
theorem dX8_foresee_55 : decode cX8_foresee 55 = .ok (.iload_n 1, 1) := by decide +kernel
theorem dX8_foresee_56 : decode cX8_foresee 56 = .ok (.if_icmp .ge 19, 3) := by decide +kernel
theorem dX8_foresee_59 : decode cX8_foresee 59 = .ok (.iload_n 3, 1) := by decide +kernel
theorem dX8_foresee_60 : decode cX8_foresee 60 = .ok (.aload_n 0, 1) := by decide +kernel
theorem dX8_foresee_61 : decode cX8_foresee 61 = .ok (.getfield 25, 3) := by decide +kernel
theorem dX8_foresee_64 : decode cX8_foresee 64 = .ok (.invokevirtual 128, 3) := by decide +kernel
theorem dX8_foresee_67 : decode cX8_foresee 67 = .ok (.iadd, 1) := by decide +kernel
theorem dX8_foresee_68 : decode cX8_foresee 68 = .ok (.istore_n 3, 1) := by decide +kernel
theorem dX8_foresee_69 : decode cX8_foresee 69 = .ok (.iinc 4 1, 3) := by decide +kernel
theorem dX8_foresee_72 : decode cX8_foresee 72 = .ok (.goto (-19), 3) := by decide +kernel
theorem dX8_foresee_75 : decode cX8_foresee 75 = .ok (.iload_n 2, 1) := by decide +kernel
theorem dX8_foresee_76 : decode cX8_foresee 76 = .ok (.ifCond .ne 13, 3) := by decide +kernel
theorem dX8_foresee_79 : decode cX8_foresee 79 = .ok (.aload_n 0, 1) := by decide +kernel
theorem dX8_foresee_80 : decode cX8_foresee 80 = .ok (.getfield 25, 3) := by decide +kernel
theorem dX8_foresee_83 : decode cX8_foresee 83 = .ok (.getfield 74, 3) := by decide +kernel
theorem dX8_foresee_86 : decode cX8_foresee 86 = .ok (.goto 20, 3) := by decide +kernel
theorem dX8_foresee_89 : decode cX8_foresee 89 = .ok (.iload_n 2, 1) := by decide +kernel
theorem dX8_foresee_90 : decode cX8_foresee 90 = .ok (.iconst 1, 1) := by decide +kernel
theorem dX8_foresee_91 : decode cX8_foresee 91 = .ok (.if_icmp .ne 7, 3) := by decide +kernel
theorem dX8_foresee_94 : decode cX8_foresee 94 = .ok (.iload_n 3, 1) := by decide +kernel
theorem dX8_foresee_95 : decode cX8_foresee 95 = .ok (.goto 11, 3) := by decide +kernel
theorem dX8_foresee_98 : decode cX8_foresee 98 = .ok (.aload_n 0, 1) := by decide +kernel
theorem dX8_foresee_99 : decode cX8_foresee 99 = .ok (.getfield 25, 3) := by decide +kernel
theorem dX8_foresee_102 : decode cX8_foresee 102 = .ok (.iconst 2, 1) := by decide +kernel
theorem dX8_foresee_103 : decode cX8_foresee 103 = .ok (.invokevirtual 132, 3) := by decide +kernel
theorem dX8_foresee_106 : decode cX8_foresee 106 = .ok (.ireturn, 1) := by decide +kernel
theorem dX8_raise_0 : decode cX8_raise 0 = .ok (.aload_n 0, 1) := by decide +kernel
theorem dX8_raise_1 : decode cX8_raise 1 = .ok (.iconst 0, 1) := by decide +kernel
theorem dX8_raise_2 : decode cX8_raise 2 = .ok (.putfield 28, 3) := by decide +kernel
theorem dX8_raise_5 : decode cX8_raise 5 = .ok (.iload_n 1, 1) := by decide +kernel
theorem dX8_raise_6 : decode cX8_raise 6 = .ok (.iconst 1, 1) := by decide +kernel
theorem dX8_raise_7 : decode cX8_raise 7 = .ok (.if_icmp .ge 9, 3) := by decide +kernel
theorem dX8_raise_10 : decode cX8_raise 10 = .ok (.aload_n 0, 1) := by decide +kernel
theorem dX8_raise_11 : decode cX8_raise 11 = .ok (.iconst 1, 1) := by decide +kernel
theorem dX8_raise_12 : decode cX8_raise 12 = .ok (.invokevirtual 42, 3) := by decide +kernel
theorem dX8_raise_15 : decode cX8_raise 15 = .ok (.ireturn, 1) := by decide +kernel
theorem dX8_raise_16 : decode cX8_raise 16 = .ok (.sipush 501, 3) := by decide +kernel
theorem dX8_raise_19 : decode cX8_raise 19 = .ok (.newarray .int, 2) := by decide +kernel
theorem dX8_raise_21 : decode cX8_raise 21 = .ok (.astore_n 2, 1) := by decide +kernel
theorem dX8_raise_22 : decode cX8_raise 22 = .ok (.iconst 0, 1) := by decide +kernel
theorem dX8_raise_23 : decode cX8_raise 23 = .ok (.istore_n 3, 1) := by decide +kernel
theorem dX8_raise_24 : decode cX8_raise 24 = .ok (.iload_n 3, 1) := by decide +kernel
theorem dX8_raise_25 : decode cX8_raise 25 = .ok (.aload_n 0, 1) := by decide +kernel
theorem dX8_raise_26 : decode cX8_raise 26 = .ok (.getfield 21, 3) := by decide +kernel
theorem dX8_raise_29 : decode cX8_raise 29 = .ok (.getfield 39, 3) := by decide +kernel
theorem dX8_raise_32 : decode cX8_raise 32 = .ok (.if_icmp .ge 39, 3) := by decide +kernel
theorem dX8_raise_35 : decode cX8_raise 35 = .ok (.aload_n 0, 1) := by decide +kernel
theorem dX8_raise_36 : decode cX8_raise 36 = .ok (.getfield 21, 3) := by decide +kernel
theorem dX8_raise_39 : decode cX8_raise 39 = .ok (.iload_n 3, 1) := by decide +kernel
theorem dX8_raise_40 : decode cX8_raise 40 = .ok (.bipush 6, 2) := by decide +kernel
theorem dX8_raise_42 : decode cX8_raise 42 = .ok (.invokevirtual 56, 3) := by decide +kernel
theorem dX8_raise_45 : decode cX8_raise 45 = .ok (.iconst 2, 1) := by decide +kernel
theorem dX8_raise_46 : decode cX8_raise 46 = .ok (.if_icmp .ne 19, 3) := by decide +kernel
theorem dX8_raise_49 : decode cX8_raise 49 = .ok (.aload_n 2, 1) := by decide +kernel
theorem dX8_raise_50 : decode cX8_raise 50 = .ok (.aload_n 0, 1) := by decide +kernel
theorem dX8_raise_51 : decode cX8_raise 51 = .ok (.getfield 21, 3) := by decide +kernel
theorem dX8_raise_54 : decode cX8_raise 54 = .ok (.iload_n 3, 1) := by decide +kernel
theorem dX8_raise_55 : decode cX8_raise 55 = .ok (.bipush 8, 2) := by decide +kernel
theorem dX8_raise_57 : decode cX8_raise 57 = .ok (.invokevirtual 56, 3) := by decide +kernel
theorem dX8_raise_60 : decode cX8_raise 60 = .ok (.dup2, 1) := by decide +kernel
theorem dX8_raise_61 : decode cX8_raise 61 = .ok (.iaload, 1) := by decide +kernel
theorem dX8_raise_62 : decode cX8_raise 62 = .ok (.iconst 1, 1) := by decide +kernel
theorem dX8_raise_63 : decode cX8_raise 63 = .ok (.iadd, 1) := by decide +kernel
theorem dX8_raise_64 : decode cX8_raise 64 = .ok (.iastore, 1) := by decide +kernel
theorem dX8_raise_65 : decode cX8_raise 65 = .ok (.iinc 3 1, 3) := by decide +kernel
theorem dX8_raise_68 : decode cX8_raise 68 = .ok (.goto (-44), 3) := by decide +kernel
theorem dX8_raise_71 : decode cX8_raise 71 = .ok (.iconst 0, 1) := by decide +kernel
theorem dX8_raise_72 : decode cX8_raise 72 = .ok (.istore_n 3, 1) := by decide +kernel
theorem dX8_raise_73 : decode cX8_raise 73 = .ok (.iconst 0, 1) := by decide +kernel
theorem dX8_raise_74 : decode cX8_raise 74 = .ok (.istore 4, 2) := by decide +kernel
theorem dX8_raise_76 : decode cX8_raise 76 = .ok (.sipush 500, 3) := by decide +kernel
theorem dX8_raise_79 : decode cX8_raise 79 = .ok (.istore 5, 2) := by decide +kernel
theorem dX8_raise_81 : decode cX8_raise 81 = .ok (.iload 5, 2) := by decide +kernel
theorem dX8_raise_83 : decode cX8_raise 83 = .ok (.ifCond .le 45, 3) := by decide +kernel
theorem dX8_raise_86 : decode cX8_raise 86 = .ok (.iconst 0, 1) := by decide +kernel
theorem dX8_raise_87 : decode cX8_raise 87 = .ok (.istore 6, 2) := by decide +kernel
theorem dX8_raise_89 : decode cX8_raise 89 = .ok (.iload 6, 2) := by decide +kernel
theorem dX8_raise_91 : decode cX8_raise 91 = .ok (.aload_n 2, 1) := by decide +kernel
theorem dX8_raise_92 : decode cX8_raise 92 = .ok (.iload 5, 2) := by decide +kernel
theorem dX8_raise_94 : decode cX8_raise 94 = .ok (.iaload, 1) := by decide +kernel
theorem dX8_raise_95 : decode cX8_raise 95 = .ok (.if_icmp .ge 27, 3) := by decide +kernel
theorem dX8_raise_98 : decode cX8_raise 98 = .ok (.iload 4, 2) := by decide +kernel
theorem dX8_raise_100 : decode cX8_raise 100 = .ok (.iload 5, 2) := by decide +kernel
theorem dX8_raise_102 : decode cX8_raise 102 = .ok (.iadd, 1) := by decide +kernel
theorem dX8_raise_103 : decode cX8_raise 103 = .ok (.istore 4, 2) := by decide +kernel
theorem dX8_raise_105 : decode cX8_raise 105 = .ok (.iinc 3 1, 3) := by decide +kernel
theorem dX8_raise_108 : decode cX8_raise 108 = .ok (.iload 4, 2) := by decide +kernel
theorem dX8_raise_110 : decode cX8_raise 110 = .ok (.iload_n 1, 1) := by decide +kernel
theorem dX8_raise_111 : decode cX8_raise 111 = .ok (.if_icmp .lt 5, 3) := by decide +kernel
theorem dX8_raise_114 : decode cX8_raise 114 = .ok (.iload_n 3, 1) := by decide +kernel
theorem dX8_raise_115 : decode cX8_raise 115 = .ok (.ireturn, 1) := by decide +kernel
theorem dX8_raise_116 : decode cX8_raise 116 = .ok (.iinc 6 1, 3) := by decide +kernel
theorem dX8_raise_119 : decode cX8_raise 119 = .ok (.goto (-30), 3) := by decide +kernel
theorem dX8_raise_122 : decode cX8_raise 122 = .ok (.iinc 5 (-1), 3) := by decide +kernel
theorem dX8_raise_125 : decode cX8_raise 125 = .ok (.goto (-44), 3) := by decide +kernel
theorem dX8_raise_128 : decode cX8_raise 128 = .ok (.iconst (-1), 1) := by decide +kernel
theorem dX8_raise_129 : decode cX8_raise 129 = .ok (.ireturn, 1) := by decide +kernel
theorem dX8_best_0 : decode cX8_best 0 = .ok (.aload_n 0, 1) := by decide +kernel
theorem dX8_best_1 : decode cX8_best 1 = .ok (.iconst 0, 1) := by decide +kernel
theorem dX8_best_2 : decode cX8_best 2 = .ok (.putfield 28, 3) := by decide +kernel
theorem dX8_best_5 : decode cX8_best 5 = .ok (.aload_n 0, 1) := by decide +kernel
theorem dX8_best_6 : decode cX8_best 6 = .ok (.iload_n 1, 1) := by decide +kernel
theorem dX8_best_7 : decode cX8_best 7 = .ok (.invokevirtual 52, 3) := by decide +kernel
theorem dX8_best_10 : decode cX8_best 10 = .ok (.ifCond .ne 9, 3) := by decide +kernel
theorem dX8_best_13 : decode cX8_best 13 = .ok (.aload_n 0, 1) := by decide +kernel
theorem dX8_best_14 : decode cX8_best 14 = .ok (.iconst 1, 1) := by decide +kernel
theorem dX8_best_15 : decode cX8_best 15 = .ok (.invokevirtual 42, 3) := by decide +kernel
theorem dX8_best_18 : decode cX8_best 18 = .ok (.ireturn, 1) := by decide +kernel
theorem dX8_best_19 : decode cX8_best 19 = .ok (.iconst (-1), 1) := by decide +kernel
theorem dX8_best_20 : decode cX8_best 20 = .ok (.istore_n 2, 1) := by decide +kernel
theorem dX8_best_21 : decode cX8_best 21 = .ok (.iconst 0, 1) := by decide +kernel
theorem dX8_best_22 : decode cX8_best 22 = .ok (.istore_n 3, 1) := by decide +kernel
theorem dX8_best_23 : decode cX8_best 23 = .ok (.iconst 0, 1) := by decide +kernel
theorem dX8_best_24 : decode cX8_best 24 = .ok (.istore 4, 2) := by decide +kernel
theorem dX8_best_26 : decode cX8_best 26 = .ok (.iload 4, 2) := by decide +kernel
theorem dX8_best_28 : decode cX8_best 28 = .ok (.aload_n 0, 1) := by decide +kernel
theorem dX8_best_29 : decode cX8_best 29 = .ok (.getfield 21, 3) := by decide +kernel
theorem dX8_best_32 : decode cX8_best 32 = .ok (.getfield 39, 3) := by decide +kernel
theorem dX8_best_35 : decode cX8_best 35 = .ok (.if_icmp .ge 103, 3) := by decide +kernel
theorem dX8_best_38 : decode cX8_best 38 = .ok (.aload_n 0, 1) := by decide +kernel
theorem dX8_best_39 : decode cX8_best 39 = .ok (.getfield 21, 3) := by decide +kernel
theorem dX8_best_42 : decode cX8_best 42 = .ok (.iload 4, 2) := by decide +kernel
theorem dX8_best_44 : decode cX8_best 44 = .ok (.iconst 0, 1) := by decide +kernel
theorem dX8_best_45 : decode cX8_best 45 = .ok (.invokevirtual 56, 3) := by decide +kernel
theorem dX8_best_48 : decode cX8_best 48 = .ok (.iload_n 1, 1) := by decide +kernel
theorem dX8_best_49 : decode cX8_best 49 = .ok (.if_icmp .ne 83, 3) := by decide +kernel
theorem dX8_best_52 : decode cX8_best 52 = .ok (.aload_n 0, 1) := by decide +kernel
theorem dX8_best_53 : decode cX8_best 53 = .ok (.getfield 21, 3) := by decide +kernel
theorem dX8_best_56 : decode cX8_best 56 = .ok (.iload 4, 2) := by decide +kernel
theorem dX8_best_58 : decode cX8_best 58 = .ok (.bipush 6, 2) := by decide +kernel
theorem dX8_best_60 : decode cX8_best 60 = .ok (.invokevirtual 56, 3) := by decide +kernel
theorem dX8_best_63 : decode cX8_best 63 = .ok (.ifCond .ne 69, 3) := by decide +kernel
theorem dX8_best_66 : decode cX8_best 66 = .ok (.aload_n 0, 1) := by decide +kernel
theorem dX8_best_67 : decode cX8_best 67 = .ok (.getfield 21, 3) := by decide +kernel
theorem dX8_best_70 : decode cX8_best 70 = .ok (.iload 4, 2) := by decide +kernel
theorem dX8_best_72 : decode cX8_best 72 = .ok (.invokevirtual 60, 3) := by decide +kernel
theorem dX8_best_75 : decode cX8_best 75 = .ok (.aload_n 0, 1) := by decide +kernel
theorem dX8_best_76 : decode cX8_best 76 = .ok (.getfield 21, 3) := by decide +kernel
theorem dX8_best_79 : decode cX8_best 79 = .ok (.getfield 46, 3) := by decide +kernel
theorem dX8_best_82 : decode cX8_best 82 = .ok (.iload_n 1, 1) := by decide +kernel
theorem dX8_best_83 : decode cX8_best 83 = .ok (.iaload, 1) := by decide +kernel
theorem dX8_best_84 : decode cX8_best 84 = .ok (.if_icmp .le 6, 3) := by decide +kernel
theorem dX8_best_87 : decode cX8_best 87 = .ok (.goto 45, 3) := by decide +kernel
theorem dX8_best_90 : decode cX8_best 90 = .ok (.aload_n 0, 1) := by decide +kernel
theorem dX8_best_91 : decode cX8_best 91 = .ok (.getfield 21, 3) := by decide +kernel
theorem dX8_best_94 : decode cX8_best 94 = .ok (.iload 4, 2) := by decide +kernel
theorem dX8_best_96 : decode cX8_best 96 = .ok (.iconst 2, 1) := by decide +kernel
theorem dX8_best_97 : decode cX8_best 97 = .ok (.invokevirtual 56, 3) := by decide +kernel
theorem dX8_best_100 : decode cX8_best 100 = .ok (.aload_n 0, 1) := by decide +kernel
theorem dX8_best_101 : decode cX8_best 101 = .ok (.getfield 21, 3) := by decide +kernel
theorem dX8_best_104 : decode cX8_best 104 = .ok (.iload 4, 2) := by decide +kernel
theorem dX8_best_106 : decode cX8_best 106 = .ok (.invokevirtual 60, 3) := by decide +kernel
theorem dX8_best_109 : decode cX8_best 109 = .ok (.isub, 1) := by decide +kernel
theorem dX8_best_110 : decode cX8_best 110 = .ok (.istore 5, 2) := by decide +kernel
theorem dX8_best_112 : decode cX8_best 112 = .ok (.iload_n 2, 1) := by decide +kernel
theorem dX8_best_113 : decode cX8_best 113 = .ok (.iconst (-1), 1) := by decide +kernel
theorem dX8_best_114 : decode cX8_best 114 = .ok (.if_icmp .eq 12, 3) := by decide +kernel
theorem dX8_best_117 : decode cX8_best 117 = .ok (.iload 5, 2) := by decide +kernel
theorem dX8_best_119 : decode cX8_best 119 = .ok (.iload_n 3, 1) := by decide +kernel
theorem dX8_best_120 : decode cX8_best 120 = .ok (.if_icmp .gt 6, 3) := by decide +kernel
theorem dX8_best_123 : decode cX8_best 123 = .ok (.goto 9, 3) := by decide +kernel
theorem dX8_best_126 : decode cX8_best 126 = .ok (.iload 4, 2) := by decide +kernel
theorem dX8_best_128 : decode cX8_best 128 = .ok (.istore_n 2, 1) := by decide +kernel
theorem dX8_best_129 : decode cX8_best 129 = .ok (.iload 5, 2) := by decide +kernel
theorem dX8_best_131 : decode cX8_best 131 = .ok (.istore_n 3, 1) := by decide +kernel
theorem dX8_best_132 : decode cX8_best 132 = .ok (.iinc 4 1, 3) := by decide +kernel
theorem dX8_best_135 : decode cX8_best 135 = .ok (.goto (-109), 3) := by decide +kernel
theorem dX8_best_138 : decode cX8_best 138 = .ok (.iload_n 2, 1) := by decide +kernel
theorem dX8_best_139 : decode cX8_best 139 = .ok (.ireturn, 1) := by decide +kernel
theorem dX8_most_0 : decode cX8_most 0 = .ok (.aload_n 0, 1) := by decide +kernel
theorem dX8_most_1 : decode cX8_most 1 = .ok (.iconst 0, 1) := by decide +kernel
theorem dX8_most_2 : decode cX8_most 2 = .ok (.putfield 28, 3) := by decide +kernel
theorem dX8_most_5 : decode cX8_most 5 = .ok (.aload_n 0, 1) := by decide +kernel
theorem dX8_most_6 : decode cX8_most 6 = .ok (.iload_n 1, 1) := by decide +kernel
theorem dX8_most_7 : decode cX8_most 7 = .ok (.invokevirtual 52, 3) := by decide +kernel
theorem dX8_most_10 : decode cX8_most 10 = .ok (.ifCond .ne 9, 3) := by decide +kernel
theorem dX8_most_13 : decode cX8_most 13 = .ok (.aload_n 0, 1) := by decide +kernel
theorem dX8_most_14 : decode cX8_most 14 = .ok (.iconst 1, 1) := by decide +kernel
theorem dX8_most_15 : decode cX8_most 15 = .ok (.invokevirtual 42, 3) := by decide +kernel
theorem dX8_most_18 : decode cX8_most 18 = .ok (.ireturn, 1) := by decide +kernel
theorem dX8_most_19 : decode cX8_most 19 = .ok (.aload_n 0, 1) := by decide +kernel
theorem dX8_most_20 : decode cX8_most 20 = .ok (.getfield 21, 3) := by decide +kernel
theorem dX8_most_23 : decode cX8_most 23 = .ok (.getfield 46, 3) := by decide +kernel
theorem dX8_most_26 : decode cX8_most 26 = .ok (.iload_n 1, 1) := by decide +kernel
theorem dX8_most_27 : decode cX8_most 27 = .ok (.iaload, 1) := by decide +kernel
theorem dX8_most_28 : decode cX8_most 28 = .ok (.istore_n 2, 1) := by decide +kernel
theorem dX8_most_29 : decode cX8_most 29 = .ok (.lconst 0, 1) := by decide +kernel
theorem dX8_most_30 : decode cX8_most 30 = .ok (.lstore_n 3, 1) := by decide +kernel
theorem dX8_most_31 : decode cX8_most 31 = .ok (.iconst 0, 1) := by decide +kernel
theorem dX8_most_32 : decode cX8_most 32 = .ok (.istore 5, 2) := by decide +kernel
theorem dX8_most_34 : decode cX8_most 34 = .ok (.iconst (-1), 1) := by decide +kernel
theorem dX8_most_35 : decode cX8_most 35 = .ok (.istore 6, 2) := by decide +kernel
theorem dX8_most_37 : decode cX8_most 37 = .ok (.iconst 0, 1) := by decide +kernel
theorem dX8_most_38 : decode cX8_most 38 = .ok (.istore 7, 2) := by decide +kernel
theorem dX8_most_40 : decode cX8_most 40 = .ok (.iload 7, 2) := by decide +kernel
theorem dX8_most_42 : decode cX8_most 42 = .ok (.aload_n 0, 1) := by decide +kernel
theorem dX8_most_43 : decode cX8_most 43 = .ok (.getfield 21, 3) := by decide +kernel
theorem dX8_most_46 : decode cX8_most 46 = .ok (.getfield 39, 3) := by decide +kernel
theorem dX8_most_49 : decode cX8_most 49 = .ok (.if_icmp .ge 82, 3) := by decide +kernel
theorem dX8_most_52 : decode cX8_most 52 = .ok (.lload_n 3, 1) := by decide +kernel
theorem dX8_most_53 : decode cX8_most 53 = .ok (.iload 7, 2) := by decide +kernel
theorem dX8_most_55 : decode cX8_most 55 = .ok (.lshr, 1) := by decide +kernel
theorem dX8_most_56 : decode cX8_most 56 = .ok (.lconst 1, 1) := by decide +kernel
theorem dX8_most_57 : decode cX8_most 57 = .ok (.land, 1) := by decide +kernel
theorem dX8_most_58 : decode cX8_most 58 = .ok (.lconst 1, 1) := by decide +kernel
theorem dX8_most_59 : decode cX8_most 59 = .ok (.lcmp, 1) := by decide +kernel
theorem dX8_most_60 : decode cX8_most 60 = .ok (.ifCond .eq 65, 3) := by decide +kernel
theorem dX8_most_63 : decode cX8_most 63 = .ok (.aload_n 0, 1) := by decide +kernel
theorem dX8_most_64 : decode cX8_most 64 = .ok (.getfield 21, 3) := by decide +kernel
theorem dX8_most_67 : decode cX8_most 67 = .ok (.iload 7, 2) := by decide +kernel
theorem dX8_most_69 : decode cX8_most 69 = .ok (.iconst 0, 1) := by decide +kernel
theorem dX8_most_70 : decode cX8_most 70 = .ok (.invokevirtual 56, 3) := by decide +kernel
theorem dX8_most_73 : decode cX8_most 73 = .ok (.iload_n 1, 1) := by decide +kernel
theorem dX8_most_74 : decode cX8_most 74 = .ok (.if_icmp .ne 51, 3) := by decide +kernel
theorem dX8_most_77 : decode cX8_most 77 = .ok (.aload_n 0, 1) := by decide +kernel
theorem dX8_most_78 : decode cX8_most 78 = .ok (.getfield 21, 3) := by decide +kernel
theorem dX8_most_81 : decode cX8_most 81 = .ok (.iload 7, 2) := by decide +kernel
theorem dX8_most_83 : decode cX8_most 83 = .ok (.bipush 6, 2) := by decide +kernel
theorem dX8_most_85 : decode cX8_most 85 = .ok (.invokevirtual 56, 3) := by decide +kernel
theorem dX8_most_88 : decode cX8_most 88 = .ok (.ifCond .eq 6, 3) := by decide +kernel
theorem dX8_most_91 : decode cX8_most 91 = .ok (.goto 34, 3) := by decide +kernel
theorem dX8_most_94 : decode cX8_most 94 = .ok (.iload 6, 2) := by decide +kernel
theorem dX8_most_96 : decode cX8_most 96 = .ok (.iconst (-1), 1) := by decide +kernel
theorem dX8_most_97 : decode cX8_most 97 = .ok (.if_icmp .eq 24, 3) := by decide +kernel
theorem dX8_most_100 : decode cX8_most 100 = .ok (.aload_n 0, 1) := by decide +kernel
theorem dX8_most_101 : decode cX8_most 101 = .ok (.getfield 21, 3) := by decide +kernel
theorem dX8_most_104 : decode cX8_most 104 = .ok (.iload 7, 2) := by decide +kernel
theorem dX8_most_106 : decode cX8_most 106 = .ok (.invokevirtual 60, 3) := by decide +kernel
theorem dX8_most_109 : decode cX8_most 109 = .ok (.aload_n 0, 1) := by decide +kernel
theorem dX8_most_110 : decode cX8_most 110 = .ok (.getfield 21, 3) := by decide +kernel
theorem dX8_most_113 : decode cX8_most 113 = .ok (.iload 6, 2) := by decide +kernel
theorem dX8_most_115 : decode cX8_most 115 = .ok (.invokevirtual 60, 3) := by decide +kernel
theorem dX8_most_118 : decode cX8_most 118 = .ok (.if_icmp .ge 7, 3) := by decide +kernel
theorem dX8_most_121 : decode cX8_most 121 = .ok (.iload 7, 2) := by decide +kernel
theorem dX8_most_123 : decode cX8_most 123 = .ok (.istore 6, 2) := by decide +kernel
theorem dX8_most_125 : decode cX8_most 125 = .ok (.iinc 7 1, 3) := by decide +kernel
theorem dX8_most_128 : decode cX8_most 128 = .ok (.goto (-88), 3) := by decide +kernel
theorem dX8_most_131 : decode cX8_most 131 = .ok (.iload 6, 2) := by decide +kernel
theorem dX8_most_133 : decode cX8_most 133 = .ok (.iconst (-1), 1) := by decide +kernel
theorem dX8_most_134 : decode cX8_most 134 = .ok (.if_icmp .eq 16, 3) := by decide +kernel
theorem dX8_most_137 : decode cX8_most 137 = .ok (.aload_n 0, 1) := by decide +kernel
theorem dX8_most_138 : decode cX8_most 138 = .ok (.getfield 21, 3) := by decide +kernel
theorem dX8_most_141 : decode cX8_most 141 = .ok (.iload 6, 2) := by decide +kernel
theorem dX8_most_143 : decode cX8_most 143 = .ok (.invokevirtual 60, 3) := by decide +kernel
theorem dX8_most_146 : decode cX8_most 146 = .ok (.iload_n 2, 1) := by decide +kernel
theorem dX8_most_147 : decode cX8_most 147 = .ok (.if_icmp .le 6, 3) := by decide +kernel
theorem dX8_most_150 : decode cX8_most 150 = .ok (.iload 5, 2) := by decide +kernel
theorem dX8_most_152 : decode cX8_most 152 = .ok (.ireturn, 1) := by decide +kernel
theorem dX8_most_153 : decode cX8_most 153 = .ok (.iload_n 2, 1) := by decide +kernel
theorem dX8_most_154 : decode cX8_most 154 = .ok (.aload_n 0, 1) := by decide +kernel
theorem dX8_most_155 : decode cX8_most 155 = .ok (.getfield 21, 3) := by decide +kernel
theorem dX8_most_158 : decode cX8_most 158 = .ok (.iload 6, 2) := by decide +kernel
theorem dX8_most_160 : decode cX8_most 160 = .ok (.invokevirtual 60, 3) := by decide +kernel
theorem dX8_most_163 : decode cX8_most 163 = .ok (.isub, 1) := by decide +kernel
theorem dX8_most_164 : decode cX8_most 164 = .ok (.istore_n 2, 1) := by decide +kernel
theorem dX8_most_165 : decode cX8_most 165 = .ok (.lload_n 3, 1) := by decide +kernel
theorem dX8_most_166 : decode cX8_most 166 = .ok (.lconst 1, 1) := by decide +kernel
theorem dX8_most_167 : decode cX8_most 167 = .ok (.iload 6, 2) := by decide +kernel
theorem dX8_most_169 : decode cX8_most 169 = .ok (.lshl, 1) := by decide +kernel
theorem dX8_most_170 : decode cX8_most 170 = .ok (.lor, 1) := by decide +kernel
theorem dX8_most_171 : decode cX8_most 171 = .ok (.lstore_n 3, 1) := by decide +kernel
theorem dX8_most_172 : decode cX8_most 172 = .ok (.iinc 5 1, 3) := by decide +kernel
theorem dX8_most_175 : decode cX8_most 175 = .ok (.goto (-141), 3) := by decide +kernel
theorem dX8_fetched_0 : decode cX8_fetched 0 = .ok (.aload_n 0, 1) := by decide +kernel
theorem dX8_fetched_1 : decode cX8_fetched 1 = .ok (.iconst 0, 1) := by decide +kernel
theorem dX8_fetched_2 : decode cX8_fetched 2 = .ok (.putfield 28, 3) := by decide +kernel
theorem dX8_fetched_5 : decode cX8_fetched 5 = .ok (.aload_n 0, 1) := by decide +kernel
theorem dX8_fetched_6 : decode cX8_fetched 6 = .ok (.getfield 21, 3) := by decide +kernel
theorem dX8_fetched_9 : decode cX8_fetched 9 = .ok (.getfield 39, 3) := by decide +kernel
theorem dX8_fetched_12 : decode cX8_fetched 12 = .ok (.aload_n 0, 1) := by decide +kernel
theorem dX8_fetched_13 : decode cX8_fetched 13 = .ok (.getfield 21, 3) := by decide +kernel
theorem dX8_fetched_16 : decode cX8_fetched 16 = .ok (.iconst 0, 1) := by decide +kernel
theorem dX8_fetched_17 : decode cX8_fetched 17 = .ok (.invokevirtual 132, 3) := by decide +kernel
theorem dX8_fetched_20 : decode cX8_fetched 20 = .ok (.isub, 1) := by decide +kernel
theorem dX8_fetched_21 : decode cX8_fetched 21 = .ok (.istore_n 1, 1) := by decide +kernel
theorem dX8_fetched_22 : decode cX8_fetched 22 = .ok (.iload_n 1, 1) := by decide +kernel
theorem dX8_fetched_23 : decode cX8_fetched 23 = .ok (.ifCond .ne 7, 3) := by decide +kernel
theorem dX8_fetched_26 : decode cX8_fetched 26 = .ok (.dconst 0, 1) := by decide +kernel
theorem dX8_fetched_27 : decode cX8_fetched 27 = .ok (.goto 15, 3) := by decide +kernel
theorem dX8_fetched_30 : decode cX8_fetched 30 = .ok (.aload_n 0, 1) := by decide +kernel
theorem dX8_fetched_31 : decode cX8_fetched 31 = .ok (.getfield 21, 3) := by decide +kernel
theorem dX8_fetched_34 : decode cX8_fetched 34 = .ok (.iconst 1, 1) := by decide +kernel
theorem dX8_fetched_35 : decode cX8_fetched 35 = .ok (.invokevirtual 132, 3) := by decide +kernel
theorem dX8_fetched_38 : decode cX8_fetched 38 = .ok (.i2d, 1) := by decide +kernel
theorem dX8_fetched_39 : decode cX8_fetched 39 = .ok (.iload_n 1, 1) := by decide +kernel
theorem dX8_fetched_40 : decode cX8_fetched 40 = .ok (.i2d, 1) := by decide +kernel
theorem dX8_fetched_41 : decode cX8_fetched 41 = .ok (.ddiv, 1) := by decide +kernel
theorem dX8_fetched_42 : decode cX8_fetched 42 = .ok (.dreturn, 1) := by decide +kernel
theorem dX8_digest_0 : decode cX8_digest 0 = .ok (.aload_n 0, 1) := by decide +kernel
theorem dX8_digest_1 : decode cX8_digest 1 = .ok (.iconst 0, 1) := by decide +kernel
theorem dX8_digest_2 : decode cX8_digest 2 = .ok (.putfield 28, 3) := by decide +kernel
theorem dX8_digest_5 : decode cX8_digest 5 = .ok (.ldc2_w 142, 3) := by decide +kernel
theorem dX8_digest_8 : decode cX8_digest 8 = .ok (.lstore_n 1, 1) := by decide +kernel
theorem dX8_digest_9 : decode cX8_digest 9 = .ok (.iconst 0, 1) := by decide +kernel
theorem dX8_digest_10 : decode cX8_digest 10 = .ok (.istore_n 3, 1) := by decide +kernel
theorem dX8_digest_11 : decode cX8_digest 11 = .ok (.iload_n 3, 1) := by decide +kernel
theorem dX8_digest_12 : decode cX8_digest 12 = .ok (.bipush 10, 2) := by decide +kernel
theorem dX8_digest_14 : decode cX8_digest 14 = .ok (.if_icmp .gt 22, 3) := by decide +kernel
theorem dX8_digest_17 : decode cX8_digest 17 = .ok (.lload_n 1, 1) := by decide +kernel
theorem dX8_digest_18 : decode cX8_digest 18 = .ok (.ldc2_w 144, 3) := by decide +kernel
theorem dX8_digest_21 : decode cX8_digest 21 = .ok (.lmul, 1) := by decide +kernel
theorem dX8_digest_22 : decode cX8_digest 22 = .ok (.aload_n 0, 1) := by decide +kernel
theorem dX8_digest_23 : decode cX8_digest 23 = .ok (.iload_n 3, 1) := by decide +kernel
theorem dX8_digest_24 : decode cX8_digest 24 = .ok (.invokevirtual 135, 3) := by decide +kernel
theorem dX8_digest_27 : decode cX8_digest 27 = .ok (.i2l, 1) := by decide +kernel
theorem dX8_digest_28 : decode cX8_digest 28 = .ok (.ladd, 1) := by decide +kernel
theorem dX8_digest_29 : decode cX8_digest 29 = .ok (.lstore_n 1, 1) := by decide +kernel
theorem dX8_digest_30 : decode cX8_digest 30 = .ok (.iinc 3 1, 3) := by decide +kernel
theorem dX8_digest_33 : decode cX8_digest 33 = .ok (.goto (-22), 3) := by decide +kernel
theorem dX8_digest_36 : decode cX8_digest 36 = .ok (.iconst 0, 1) := by decide +kernel
theorem dX8_digest_37 : decode cX8_digest 37 = .ok (.istore_n 3, 1) := by decide +kernel
theorem dX8_digest_38 : decode cX8_digest 38 = .ok (.iload_n 3, 1) := by decide +kernel
theorem dX8_digest_39 : decode cX8_digest 39 = .ok (.bipush 7, 2) := by decide +kernel
theorem dX8_digest_41 : decode cX8_digest 41 = .ok (.if_icmp .ge 35, 3) := by decide +kernel
theorem dX8_digest_44 : decode cX8_digest 44 = .ok (.lload_n 1, 1) := by decide +kernel
theorem dX8_digest_45 : decode cX8_digest 45 = .ok (.ldc2_w 144, 3) := by decide +kernel
theorem dX8_digest_48 : decode cX8_digest 48 = .ok (.lmul, 1) := by decide +kernel
theorem dX8_digest_49 : decode cX8_digest 49 = .ok (.aload_n 0, 1) := by decide +kernel
theorem dX8_digest_50 : decode cX8_digest 50 = .ok (.getfield 9, 3) := by decide +kernel
theorem dX8_digest_53 : decode cX8_digest 53 = .ok (.iload_n 3, 1) := by decide +kernel
theorem dX8_digest_54 : decode cX8_digest 54 = .ok (.iaload, 1) := by decide +kernel
theorem dX8_digest_55 : decode cX8_digest 55 = .ok (.i2l, 1) := by decide +kernel
theorem dX8_digest_56 : decode cX8_digest 56 = .ok (.ladd, 1) := by decide +kernel
theorem dX8_digest_57 : decode cX8_digest 57 = .ok (.ldc2_w 144, 3) := by decide +kernel
theorem dX8_digest_60 : decode cX8_digest 60 = .ok (.lmul, 1) := by decide +kernel
theorem dX8_digest_61 : decode cX8_digest 61 = .ok (.aload_n 0, 1) := by decide +kernel
theorem dX8_digest_62 : decode cX8_digest 62 = .ok (.getfield 13, 3) := by decide +kernel
theorem dX8_digest_65 : decode cX8_digest 65 = .ok (.iload_n 3, 1) := by decide +kernel
theorem dX8_digest_66 : decode cX8_digest 66 = .ok (.iaload, 1) := by decide +kernel
theorem dX8_digest_67 : decode cX8_digest 67 = .ok (.i2l, 1) := by decide +kernel
theorem dX8_digest_68 : decode cX8_digest 68 = .ok (.ladd, 1) := by decide +kernel
theorem dX8_digest_69 : decode cX8_digest 69 = .ok (.lstore_n 1, 1) := by decide +kernel
theorem dX8_digest_70 : decode cX8_digest 70 = .ok (.iinc 3 1, 3) := by decide +kernel
theorem dX8_digest_73 : decode cX8_digest 73 = .ok (.goto (-35), 3) := by decide +kernel
theorem dX8_digest_76 : decode cX8_digest 76 = .ok (.iconst 0, 1) := by decide +kernel
theorem dX8_digest_77 : decode cX8_digest 77 = .ok (.istore_n 3, 1) := by decide +kernel
theorem dX8_digest_78 : decode cX8_digest 78 = .ok (.iload_n 3, 1) := by decide +kernel
theorem dX8_digest_79 : decode cX8_digest 79 = .ok (.aload_n 0, 1) := by decide +kernel
theorem dX8_digest_80 : decode cX8_digest 80 = .ok (.getfield 32, 3) := by decide +kernel
theorem dX8_digest_83 : decode cX8_digest 83 = .ok (.if_icmp .ge 39, 3) := by decide +kernel
theorem dX8_digest_86 : decode cX8_digest 86 = .ok (.iconst 0, 1) := by decide +kernel
theorem dX8_digest_87 : decode cX8_digest 87 = .ok (.istore 4, 2) := by decide +kernel
theorem dX8_digest_89 : decode cX8_digest 89 = .ok (.iload 4, 2) := by decide +kernel
theorem dX8_digest_91 : decode cX8_digest 91 = .ok (.iconst 4, 1) := by decide +kernel
theorem dX8_digest_92 : decode cX8_digest 92 = .ok (.if_icmp .gt 24, 3) := by decide +kernel
theorem dX8_digest_95 : decode cX8_digest 95 = .ok (.lload_n 1, 1) := by decide +kernel
theorem dX8_digest_96 : decode cX8_digest 96 = .ok (.ldc2_w 144, 3) := by decide +kernel
theorem dX8_digest_99 : decode cX8_digest 99 = .ok (.lmul, 1) := by decide +kernel
theorem dX8_digest_100 : decode cX8_digest 100 = .ok (.aload_n 0, 1) := by decide +kernel
theorem dX8_digest_101 : decode cX8_digest 101 = .ok (.iload_n 3, 1) := by decide +kernel
theorem dX8_digest_102 : decode cX8_digest 102 = .ok (.iload 4, 2) := by decide +kernel
theorem dX8_digest_104 : decode cX8_digest 104 = .ok (.invokevirtual 63, 3) := by decide +kernel
theorem dX8_digest_107 : decode cX8_digest 107 = .ok (.i2l, 1) := by decide +kernel
theorem dX8_digest_108 : decode cX8_digest 108 = .ok (.ladd, 1) := by decide +kernel
theorem dX8_digest_109 : decode cX8_digest 109 = .ok (.lstore_n 1, 1) := by decide +kernel
theorem dX8_digest_110 : decode cX8_digest 110 = .ok (.iinc 4 1, 3) := by decide +kernel
theorem dX8_digest_113 : decode cX8_digest 113 = .ok (.goto (-24), 3) := by decide +kernel
theorem dX8_digest_116 : decode cX8_digest 116 = .ok (.iinc 3 1, 3) := by decide +kernel
theorem dX8_digest_119 : decode cX8_digest 119 = .ok (.goto (-41), 3) := by decide +kernel
theorem dX8_digest_122 : decode cX8_digest 122 = .ok (.iconst 0, 1) := by decide +kernel
theorem dX8_digest_123 : decode cX8_digest 123 = .ok (.istore_n 3, 1) := by decide +kernel
theorem dX8_digest_124 : decode cX8_digest 124 = .ok (.iload_n 3, 1) := by decide +kernel
theorem dX8_digest_125 : decode cX8_digest 125 = .ok (.aload_n 0, 1) := by decide +kernel
theorem dX8_digest_126 : decode cX8_digest 126 = .ok (.getfield 21, 3) := by decide +kernel
theorem dX8_digest_129 : decode cX8_digest 129 = .ok (.getfield 39, 3) := by decide +kernel
theorem dX8_digest_132 : decode cX8_digest 132 = .ok (.if_icmp .ge 56, 3) := by decide +kernel
theorem dX8_digest_135 : decode cX8_digest 135 = .ok (.iconst 0, 1) := by decide +kernel
theorem dX8_digest_136 : decode cX8_digest 136 = .ok (.istore 4, 2) := by decide +kernel
theorem dX8_digest_138 : decode cX8_digest 138 = .ok (.iload 4, 2) := by decide +kernel
theorem dX8_digest_140 : decode cX8_digest 140 = .ok (.bipush 10, 2) := by decide +kernel
theorem dX8_digest_142 : decode cX8_digest 142 = .ok (.if_icmp .gt 24, 3) := by decide +kernel
theorem dX8_digest_145 : decode cX8_digest 145 = .ok (.lload_n 1, 1) := by decide +kernel
theorem dX8_digest_146 : decode cX8_digest 146 = .ok (.ldc2_w 144, 3) := by decide +kernel
theorem dX8_digest_149 : decode cX8_digest 149 = .ok (.lmul, 1) := by decide +kernel
theorem dX8_digest_150 : decode cX8_digest 150 = .ok (.aload_n 0, 1) := by decide +kernel
theorem dX8_digest_151 : decode cX8_digest 151 = .ok (.iload_n 3, 1) := by decide +kernel
theorem dX8_digest_152 : decode cX8_digest 152 = .ok (.iload 4, 2) := by decide +kernel
theorem dX8_digest_154 : decode cX8_digest 154 = .ok (.invokevirtual 102, 3) := by decide +kernel
theorem dX8_digest_157 : decode cX8_digest 157 = .ok (.i2l, 1) := by decide +kernel
theorem dX8_digest_158 : decode cX8_digest 158 = .ok (.ladd, 1) := by decide +kernel
theorem dX8_digest_159 : decode cX8_digest 159 = .ok (.lstore_n 1, 1) := by decide +kernel
theorem dX8_digest_160 : decode cX8_digest 160 = .ok (.iinc 4 1, 3) := by decide +kernel
theorem dX8_digest_163 : decode cX8_digest 163 = .ok (.goto (-25), 3) := by decide +kernel
theorem dX8_digest_166 : decode cX8_digest 166 = .ok (.lload_n 1, 1) := by decide +kernel
theorem dX8_digest_167 : decode cX8_digest 167 = .ok (.ldc2_w 144, 3) := by decide +kernel
theorem dX8_digest_170 : decode cX8_digest 170 = .ok (.lmul, 1) := by decide +kernel
theorem dX8_digest_171 : decode cX8_digest 171 = .ok (.aload_n 0, 1) := by decide +kernel
theorem dX8_digest_172 : decode cX8_digest 172 = .ok (.getfield 21, 3) := by decide +kernel
theorem dX8_digest_175 : decode cX8_digest 175 = .ok (.iload_n 3, 1) := by decide +kernel
theorem dX8_digest_176 : decode cX8_digest 176 = .ok (.invokevirtual 60, 3) := by decide +kernel
theorem dX8_digest_179 : decode cX8_digest 179 = .ok (.i2l, 1) := by decide +kernel
theorem dX8_digest_180 : decode cX8_digest 180 = .ok (.ladd, 1) := by decide +kernel
theorem dX8_digest_181 : decode cX8_digest 181 = .ok (.lstore_n 1, 1) := by decide +kernel
theorem dX8_digest_182 : decode cX8_digest 182 = .ok (.iinc 3 1, 3) := by decide +kernel
theorem dX8_digest_185 : decode cX8_digest 185 = .ok (.goto (-61), 3) := by decide +kernel
theorem dX8_digest_188 : decode cX8_digest 188 = .ok (.lload_n 1, 1) := by decide +kernel
theorem dX8_digest_189 : decode cX8_digest 189 = .ok (.lreturn, 1) := by decide +kernel
end
section
theorem dL_come_0 : decode cL_come 0 = .ok (.aload_n 2, 1) := by decide +kernel
theorem dL_come_1 : decode cL_come 1 = .ok (.iconst 0, 1) := by decide +kernel
theorem dL_come_2 : decode cL_come 2 = .ok (.aload_n 0, 1) := by decide +kernel
theorem dL_come_3 : decode cL_come 3 = .ok (.iload_n 1, 1) := by decide +kernel
theorem dL_come_4 : decode cL_come 4 = .ok (.invokevirtual 7, 3) := by decide +kernel
theorem dL_come_7 : decode cL_come 7 = .ok (.i2l, 1) := by decide +kernel
theorem dL_come_8 : decode cL_come 8 = .ok (.lastore, 1) := by decide +kernel
theorem dL_come_9 : decode cL_come 9 = .ok (.goto 9, 3) := by decide +kernel
theorem dL_come_12 : decode cL_come 12 = .ok (.astore_n 3, 1) := by decide +kernel
theorem dL_come_13 : decode cL_come 13 = .ok (.iconst 1, 1) := by decide +kernel
theorem dL_come_14 : decode cL_come 14 = .ok (.ireturn, 1) := by decide +kernel
theorem dL_come_15 : decode cL_come 15 = .ok (.astore_n 3, 1) := by decide +kernel
theorem dL_come_16 : decode cL_come 16 = .ok (.iconst 2, 1) := by decide +kernel
theorem dL_come_17 : decode cL_come 17 = .ok (.ireturn, 1) := by decide +kernel
theorem dL_come_18 : decode cL_come 18 = .ok (.iconst 0, 1) := by decide +kernel
theorem dL_come_19 : decode cL_come 19 = .ok (.ireturn, 1) := by decide +kernel
theorem dL_earn_0 : decode cL_earn 0 = .ok (.aload_n 3, 1) := by decide +kernel
theorem dL_earn_1 : decode cL_earn 1 = .ok (.iconst 0, 1) := by decide +kernel
theorem dL_earn_2 : decode cL_earn 2 = .ok (.aload_n 0, 1) := by decide +kernel
theorem dL_earn_3 : decode cL_earn 3 = .ok (.iload_n 1, 1) := by decide +kernel
theorem dL_earn_4 : decode cL_earn 4 = .ok (.iload_n 2, 1) := by decide +kernel
theorem dL_earn_5 : decode cL_earn 5 = .ok (.invokevirtual 17, 3) := by decide +kernel
theorem dL_earn_8 : decode cL_earn 8 = .ok (.i2l, 1) := by decide +kernel
theorem dL_earn_9 : decode cL_earn 9 = .ok (.lastore, 1) := by decide +kernel
theorem dL_earn_10 : decode cL_earn 10 = .ok (.goto 11, 3) := by decide +kernel
theorem dL_earn_13 : decode cL_earn 13 = .ok (.astore 4, 2) := by decide +kernel
theorem dL_earn_15 : decode cL_earn 15 = .ok (.iconst 1, 1) := by decide +kernel
theorem dL_earn_16 : decode cL_earn 16 = .ok (.ireturn, 1) := by decide +kernel
theorem dL_earn_17 : decode cL_earn 17 = .ok (.astore 4, 2) := by decide +kernel
theorem dL_earn_19 : decode cL_earn 19 = .ok (.iconst 2, 1) := by decide +kernel
theorem dL_earn_20 : decode cL_earn 20 = .ok (.ireturn, 1) := by decide +kernel
theorem dL_earn_21 : decode cL_earn 21 = .ok (.iconst 0, 1) := by decide +kernel
theorem dL_earn_22 : decode cL_earn 22 = .ok (.ireturn, 1) := by decide +kernel
theorem dL_setBuyer_0 : decode cL_setBuyer 0 = .ok (.aload 4, 2) := by decide +kernel
theorem dL_setBuyer_2 : decode cL_setBuyer 2 = .ok (.iconst 0, 1) := by decide +kernel
theorem dL_setBuyer_3 : decode cL_setBuyer 3 = .ok (.aload_n 0, 1) := by decide +kernel
theorem dL_setBuyer_4 : decode cL_setBuyer 4 = .ok (.iload_n 1, 1) := by decide +kernel
theorem dL_setBuyer_5 : decode cL_setBuyer 5 = .ok (.iload_n 2, 1) := by decide +kernel
theorem dL_setBuyer_6 : decode cL_setBuyer 6 = .ok (.iload_n 3, 1) := by decide +kernel
theorem dL_setBuyer_7 : decode cL_setBuyer 7 = .ok (.invokevirtual 23, 3) := by decide +kernel
theorem dL_setBuyer_10 : decode cL_setBuyer 10 = .ok (.i2l, 1) := by decide +kernel
theorem dL_setBuyer_11 : decode cL_setBuyer 11 = .ok (.lastore, 1) := by decide +kernel
theorem dL_setBuyer_12 : decode cL_setBuyer 12 = .ok (.goto 11, 3) := by decide +kernel
theorem dL_setBuyer_15 : decode cL_setBuyer 15 = .ok (.astore 5, 2) := by decide +kernel
theorem dL_setBuyer_17 : decode cL_setBuyer 17 = .ok (.iconst 1, 1) := by decide +kernel
theorem dL_setBuyer_18 : decode cL_setBuyer 18 = .ok (.ireturn, 1) := by decide +kernel
theorem dL_setBuyer_19 : decode cL_setBuyer 19 = .ok (.astore 5, 2) := by decide +kernel
theorem dL_setBuyer_21 : decode cL_setBuyer 21 = .ok (.iconst 2, 1) := by decide +kernel
theorem dL_setBuyer_22 : decode cL_setBuyer 22 = .ok (.ireturn, 1) := by decide +kernel
theorem dL_setBuyer_23 : decode cL_setBuyer 23 = .ok (.iconst 0, 1) := by decide +kernel
theorem dL_setBuyer_24 : decode cL_setBuyer 24 = .ok (.ireturn, 1) := by decide +kernel
theorem dL_customer_0 : decode cL_customer 0 = .ok (.aload_n 3, 1) := by decide +kernel
theorem dL_customer_1 : decode cL_customer 1 = .ok (.iconst 0, 1) := by decide +kernel
theorem dL_customer_2 : decode cL_customer 2 = .ok (.aload_n 0, 1) := by decide +kernel
theorem dL_customer_3 : decode cL_customer 3 = .ok (.iload_n 1, 1) := by decide +kernel
theorem dL_customer_4 : decode cL_customer 4 = .ok (.iload_n 2, 1) := by decide +kernel
theorem dL_customer_5 : decode cL_customer 5 = .ok (.invokevirtual 27, 3) := by decide +kernel
theorem dL_customer_8 : decode cL_customer 8 = .ok (.i2l, 1) := by decide +kernel
theorem dL_customer_9 : decode cL_customer 9 = .ok (.lastore, 1) := by decide +kernel
theorem dL_customer_10 : decode cL_customer 10 = .ok (.goto 7, 3) := by decide +kernel
theorem dL_customer_13 : decode cL_customer 13 = .ok (.astore 4, 2) := by decide +kernel
theorem dL_customer_15 : decode cL_customer 15 = .ok (.iconst 1, 1) := by decide +kernel
theorem dL_customer_16 : decode cL_customer 16 = .ok (.ireturn, 1) := by decide +kernel
theorem dL_customer_17 : decode cL_customer 17 = .ok (.iconst 0, 1) := by decide +kernel
theorem dL_customer_18 : decode cL_customer 18 = .ok (.ireturn, 1) := by decide +kernel
theorem dL_pledge_0 : decode cL_pledge 0 = .ok (.aload 5, 2) := by decide +kernel
theorem dL_pledge_2 : decode cL_pledge 2 = .ok (.iconst 0, 1) := by decide +kernel
theorem dL_pledge_3 : decode cL_pledge 3 = .ok (.aload_n 0, 1) := by decide +kernel
theorem dL_pledge_4 : decode cL_pledge 4 = .ok (.iload_n 1, 1) := by decide +kernel
theorem dL_pledge_5 : decode cL_pledge 5 = .ok (.iload_n 2, 1) := by decide +kernel
theorem dL_pledge_6 : decode cL_pledge 6 = .ok (.iload_n 3, 1) := by decide +kernel
theorem dL_pledge_7 : decode cL_pledge 7 = .ok (.iload 4, 2) := by decide +kernel
theorem dL_pledge_9 : decode cL_pledge 9 = .ok (.invokevirtual 30, 3) := by decide +kernel
theorem dL_pledge_12 : decode cL_pledge 12 = .ok (.i2l, 1) := by decide +kernel
theorem dL_pledge_13 : decode cL_pledge 13 = .ok (.lastore, 1) := by decide +kernel
theorem dL_pledge_14 : decode cL_pledge 14 = .ok (.goto 15, 3) := by decide +kernel
theorem dL_pledge_17 : decode cL_pledge 17 = .ok (.astore 6, 2) := by decide +kernel
theorem dL_pledge_19 : decode cL_pledge 19 = .ok (.iconst 1, 1) := by decide +kernel
theorem dL_pledge_20 : decode cL_pledge 20 = .ok (.ireturn, 1) := by decide +kernel
theorem dL_pledge_21 : decode cL_pledge 21 = .ok (.astore 6, 2) := by decide +kernel
theorem dL_pledge_23 : decode cL_pledge 23 = .ok (.iconst 2, 1) := by decide +kernel
theorem dL_pledge_24 : decode cL_pledge 24 = .ok (.ireturn, 1) := by decide +kernel
theorem dL_pledge_25 : decode cL_pledge 25 = .ok (.astore 6, 2) := by decide +kernel
theorem dL_pledge_27 : decode cL_pledge 27 = .ok (.iconst 3, 1) := by decide +kernel
theorem dL_pledge_28 : decode cL_pledge 28 = .ok (.ireturn, 1) := by decide +kernel
theorem dL_pledge_29 : decode cL_pledge 29 = .ok (.iconst 0, 1) := by decide +kernel
theorem dL_pledge_30 : decode cL_pledge 30 = .ok (.ireturn, 1) := by decide +kernel
theorem dL_ticket_0 : decode cL_ticket 0 = .ok (.aload_n 3, 1) := by decide +kernel
theorem dL_ticket_1 : decode cL_ticket 1 = .ok (.iconst 0, 1) := by decide +kernel
theorem dL_ticket_2 : decode cL_ticket 2 = .ok (.aload_n 0, 1) := by decide +kernel
theorem dL_ticket_3 : decode cL_ticket 3 = .ok (.iload_n 1, 1) := by decide +kernel
theorem dL_ticket_4 : decode cL_ticket 4 = .ok (.iload_n 2, 1) := by decide +kernel
theorem dL_ticket_5 : decode cL_ticket 5 = .ok (.invokevirtual 34, 3) := by decide +kernel
theorem dL_ticket_8 : decode cL_ticket 8 = .ok (.i2l, 1) := by decide +kernel
theorem dL_ticket_9 : decode cL_ticket 9 = .ok (.lastore, 1) := by decide +kernel
theorem dL_ticket_10 : decode cL_ticket 10 = .ok (.goto 7, 3) := by decide +kernel
theorem dL_ticket_13 : decode cL_ticket 13 = .ok (.astore 4, 2) := by decide +kernel
theorem dL_ticket_15 : decode cL_ticket 15 = .ok (.iconst 1, 1) := by decide +kernel
theorem dL_ticket_16 : decode cL_ticket 16 = .ok (.ireturn, 1) := by decide +kernel
theorem dL_ticket_17 : decode cL_ticket 17 = .ok (.iconst 0, 1) := by decide +kernel
theorem dL_ticket_18 : decode cL_ticket 18 = .ok (.ireturn, 1) := by decide +kernel
theorem dL_owes_0 : decode cL_owes 0 = .ok (.aload_n 2, 1) := by decide +kernel
theorem dL_owes_1 : decode cL_owes 1 = .ok (.iconst 0, 1) := by decide +kernel
theorem dL_owes_2 : decode cL_owes 2 = .ok (.aload_n 0, 1) := by decide +kernel
theorem dL_owes_3 : decode cL_owes 3 = .ok (.iload_n 1, 1) := by decide +kernel
theorem dL_owes_4 : decode cL_owes 4 = .ok (.invokevirtual 37, 3) := by decide +kernel
theorem dL_owes_7 : decode cL_owes 7 = .ok (.i2l, 1) := by decide +kernel
theorem dL_owes_8 : decode cL_owes 8 = .ok (.lastore, 1) := by decide +kernel
theorem dL_owes_9 : decode cL_owes 9 = .ok (.goto 6, 3) := by decide +kernel
theorem dL_owes_12 : decode cL_owes 12 = .ok (.astore_n 3, 1) := by decide +kernel
theorem dL_owes_13 : decode cL_owes 13 = .ok (.iconst 1, 1) := by decide +kernel
theorem dL_owes_14 : decode cL_owes 14 = .ok (.ireturn, 1) := by decide +kernel
theorem dL_owes_15 : decode cL_owes 15 = .ok (.iconst 0, 1) := by decide +kernel
theorem dL_owes_16 : decode cL_owes 16 = .ok (.ireturn, 1) := by decide +kernel
theorem dL_renew_0 : decode cL_renew 0 = .ok (.aload_n 2, 1) := by decide +kernel
theorem dL_renew_1 : decode cL_renew 1 = .ok (.iconst 0, 1) := by decide +kernel
theorem dL_renew_2 : decode cL_renew 2 = .ok (.aload_n 0, 1) := by decide +kernel
theorem dL_renew_3 : decode cL_renew 3 = .ok (.iload_n 1, 1) := by decide +kernel
theorem dL_renew_4 : decode cL_renew 4 = .ok (.invokevirtual 40, 3) := by decide +kernel
theorem dL_renew_7 : decode cL_renew 7 = .ok (.i2l, 1) := by decide +kernel
theorem dL_renew_8 : decode cL_renew 8 = .ok (.lastore, 1) := by decide +kernel
theorem dL_renew_9 : decode cL_renew 9 = .ok (.goto 9, 3) := by decide +kernel
theorem dL_renew_12 : decode cL_renew 12 = .ok (.astore_n 3, 1) := by decide +kernel
theorem dL_renew_13 : decode cL_renew 13 = .ok (.iconst 1, 1) := by decide +kernel
theorem dL_renew_14 : decode cL_renew 14 = .ok (.ireturn, 1) := by decide +kernel
theorem dL_renew_15 : decode cL_renew 15 = .ok (.astore_n 3, 1) := by decide +kernel
theorem dL_renew_16 : decode cL_renew 16 = .ok (.iconst 2, 1) := by decide +kernel
theorem dL_renew_17 : decode cL_renew 17 = .ok (.ireturn, 1) := by decide +kernel
theorem dL_renew_18 : decode cL_renew 18 = .ok (.iconst 0, 1) := by decide +kernel
theorem dL_renew_19 : decode cL_renew 19 = .ok (.ireturn, 1) := by decide +kernel
theorem dL_fetch_0 : decode cL_fetch 0 = .ok (.aload_n 2, 1) := by decide +kernel
theorem dL_fetch_1 : decode cL_fetch 1 = .ok (.iconst 0, 1) := by decide +kernel
theorem dL_fetch_2 : decode cL_fetch 2 = .ok (.aload_n 0, 1) := by decide +kernel
theorem dL_fetch_3 : decode cL_fetch 3 = .ok (.iload_n 1, 1) := by decide +kernel
theorem dL_fetch_4 : decode cL_fetch 4 = .ok (.invokevirtual 43, 3) := by decide +kernel
theorem dL_fetch_7 : decode cL_fetch 7 = .ok (.i2l, 1) := by decide +kernel
theorem dL_fetch_8 : decode cL_fetch 8 = .ok (.lastore, 1) := by decide +kernel
theorem dL_fetch_9 : decode cL_fetch 9 = .ok (.goto 9, 3) := by decide +kernel
theorem dL_fetch_12 : decode cL_fetch 12 = .ok (.astore_n 3, 1) := by decide +kernel
theorem dL_fetch_13 : decode cL_fetch 13 = .ok (.iconst 1, 1) := by decide +kernel
theorem dL_fetch_14 : decode cL_fetch 14 = .ok (.ireturn, 1) := by decide +kernel
theorem dL_fetch_15 : decode cL_fetch 15 = .ok (.astore_n 3, 1) := by decide +kernel
theorem dL_fetch_16 : decode cL_fetch 16 = .ok (.iconst 2, 1) := by decide +kernel
theorem dL_fetch_17 : decode cL_fetch 17 = .ok (.ireturn, 1) := by decide +kernel
theorem dL_fetch_18 : decode cL_fetch 18 = .ok (.iconst 0, 1) := by decide +kernel
theorem dL_fetch_19 : decode cL_fetch 19 = .ok (.ireturn, 1) := by decide +kernel
theorem dL_at_0 : decode cL_at 0 = .ok (.aload_n 3, 1) := by decide +kernel
theorem dL_at_1 : decode cL_at 1 = .ok (.iconst 0, 1) := by decide +kernel
theorem dL_at_2 : decode cL_at 2 = .ok (.aload_n 0, 1) := by decide +kernel
theorem dL_at_3 : decode cL_at 3 = .ok (.iload_n 1, 1) := by decide +kernel
theorem dL_at_4 : decode cL_at 4 = .ok (.iload_n 2, 1) := by decide +kernel
theorem dL_at_5 : decode cL_at 5 = .ok (.invokevirtual 46, 3) := by decide +kernel
theorem dL_at_8 : decode cL_at 8 = .ok (.i2l, 1) := by decide +kernel
theorem dL_at_9 : decode cL_at 9 = .ok (.lastore, 1) := by decide +kernel
theorem dL_at_10 : decode cL_at 10 = .ok (.goto 7, 3) := by decide +kernel
theorem dL_at_13 : decode cL_at 13 = .ok (.astore 4, 2) := by decide +kernel
theorem dL_at_15 : decode cL_at 15 = .ok (.iconst 1, 1) := by decide +kernel
theorem dL_at_16 : decode cL_at 16 = .ok (.ireturn, 1) := by decide +kernel
theorem dL_at_17 : decode cL_at 17 = .ok (.iconst 0, 1) := by decide +kernel
theorem dL_at_18 : decode cL_at 18 = .ok (.ireturn, 1) := by decide +kernel
theorem dL_room_0 : decode cL_room 0 = .ok (.aload_n 2, 1) := by decide +kernel
theorem dL_room_1 : decode cL_room 1 = .ok (.iconst 0, 1) := by decide +kernel
theorem dL_room_2 : decode cL_room 2 = .ok (.aload_n 0, 1) := by decide +kernel
theorem dL_room_3 : decode cL_room 3 = .ok (.iload_n 1, 1) := by decide +kernel
theorem dL_room_4 : decode cL_room 4 = .ok (.invokevirtual 49, 3) := by decide +kernel
theorem dL_room_7 : decode cL_room 7 = .ok (.i2l, 1) := by decide +kernel
theorem dL_room_8 : decode cL_room 8 = .ok (.lastore, 1) := by decide +kernel
theorem dL_room_9 : decode cL_room 9 = .ok (.goto 6, 3) := by decide +kernel
theorem dL_room_12 : decode cL_room 12 = .ok (.astore_n 3, 1) := by decide +kernel
theorem dL_room_13 : decode cL_room 13 = .ok (.iconst 1, 1) := by decide +kernel
theorem dL_room_14 : decode cL_room 14 = .ok (.ireturn, 1) := by decide +kernel
theorem dL_room_15 : decode cL_room 15 = .ok (.iconst 0, 1) := by decide +kernel
theorem dL_room_16 : decode cL_room 16 = .ok (.ireturn, 1) := by decide +kernel
theorem dL_pass_0 : decode cL_pass 0 = .ok (.aload_n 2, 1) := by decide +kernel
theorem dL_pass_1 : decode cL_pass 1 = .ok (.iconst 0, 1) := by decide +kernel
theorem dL_pass_2 : decode cL_pass 2 = .ok (.aload_n 0, 1) := by decide +kernel
theorem dL_pass_3 : decode cL_pass 3 = .ok (.iload_n 1, 1) := by decide +kernel
theorem dL_pass_4 : decode cL_pass 4 = .ok (.invokevirtual 52, 3) := by decide +kernel
theorem dL_pass_7 : decode cL_pass 7 = .ok (.i2l, 1) := by decide +kernel
theorem dL_pass_8 : decode cL_pass 8 = .ok (.lastore, 1) := by decide +kernel
theorem dL_pass_9 : decode cL_pass 9 = .ok (.goto 6, 3) := by decide +kernel
theorem dL_pass_12 : decode cL_pass 12 = .ok (.astore_n 3, 1) := by decide +kernel
theorem dL_pass_13 : decode cL_pass 13 = .ok (.iconst 1, 1) := by decide +kernel
theorem dL_pass_14 : decode cL_pass 14 = .ok (.ireturn, 1) := by decide +kernel
theorem dL_pass_15 : decode cL_pass 15 = .ok (.iconst 0, 1) := by decide +kernel
theorem dL_pass_16 : decode cL_pass 16 = .ok (.ireturn, 1) := by decide +kernel
theorem dL_count_0 : decode cL_count 0 = .ok (.aload_n 2, 1) := by decide +kernel
theorem dL_count_1 : decode cL_count 1 = .ok (.iconst 0, 1) := by decide +kernel
theorem dL_count_2 : decode cL_count 2 = .ok (.aload_n 0, 1) := by decide +kernel
theorem dL_count_3 : decode cL_count 3 = .ok (.iload_n 1, 1) := by decide +kernel
theorem dL_count_4 : decode cL_count 4 = .ok (.invokevirtual 55, 3) := by decide +kernel
theorem dL_count_7 : decode cL_count 7 = .ok (.i2l, 1) := by decide +kernel
theorem dL_count_8 : decode cL_count 8 = .ok (.lastore, 1) := by decide +kernel
theorem dL_count_9 : decode cL_count 9 = .ok (.goto 6, 3) := by decide +kernel
theorem dL_count_12 : decode cL_count 12 = .ok (.astore_n 3, 1) := by decide +kernel
theorem dL_count_13 : decode cL_count 13 = .ok (.iconst 1, 1) := by decide +kernel
theorem dL_count_14 : decode cL_count 14 = .ok (.ireturn, 1) := by decide +kernel
theorem dL_count_15 : decode cL_count 15 = .ok (.iconst 0, 1) := by decide +kernel
theorem dL_count_16 : decode cL_count 16 = .ok (.ireturn, 1) := by decide +kernel
theorem dL_foresee_0 : decode cL_foresee 0 = .ok (.aload_n 3, 1) := by decide +kernel
theorem dL_foresee_1 : decode cL_foresee 1 = .ok (.iconst 0, 1) := by decide +kernel
theorem dL_foresee_2 : decode cL_foresee 2 = .ok (.aload_n 0, 1) := by decide +kernel
theorem dL_foresee_3 : decode cL_foresee 3 = .ok (.iload_n 1, 1) := by decide +kernel
theorem dL_foresee_4 : decode cL_foresee 4 = .ok (.iload_n 2, 1) := by decide +kernel
theorem dL_foresee_5 : decode cL_foresee 5 = .ok (.invokevirtual 58, 3) := by decide +kernel
theorem dL_foresee_8 : decode cL_foresee 8 = .ok (.i2l, 1) := by decide +kernel
theorem dL_foresee_9 : decode cL_foresee 9 = .ok (.lastore, 1) := by decide +kernel
theorem dL_foresee_10 : decode cL_foresee 10 = .ok (.goto 11, 3) := by decide +kernel
theorem dL_foresee_13 : decode cL_foresee 13 = .ok (.astore 4, 2) := by decide +kernel
theorem dL_foresee_15 : decode cL_foresee 15 = .ok (.iconst 1, 1) := by decide +kernel
theorem dL_foresee_16 : decode cL_foresee 16 = .ok (.ireturn, 1) := by decide +kernel
theorem dL_foresee_17 : decode cL_foresee 17 = .ok (.astore 4, 2) := by decide +kernel
theorem dL_foresee_19 : decode cL_foresee 19 = .ok (.iconst 2, 1) := by decide +kernel
theorem dL_foresee_20 : decode cL_foresee 20 = .ok (.ireturn, 1) := by decide +kernel
theorem dL_foresee_21 : decode cL_foresee 21 = .ok (.iconst 0, 1) := by decide +kernel
theorem dL_foresee_22 : decode cL_foresee 22 = .ok (.ireturn, 1) := by decide +kernel
theorem dL_raise_0 : decode cL_raise 0 = .ok (.aload_n 2, 1) := by decide +kernel
theorem dL_raise_1 : decode cL_raise 1 = .ok (.iconst 0, 1) := by decide +kernel
theorem dL_raise_2 : decode cL_raise 2 = .ok (.aload_n 0, 1) := by decide +kernel
theorem dL_raise_3 : decode cL_raise 3 = .ok (.iload_n 1, 1) := by decide +kernel
theorem dL_raise_4 : decode cL_raise 4 = .ok (.invokevirtual 61, 3) := by decide +kernel
theorem dL_raise_7 : decode cL_raise 7 = .ok (.i2l, 1) := by decide +kernel
theorem dL_raise_8 : decode cL_raise 8 = .ok (.lastore, 1) := by decide +kernel
theorem dL_raise_9 : decode cL_raise 9 = .ok (.goto 6, 3) := by decide +kernel
theorem dL_raise_12 : decode cL_raise 12 = .ok (.astore_n 3, 1) := by decide +kernel
theorem dL_raise_13 : decode cL_raise 13 = .ok (.iconst 1, 1) := by decide +kernel
theorem dL_raise_14 : decode cL_raise 14 = .ok (.ireturn, 1) := by decide +kernel
theorem dL_raise_15 : decode cL_raise 15 = .ok (.iconst 0, 1) := by decide +kernel
theorem dL_raise_16 : decode cL_raise 16 = .ok (.ireturn, 1) := by decide +kernel
theorem dL_best_0 : decode cL_best 0 = .ok (.aload_n 2, 1) := by decide +kernel
theorem dL_best_1 : decode cL_best 1 = .ok (.iconst 0, 1) := by decide +kernel
theorem dL_best_2 : decode cL_best 2 = .ok (.aload_n 0, 1) := by decide +kernel
theorem dL_best_3 : decode cL_best 3 = .ok (.iload_n 1, 1) := by decide +kernel
theorem dL_best_4 : decode cL_best 4 = .ok (.invokevirtual 64, 3) := by decide +kernel
theorem dL_best_7 : decode cL_best 7 = .ok (.i2l, 1) := by decide +kernel
theorem dL_best_8 : decode cL_best 8 = .ok (.lastore, 1) := by decide +kernel
theorem dL_best_9 : decode cL_best 9 = .ok (.goto 6, 3) := by decide +kernel
theorem dL_best_12 : decode cL_best 12 = .ok (.astore_n 3, 1) := by decide +kernel
theorem dL_best_13 : decode cL_best 13 = .ok (.iconst 1, 1) := by decide +kernel
theorem dL_best_14 : decode cL_best 14 = .ok (.ireturn, 1) := by decide +kernel
theorem dL_best_15 : decode cL_best 15 = .ok (.iconst 0, 1) := by decide +kernel
theorem dL_best_16 : decode cL_best 16 = .ok (.ireturn, 1) := by decide +kernel
theorem dL_most_0 : decode cL_most 0 = .ok (.aload_n 2, 1) := by decide +kernel
theorem dL_most_1 : decode cL_most 1 = .ok (.iconst 0, 1) := by decide +kernel
theorem dL_most_2 : decode cL_most 2 = .ok (.aload_n 0, 1) := by decide +kernel
theorem dL_most_3 : decode cL_most 3 = .ok (.iload_n 1, 1) := by decide +kernel
theorem dL_most_4 : decode cL_most 4 = .ok (.invokevirtual 67, 3) := by decide +kernel
theorem dL_most_7 : decode cL_most 7 = .ok (.i2l, 1) := by decide +kernel
theorem dL_most_8 : decode cL_most 8 = .ok (.lastore, 1) := by decide +kernel
theorem dL_most_9 : decode cL_most 9 = .ok (.goto 6, 3) := by decide +kernel
theorem dL_most_12 : decode cL_most 12 = .ok (.astore_n 3, 1) := by decide +kernel
theorem dL_most_13 : decode cL_most 13 = .ok (.iconst 1, 1) := by decide +kernel
theorem dL_most_14 : decode cL_most 14 = .ok (.ireturn, 1) := by decide +kernel
theorem dL_most_15 : decode cL_most 15 = .ok (.iconst 0, 1) := by decide +kernel
theorem dL_most_16 : decode cL_most 16 = .ok (.ireturn, 1) := by decide +kernel
end
section
theorem dL_law_0 : decode cL_law 0 = .ok (.new 8, 3) := by decide +kernel
theorem dL_law_3 : decode cL_law 3 = .ok (.dup, 1) := by decide +kernel
theorem dL_law_4 : decode cL_law 4 = .ok (.invokespecial 70, 3) := by decide +kernel
theorem dL_law_7 : decode cL_law 7 = .ok (.astore_n 1, 1) := by decide +kernel
theorem dL_law_8 : decode cL_law 8 = .ok (.new 71, 3) := by decide +kernel
theorem dL_law_11 : decode cL_law 11 = .ok (.dup, 1) := by decide +kernel
theorem dL_law_12 : decode cL_law 12 = .ok (.invokespecial 73, 3) := by decide +kernel
theorem dL_law_15 : decode cL_law 15 = .ok (.astore_n 2, 1) := by decide +kernel
theorem dL_law_16 : decode cL_law 16 = .ok (.iconst 1, 1) := by decide +kernel
theorem dL_law_17 : decode cL_law 17 = .ok (.newarray .long, 2) := by decide +kernel
theorem dL_law_19 : decode cL_law 19 = .ok (.astore_n 3, 1) := by decide +kernel
theorem dL_law_20 : decode cL_law 20 = .ok (.iconst 0, 1) := by decide +kernel
theorem dL_law_21 : decode cL_law 21 = .ok (.istore 4, 2) := by decide +kernel
theorem dL_law_23 : decode cL_law 23 = .ok (.iload 4, 2) := by decide +kernel
theorem dL_law_25 : decode cL_law 25 = .ok (.aload_n 0, 1) := by decide +kernel
theorem dL_law_26 : decode cL_law 26 = .ok (.arraylength, 1) := by decide +kernel
theorem dL_law_27 : decode cL_law 27 = .ok (.iconst 5, 1) := by decide +kernel
theorem dL_law_28 : decode cL_law 28 = .ok (.isub, 1) := by decide +kernel
theorem dL_law_29 : decode cL_law 29 = .ok (.if_icmp .gt 1249, 3) := by decide +kernel
theorem dL_law_32 : decode cL_law 32 = .ok (.aload_n 0, 1) := by decide +kernel
theorem dL_law_33 : decode cL_law 33 = .ok (.iload 4, 2) := by decide +kernel
theorem dL_law_35 : decode cL_law 35 = .ok (.iaload, 1) := by decide +kernel
theorem dL_law_36 : decode cL_law 36 = .ok (.bipush 31, 2) := by decide +kernel
theorem dL_law_38 : decode cL_law 38 = .ok (.iand, 1) := by decide +kernel
theorem dL_law_39 : decode cL_law 39 = .ok (.tableswitch 1233 0 19 #[93, 149, 217, 297, 365, 457, 525, 581, 637, 693, 761, 817, 830, 886, 942, 1010, 1066, 1122, 1178, 1219], 93) := by decide +kernel
theorem dL_law_132 : decode cL_law 132 = .ok (.aload_n 1, 1) := by decide +kernel
theorem dL_law_133 : decode cL_law 133 = .ok (.aload_n 0, 1) := by decide +kernel
theorem dL_law_134 : decode cL_law 134 = .ok (.iload 4, 2) := by decide +kernel
theorem dL_law_136 : decode cL_law 136 = .ok (.iconst 1, 1) := by decide +kernel
theorem dL_law_137 : decode cL_law 137 = .ok (.iadd, 1) := by decide +kernel
theorem dL_law_138 : decode cL_law 138 = .ok (.iaload, 1) := by decide +kernel
theorem dL_law_139 : decode cL_law 139 = .ok (.aload_n 3, 1) := by decide +kernel
theorem dL_law_140 : decode cL_law 140 = .ok (.invokestatic 74, 3) := by decide +kernel
theorem dL_law_143 : decode cL_law 143 = .ok (.istore 5, 2) := by decide +kernel
theorem dL_law_145 : decode cL_law 145 = .ok (.aload_n 2, 1) := by decide +kernel
theorem dL_law_146 : decode cL_law 146 = .ok (.aload_n 0, 1) := by decide +kernel
theorem dL_law_147 : decode cL_law 147 = .ok (.iload 4, 2) := by decide +kernel
theorem dL_law_149 : decode cL_law 149 = .ok (.iconst 1, 1) := by decide +kernel
theorem dL_law_150 : decode cL_law 150 = .ok (.iadd, 1) := by decide +kernel
theorem dL_law_151 : decode cL_law 151 = .ok (.iaload, 1) := by decide +kernel
theorem dL_law_152 : decode cL_law 152 = .ok (.invokevirtual 79, 3) := by decide +kernel
theorem dL_law_155 : decode cL_law 155 = .ok (.istore 6, 2) := by decide +kernel
theorem dL_law_157 : decode cL_law 157 = .ok (.aload_n 2, 1) := by decide +kernel
theorem dL_law_158 : decode cL_law 158 = .ok (.invokevirtual 80, 3) := by decide +kernel
theorem dL_law_161 : decode cL_law 161 = .ok (.iload 5, 2) := by decide +kernel
theorem dL_law_163 : decode cL_law 163 = .ok (.if_icmp .eq 5, 3) := by decide +kernel
theorem dL_law_166 : decode cL_law 166 = .ok (.iconst 0, 1) := by decide +kernel
theorem dL_law_167 : decode cL_law 167 = .ok (.ireturn, 1) := by decide +kernel
theorem dL_law_168 : decode cL_law 168 = .ok (.iload 5, 2) := by decide +kernel
theorem dL_law_170 : decode cL_law 170 = .ok (.ifCond .ne 15, 3) := by decide +kernel
theorem dL_law_173 : decode cL_law 173 = .ok (.aload_n 3, 1) := by decide +kernel
theorem dL_law_174 : decode cL_law 174 = .ok (.iconst 0, 1) := by decide +kernel
theorem dL_law_175 : decode cL_law 175 = .ok (.laload, 1) := by decide +kernel
theorem dL_law_176 : decode cL_law 176 = .ok (.iload 6, 2) := by decide +kernel
theorem dL_law_178 : decode cL_law 178 = .ok (.i2l, 1) := by decide +kernel
theorem dL_law_179 : decode cL_law 179 = .ok (.lcmp, 1) := by decide +kernel
theorem dL_law_180 : decode cL_law 180 = .ok (.ifCond .eq 5, 3) := by decide +kernel
theorem dL_law_183 : decode cL_law 183 = .ok (.iconst 0, 1) := by decide +kernel
theorem dL_law_184 : decode cL_law 184 = .ok (.ireturn, 1) := by decide +kernel
theorem dL_law_185 : decode cL_law 185 = .ok (.goto 1087, 3) := by decide +kernel
theorem dL_law_188 : decode cL_law 188 = .ok (.aload_n 1, 1) := by decide +kernel
theorem dL_law_189 : decode cL_law 189 = .ok (.aload_n 0, 1) := by decide +kernel
theorem dL_law_190 : decode cL_law 190 = .ok (.iload 4, 2) := by decide +kernel
theorem dL_law_192 : decode cL_law 192 = .ok (.iconst 1, 1) := by decide +kernel
theorem dL_law_193 : decode cL_law 193 = .ok (.iadd, 1) := by decide +kernel
theorem dL_law_194 : decode cL_law 194 = .ok (.iaload, 1) := by decide +kernel
theorem dL_law_195 : decode cL_law 195 = .ok (.aload_n 0, 1) := by decide +kernel
theorem dL_law_196 : decode cL_law 196 = .ok (.iload 4, 2) := by decide +kernel
theorem dL_law_198 : decode cL_law 198 = .ok (.iconst 2, 1) := by decide +kernel
theorem dL_law_199 : decode cL_law 199 = .ok (.iadd, 1) := by decide +kernel
theorem dL_law_200 : decode cL_law 200 = .ok (.iaload, 1) := by decide +kernel
theorem dL_law_201 : decode cL_law 201 = .ok (.aload_n 3, 1) := by decide +kernel
theorem dL_law_202 : decode cL_law 202 = .ok (.invokestatic 84, 3) := by decide +kernel
theorem dL_law_205 : decode cL_law 205 = .ok (.istore 5, 2) := by decide +kernel
theorem dL_law_207 : decode cL_law 207 = .ok (.aload_n 2, 1) := by decide +kernel
theorem dL_law_208 : decode cL_law 208 = .ok (.aload_n 0, 1) := by decide +kernel
theorem dL_law_209 : decode cL_law 209 = .ok (.iload 4, 2) := by decide +kernel
theorem dL_law_211 : decode cL_law 211 = .ok (.iconst 1, 1) := by decide +kernel
theorem dL_law_212 : decode cL_law 212 = .ok (.iadd, 1) := by decide +kernel
theorem dL_law_213 : decode cL_law 213 = .ok (.iaload, 1) := by decide +kernel
theorem dL_law_214 : decode cL_law 214 = .ok (.aload_n 0, 1) := by decide +kernel
theorem dL_law_215 : decode cL_law 215 = .ok (.iload 4, 2) := by decide +kernel
theorem dL_law_217 : decode cL_law 217 = .ok (.iconst 2, 1) := by decide +kernel
theorem dL_law_218 : decode cL_law 218 = .ok (.iadd, 1) := by decide +kernel
theorem dL_law_219 : decode cL_law 219 = .ok (.iaload, 1) := by decide +kernel
theorem dL_law_220 : decode cL_law 220 = .ok (.invokevirtual 87, 3) := by decide +kernel
theorem dL_law_223 : decode cL_law 223 = .ok (.istore 6, 2) := by decide +kernel
theorem dL_law_225 : decode cL_law 225 = .ok (.aload_n 2, 1) := by decide +kernel
theorem dL_law_226 : decode cL_law 226 = .ok (.invokevirtual 80, 3) := by decide +kernel
theorem dL_law_229 : decode cL_law 229 = .ok (.iload 5, 2) := by decide +kernel
theorem dL_law_231 : decode cL_law 231 = .ok (.if_icmp .eq 5, 3) := by decide +kernel
theorem dL_law_234 : decode cL_law 234 = .ok (.iconst 0, 1) := by decide +kernel
theorem dL_law_235 : decode cL_law 235 = .ok (.ireturn, 1) := by decide +kernel
theorem dL_law_236 : decode cL_law 236 = .ok (.iload 5, 2) := by decide +kernel
theorem dL_law_238 : decode cL_law 238 = .ok (.ifCond .ne 15, 3) := by decide +kernel
theorem dL_law_241 : decode cL_law 241 = .ok (.aload_n 3, 1) := by decide +kernel
theorem dL_law_242 : decode cL_law 242 = .ok (.iconst 0, 1) := by decide +kernel
theorem dL_law_243 : decode cL_law 243 = .ok (.laload, 1) := by decide +kernel
theorem dL_law_244 : decode cL_law 244 = .ok (.iload 6, 2) := by decide +kernel
theorem dL_law_246 : decode cL_law 246 = .ok (.i2l, 1) := by decide +kernel
theorem dL_law_247 : decode cL_law 247 = .ok (.lcmp, 1) := by decide +kernel
theorem dL_law_248 : decode cL_law 248 = .ok (.ifCond .eq 5, 3) := by decide +kernel
theorem dL_law_251 : decode cL_law 251 = .ok (.iconst 0, 1) := by decide +kernel
theorem dL_law_252 : decode cL_law 252 = .ok (.ireturn, 1) := by decide +kernel
theorem dL_law_253 : decode cL_law 253 = .ok (.goto 1019, 3) := by decide +kernel
theorem dL_law_256 : decode cL_law 256 = .ok (.aload_n 1, 1) := by decide +kernel
theorem dL_law_257 : decode cL_law 257 = .ok (.aload_n 0, 1) := by decide +kernel
theorem dL_law_258 : decode cL_law 258 = .ok (.iload 4, 2) := by decide +kernel
theorem dL_law_260 : decode cL_law 260 = .ok (.iconst 1, 1) := by decide +kernel
theorem dL_law_261 : decode cL_law 261 = .ok (.iadd, 1) := by decide +kernel
theorem dL_law_262 : decode cL_law 262 = .ok (.iaload, 1) := by decide +kernel
theorem dL_law_263 : decode cL_law 263 = .ok (.aload_n 0, 1) := by decide +kernel
theorem dL_law_264 : decode cL_law 264 = .ok (.iload 4, 2) := by decide +kernel
theorem dL_law_266 : decode cL_law 266 = .ok (.iconst 2, 1) := by decide +kernel
theorem dL_law_267 : decode cL_law 267 = .ok (.iadd, 1) := by decide +kernel
theorem dL_law_268 : decode cL_law 268 = .ok (.iaload, 1) := by decide +kernel
theorem dL_law_269 : decode cL_law 269 = .ok (.aload_n 0, 1) := by decide +kernel
theorem dL_law_270 : decode cL_law 270 = .ok (.iload 4, 2) := by decide +kernel
theorem dL_law_272 : decode cL_law 272 = .ok (.iconst 3, 1) := by decide +kernel
theorem dL_law_273 : decode cL_law 273 = .ok (.iadd, 1) := by decide +kernel
theorem dL_law_274 : decode cL_law 274 = .ok (.iaload, 1) := by decide +kernel
theorem dL_law_275 : decode cL_law 275 = .ok (.aload_n 3, 1) := by decide +kernel
theorem dL_law_276 : decode cL_law 276 = .ok (.invokestatic 88, 3) := by decide +kernel
theorem dL_law_279 : decode cL_law 279 = .ok (.istore 5, 2) := by decide +kernel
theorem dL_law_281 : decode cL_law 281 = .ok (.aload_n 2, 1) := by decide +kernel
theorem dL_law_282 : decode cL_law 282 = .ok (.aload_n 0, 1) := by decide +kernel
theorem dL_law_283 : decode cL_law 283 = .ok (.iload 4, 2) := by decide +kernel
theorem dL_law_285 : decode cL_law 285 = .ok (.iconst 1, 1) := by decide +kernel
theorem dL_law_286 : decode cL_law 286 = .ok (.iadd, 1) := by decide +kernel
theorem dL_law_287 : decode cL_law 287 = .ok (.iaload, 1) := by decide +kernel
theorem dL_law_288 : decode cL_law 288 = .ok (.aload_n 0, 1) := by decide +kernel
theorem dL_law_289 : decode cL_law 289 = .ok (.iload 4, 2) := by decide +kernel
theorem dL_law_291 : decode cL_law 291 = .ok (.iconst 2, 1) := by decide +kernel
theorem dL_law_292 : decode cL_law 292 = .ok (.iadd, 1) := by decide +kernel
theorem dL_law_293 : decode cL_law 293 = .ok (.iaload, 1) := by decide +kernel
theorem dL_law_294 : decode cL_law 294 = .ok (.aload_n 0, 1) := by decide +kernel
theorem dL_law_295 : decode cL_law 295 = .ok (.iload 4, 2) := by decide +kernel
theorem dL_law_297 : decode cL_law 297 = .ok (.iconst 3, 1) := by decide +kernel
theorem dL_law_298 : decode cL_law 298 = .ok (.iadd, 1) := by decide +kernel
theorem dL_law_299 : decode cL_law 299 = .ok (.iaload, 1) := by decide +kernel
theorem dL_law_300 : decode cL_law 300 = .ok (.invokevirtual 91, 3) := by decide +kernel
theorem dL_law_303 : decode cL_law 303 = .ok (.istore 6, 2) := by decide +kernel
theorem dL_law_305 : decode cL_law 305 = .ok (.aload_n 2, 1) := by decide +kernel
theorem dL_law_306 : decode cL_law 306 = .ok (.invokevirtual 80, 3) := by decide +kernel
theorem dL_law_309 : decode cL_law 309 = .ok (.iload 5, 2) := by decide +kernel
theorem dL_law_311 : decode cL_law 311 = .ok (.if_icmp .eq 5, 3) := by decide +kernel
theorem dL_law_314 : decode cL_law 314 = .ok (.iconst 0, 1) := by decide +kernel
theorem dL_law_315 : decode cL_law 315 = .ok (.ireturn, 1) := by decide +kernel
theorem dL_law_316 : decode cL_law 316 = .ok (.iload 5, 2) := by decide +kernel
theorem dL_law_318 : decode cL_law 318 = .ok (.ifCond .ne 15, 3) := by decide +kernel
theorem dL_law_321 : decode cL_law 321 = .ok (.aload_n 3, 1) := by decide +kernel
theorem dL_law_322 : decode cL_law 322 = .ok (.iconst 0, 1) := by decide +kernel
theorem dL_law_323 : decode cL_law 323 = .ok (.laload, 1) := by decide +kernel
theorem dL_law_324 : decode cL_law 324 = .ok (.iload 6, 2) := by decide +kernel
theorem dL_law_326 : decode cL_law 326 = .ok (.i2l, 1) := by decide +kernel
theorem dL_law_327 : decode cL_law 327 = .ok (.lcmp, 1) := by decide +kernel
theorem dL_law_328 : decode cL_law 328 = .ok (.ifCond .eq 5, 3) := by decide +kernel
theorem dL_law_331 : decode cL_law 331 = .ok (.iconst 0, 1) := by decide +kernel
theorem dL_law_332 : decode cL_law 332 = .ok (.ireturn, 1) := by decide +kernel
theorem dL_law_333 : decode cL_law 333 = .ok (.goto 939, 3) := by decide +kernel
theorem dL_law_336 : decode cL_law 336 = .ok (.aload_n 1, 1) := by decide +kernel
theorem dL_law_337 : decode cL_law 337 = .ok (.aload_n 0, 1) := by decide +kernel
theorem dL_law_338 : decode cL_law 338 = .ok (.iload 4, 2) := by decide +kernel
theorem dL_law_340 : decode cL_law 340 = .ok (.iconst 1, 1) := by decide +kernel
theorem dL_law_341 : decode cL_law 341 = .ok (.iadd, 1) := by decide +kernel
theorem dL_law_342 : decode cL_law 342 = .ok (.iaload, 1) := by decide +kernel
theorem dL_law_343 : decode cL_law 343 = .ok (.aload_n 0, 1) := by decide +kernel
theorem dL_law_344 : decode cL_law 344 = .ok (.iload 4, 2) := by decide +kernel
theorem dL_law_346 : decode cL_law 346 = .ok (.iconst 2, 1) := by decide +kernel
theorem dL_law_347 : decode cL_law 347 = .ok (.iadd, 1) := by decide +kernel
theorem dL_law_348 : decode cL_law 348 = .ok (.iaload, 1) := by decide +kernel
theorem dL_law_349 : decode cL_law 349 = .ok (.aload_n 3, 1) := by decide +kernel
theorem dL_law_350 : decode cL_law 350 = .ok (.invokestatic 92, 3) := by decide +kernel
theorem dL_law_353 : decode cL_law 353 = .ok (.istore 5, 2) := by decide +kernel
theorem dL_law_355 : decode cL_law 355 = .ok (.aload_n 2, 1) := by decide +kernel
theorem dL_law_356 : decode cL_law 356 = .ok (.aload_n 0, 1) := by decide +kernel
theorem dL_law_357 : decode cL_law 357 = .ok (.iload 4, 2) := by decide +kernel
theorem dL_law_359 : decode cL_law 359 = .ok (.iconst 1, 1) := by decide +kernel
theorem dL_law_360 : decode cL_law 360 = .ok (.iadd, 1) := by decide +kernel
theorem dL_law_361 : decode cL_law 361 = .ok (.iaload, 1) := by decide +kernel
theorem dL_law_362 : decode cL_law 362 = .ok (.aload_n 0, 1) := by decide +kernel
theorem dL_law_363 : decode cL_law 363 = .ok (.iload 4, 2) := by decide +kernel
theorem dL_law_365 : decode cL_law 365 = .ok (.iconst 2, 1) := by decide +kernel
theorem dL_law_366 : decode cL_law 366 = .ok (.iadd, 1) := by decide +kernel
theorem dL_law_367 : decode cL_law 367 = .ok (.iaload, 1) := by decide +kernel
theorem dL_law_368 : decode cL_law 368 = .ok (.invokevirtual 94, 3) := by decide +kernel
theorem dL_law_371 : decode cL_law 371 = .ok (.istore 6, 2) := by decide +kernel
theorem dL_law_373 : decode cL_law 373 = .ok (.aload_n 2, 1) := by decide +kernel
theorem dL_law_374 : decode cL_law 374 = .ok (.invokevirtual 80, 3) := by decide +kernel
theorem dL_law_377 : decode cL_law 377 = .ok (.iload 5, 2) := by decide +kernel
theorem dL_law_379 : decode cL_law 379 = .ok (.if_icmp .eq 5, 3) := by decide +kernel
theorem dL_law_382 : decode cL_law 382 = .ok (.iconst 0, 1) := by decide +kernel
theorem dL_law_383 : decode cL_law 383 = .ok (.ireturn, 1) := by decide +kernel
theorem dL_law_384 : decode cL_law 384 = .ok (.iload 5, 2) := by decide +kernel
theorem dL_law_386 : decode cL_law 386 = .ok (.ifCond .ne 15, 3) := by decide +kernel
theorem dL_law_389 : decode cL_law 389 = .ok (.aload_n 3, 1) := by decide +kernel
theorem dL_law_390 : decode cL_law 390 = .ok (.iconst 0, 1) := by decide +kernel
theorem dL_law_391 : decode cL_law 391 = .ok (.laload, 1) := by decide +kernel
theorem dL_law_392 : decode cL_law 392 = .ok (.iload 6, 2) := by decide +kernel
theorem dL_law_394 : decode cL_law 394 = .ok (.i2l, 1) := by decide +kernel
theorem dL_law_395 : decode cL_law 395 = .ok (.lcmp, 1) := by decide +kernel
theorem dL_law_396 : decode cL_law 396 = .ok (.ifCond .eq 5, 3) := by decide +kernel
theorem dL_law_399 : decode cL_law 399 = .ok (.iconst 0, 1) := by decide +kernel
theorem dL_law_400 : decode cL_law 400 = .ok (.ireturn, 1) := by decide +kernel
theorem dL_law_401 : decode cL_law 401 = .ok (.goto 871, 3) := by decide +kernel
theorem dL_law_404 : decode cL_law 404 = .ok (.aload_n 1, 1) := by decide +kernel
theorem dL_law_405 : decode cL_law 405 = .ok (.aload_n 0, 1) := by decide +kernel
theorem dL_law_406 : decode cL_law 406 = .ok (.iload 4, 2) := by decide +kernel
theorem dL_law_408 : decode cL_law 408 = .ok (.iconst 1, 1) := by decide +kernel
theorem dL_law_409 : decode cL_law 409 = .ok (.iadd, 1) := by decide +kernel
theorem dL_law_410 : decode cL_law 410 = .ok (.iaload, 1) := by decide +kernel
theorem dL_law_411 : decode cL_law 411 = .ok (.aload_n 0, 1) := by decide +kernel
theorem dL_law_412 : decode cL_law 412 = .ok (.iload 4, 2) := by decide +kernel
theorem dL_law_414 : decode cL_law 414 = .ok (.iconst 2, 1) := by decide +kernel
theorem dL_law_415 : decode cL_law 415 = .ok (.iadd, 1) := by decide +kernel
theorem dL_law_416 : decode cL_law 416 = .ok (.iaload, 1) := by decide +kernel
theorem dL_law_417 : decode cL_law 417 = .ok (.aload_n 0, 1) := by decide +kernel
theorem dL_law_418 : decode cL_law 418 = .ok (.iload 4, 2) := by decide +kernel
theorem dL_law_420 : decode cL_law 420 = .ok (.iconst 3, 1) := by decide +kernel
theorem dL_law_421 : decode cL_law 421 = .ok (.iadd, 1) := by decide +kernel
theorem dL_law_422 : decode cL_law 422 = .ok (.iaload, 1) := by decide +kernel
theorem dL_law_423 : decode cL_law 423 = .ok (.aload_n 0, 1) := by decide +kernel
theorem dL_law_424 : decode cL_law 424 = .ok (.iload 4, 2) := by decide +kernel
theorem dL_law_426 : decode cL_law 426 = .ok (.iconst 4, 1) := by decide +kernel
theorem dL_law_427 : decode cL_law 427 = .ok (.iadd, 1) := by decide +kernel
theorem dL_law_428 : decode cL_law 428 = .ok (.iaload, 1) := by decide +kernel
theorem dL_law_429 : decode cL_law 429 = .ok (.aload_n 3, 1) := by decide +kernel
theorem dL_law_430 : decode cL_law 430 = .ok (.invokestatic 95, 3) := by decide +kernel
theorem dL_law_433 : decode cL_law 433 = .ok (.istore 5, 2) := by decide +kernel
theorem dL_law_435 : decode cL_law 435 = .ok (.aload_n 2, 1) := by decide +kernel
theorem dL_law_436 : decode cL_law 436 = .ok (.aload_n 0, 1) := by decide +kernel
theorem dL_law_437 : decode cL_law 437 = .ok (.iload 4, 2) := by decide +kernel
theorem dL_law_439 : decode cL_law 439 = .ok (.iconst 1, 1) := by decide +kernel
theorem dL_law_440 : decode cL_law 440 = .ok (.iadd, 1) := by decide +kernel
theorem dL_law_441 : decode cL_law 441 = .ok (.iaload, 1) := by decide +kernel
theorem dL_law_442 : decode cL_law 442 = .ok (.aload_n 0, 1) := by decide +kernel
theorem dL_law_443 : decode cL_law 443 = .ok (.iload 4, 2) := by decide +kernel
theorem dL_law_445 : decode cL_law 445 = .ok (.iconst 2, 1) := by decide +kernel
theorem dL_law_446 : decode cL_law 446 = .ok (.iadd, 1) := by decide +kernel
theorem dL_law_447 : decode cL_law 447 = .ok (.iaload, 1) := by decide +kernel
theorem dL_law_448 : decode cL_law 448 = .ok (.aload_n 0, 1) := by decide +kernel
theorem dL_law_449 : decode cL_law 449 = .ok (.iload 4, 2) := by decide +kernel
theorem dL_law_451 : decode cL_law 451 = .ok (.iconst 3, 1) := by decide +kernel
theorem dL_law_452 : decode cL_law 452 = .ok (.iadd, 1) := by decide +kernel
theorem dL_law_453 : decode cL_law 453 = .ok (.iaload, 1) := by decide +kernel
theorem dL_law_454 : decode cL_law 454 = .ok (.aload_n 0, 1) := by decide +kernel
theorem dL_law_455 : decode cL_law 455 = .ok (.iload 4, 2) := by decide +kernel
theorem dL_law_457 : decode cL_law 457 = .ok (.iconst 4, 1) := by decide +kernel
theorem dL_law_458 : decode cL_law 458 = .ok (.iadd, 1) := by decide +kernel
theorem dL_law_459 : decode cL_law 459 = .ok (.iaload, 1) := by decide +kernel
theorem dL_law_460 : decode cL_law 460 = .ok (.invokevirtual 98, 3) := by decide +kernel
theorem dL_law_463 : decode cL_law 463 = .ok (.istore 6, 2) := by decide +kernel
theorem dL_law_465 : decode cL_law 465 = .ok (.aload_n 2, 1) := by decide +kernel
theorem dL_law_466 : decode cL_law 466 = .ok (.invokevirtual 80, 3) := by decide +kernel
theorem dL_law_469 : decode cL_law 469 = .ok (.iload 5, 2) := by decide +kernel
theorem dL_law_471 : decode cL_law 471 = .ok (.if_icmp .eq 5, 3) := by decide +kernel
theorem dL_law_474 : decode cL_law 474 = .ok (.iconst 0, 1) := by decide +kernel
theorem dL_law_475 : decode cL_law 475 = .ok (.ireturn, 1) := by decide +kernel
theorem dL_law_476 : decode cL_law 476 = .ok (.iload 5, 2) := by decide +kernel
theorem dL_law_478 : decode cL_law 478 = .ok (.ifCond .ne 15, 3) := by decide +kernel
theorem dL_law_481 : decode cL_law 481 = .ok (.aload_n 3, 1) := by decide +kernel
theorem dL_law_482 : decode cL_law 482 = .ok (.iconst 0, 1) := by decide +kernel
theorem dL_law_483 : decode cL_law 483 = .ok (.laload, 1) := by decide +kernel
theorem dL_law_484 : decode cL_law 484 = .ok (.iload 6, 2) := by decide +kernel
theorem dL_law_486 : decode cL_law 486 = .ok (.i2l, 1) := by decide +kernel
theorem dL_law_487 : decode cL_law 487 = .ok (.lcmp, 1) := by decide +kernel
theorem dL_law_488 : decode cL_law 488 = .ok (.ifCond .eq 5, 3) := by decide +kernel
theorem dL_law_491 : decode cL_law 491 = .ok (.iconst 0, 1) := by decide +kernel
theorem dL_law_492 : decode cL_law 492 = .ok (.ireturn, 1) := by decide +kernel
theorem dL_law_493 : decode cL_law 493 = .ok (.goto 779, 3) := by decide +kernel
theorem dL_law_496 : decode cL_law 496 = .ok (.aload_n 1, 1) := by decide +kernel
theorem dL_law_497 : decode cL_law 497 = .ok (.aload_n 0, 1) := by decide +kernel
theorem dL_law_498 : decode cL_law 498 = .ok (.iload 4, 2) := by decide +kernel
theorem dL_law_500 : decode cL_law 500 = .ok (.iconst 1, 1) := by decide +kernel
theorem dL_law_501 : decode cL_law 501 = .ok (.iadd, 1) := by decide +kernel
theorem dL_law_502 : decode cL_law 502 = .ok (.iaload, 1) := by decide +kernel
theorem dL_law_503 : decode cL_law 503 = .ok (.aload_n 0, 1) := by decide +kernel
theorem dL_law_504 : decode cL_law 504 = .ok (.iload 4, 2) := by decide +kernel
theorem dL_law_506 : decode cL_law 506 = .ok (.iconst 2, 1) := by decide +kernel
theorem dL_law_507 : decode cL_law 507 = .ok (.iadd, 1) := by decide +kernel
theorem dL_law_508 : decode cL_law 508 = .ok (.iaload, 1) := by decide +kernel
theorem dL_law_509 : decode cL_law 509 = .ok (.aload_n 3, 1) := by decide +kernel
theorem dL_law_510 : decode cL_law 510 = .ok (.invokestatic 99, 3) := by decide +kernel
theorem dL_law_513 : decode cL_law 513 = .ok (.istore 5, 2) := by decide +kernel
theorem dL_law_515 : decode cL_law 515 = .ok (.aload_n 2, 1) := by decide +kernel
theorem dL_law_516 : decode cL_law 516 = .ok (.aload_n 0, 1) := by decide +kernel
theorem dL_law_517 : decode cL_law 517 = .ok (.iload 4, 2) := by decide +kernel
theorem dL_law_519 : decode cL_law 519 = .ok (.iconst 1, 1) := by decide +kernel
theorem dL_law_520 : decode cL_law 520 = .ok (.iadd, 1) := by decide +kernel
theorem dL_law_521 : decode cL_law 521 = .ok (.iaload, 1) := by decide +kernel
theorem dL_law_522 : decode cL_law 522 = .ok (.aload_n 0, 1) := by decide +kernel
theorem dL_law_523 : decode cL_law 523 = .ok (.iload 4, 2) := by decide +kernel
theorem dL_law_525 : decode cL_law 525 = .ok (.iconst 2, 1) := by decide +kernel
theorem dL_law_526 : decode cL_law 526 = .ok (.iadd, 1) := by decide +kernel
theorem dL_law_527 : decode cL_law 527 = .ok (.iaload, 1) := by decide +kernel
theorem dL_law_528 : decode cL_law 528 = .ok (.invokevirtual 101, 3) := by decide +kernel
theorem dL_law_531 : decode cL_law 531 = .ok (.istore 6, 2) := by decide +kernel
theorem dL_law_533 : decode cL_law 533 = .ok (.aload_n 2, 1) := by decide +kernel
theorem dL_law_534 : decode cL_law 534 = .ok (.invokevirtual 80, 3) := by decide +kernel
theorem dL_law_537 : decode cL_law 537 = .ok (.iload 5, 2) := by decide +kernel
theorem dL_law_539 : decode cL_law 539 = .ok (.if_icmp .eq 5, 3) := by decide +kernel
theorem dL_law_542 : decode cL_law 542 = .ok (.iconst 0, 1) := by decide +kernel
theorem dL_law_543 : decode cL_law 543 = .ok (.ireturn, 1) := by decide +kernel
theorem dL_law_544 : decode cL_law 544 = .ok (.iload 5, 2) := by decide +kernel
theorem dL_law_546 : decode cL_law 546 = .ok (.ifCond .ne 15, 3) := by decide +kernel
theorem dL_law_549 : decode cL_law 549 = .ok (.aload_n 3, 1) := by decide +kernel
theorem dL_law_550 : decode cL_law 550 = .ok (.iconst 0, 1) := by decide +kernel
theorem dL_law_551 : decode cL_law 551 = .ok (.laload, 1) := by decide +kernel
theorem dL_law_552 : decode cL_law 552 = .ok (.iload 6, 2) := by decide +kernel
theorem dL_law_554 : decode cL_law 554 = .ok (.i2l, 1) := by decide +kernel
theorem dL_law_555 : decode cL_law 555 = .ok (.lcmp, 1) := by decide +kernel
theorem dL_law_556 : decode cL_law 556 = .ok (.ifCond .eq 5, 3) := by decide +kernel
theorem dL_law_559 : decode cL_law 559 = .ok (.iconst 0, 1) := by decide +kernel
theorem dL_law_560 : decode cL_law 560 = .ok (.ireturn, 1) := by decide +kernel
theorem dL_law_561 : decode cL_law 561 = .ok (.goto 711, 3) := by decide +kernel
theorem dL_law_564 : decode cL_law 564 = .ok (.aload_n 1, 1) := by decide +kernel
theorem dL_law_565 : decode cL_law 565 = .ok (.aload_n 0, 1) := by decide +kernel
theorem dL_law_566 : decode cL_law 566 = .ok (.iload 4, 2) := by decide +kernel
theorem dL_law_568 : decode cL_law 568 = .ok (.iconst 1, 1) := by decide +kernel
theorem dL_law_569 : decode cL_law 569 = .ok (.iadd, 1) := by decide +kernel
theorem dL_law_570 : decode cL_law 570 = .ok (.iaload, 1) := by decide +kernel
theorem dL_law_571 : decode cL_law 571 = .ok (.aload_n 3, 1) := by decide +kernel
theorem dL_law_572 : decode cL_law 572 = .ok (.invokestatic 102, 3) := by decide +kernel
theorem dL_law_575 : decode cL_law 575 = .ok (.istore 5, 2) := by decide +kernel
theorem dL_law_577 : decode cL_law 577 = .ok (.aload_n 2, 1) := by decide +kernel
theorem dL_law_578 : decode cL_law 578 = .ok (.aload_n 0, 1) := by decide +kernel
theorem dL_law_579 : decode cL_law 579 = .ok (.iload 4, 2) := by decide +kernel
theorem dL_law_581 : decode cL_law 581 = .ok (.iconst 1, 1) := by decide +kernel
theorem dL_law_582 : decode cL_law 582 = .ok (.iadd, 1) := by decide +kernel
theorem dL_law_583 : decode cL_law 583 = .ok (.iaload, 1) := by decide +kernel
theorem dL_law_584 : decode cL_law 584 = .ok (.invokevirtual 104, 3) := by decide +kernel
theorem dL_law_587 : decode cL_law 587 = .ok (.istore 6, 2) := by decide +kernel
theorem dL_law_589 : decode cL_law 589 = .ok (.aload_n 2, 1) := by decide +kernel
theorem dL_law_590 : decode cL_law 590 = .ok (.invokevirtual 80, 3) := by decide +kernel
theorem dL_law_593 : decode cL_law 593 = .ok (.iload 5, 2) := by decide +kernel
theorem dL_law_595 : decode cL_law 595 = .ok (.if_icmp .eq 5, 3) := by decide +kernel
theorem dL_law_598 : decode cL_law 598 = .ok (.iconst 0, 1) := by decide +kernel
theorem dL_law_599 : decode cL_law 599 = .ok (.ireturn, 1) := by decide +kernel
theorem dL_law_600 : decode cL_law 600 = .ok (.iload 5, 2) := by decide +kernel
theorem dL_law_602 : decode cL_law 602 = .ok (.ifCond .ne 15, 3) := by decide +kernel
theorem dL_law_605 : decode cL_law 605 = .ok (.aload_n 3, 1) := by decide +kernel
theorem dL_law_606 : decode cL_law 606 = .ok (.iconst 0, 1) := by decide +kernel
theorem dL_law_607 : decode cL_law 607 = .ok (.laload, 1) := by decide +kernel
theorem dL_law_608 : decode cL_law 608 = .ok (.iload 6, 2) := by decide +kernel
theorem dL_law_610 : decode cL_law 610 = .ok (.i2l, 1) := by decide +kernel
theorem dL_law_611 : decode cL_law 611 = .ok (.lcmp, 1) := by decide +kernel
theorem dL_law_612 : decode cL_law 612 = .ok (.ifCond .eq 5, 3) := by decide +kernel
theorem dL_law_615 : decode cL_law 615 = .ok (.iconst 0, 1) := by decide +kernel
theorem dL_law_616 : decode cL_law 616 = .ok (.ireturn, 1) := by decide +kernel
theorem dL_law_617 : decode cL_law 617 = .ok (.goto 655, 3) := by decide +kernel
theorem dL_law_620 : decode cL_law 620 = .ok (.aload_n 1, 1) := by decide +kernel
theorem dL_law_621 : decode cL_law 621 = .ok (.aload_n 0, 1) := by decide +kernel
theorem dL_law_622 : decode cL_law 622 = .ok (.iload 4, 2) := by decide +kernel
theorem dL_law_624 : decode cL_law 624 = .ok (.iconst 1, 1) := by decide +kernel
theorem dL_law_625 : decode cL_law 625 = .ok (.iadd, 1) := by decide +kernel
theorem dL_law_626 : decode cL_law 626 = .ok (.iaload, 1) := by decide +kernel
theorem dL_law_627 : decode cL_law 627 = .ok (.aload_n 3, 1) := by decide +kernel
theorem dL_law_628 : decode cL_law 628 = .ok (.invokestatic 105, 3) := by decide +kernel
theorem dL_law_631 : decode cL_law 631 = .ok (.istore 5, 2) := by decide +kernel
theorem dL_law_633 : decode cL_law 633 = .ok (.aload_n 2, 1) := by decide +kernel
theorem dL_law_634 : decode cL_law 634 = .ok (.aload_n 0, 1) := by decide +kernel
theorem dL_law_635 : decode cL_law 635 = .ok (.iload 4, 2) := by decide +kernel
theorem dL_law_637 : decode cL_law 637 = .ok (.iconst 1, 1) := by decide +kernel
theorem dL_law_638 : decode cL_law 638 = .ok (.iadd, 1) := by decide +kernel
theorem dL_law_639 : decode cL_law 639 = .ok (.iaload, 1) := by decide +kernel
theorem dL_law_640 : decode cL_law 640 = .ok (.invokevirtual 107, 3) := by decide +kernel
theorem dL_law_643 : decode cL_law 643 = .ok (.istore 6, 2) := by decide +kernel
theorem dL_law_645 : decode cL_law 645 = .ok (.aload_n 2, 1) := by decide +kernel
theorem dL_law_646 : decode cL_law 646 = .ok (.invokevirtual 80, 3) := by decide +kernel
theorem dL_law_649 : decode cL_law 649 = .ok (.iload 5, 2) := by decide +kernel
theorem dL_law_651 : decode cL_law 651 = .ok (.if_icmp .eq 5, 3) := by decide +kernel
theorem dL_law_654 : decode cL_law 654 = .ok (.iconst 0, 1) := by decide +kernel
theorem dL_law_655 : decode cL_law 655 = .ok (.ireturn, 1) := by decide +kernel
theorem dL_law_656 : decode cL_law 656 = .ok (.iload 5, 2) := by decide +kernel
theorem dL_law_658 : decode cL_law 658 = .ok (.ifCond .ne 15, 3) := by decide +kernel
theorem dL_law_661 : decode cL_law 661 = .ok (.aload_n 3, 1) := by decide +kernel
theorem dL_law_662 : decode cL_law 662 = .ok (.iconst 0, 1) := by decide +kernel
theorem dL_law_663 : decode cL_law 663 = .ok (.laload, 1) := by decide +kernel
theorem dL_law_664 : decode cL_law 664 = .ok (.iload 6, 2) := by decide +kernel
theorem dL_law_666 : decode cL_law 666 = .ok (.i2l, 1) := by decide +kernel
theorem dL_law_667 : decode cL_law 667 = .ok (.lcmp, 1) := by decide +kernel
theorem dL_law_668 : decode cL_law 668 = .ok (.ifCond .eq 5, 3) := by decide +kernel
theorem dL_law_671 : decode cL_law 671 = .ok (.iconst 0, 1) := by decide +kernel
theorem dL_law_672 : decode cL_law 672 = .ok (.ireturn, 1) := by decide +kernel
theorem dL_law_673 : decode cL_law 673 = .ok (.goto 599, 3) := by decide +kernel
theorem dL_law_676 : decode cL_law 676 = .ok (.aload_n 1, 1) := by decide +kernel
theorem dL_law_677 : decode cL_law 677 = .ok (.aload_n 0, 1) := by decide +kernel
theorem dL_law_678 : decode cL_law 678 = .ok (.iload 4, 2) := by decide +kernel
theorem dL_law_680 : decode cL_law 680 = .ok (.iconst 1, 1) := by decide +kernel
theorem dL_law_681 : decode cL_law 681 = .ok (.iadd, 1) := by decide +kernel
theorem dL_law_682 : decode cL_law 682 = .ok (.iaload, 1) := by decide +kernel
theorem dL_law_683 : decode cL_law 683 = .ok (.aload_n 3, 1) := by decide +kernel
theorem dL_law_684 : decode cL_law 684 = .ok (.invokestatic 108, 3) := by decide +kernel
theorem dL_law_687 : decode cL_law 687 = .ok (.istore 5, 2) := by decide +kernel
theorem dL_law_689 : decode cL_law 689 = .ok (.aload_n 2, 1) := by decide +kernel
theorem dL_law_690 : decode cL_law 690 = .ok (.aload_n 0, 1) := by decide +kernel
theorem dL_law_691 : decode cL_law 691 = .ok (.iload 4, 2) := by decide +kernel
theorem dL_law_693 : decode cL_law 693 = .ok (.iconst 1, 1) := by decide +kernel
theorem dL_law_694 : decode cL_law 694 = .ok (.iadd, 1) := by decide +kernel
theorem dL_law_695 : decode cL_law 695 = .ok (.iaload, 1) := by decide +kernel
theorem dL_law_696 : decode cL_law 696 = .ok (.invokevirtual 110, 3) := by decide +kernel
theorem dL_law_699 : decode cL_law 699 = .ok (.istore 6, 2) := by decide +kernel
theorem dL_law_701 : decode cL_law 701 = .ok (.aload_n 2, 1) := by decide +kernel
theorem dL_law_702 : decode cL_law 702 = .ok (.invokevirtual 80, 3) := by decide +kernel
theorem dL_law_705 : decode cL_law 705 = .ok (.iload 5, 2) := by decide +kernel
theorem dL_law_707 : decode cL_law 707 = .ok (.if_icmp .eq 5, 3) := by decide +kernel
theorem dL_law_710 : decode cL_law 710 = .ok (.iconst 0, 1) := by decide +kernel
theorem dL_law_711 : decode cL_law 711 = .ok (.ireturn, 1) := by decide +kernel
theorem dL_law_712 : decode cL_law 712 = .ok (.iload 5, 2) := by decide +kernel
theorem dL_law_714 : decode cL_law 714 = .ok (.ifCond .ne 15, 3) := by decide +kernel
theorem dL_law_717 : decode cL_law 717 = .ok (.aload_n 3, 1) := by decide +kernel
theorem dL_law_718 : decode cL_law 718 = .ok (.iconst 0, 1) := by decide +kernel
theorem dL_law_719 : decode cL_law 719 = .ok (.laload, 1) := by decide +kernel
theorem dL_law_720 : decode cL_law 720 = .ok (.iload 6, 2) := by decide +kernel
theorem dL_law_722 : decode cL_law 722 = .ok (.i2l, 1) := by decide +kernel
theorem dL_law_723 : decode cL_law 723 = .ok (.lcmp, 1) := by decide +kernel
theorem dL_law_724 : decode cL_law 724 = .ok (.ifCond .eq 5, 3) := by decide +kernel
theorem dL_law_727 : decode cL_law 727 = .ok (.iconst 0, 1) := by decide +kernel
theorem dL_law_728 : decode cL_law 728 = .ok (.ireturn, 1) := by decide +kernel
theorem dL_law_729 : decode cL_law 729 = .ok (.goto 543, 3) := by decide +kernel
theorem dL_law_732 : decode cL_law 732 = .ok (.aload_n 1, 1) := by decide +kernel
theorem dL_law_733 : decode cL_law 733 = .ok (.aload_n 0, 1) := by decide +kernel
theorem dL_law_734 : decode cL_law 734 = .ok (.iload 4, 2) := by decide +kernel
theorem dL_law_736 : decode cL_law 736 = .ok (.iconst 1, 1) := by decide +kernel
theorem dL_law_737 : decode cL_law 737 = .ok (.iadd, 1) := by decide +kernel
theorem dL_law_738 : decode cL_law 738 = .ok (.iaload, 1) := by decide +kernel
theorem dL_law_739 : decode cL_law 739 = .ok (.aload_n 0, 1) := by decide +kernel
theorem dL_law_740 : decode cL_law 740 = .ok (.iload 4, 2) := by decide +kernel
theorem dL_law_742 : decode cL_law 742 = .ok (.iconst 2, 1) := by decide +kernel
theorem dL_law_743 : decode cL_law 743 = .ok (.iadd, 1) := by decide +kernel
theorem dL_law_744 : decode cL_law 744 = .ok (.iaload, 1) := by decide +kernel
theorem dL_law_745 : decode cL_law 745 = .ok (.aload_n 3, 1) := by decide +kernel
theorem dL_law_746 : decode cL_law 746 = .ok (.invokestatic 111, 3) := by decide +kernel
theorem dL_law_749 : decode cL_law 749 = .ok (.istore 5, 2) := by decide +kernel
theorem dL_law_751 : decode cL_law 751 = .ok (.aload_n 2, 1) := by decide +kernel
theorem dL_law_752 : decode cL_law 752 = .ok (.aload_n 0, 1) := by decide +kernel
theorem dL_law_753 : decode cL_law 753 = .ok (.iload 4, 2) := by decide +kernel
theorem dL_law_755 : decode cL_law 755 = .ok (.iconst 1, 1) := by decide +kernel
theorem dL_law_756 : decode cL_law 756 = .ok (.iadd, 1) := by decide +kernel
theorem dL_law_757 : decode cL_law 757 = .ok (.iaload, 1) := by decide +kernel
theorem dL_law_758 : decode cL_law 758 = .ok (.aload_n 0, 1) := by decide +kernel
theorem dL_law_759 : decode cL_law 759 = .ok (.iload 4, 2) := by decide +kernel
theorem dL_law_761 : decode cL_law 761 = .ok (.iconst 2, 1) := by decide +kernel
theorem dL_law_762 : decode cL_law 762 = .ok (.iadd, 1) := by decide +kernel
theorem dL_law_763 : decode cL_law 763 = .ok (.iaload, 1) := by decide +kernel
theorem dL_law_764 : decode cL_law 764 = .ok (.invokevirtual 113, 3) := by decide +kernel
theorem dL_law_767 : decode cL_law 767 = .ok (.istore 6, 2) := by decide +kernel
theorem dL_law_769 : decode cL_law 769 = .ok (.aload_n 2, 1) := by decide +kernel
theorem dL_law_770 : decode cL_law 770 = .ok (.invokevirtual 80, 3) := by decide +kernel
theorem dL_law_773 : decode cL_law 773 = .ok (.iload 5, 2) := by decide +kernel
theorem dL_law_775 : decode cL_law 775 = .ok (.if_icmp .eq 5, 3) := by decide +kernel
theorem dL_law_778 : decode cL_law 778 = .ok (.iconst 0, 1) := by decide +kernel
theorem dL_law_779 : decode cL_law 779 = .ok (.ireturn, 1) := by decide +kernel
theorem dL_law_780 : decode cL_law 780 = .ok (.iload 5, 2) := by decide +kernel
theorem dL_law_782 : decode cL_law 782 = .ok (.ifCond .ne 15, 3) := by decide +kernel
theorem dL_law_785 : decode cL_law 785 = .ok (.aload_n 3, 1) := by decide +kernel
theorem dL_law_786 : decode cL_law 786 = .ok (.iconst 0, 1) := by decide +kernel
theorem dL_law_787 : decode cL_law 787 = .ok (.laload, 1) := by decide +kernel
theorem dL_law_788 : decode cL_law 788 = .ok (.iload 6, 2) := by decide +kernel
theorem dL_law_790 : decode cL_law 790 = .ok (.i2l, 1) := by decide +kernel
theorem dL_law_791 : decode cL_law 791 = .ok (.lcmp, 1) := by decide +kernel
theorem dL_law_792 : decode cL_law 792 = .ok (.ifCond .eq 5, 3) := by decide +kernel
theorem dL_law_795 : decode cL_law 795 = .ok (.iconst 0, 1) := by decide +kernel
theorem dL_law_796 : decode cL_law 796 = .ok (.ireturn, 1) := by decide +kernel
theorem dL_law_797 : decode cL_law 797 = .ok (.goto 475, 3) := by decide +kernel
theorem dL_law_800 : decode cL_law 800 = .ok (.aload_n 1, 1) := by decide +kernel
theorem dL_law_801 : decode cL_law 801 = .ok (.aload_n 0, 1) := by decide +kernel
theorem dL_law_802 : decode cL_law 802 = .ok (.iload 4, 2) := by decide +kernel
theorem dL_law_804 : decode cL_law 804 = .ok (.iconst 1, 1) := by decide +kernel
theorem dL_law_805 : decode cL_law 805 = .ok (.iadd, 1) := by decide +kernel
theorem dL_law_806 : decode cL_law 806 = .ok (.iaload, 1) := by decide +kernel
theorem dL_law_807 : decode cL_law 807 = .ok (.aload_n 3, 1) := by decide +kernel
theorem dL_law_808 : decode cL_law 808 = .ok (.invokestatic 114, 3) := by decide +kernel
theorem dL_law_811 : decode cL_law 811 = .ok (.istore 5, 2) := by decide +kernel
theorem dL_law_813 : decode cL_law 813 = .ok (.aload_n 2, 1) := by decide +kernel
theorem dL_law_814 : decode cL_law 814 = .ok (.aload_n 0, 1) := by decide +kernel
theorem dL_law_815 : decode cL_law 815 = .ok (.iload 4, 2) := by decide +kernel
theorem dL_law_817 : decode cL_law 817 = .ok (.iconst 1, 1) := by decide +kernel
theorem dL_law_818 : decode cL_law 818 = .ok (.iadd, 1) := by decide +kernel
theorem dL_law_819 : decode cL_law 819 = .ok (.iaload, 1) := by decide +kernel
theorem dL_law_820 : decode cL_law 820 = .ok (.invokevirtual 116, 3) := by decide +kernel
theorem dL_law_823 : decode cL_law 823 = .ok (.istore 6, 2) := by decide +kernel
theorem dL_law_825 : decode cL_law 825 = .ok (.aload_n 2, 1) := by decide +kernel
theorem dL_law_826 : decode cL_law 826 = .ok (.invokevirtual 80, 3) := by decide +kernel
theorem dL_law_829 : decode cL_law 829 = .ok (.iload 5, 2) := by decide +kernel
theorem dL_law_831 : decode cL_law 831 = .ok (.if_icmp .eq 5, 3) := by decide +kernel
theorem dL_law_834 : decode cL_law 834 = .ok (.iconst 0, 1) := by decide +kernel
theorem dL_law_835 : decode cL_law 835 = .ok (.ireturn, 1) := by decide +kernel
theorem dL_law_836 : decode cL_law 836 = .ok (.iload 5, 2) := by decide +kernel
theorem dL_law_838 : decode cL_law 838 = .ok (.ifCond .ne 15, 3) := by decide +kernel
theorem dL_law_841 : decode cL_law 841 = .ok (.aload_n 3, 1) := by decide +kernel
theorem dL_law_842 : decode cL_law 842 = .ok (.iconst 0, 1) := by decide +kernel
theorem dL_law_843 : decode cL_law 843 = .ok (.laload, 1) := by decide +kernel
theorem dL_law_844 : decode cL_law 844 = .ok (.iload 6, 2) := by decide +kernel
theorem dL_law_846 : decode cL_law 846 = .ok (.i2l, 1) := by decide +kernel
theorem dL_law_847 : decode cL_law 847 = .ok (.lcmp, 1) := by decide +kernel
theorem dL_law_848 : decode cL_law 848 = .ok (.ifCond .eq 5, 3) := by decide +kernel
theorem dL_law_851 : decode cL_law 851 = .ok (.iconst 0, 1) := by decide +kernel
theorem dL_law_852 : decode cL_law 852 = .ok (.ireturn, 1) := by decide +kernel
theorem dL_law_853 : decode cL_law 853 = .ok (.goto 419, 3) := by decide +kernel
theorem dL_law_856 : decode cL_law 856 = .ok (.aload_n 1, 1) := by decide +kernel
theorem dL_law_857 : decode cL_law 857 = .ok (.invokevirtual 117, 3) := by decide +kernel
theorem dL_law_860 : decode cL_law 860 = .ok (.aload_n 2, 1) := by decide +kernel
theorem dL_law_861 : decode cL_law 861 = .ok (.invokevirtual 120, 3) := by decide +kernel
theorem dL_law_864 : decode cL_law 864 = .ok (.if_icmp .eq 408, 3) := by decide +kernel
theorem dL_law_867 : decode cL_law 867 = .ok (.iconst 0, 1) := by decide +kernel
theorem dL_law_868 : decode cL_law 868 = .ok (.ireturn, 1) := by decide +kernel
theorem dL_law_869 : decode cL_law 869 = .ok (.aload_n 1, 1) := by decide +kernel
theorem dL_law_870 : decode cL_law 870 = .ok (.aload_n 0, 1) := by decide +kernel
theorem dL_law_871 : decode cL_law 871 = .ok (.iload 4, 2) := by decide +kernel
theorem dL_law_873 : decode cL_law 873 = .ok (.iconst 1, 1) := by decide +kernel
theorem dL_law_874 : decode cL_law 874 = .ok (.iadd, 1) := by decide +kernel
theorem dL_law_875 : decode cL_law 875 = .ok (.iaload, 1) := by decide +kernel
theorem dL_law_876 : decode cL_law 876 = .ok (.aload_n 3, 1) := by decide +kernel
theorem dL_law_877 : decode cL_law 877 = .ok (.invokestatic 121, 3) := by decide +kernel
theorem dL_law_880 : decode cL_law 880 = .ok (.istore 5, 2) := by decide +kernel
theorem dL_law_882 : decode cL_law 882 = .ok (.aload_n 2, 1) := by decide +kernel
theorem dL_law_883 : decode cL_law 883 = .ok (.aload_n 0, 1) := by decide +kernel
theorem dL_law_884 : decode cL_law 884 = .ok (.iload 4, 2) := by decide +kernel
theorem dL_law_886 : decode cL_law 886 = .ok (.iconst 1, 1) := by decide +kernel
theorem dL_law_887 : decode cL_law 887 = .ok (.iadd, 1) := by decide +kernel
theorem dL_law_888 : decode cL_law 888 = .ok (.iaload, 1) := by decide +kernel
theorem dL_law_889 : decode cL_law 889 = .ok (.invokevirtual 123, 3) := by decide +kernel
theorem dL_law_892 : decode cL_law 892 = .ok (.istore 6, 2) := by decide +kernel
theorem dL_law_894 : decode cL_law 894 = .ok (.aload_n 2, 1) := by decide +kernel
theorem dL_law_895 : decode cL_law 895 = .ok (.invokevirtual 80, 3) := by decide +kernel
theorem dL_law_898 : decode cL_law 898 = .ok (.iload 5, 2) := by decide +kernel
theorem dL_law_900 : decode cL_law 900 = .ok (.if_icmp .eq 5, 3) := by decide +kernel
theorem dL_law_903 : decode cL_law 903 = .ok (.iconst 0, 1) := by decide +kernel
theorem dL_law_904 : decode cL_law 904 = .ok (.ireturn, 1) := by decide +kernel
theorem dL_law_905 : decode cL_law 905 = .ok (.iload 5, 2) := by decide +kernel
theorem dL_law_907 : decode cL_law 907 = .ok (.ifCond .ne 15, 3) := by decide +kernel
theorem dL_law_910 : decode cL_law 910 = .ok (.aload_n 3, 1) := by decide +kernel
theorem dL_law_911 : decode cL_law 911 = .ok (.iconst 0, 1) := by decide +kernel
theorem dL_law_912 : decode cL_law 912 = .ok (.laload, 1) := by decide +kernel
theorem dL_law_913 : decode cL_law 913 = .ok (.iload 6, 2) := by decide +kernel
theorem dL_law_915 : decode cL_law 915 = .ok (.i2l, 1) := by decide +kernel
theorem dL_law_916 : decode cL_law 916 = .ok (.lcmp, 1) := by decide +kernel
theorem dL_law_917 : decode cL_law 917 = .ok (.ifCond .eq 5, 3) := by decide +kernel
theorem dL_law_920 : decode cL_law 920 = .ok (.iconst 0, 1) := by decide +kernel
theorem dL_law_921 : decode cL_law 921 = .ok (.ireturn, 1) := by decide +kernel
theorem dL_law_922 : decode cL_law 922 = .ok (.goto 350, 3) := by decide +kernel
theorem dL_law_925 : decode cL_law 925 = .ok (.aload_n 1, 1) := by decide +kernel
theorem dL_law_926 : decode cL_law 926 = .ok (.aload_n 0, 1) := by decide +kernel
theorem dL_law_927 : decode cL_law 927 = .ok (.iload 4, 2) := by decide +kernel
theorem dL_law_929 : decode cL_law 929 = .ok (.iconst 1, 1) := by decide +kernel
theorem dL_law_930 : decode cL_law 930 = .ok (.iadd, 1) := by decide +kernel
theorem dL_law_931 : decode cL_law 931 = .ok (.iaload, 1) := by decide +kernel
theorem dL_law_932 : decode cL_law 932 = .ok (.aload_n 3, 1) := by decide +kernel
theorem dL_law_933 : decode cL_law 933 = .ok (.invokestatic 124, 3) := by decide +kernel
theorem dL_law_936 : decode cL_law 936 = .ok (.istore 5, 2) := by decide +kernel
theorem dL_law_938 : decode cL_law 938 = .ok (.aload_n 2, 1) := by decide +kernel
theorem dL_law_939 : decode cL_law 939 = .ok (.aload_n 0, 1) := by decide +kernel
theorem dL_law_940 : decode cL_law 940 = .ok (.iload 4, 2) := by decide +kernel
theorem dL_law_942 : decode cL_law 942 = .ok (.iconst 1, 1) := by decide +kernel
theorem dL_law_943 : decode cL_law 943 = .ok (.iadd, 1) := by decide +kernel
theorem dL_law_944 : decode cL_law 944 = .ok (.iaload, 1) := by decide +kernel
theorem dL_law_945 : decode cL_law 945 = .ok (.invokevirtual 126, 3) := by decide +kernel
theorem dL_law_948 : decode cL_law 948 = .ok (.istore 6, 2) := by decide +kernel
theorem dL_law_950 : decode cL_law 950 = .ok (.aload_n 2, 1) := by decide +kernel
theorem dL_law_951 : decode cL_law 951 = .ok (.invokevirtual 80, 3) := by decide +kernel
theorem dL_law_954 : decode cL_law 954 = .ok (.iload 5, 2) := by decide +kernel
theorem dL_law_956 : decode cL_law 956 = .ok (.if_icmp .eq 5, 3) := by decide +kernel
theorem dL_law_959 : decode cL_law 959 = .ok (.iconst 0, 1) := by decide +kernel
theorem dL_law_960 : decode cL_law 960 = .ok (.ireturn, 1) := by decide +kernel
theorem dL_law_961 : decode cL_law 961 = .ok (.iload 5, 2) := by decide +kernel
theorem dL_law_963 : decode cL_law 963 = .ok (.ifCond .ne 15, 3) := by decide +kernel
theorem dL_law_966 : decode cL_law 966 = .ok (.aload_n 3, 1) := by decide +kernel
theorem dL_law_967 : decode cL_law 967 = .ok (.iconst 0, 1) := by decide +kernel
theorem dL_law_968 : decode cL_law 968 = .ok (.laload, 1) := by decide +kernel
theorem dL_law_969 : decode cL_law 969 = .ok (.iload 6, 2) := by decide +kernel
theorem dL_law_971 : decode cL_law 971 = .ok (.i2l, 1) := by decide +kernel
theorem dL_law_972 : decode cL_law 972 = .ok (.lcmp, 1) := by decide +kernel
theorem dL_law_973 : decode cL_law 973 = .ok (.ifCond .eq 5, 3) := by decide +kernel
theorem dL_law_976 : decode cL_law 976 = .ok (.iconst 0, 1) := by decide +kernel
theorem dL_law_977 : decode cL_law 977 = .ok (.ireturn, 1) := by decide +kernel
theorem dL_law_978 : decode cL_law 978 = .ok (.goto 294, 3) := by decide +kernel
theorem dL_law_981 : decode cL_law 981 = .ok (.aload_n 1, 1) := by decide +kernel
theorem dL_law_982 : decode cL_law 982 = .ok (.aload_n 0, 1) := by decide +kernel
theorem dL_law_983 : decode cL_law 983 = .ok (.iload 4, 2) := by decide +kernel
theorem dL_law_985 : decode cL_law 985 = .ok (.iconst 1, 1) := by decide +kernel
theorem dL_law_986 : decode cL_law 986 = .ok (.iadd, 1) := by decide +kernel
theorem dL_law_987 : decode cL_law 987 = .ok (.iaload, 1) := by decide +kernel
theorem dL_law_988 : decode cL_law 988 = .ok (.aload_n 0, 1) := by decide +kernel
theorem dL_law_989 : decode cL_law 989 = .ok (.iload 4, 2) := by decide +kernel
theorem dL_law_991 : decode cL_law 991 = .ok (.iconst 2, 1) := by decide +kernel
theorem dL_law_992 : decode cL_law 992 = .ok (.iadd, 1) := by decide +kernel
theorem dL_law_993 : decode cL_law 993 = .ok (.iaload, 1) := by decide +kernel
theorem dL_law_994 : decode cL_law 994 = .ok (.aload_n 3, 1) := by decide +kernel
theorem dL_law_995 : decode cL_law 995 = .ok (.invokestatic 127, 3) := by decide +kernel
theorem dL_law_998 : decode cL_law 998 = .ok (.istore 5, 2) := by decide +kernel
theorem dL_law_1000 : decode cL_law 1000 = .ok (.aload_n 2, 1) := by decide +kernel
theorem dL_law_1001 : decode cL_law 1001 = .ok (.aload_n 0, 1) := by decide +kernel
theorem dL_law_1002 : decode cL_law 1002 = .ok (.iload 4, 2) := by decide +kernel
theorem dL_law_1004 : decode cL_law 1004 = .ok (.iconst 1, 1) := by decide +kernel
theorem dL_law_1005 : decode cL_law 1005 = .ok (.iadd, 1) := by decide +kernel
theorem dL_law_1006 : decode cL_law 1006 = .ok (.iaload, 1) := by decide +kernel
theorem dL_law_1007 : decode cL_law 1007 = .ok (.aload_n 0, 1) := by decide +kernel
theorem dL_law_1008 : decode cL_law 1008 = .ok (.iload 4, 2) := by decide +kernel
theorem dL_law_1010 : decode cL_law 1010 = .ok (.iconst 2, 1) := by decide +kernel
theorem dL_law_1011 : decode cL_law 1011 = .ok (.iadd, 1) := by decide +kernel
theorem dL_law_1012 : decode cL_law 1012 = .ok (.iaload, 1) := by decide +kernel
theorem dL_law_1013 : decode cL_law 1013 = .ok (.invokevirtual 129, 3) := by decide +kernel
theorem dL_law_1016 : decode cL_law 1016 = .ok (.istore 6, 2) := by decide +kernel
theorem dL_law_1018 : decode cL_law 1018 = .ok (.aload_n 2, 1) := by decide +kernel
theorem dL_law_1019 : decode cL_law 1019 = .ok (.invokevirtual 80, 3) := by decide +kernel
theorem dL_law_1022 : decode cL_law 1022 = .ok (.iload 5, 2) := by decide +kernel
theorem dL_law_1024 : decode cL_law 1024 = .ok (.if_icmp .eq 5, 3) := by decide +kernel
theorem dL_law_1027 : decode cL_law 1027 = .ok (.iconst 0, 1) := by decide +kernel
theorem dL_law_1028 : decode cL_law 1028 = .ok (.ireturn, 1) := by decide +kernel
theorem dL_law_1029 : decode cL_law 1029 = .ok (.iload 5, 2) := by decide +kernel
theorem dL_law_1031 : decode cL_law 1031 = .ok (.ifCond .ne 15, 3) := by decide +kernel
theorem dL_law_1034 : decode cL_law 1034 = .ok (.aload_n 3, 1) := by decide +kernel
theorem dL_law_1035 : decode cL_law 1035 = .ok (.iconst 0, 1) := by decide +kernel
theorem dL_law_1036 : decode cL_law 1036 = .ok (.laload, 1) := by decide +kernel
theorem dL_law_1037 : decode cL_law 1037 = .ok (.iload 6, 2) := by decide +kernel
theorem dL_law_1039 : decode cL_law 1039 = .ok (.i2l, 1) := by decide +kernel
theorem dL_law_1040 : decode cL_law 1040 = .ok (.lcmp, 1) := by decide +kernel
theorem dL_law_1041 : decode cL_law 1041 = .ok (.ifCond .eq 5, 3) := by decide +kernel
theorem dL_law_1044 : decode cL_law 1044 = .ok (.iconst 0, 1) := by decide +kernel
theorem dL_law_1045 : decode cL_law 1045 = .ok (.ireturn, 1) := by decide +kernel
theorem dL_law_1046 : decode cL_law 1046 = .ok (.goto 226, 3) := by decide +kernel
theorem dL_law_1049 : decode cL_law 1049 = .ok (.aload_n 1, 1) := by decide +kernel
theorem dL_law_1050 : decode cL_law 1050 = .ok (.aload_n 0, 1) := by decide +kernel
theorem dL_law_1051 : decode cL_law 1051 = .ok (.iload 4, 2) := by decide +kernel
theorem dL_law_1053 : decode cL_law 1053 = .ok (.iconst 1, 1) := by decide +kernel
theorem dL_law_1054 : decode cL_law 1054 = .ok (.iadd, 1) := by decide +kernel
theorem dL_law_1055 : decode cL_law 1055 = .ok (.iaload, 1) := by decide +kernel
theorem dL_law_1056 : decode cL_law 1056 = .ok (.aload_n 3, 1) := by decide +kernel
theorem dL_law_1057 : decode cL_law 1057 = .ok (.invokestatic 130, 3) := by decide +kernel
theorem dL_law_1060 : decode cL_law 1060 = .ok (.istore 5, 2) := by decide +kernel
theorem dL_law_1062 : decode cL_law 1062 = .ok (.aload_n 2, 1) := by decide +kernel
theorem dL_law_1063 : decode cL_law 1063 = .ok (.aload_n 0, 1) := by decide +kernel
theorem dL_law_1064 : decode cL_law 1064 = .ok (.iload 4, 2) := by decide +kernel
theorem dL_law_1066 : decode cL_law 1066 = .ok (.iconst 1, 1) := by decide +kernel
theorem dL_law_1067 : decode cL_law 1067 = .ok (.iadd, 1) := by decide +kernel
theorem dL_law_1068 : decode cL_law 1068 = .ok (.iaload, 1) := by decide +kernel
theorem dL_law_1069 : decode cL_law 1069 = .ok (.invokevirtual 132, 3) := by decide +kernel
theorem dL_law_1072 : decode cL_law 1072 = .ok (.istore 6, 2) := by decide +kernel
theorem dL_law_1074 : decode cL_law 1074 = .ok (.aload_n 2, 1) := by decide +kernel
theorem dL_law_1075 : decode cL_law 1075 = .ok (.invokevirtual 80, 3) := by decide +kernel
theorem dL_law_1078 : decode cL_law 1078 = .ok (.iload 5, 2) := by decide +kernel
theorem dL_law_1080 : decode cL_law 1080 = .ok (.if_icmp .eq 5, 3) := by decide +kernel
theorem dL_law_1083 : decode cL_law 1083 = .ok (.iconst 0, 1) := by decide +kernel
theorem dL_law_1084 : decode cL_law 1084 = .ok (.ireturn, 1) := by decide +kernel
theorem dL_law_1085 : decode cL_law 1085 = .ok (.iload 5, 2) := by decide +kernel
theorem dL_law_1087 : decode cL_law 1087 = .ok (.ifCond .ne 15, 3) := by decide +kernel
theorem dL_law_1090 : decode cL_law 1090 = .ok (.aload_n 3, 1) := by decide +kernel
theorem dL_law_1091 : decode cL_law 1091 = .ok (.iconst 0, 1) := by decide +kernel
theorem dL_law_1092 : decode cL_law 1092 = .ok (.laload, 1) := by decide +kernel
theorem dL_law_1093 : decode cL_law 1093 = .ok (.iload 6, 2) := by decide +kernel
theorem dL_law_1095 : decode cL_law 1095 = .ok (.i2l, 1) := by decide +kernel
theorem dL_law_1096 : decode cL_law 1096 = .ok (.lcmp, 1) := by decide +kernel
theorem dL_law_1097 : decode cL_law 1097 = .ok (.ifCond .eq 5, 3) := by decide +kernel
theorem dL_law_1100 : decode cL_law 1100 = .ok (.iconst 0, 1) := by decide +kernel
theorem dL_law_1101 : decode cL_law 1101 = .ok (.ireturn, 1) := by decide +kernel
theorem dL_law_1102 : decode cL_law 1102 = .ok (.goto 170, 3) := by decide +kernel
theorem dL_law_1105 : decode cL_law 1105 = .ok (.aload_n 1, 1) := by decide +kernel
theorem dL_law_1106 : decode cL_law 1106 = .ok (.aload_n 0, 1) := by decide +kernel
theorem dL_law_1107 : decode cL_law 1107 = .ok (.iload 4, 2) := by decide +kernel
theorem dL_law_1109 : decode cL_law 1109 = .ok (.iconst 1, 1) := by decide +kernel
theorem dL_law_1110 : decode cL_law 1110 = .ok (.iadd, 1) := by decide +kernel
theorem dL_law_1111 : decode cL_law 1111 = .ok (.iaload, 1) := by decide +kernel
theorem dL_law_1112 : decode cL_law 1112 = .ok (.aload_n 3, 1) := by decide +kernel
theorem dL_law_1113 : decode cL_law 1113 = .ok (.invokestatic 133, 3) := by decide +kernel
theorem dL_law_1116 : decode cL_law 1116 = .ok (.istore 5, 2) := by decide +kernel
theorem dL_law_1118 : decode cL_law 1118 = .ok (.aload_n 2, 1) := by decide +kernel
theorem dL_law_1119 : decode cL_law 1119 = .ok (.aload_n 0, 1) := by decide +kernel
theorem dL_law_1120 : decode cL_law 1120 = .ok (.iload 4, 2) := by decide +kernel
theorem dL_law_1122 : decode cL_law 1122 = .ok (.iconst 1, 1) := by decide +kernel
theorem dL_law_1123 : decode cL_law 1123 = .ok (.iadd, 1) := by decide +kernel
theorem dL_law_1124 : decode cL_law 1124 = .ok (.iaload, 1) := by decide +kernel
theorem dL_law_1125 : decode cL_law 1125 = .ok (.invokevirtual 135, 3) := by decide +kernel
theorem dL_law_1128 : decode cL_law 1128 = .ok (.istore 6, 2) := by decide +kernel
theorem dL_law_1130 : decode cL_law 1130 = .ok (.aload_n 2, 1) := by decide +kernel
theorem dL_law_1131 : decode cL_law 1131 = .ok (.invokevirtual 80, 3) := by decide +kernel
theorem dL_law_1134 : decode cL_law 1134 = .ok (.iload 5, 2) := by decide +kernel
theorem dL_law_1136 : decode cL_law 1136 = .ok (.if_icmp .eq 5, 3) := by decide +kernel
theorem dL_law_1139 : decode cL_law 1139 = .ok (.iconst 0, 1) := by decide +kernel
theorem dL_law_1140 : decode cL_law 1140 = .ok (.ireturn, 1) := by decide +kernel
theorem dL_law_1141 : decode cL_law 1141 = .ok (.iload 5, 2) := by decide +kernel
theorem dL_law_1143 : decode cL_law 1143 = .ok (.ifCond .ne 15, 3) := by decide +kernel
theorem dL_law_1146 : decode cL_law 1146 = .ok (.aload_n 3, 1) := by decide +kernel
theorem dL_law_1147 : decode cL_law 1147 = .ok (.iconst 0, 1) := by decide +kernel
theorem dL_law_1148 : decode cL_law 1148 = .ok (.laload, 1) := by decide +kernel
theorem dL_law_1149 : decode cL_law 1149 = .ok (.iload 6, 2) := by decide +kernel
theorem dL_law_1151 : decode cL_law 1151 = .ok (.i2l, 1) := by decide +kernel
theorem dL_law_1152 : decode cL_law 1152 = .ok (.lcmp, 1) := by decide +kernel
theorem dL_law_1153 : decode cL_law 1153 = .ok (.ifCond .eq 5, 3) := by decide +kernel
theorem dL_law_1156 : decode cL_law 1156 = .ok (.iconst 0, 1) := by decide +kernel
theorem dL_law_1157 : decode cL_law 1157 = .ok (.ireturn, 1) := by decide +kernel
theorem dL_law_1158 : decode cL_law 1158 = .ok (.goto 114, 3) := by decide +kernel
theorem dL_law_1161 : decode cL_law 1161 = .ok (.aload_n 1, 1) := by decide +kernel
theorem dL_law_1162 : decode cL_law 1162 = .ok (.aload_n 0, 1) := by decide +kernel
theorem dL_law_1163 : decode cL_law 1163 = .ok (.iload 4, 2) := by decide +kernel
theorem dL_law_1165 : decode cL_law 1165 = .ok (.iconst 1, 1) := by decide +kernel
theorem dL_law_1166 : decode cL_law 1166 = .ok (.iadd, 1) := by decide +kernel
theorem dL_law_1167 : decode cL_law 1167 = .ok (.iaload, 1) := by decide +kernel
theorem dL_law_1168 : decode cL_law 1168 = .ok (.aload_n 3, 1) := by decide +kernel
theorem dL_law_1169 : decode cL_law 1169 = .ok (.invokestatic 136, 3) := by decide +kernel
theorem dL_law_1172 : decode cL_law 1172 = .ok (.istore 5, 2) := by decide +kernel
theorem dL_law_1174 : decode cL_law 1174 = .ok (.aload_n 2, 1) := by decide +kernel
theorem dL_law_1175 : decode cL_law 1175 = .ok (.aload_n 0, 1) := by decide +kernel
theorem dL_law_1176 : decode cL_law 1176 = .ok (.iload 4, 2) := by decide +kernel
theorem dL_law_1178 : decode cL_law 1178 = .ok (.iconst 1, 1) := by decide +kernel
theorem dL_law_1179 : decode cL_law 1179 = .ok (.iadd, 1) := by decide +kernel
theorem dL_law_1180 : decode cL_law 1180 = .ok (.iaload, 1) := by decide +kernel
theorem dL_law_1181 : decode cL_law 1181 = .ok (.invokevirtual 138, 3) := by decide +kernel
theorem dL_law_1184 : decode cL_law 1184 = .ok (.istore 6, 2) := by decide +kernel
theorem dL_law_1186 : decode cL_law 1186 = .ok (.aload_n 2, 1) := by decide +kernel
theorem dL_law_1187 : decode cL_law 1187 = .ok (.invokevirtual 80, 3) := by decide +kernel
theorem dL_law_1190 : decode cL_law 1190 = .ok (.iload 5, 2) := by decide +kernel
theorem dL_law_1192 : decode cL_law 1192 = .ok (.if_icmp .eq 5, 3) := by decide +kernel
theorem dL_law_1195 : decode cL_law 1195 = .ok (.iconst 0, 1) := by decide +kernel
theorem dL_law_1196 : decode cL_law 1196 = .ok (.ireturn, 1) := by decide +kernel
theorem dL_law_1197 : decode cL_law 1197 = .ok (.iload 5, 2) := by decide +kernel
theorem dL_law_1199 : decode cL_law 1199 = .ok (.ifCond .ne 15, 3) := by decide +kernel
theorem dL_law_1202 : decode cL_law 1202 = .ok (.aload_n 3, 1) := by decide +kernel
theorem dL_law_1203 : decode cL_law 1203 = .ok (.iconst 0, 1) := by decide +kernel
theorem dL_law_1204 : decode cL_law 1204 = .ok (.laload, 1) := by decide +kernel
theorem dL_law_1205 : decode cL_law 1205 = .ok (.iload 6, 2) := by decide +kernel
theorem dL_law_1207 : decode cL_law 1207 = .ok (.i2l, 1) := by decide +kernel
theorem dL_law_1208 : decode cL_law 1208 = .ok (.lcmp, 1) := by decide +kernel
theorem dL_law_1209 : decode cL_law 1209 = .ok (.ifCond .eq 5, 3) := by decide +kernel
theorem dL_law_1212 : decode cL_law 1212 = .ok (.iconst 0, 1) := by decide +kernel
theorem dL_law_1213 : decode cL_law 1213 = .ok (.ireturn, 1) := by decide +kernel
theorem dL_law_1214 : decode cL_law 1214 = .ok (.goto 58, 3) := by decide +kernel
theorem dL_law_1217 : decode cL_law 1217 = .ok (.aload_n 1, 1) := by decide +kernel
theorem dL_law_1218 : decode cL_law 1218 = .ok (.invokevirtual 139, 3) := by decide +kernel
theorem dL_law_1221 : decode cL_law 1221 = .ok (.dstore 5, 2) := by decide +kernel
theorem dL_law_1223 : decode cL_law 1223 = .ok (.aload_n 2, 1) := by decide +kernel
theorem dL_law_1224 : decode cL_law 1224 = .ok (.invokevirtual 143, 3) := by decide +kernel
theorem dL_law_1227 : decode cL_law 1227 = .ok (.dstore 7, 2) := by decide +kernel
theorem dL_law_1229 : decode cL_law 1229 = .ok (.dload 5, 2) := by decide +kernel
theorem dL_law_1231 : decode cL_law 1231 = .ok (.dload 7, 2) := by decide +kernel
theorem dL_law_1233 : decode cL_law 1233 = .ok (.dcmp .l, 1) := by decide +kernel
theorem dL_law_1234 : decode cL_law 1234 = .ok (.ifCond .eq 21, 3) := by decide +kernel
theorem dL_law_1237 : decode cL_law 1237 = .ok (.dload 5, 2) := by decide +kernel
theorem dL_law_1239 : decode cL_law 1239 = .ok (.dload 5, 2) := by decide +kernel
theorem dL_law_1241 : decode cL_law 1241 = .ok (.dcmp .l, 1) := by decide +kernel
theorem dL_law_1242 : decode cL_law 1242 = .ok (.ifCond .eq 11, 3) := by decide +kernel
theorem dL_law_1245 : decode cL_law 1245 = .ok (.dload 7, 2) := by decide +kernel
theorem dL_law_1247 : decode cL_law 1247 = .ok (.dload 7, 2) := by decide +kernel
theorem dL_law_1249 : decode cL_law 1249 = .ok (.dcmp .l, 1) := by decide +kernel
theorem dL_law_1250 : decode cL_law 1250 = .ok (.ifCond .ne 5, 3) := by decide +kernel
theorem dL_law_1253 : decode cL_law 1253 = .ok (.iconst 0, 1) := by decide +kernel
theorem dL_law_1254 : decode cL_law 1254 = .ok (.ireturn, 1) := by decide +kernel
theorem dL_law_1255 : decode cL_law 1255 = .ok (.goto 17, 3) := by decide +kernel
theorem dL_law_1258 : decode cL_law 1258 = .ok (.aload_n 1, 1) := by decide +kernel
theorem dL_law_1259 : decode cL_law 1259 = .ok (.invokevirtual 144, 3) := by decide +kernel
theorem dL_law_1262 : decode cL_law 1262 = .ok (.aload_n 2, 1) := by decide +kernel
theorem dL_law_1263 : decode cL_law 1263 = .ok (.invokevirtual 148, 3) := by decide +kernel
theorem dL_law_1266 : decode cL_law 1266 = .ok (.lcmp, 1) := by decide +kernel
theorem dL_law_1267 : decode cL_law 1267 = .ok (.ifCond .eq 5, 3) := by decide +kernel
theorem dL_law_1270 : decode cL_law 1270 = .ok (.iconst 0, 1) := by decide +kernel
theorem dL_law_1271 : decode cL_law 1271 = .ok (.ireturn, 1) := by decide +kernel
theorem dL_law_1272 : decode cL_law 1272 = .ok (.iinc 4 5, 3) := by decide +kernel
theorem dL_law_1275 : decode cL_law 1275 = .ok (.goto (-1252), 3) := by decide +kernel
theorem dL_law_1278 : decode cL_law 1278 = .ok (.iconst 1, 1) := by decide +kernel
theorem dL_law_1279 : decode cL_law 1279 = .ok (.ireturn, 1) := by decide +kernel
end
section
/-! the memory: the ints of all objects, by kind, shop, index and slot; all else of them never changes -/
abbrev Mem : Type := Nat → Nat → Nat → Nat → Int32
abbrev GT : Type := va_G × (Nat → ClassId) × (Nat → Nat)
def off (k s i : Nat) : Nat := match k with
  | 0 => 1 + 69 * s
  | 1 => 13 + 69 * s + i
  | 2 => 23 + 69 * s + i
  | 3 => 63 + 69 * s + i
  | 4 => 8 + 69 * s + 2 * i
  | 5 => 139
  | 6 => 143 + 5 * s
  | 7 => 144 + 5 * s
  | 8 => 145 + 5 * s
  | 9 => 146 + 5 * s
  | 10 => 147 + 5 * s
  | 11 => 140
  | 12 => 141
  | 13 => 142
  | 14 => 0
  | 15 => 5 + 69 * s
  | 16 => 7 + 69 * s + 2 * i
  | 17 => 2 + 69 * s
  | 18 => 3 + 69 * s
  | 19 => 4 + 69 * s
  | 20 => 6 + 69 * s
  | _ => 153
def cnt (k : Nat) : Nat := match k with
  | 1 => 10
  | 2 => 40
  | 3 => 7
  | 4 => 3
  | 16 => 3
  | _ => 1
def nsh (k : Nat) : Nat := match k with
  | 5 => 1
  | 11 => 1
  | 12 => 1
  | 13 => 1
  | 14 => 1
  | 21 => 1
  | _ => 2
def okc (k s i : Nat) : Prop := k < 22 ∧ s < nsh k ∧ i < cnt k
def ad (G : GT) (k s i : Nat) : Nat := G.2.2 0 + off k s i
def cellsT : List (Nat × Nat × Nat) := [(14, 0, 0), (0, 0, 0), (17, 0, 0), (18, 0, 0), (19, 0, 0), (15, 0, 0), (20, 0, 0), (16, 0, 0), (4, 0, 0), (16, 0, 1), (4, 0, 1), (16, 0, 2), (4, 0, 2), (1, 0, 0), (1, 0, 1), (1, 0, 2), (1, 0, 3), (1, 0, 4), (1, 0, 5), (1, 0, 6), (1, 0, 7), (1, 0, 8), (1, 0, 9), (2, 0, 0), (2, 0, 1), (2, 0, 2), (2, 0, 3), (2, 0, 4), (2, 0, 5), (2, 0, 6), (2, 0, 7), (2, 0, 8), (2, 0, 9), (2, 0, 10), (2, 0, 11), (2, 0, 12), (2, 0, 13), (2, 0, 14), (2, 0, 15), (2, 0, 16), (2, 0, 17), (2, 0, 18), (2, 0, 19), (2, 0, 20), (2, 0, 21), (2, 0, 22), (2, 0, 23), (2, 0, 24), (2, 0, 25), (2, 0, 26), (2, 0, 27), (2, 0, 28), (2, 0, 29), (2, 0, 30), (2, 0, 31), (2, 0, 32), (2, 0, 33), (2, 0, 34), (2, 0, 35), (2, 0, 36), (2, 0, 37), (2, 0, 38), (2, 0, 39), (3, 0, 0), (3, 0, 1), (3, 0, 2), (3, 0, 3), (3, 0, 4), (3, 0, 5), (3, 0, 6), (0, 1, 0), (17, 1, 0), (18, 1, 0), (19, 1, 0), (15, 1, 0), (20, 1, 0), (16, 1, 0), (4, 1, 0), (16, 1, 1), (4, 1, 1), (16, 1, 2), (4, 1, 2), (1, 1, 0), (1, 1, 1), (1, 1, 2), (1, 1, 3), (1, 1, 4), (1, 1, 5), (1, 1, 6), (1, 1, 7), (1, 1, 8), (1, 1, 9), (2, 1, 0), (2, 1, 1), (2, 1, 2), (2, 1, 3), (2, 1, 4), (2, 1, 5), (2, 1, 6), (2, 1, 7), (2, 1, 8), (2, 1, 9), (2, 1, 10), (2, 1, 11), (2, 1, 12), (2, 1, 13), (2, 1, 14), (2, 1, 15), (2, 1, 16), (2, 1, 17), (2, 1, 18), (2, 1, 19), (2, 1, 20), (2, 1, 21), (2, 1, 22), (2, 1, 23), (2, 1, 24), (2, 1, 25), (2, 1, 26), (2, 1, 27), (2, 1, 28), (2, 1, 29), (2, 1, 30), (2, 1, 31), (2, 1, 32), (2, 1, 33), (2, 1, 34), (2, 1, 35), (2, 1, 36), (2, 1, 37), (2, 1, 38), (2, 1, 39), (3, 1, 0), (3, 1, 1), (3, 1, 2), (3, 1, 3), (3, 1, 4), (3, 1, 5), (3, 1, 6), (5, 0, 0), (11, 0, 0), (12, 0, 0), (13, 0, 0), (6, 0, 0), (7, 0, 0), (8, 0, 0), (9, 0, 0), (10, 0, 0), (6, 1, 0), (7, 1, 0), (8, 1, 0), (9, 1, 0), (10, 1, 0), (21, 0, 0)]
theorem off_inv0 : (List.range 22).all (fun k => (List.range (nsh k)).all (fun s => (List.range (cnt k)).all (fun i => decide (cellsT[off k s i]? = some (k, s, i))))) = true := by decide +kernel
theorem off_inv (k : Nat) (hk : k < 22) (s : Nat) (hs : s < nsh k) (i : Nat) (hi : i < cnt k) : cellsT[off k s i]? = some (k, s, i) := by
  have h1 := List.all_eq_true.mp off_inv0 k (List.mem_range.mpr hk)
  have h2 := List.all_eq_true.mp h1 s (List.mem_range.mpr hs)
  have h3 := List.all_eq_true.mp h2 i (List.mem_range.mpr hi)
  exact of_decide_eq_true h3
theorem off_lt {k s i : Nat} (h : okc k s i) : off k s i < 154 := by
  have h1 := off_inv k h.1 s h.2.1 i h.2.2
  have h2 := (List.getElem?_eq_some_iff.mp h1).1
  exact h2
theorem ad_inj {G : GT} {k s i k' s' i' : Nat} (h : okc k s i) (h' : okc k' s' i') (e : ad G k s i = ad G k' s' i') : k = k' ∧ s = s' ∧ i = i' := by
  have h1 := off_inv k h.1 s h.2.1 i h.2.2
  have h2 := off_inv k' h'.1 s' h'.2.1 i' h'.2.2
  have e1 : off k s i = off k' s' i' := Nat.add_left_cancel e
  rw [e1] at h1
  have e2 := Option.some.inj (h1.symm.trans h2)
  exact ⟨congrArg Prod.fst e2, congrArg (fun q => q.2.1) e2, congrArg (fun q => q.2.2) e2⟩
def mset (M : Mem) (k s i j : Nat) (x : Int32) : Mem := fun k' s' i' j' => if k' = k ∧ s' = s ∧ i' = i ∧ j' = j then x else M k' s' i' j'
theorem mset_cell (M : Mem) (k s i j : Nat) (x : Int32) : mset M k s i j x k s i = upd (M k s i) j x := by
  funext j'
  simp [mset, upd]
theorem mset_off (M : Mem) {k s i k' s' i' : Nat} (j : Nat) (x : Int32) (h : ¬ (k' = k ∧ s' = s ∧ i' = i)) : mset M k s i j x k' s' i' = M k' s' i' := by
  funext j'
  exact if_neg (fun z => h ⟨z.1, z.2.1, z.2.2.1⟩)
def conV (G : GT) (k s i : Nat) (f : Nat → Int32) : va_E := match k with
  | 0 => .inr (4, [.int (f 0), .int (f 1), .int (f 2), .int (f 3), .int (f 4), .ref (ad G 17 s 0), .ref (ad G 18 s 0), .ref (ad G 19 s 0), .ref (ad G 15 s 0)])
  | 1 => .inr (1, [.int (f 0), .int (f 1)])
  | 2 => .inr (5, [.int (f 0), .int (f 1), .int (f 2), .int (f 3), .int (f 4), .int (f 5), .int (f 6), .int (f 7), .int (f 8), .int (f 9)])
  | 3 => .inr (0, [.int (f 0), .int (f 1)])
  | 4 => .inl (G.2.1 0, (10 * (i + 1), .inl f))
  | 5 => .inl (G.2.1 0, (40, .inl f))
  | 6 => .inr (7, [.int (f 0), .int (f 1), .int (f 2), .int (f 3), .ref (ad G 7 s 0), .ref (ad G 8 s 0), .ref (ad G 9 s 0), .ref (ad G 10 s 0), .ref (ad G 11 0 0)])
  | 7 => .inl (G.2.1 0, (10, .inl f))
  | 8 => .inl (G.2.1 0, (10, .inl f))
  | 9 => .inl (G.2.1 0, (440, .inl f))
  | 10 => .inl (G.2.1 0, (60, .inl f))
  | 11 => .inr (8, [.int (f 0), .int (f 1), .ref (ad G 12 0 0), .ref (ad G 13 0 0), .ref (ad G 6 0 0), .ref (ad G 6 1 0)])
  | 12 => .inl (G.2.1 0, (7, .inl f))
  | 13 => .inl (G.2.1 0, (7, .inl f))
  | 14 => .inr (6, [.ref (ad G 0 0 0), .ref (ad G 0 1 0), .ref (ad G 5 0 0)])
  | 15 => .inr (2, [.ref (ad G 20 s 0)])
  | 16 => .inr (3, [.ref (ad G 4 s i)])
  | 17 => .inl (G.2.1 2, (10, .inr (.inr (.inr (.inr (fun j => some (ad G 1 s j)))))))
  | 18 => .inl (G.2.1 4, (40, .inr (.inr (.inr (.inr (fun j => some (ad G 2 s j)))))))
  | 19 => .inl (G.2.1 1, (7, .inr (.inr (.inr (.inr (fun j => some (ad G 3 s j)))))))
  | 20 => .inl (G.2.1 3, (3, .inr (.inr (.inr (.inr (fun j => some (ad G 16 s j)))))))
  | _ => .inl (G.2.1 5, (1, .inr (.inl (fun _ => (f 0).toInt64))))
def tys (G : GT) : List (ClassId × FieldType) := [(G.2.1 0, .int), (G.2.1 1, .object RX0), (G.2.1 2, .object RX1), (G.2.1 3, .object RX3), (G.2.1 4, .object RX5), (G.2.1 5, .long)]
/-- the world's cells in the heap -/
def PW (G : GT) (M : Mem) (H : Heap) : Prop := ∀ k s i, okc k s i → va_at G.1 vwCl (ad G k s i, conV G k s i (M k s i)) H
theorem PW.one {G : GT} {M : Mem} {H : Heap} {k s i : Nat} (h : PW G M H) (ho : okc k s i) : va_P G.1 vwCl [(ad G k s i, conV G k s i (M k s i))] H := by
  intro n q hq
  cases n with
  | zero => cases hq; exact h k s i ho
  | succ n => simp at hq
theorem PW.one' {G : GT} {M : Mem} {H : Heap} {k s i : Nat} {e : va_E} (h : PW G M H) (ho : okc k s i) (hc : conV G k s i (M k s i) = e) : va_P G.1 vwCl [(ad G k s i, e)] H := by
  rw [← hc]; exact h.one ho
theorem PW.put {G : GT} {M : Mem} {H H1 : Heap} {k s i j : Nat} {x : Int32} (h : PW G M H) (ho : okc k s i) (he : va_at G.1 vwCl (ad G k s i, conV G k s i (upd (M k s i) j x)) H1) (oq : ∀ q : Nat, q ≠ ad G k s i → H1[q]? = H[q]?) : PW G (mset M k s i j x) H1 := by
  intro k' s' i' ho'
  by_cases e : k' = k ∧ s' = s ∧ i' = i
  · obtain ⟨rfl, rfl, rfl⟩ := e
    rw [mset_cell]; exact he
  · rw [mset_off M j x e]
    exact (h k' s' i' ho').kept (oq _ (fun z => e (ad_inj ho' ho z)))
theorem PW.put' {G : GT} {M M' : Mem} {H H1 : Heap} {k s i : Nat} (h : PW G M H) (ho : okc k s i) (he : va_at G.1 vwCl (ad G k s i, conV G k s i (M' k s i)) H1) (hM : ∀ k' s' i', ¬ (k' = k ∧ s' = s ∧ i' = i) → M' k' s' i' = M k' s' i') (oq : ∀ q : Nat, q ≠ ad G k s i → H1[q]? = H[q]?) : PW G M' H1 := by
  intro k' s' i' ho'
  by_cases e : k' = k ∧ s' = s ∧ i' = i
  · obtain ⟨rfl, rfl, rfl⟩ := e
    exact he
  · rw [hM k' s' i' e]
    exact (h k' s' i' ho').kept (oq _ (fun z => e (ad_inj ho' ho z)))
/-- a temporary int array of a method's own, at T.1, of T.2 places; none where T.2 = 0 -/
def TW (G : GT) (T : Nat × Nat) (M : Mem) (H : Heap) : Prop := T.2 = 0 ∨ (G.2.2 0 + 154 ≤ T.1 ∧ va_at G.1 vwCl (T.1, .inl (G.2.1 0, (T.2, .inl (M 22 0 0)))) H)
theorem ad_lt {G : GT} {k s i : Nat} (h : okc k s i) : ad G k s i < G.2.2 0 + 154 := Nat.add_lt_add_left (off_lt h) _
theorem TW.kept {G : GT} {T : Nat × Nat} {M M' : Mem} {H H1 : Heap} (h : TW G T M H) (hM : M' 22 0 0 = M 22 0 0) (oq : G.2.2 0 + 154 ≤ T.1 → T.1 < H.size → H1[T.1]? = H[T.1]?) : TW G T M' H1 := by
  rcases h with h | ⟨h1, h2⟩
  · exact Or.inl h
  · refine Or.inr ⟨h1, ?_⟩
    rw [hM]
    exact h2.kept (oq h1 h2.lt)
theorem TW.put {G : GT} {T : Nat × Nat} {M : Mem} {H H1 : Heap} {k s i j : Nat} {x : Int32} (h : TW G T M H) (ho : okc k s i) (oq : ∀ q : Nat, q ≠ ad G k s i → H1[q]? = H[q]?) : TW G T (mset M k s i j x) H1 := by
  refine h.kept (mset_off M j x (fun z => ?_)) (fun h1 _ => oq _ (fun z => ?_))
  · have := ho.1
    omega
  · have := ad_lt (G := G) ho
    omega
/-- which cells may change: the world's, and new ones -/
def Aw (G : GT) (sz : Nat) : Nat → Prop := fun q => (G.2.2 0 ≤ q ∧ q < G.2.2 0 + 154) ∨ sz ≤ q
theorem Aw.ad {G : GT} {sz k s i : Nat} (h : okc k s i) : Aw G sz (ad G k s i) := Or.inl ⟨Nat.le_add_right _ _, Nat.add_lt_add_left (off_lt h) _⟩
theorem Aw.mono {G : GT} {a b : Nat} (h : a ≤ b) : ∀ q, Aw G b q → Aw G a q := fun q hq => hq.elim Or.inl (fun z => Or.inr (Nat.le_trans h z))
def NWm : List (String × Nat × MethodName × String) := [("PawnRack$Shop", 35, (⟨"PawnRack$Rack", "<init>", "()V"⟩ : MethodName), "PawnRack"), ("PawnRack$Shop", 40, (⟨"PawnRack$Customer", "<init>", "()V"⟩ : MethodName), "PawnRack"), ("PawnRack$Shop", 41, (⟨"PawnRack$Ticket", "<init>", "()V"⟩ : MethodName), "PawnRack"), ("PawnRack$Shop", 42, (⟨"PawnRack$Buyer", "<init>", "()V"⟩ : MethodName), "PawnRack"), ("PawnRack$Shop", 46, (⟨"PawnRack", "isWithin", "(III)Z"⟩ : MethodName), "PawnRack"), ("PawnRack$Rack", 20, (⟨"PawnRack", "isWithin", "(III)Z"⟩ : MethodName), "PawnRack")]
def NWf : List (String × Nat × String × String × String × String) := [("PawnRackModel", 77, "PawnRackModel$State", "day", "I", "PawnRackModel"), ("PawnRackModel", 74, "PawnRackModel$State", "coins", "I", "PawnRackModel"), ("PawnRackModel", 39, "PawnRackModel$State", "tickets", "I", "PawnRackModel"), ("PawnRackModel", 105, "PawnRackModel$State", "interest", "I", "PawnRackModel"), ("PawnRackModel", 46, "PawnRackModel$State", "own", "[I", "PawnRackModel"), ("PawnRackModel", 49, "PawnRackModel$State", "trust", "[I", "PawnRackModel"), ("PawnRackModel", 80, "PawnRackModel$State", "of", "[I", "PawnRackModel"), ("PawnRackModel", 125, "PawnRackModel$State", "at", "[I", "PawnRackModel"), ("PawnRackModel$State", 71, "PawnRackModel", "wants", "[I", "PawnRackModel"), ("PawnRackModel$State", 74, "PawnRackModel", "purse", "[I", "PawnRackModel"), ("PawnRackModel$State", 51, "PawnRackModel", "FROM", "[I", "PawnRackModel")]
def fromV (j : Nat) : Int32 := match j with
  | 0 => 0
  | 1 => 10
  | 2 => 30
  | _ => 60
/-- what the tables and the old cells say, at a state U with the heap H -/
def WF (G : GT) (A : Nat → Prop) (U : State) (H : Heap) : Prop :=
  va_K G.1 vwCl (tys G) U ∧ (∀ q ∈ NWm, va_Nw (.methodLinkNest q.1 q.2.1 q.2.2.1 q.2.2.2) U) ∧ (∀ q ∈ NWf, va_Nw (.fieldLinkNest q.1 q.2.1 q.2.2.1 q.2.2.2.1 q.2.2.2.2.1 q.2.2.2.2.2) U) ∧
  va_Z RX8 "FROM" "[I" (.ref (G.2.2 1)) A U H ∧ va_T .int (G.2.2 1) 4 (fun j => .int (fromV j)) A U H ∧
  vx_Zq Bundle.tN "UNASSIGNED_STACK" Bundle.steD A U H ∧ vx_Zq Bundle.tN "SUPPRESSED_SENTINEL" Bundle.listD A U H ∧
  vk_R RX6 200 "not in the range" (G.2.2 2) U ∧ vk_R RX6 205 "not possible now" (G.2.2 3) U ∧ vk_R RX6 193 "no such number" (G.2.2 4) U
theorem WF.warm {G : GT} {A B : Nat → Prop} {s U : State} {H0 H : Heap} (h : WF G A s H0) (hW : s.WarmedH U.vm) (hq : ∀ a : Nat, a < H0.size → ¬ A a → H[a]? = H0[a]?) (hAB : ∀ q, B q → A q) : WF G B U H := by
  obtain ⟨h1, h2, h3, h4, h5, h6, h7, h8, h9, h10⟩ := h
  exact ⟨va_K.moved hW.alike h1, fun q hq => va_Nw.warmM hW (h2 q hq), fun q hq => va_Nw.warmF hW (h3 q hq), ((va_Z.moved hW.alike h4).kept hq).narrow hAB, ((va_T.moved hW.alike h5).kept hq).narrow hAB,
    ((vx_Zq.moved hW.alike h6).kept hq).narrow hAB, ((vx_Zq.moved hW.alike h7).kept hq).narrow hAB, vk_R.warm hW h8, vk_R.warm hW h9, vk_R.warm hW h10⟩
theorem WF.same {G : GT} {A : Nat → Prop} {s U : State} {H : Heap} (h : WF G A s H) (hv : U.vm = s.vm) : WF G A U H := by
  obtain ⟨h1, h2, h3, h4, h5, h6, h7, h8, h9, h10⟩ := h
  have hA : s.vm.Alike U.vm := by rw [hv]; exact Vm.Alike.refl s.vm
  exact ⟨va_K.moved hA h1, fun q hq => va_Nw.same rfl hv.symm (h2 q hq), fun q hq => va_Nw.same rfl hv.symm (h3 q hq), va_Z.moved hA h4, va_T.moved hA h5,
    vx_Zq.moved hA h6, vx_Zq.moved hA h7, vk_R.same hv h8, vk_R.same hv h9, vk_R.same hv h10⟩
/-- a method's start -/
def WI (G : GT) (M : Mem) (U : State) : Prop := G.2.2 0 + 154 ≤ U.heap.size ∧ PW G M U.heap ∧ WF G (Aw G U.heap.size) U U.heap
theorem WI.blind {G : GT} {M : Mem} {U : State} (h : WI G M U) (g : JFrame) (mk : MethodId) (a : Array Value) : WI G M (U.calling g mk a) := ⟨h.1, h.2.1, h.2.2.same rfl⟩
/-- what stands fixed in a walk -/
abbrev PX : Type := Program × Launch × Env × Room × State × MethodId × Array Value × List Frame × Method × Code
abbrev xP (X : PX) : Program := X.1
abbrev xL (X : PX) : Launch := X.2.1
abbrev xE (X : PX) : Env := X.2.2.1
abbrev xR (X : PX) : Room := X.2.2.2.1
abbrev xS (X : PX) : State := X.2.2.2.2.1
abbrev xM (X : PX) : MethodId := X.2.2.2.2.2.1
abbrev xA (X : PX) : Array Value := X.2.2.2.2.2.2.1
abbrev xB (X : PX) : List Frame := X.2.2.2.2.2.2.2.1
abbrev xMe (X : PX) : Method := X.2.2.2.2.2.2.2.2.1
abbrev xC (X : PX) : Code := X.2.2.2.2.2.2.2.2.2
def rmd (d mc ms : Nat) : Room := { frames := d, cells := mc, slots := ms, locals := 30 * d }
def EF (X : PX) (G : GT) (cc : ByteArray) (nL : Nat) (own : String) (rt : Option FieldType) (d mc ms : Nat) : Prop :=
  (xP X).tables.exec = Jvm.exec ∧ (xC X).code = cc ∧ (xC X).maxLocals = nL ∧ (xS X).vm.findClass own = some (xM X).cls ∧ (∀ w ∈ GW, w.before (xA X) (xS X) = true) ∧ (xMe X).locks = false ∧ (xMe X).sig.returnType = rt ∧
  G.2.2 0 + 154 ≤ (xS X).heap.size ∧ WF G (Aw G (xS X).heap.size) (xS X) (xS X).heap ∧ xR X = rmd d mc ms
section EFs
variable {X : PX} {G : GT} {cc : ByteArray} {nL : Nat} {own : String} {rt : Option FieldType} {d mc ms : Nat}
theorem EF.ex (E : EF X G cc nL own rt d mc ms) : (xP X).tables.exec = Jvm.exec := E.1
theorem EF.cb (E : EF X G cc nL own rt d mc ms) : (xC X).code = cc := E.2.1
theorem EF.ml (E : EF X G cc nL own rt d mc ms) : (xC X).maxLocals = nL := E.2.2.1
theorem EF.ow (E : EF X G cc nL own rt d mc ms) : (xS X).vm.findClass own = some (xM X).cls := E.2.2.2.1
theorem EF.ts (E : EF X G cc nL own rt d mc ms) : ∀ w ∈ GW, w.before (xA X) (xS X) = true := E.2.2.2.2.1
theorem EF.lk (E : EF X G cc nL own rt d mc ms) : (xMe X).locks = false := E.2.2.2.2.2.1
theorem EF.ret (E : EF X G cc nL own rt d mc ms) : (xMe X).sig.returnType = rt := E.2.2.2.2.2.2.1
theorem EF.zb (E : EF X G cc nL own rt d mc ms) : G.2.2 0 + 154 ≤ (xS X).heap.size := E.2.2.2.2.2.2.2.1
theorem EF.wf (E : EF X G cc nL own rt d mc ms) : WF G (Aw G (xS X).heap.size) (xS X) (xS X).heap := E.2.2.2.2.2.2.2.2.1
theorem EF.rm (E : EF X G cc nL own rt d mc ms) : xR X = rmd d mc ms := E.2.2.2.2.2.2.2.2.2
theorem EF.kk (E : EF X G cc nL own rt d mc ms) : va_K G.1 vwCl (tys G) (xS X) := E.wf.1
end EFs
/-! locals, one place each -/
def lget : List (Option Value) → Nat → Option Value
  | [], _ => none
  | a :: _, 0 => a
  | _ :: r, n + 1 => lget r n
def lset : List (Option Value) → Nat → Option Value → List (Option Value)
  | [], _, _ => []
  | _ :: r, 0, v => v :: r
  | a :: r, n + 1, v => a :: lset r n v
theorem lget_lt : ∀ {lv : List (Option Value)} {i : Nat} {v : Value}, lget lv i = some v → i < lv.length
  | [], _, _, h => by cases h
  | _ :: _, 0, _, _ => Nat.succ_pos _
  | _ :: r, n + 1, v, h => Nat.succ_lt_succ (lget_lt (lv := r) h)
theorem lset_len : ∀ (lv : List (Option Value)) (i : Nat) (v : Option Value), (lset lv i v).length = lv.length
  | [], _, _ => rfl
  | _ :: _, 0, _ => rfl
  | _ :: r, n + 1, v => congrArg (· + 1) (lset_len r n v)
theorem lget_set : ∀ {lv : List (Option Value)} {i j : Nat} {v : Option Value}, i < lv.length → lget (lset lv i v) j = if j = i then v else lget lv j
  | [], _, _, _, h => absurd h (Nat.not_lt_zero _)
  | _ :: _, 0, 0, _, _ => rfl
  | _ :: _, 0, j + 1, _, _ => by simp [lset, lget]
  | _ :: _, i + 1, 0, _, _ => by simp [lset, lget]
  | _ :: r, i + 1, j + 1, v, h => by
    have := lget_set (lv := r) (i := i) (j := j) (v := v) (Nat.lt_of_succ_lt_succ h)
    simp only [lset, lget, this]
    by_cases e : j = i <;> simp [e]
def c2 (v : Option Value) : Bool := match v with
  | some w => w.category == 2
  | none => false
def hasL (ls : Array Slot) (lv : List (Option Value)) : Prop := ls.size = lv.length ∧ lv_wf ls ∧ ∀ (i : Nat) (v : Value), lget lv i = some v → ls[i]? = some (.val v)
def cvL (lv : List (Option Value)) : List (Nat × Value) := (List.range lv.length).filterMap (fun j => (lget lv j).map (fun w => (j, w)))
theorem cvL_mem {lv : List (Option Value)} {i : Nat} {v : Value} : (i, v) ∈ cvL lv ↔ lget lv i = some v := by
  constructor
  · intro h
    obtain ⟨j, -, h2⟩ := List.mem_filterMap.mp h
    cases hg : lget lv j with
    | none => rw [hg] at h2; cases h2
    | some w =>
      rw [hg] at h2
      cases h2
      exact hg
  · intro h
    exact List.mem_filterMap.mpr ⟨i, List.mem_range.mpr (lget_lt h), by rw [h]; rfl⟩
theorem hasL.cv {ls : Array Slot} {lv : List (Option Value)} (h : hasL ls lv) : lv_has ls lv.length (cvL lv) := ⟨h.1, h.2.1, fun q hq => h.2.2 q.1 q.2 (cvL_mem.mp hq)⟩
theorem hasL.cv1 {ls : Array Slot} {lv : List (Option Value)} (h : hasL ls lv) {i : Nat} {v : Value} (hi : lget lv i = some v) : lv_has ls lv.length ((i, v) :: cvL lv) := ⟨h.1, h.2.1, fun q hq => by
  rcases List.mem_cons.mp hq with rfl | hq
  · exact h.2.2 i v hi
  · exact h.2.2 q.1 q.2 (cvL_mem.mp hq)⟩
theorem hasL_st1 {ls' : Array Slot} {lv : List (Option Value)} {l : List (Nat × Value)} {i : Nat} {v : Value} (hi : i < lv.length) (hp : ∀ j w, j + 1 = i → lget lv j = some w → (w.category == 2) = false) (hl : ∀ j w, lget lv j = some w → (j, w) ∈ l)
    (h' : lv_has ls' lv.length ((i, v) :: l.filter (fun q => !(q.1 == i) && !(q.1 + 1 == i && q.2.category == 2)))) : hasL ls' (lset lv i (some v)) := by
  refine ⟨by rw [lset_len]; exact h'.1, h'.2.1, fun j w hj => ?_⟩
  rw [lget_set hi] at hj
  by_cases e : j = i
  · rw [if_pos e] at hj
    cases hj
    subst e
    exact h'.2.2 (j, v) List.mem_cons_self
  · rw [if_neg e] at hj
    refine h'.2.2 (j, w) (List.mem_cons_of_mem _ (List.mem_filter.mpr ⟨hl j w hj, ?_⟩))
    by_cases e2 : j + 1 = i
    · simp [e, hp j w e2 hj]
    · simp [e, e2]
theorem hasL_st2 {ls' : Array Slot} {lv : List (Option Value)} {l : List (Nat × Value)} {i : Nat} {v : Value} (hi : i + 1 < lv.length) (hp : ∀ j w, j + 1 = i → lget lv j = some w → (w.category == 2) = false) (hl : ∀ j w, lget lv j = some w → (j, w) ∈ l)
    (h' : lv_has ls' lv.length ((i, v) :: l.filter (fun q => !(q.1 == i) && (!(q.1 == i + 1) && !(q.1 + 1 == i && q.2.category == 2))))) : hasL ls' (lset (lset lv i (some v)) (i + 1) none) := by
  refine ⟨by rw [lset_len, lset_len]; exact h'.1, h'.2.1, fun j w hj => ?_⟩
  rw [lget_set (by rw [lset_len]; exact hi), lget_set (Nat.lt_of_succ_lt hi)] at hj
  by_cases e1 : j = i + 1
  · rw [if_pos e1] at hj; cases hj
  · rw [if_neg e1] at hj
    by_cases e : j = i
    · rw [if_pos e] at hj
      cases hj
      subst e
      exact h'.2.2 (j, v) List.mem_cons_self
    · rw [if_neg e] at hj
      refine h'.2.2 (j, w) (List.mem_cons_of_mem _ (List.mem_filter.mpr ⟨hl j w hj, ?_⟩))
      by_cases e2 : j + 1 = i
      · simp [e, e1, hp j w e2 hj]
      · simp [e, e1, e2]
theorem lv_args_in : ∀ (vs : List Value) (k n : Nat), (∀ v ∈ vs, v.category = 1) → ∀ (i : Nat) (v : Value), lget (vs.map some ++ List.replicate n none) i = some v → (k + i, v) ∈ lv_args k vs
  | [], k, n, _, i, v, h => by
    exfalso
    have : ∀ (n i : Nat), lget (List.replicate n none) i = (none : Option Value) := by
      intro n
      induction n with
      | zero => intro i; rfl
      | succ n ih =>
        intro i
        cases i with
        | zero => rfl
        | succ i => exact ih i
    rw [List.map_nil, List.nil_append, this] at h
    cases h
  | u :: vs, k, n, hc, 0, v, h => by
    cases h
    exact List.mem_cons_self
  | u :: vs, k, n, hc, i + 1, v, h => by
    have h1 := lv_args_in vs (k + 1) n (fun w hw => hc w (List.mem_cons_of_mem _ hw)) i v h
    have hu : ¬ u.category = 2 := by rw [hc u List.mem_cons_self]; decide
    refine List.mem_cons_of_mem _ ?_
    rw [if_neg hu, show k + (i + 1) = k + 1 + i by omega]
    exact h1
theorem hasL_entry (vs : List Value) {n : Nat} (hc : ∀ v ∈ vs, v.category = 1) (hn : vs.length ≤ n) : hasL ((lg_sl vs ++ List.replicate (n - (lg_sl vs).length) Slot.unset).toArray) (vs.map some ++ List.replicate (n - vs.length) none) := by
  have hlen : (lg_sl vs).length = vs.length := by
    clear hn
    induction vs with
    | nil => rfl
    | cons u vs ih =>
      have hu : ¬ u.category = 2 := by rw [hc u List.mem_cons_self]; decide
      have h1 := ih (fun w hw => hc w (List.mem_cons_of_mem _ hw))
      simp only [lg_sl, List.flatMap_cons, List.length_append, List.length_cons] at h1 ⊢
      rw [h1]
      simp [hu]
      omega
  have h := lv_entry vs (n := n) (by rw [hlen]; exact hn)
  refine ⟨by rw [h.1]; simp; omega, h.2.1, fun i v hi => ?_⟩
  have h2 := lv_args_in vs 0 (n - vs.length) hc i v hi
  rw [Nat.zero_add] at h2
  exact h.2.2 (i, v) h2
theorem c2_of {a : Option Value} {w : Value} (hc : c2 a = false) (h : a = some w) : (w.category == 2) = false := by subst h; exact hc
/-- THE JUDGEMENT: from pc, with these locals, this stack and this memory, the machine comes to Q -/
def Z (X : PX) (G : GT) (T : Nat × Nat) (Q : State → Prop) (pc : Nat) (lv : List (Option Value)) (st : List Value) (M : Mem) (cells slots : Nat) : Prop :=
  ∀ (ls : Array Slot) (H : Heap) (locs : List Loc), hasL ls lv → PW G M H → TW G T M H → va_S (Aw G (xS X).heap.size) (xS X).heap H locs → W (xP X) (xL X) (xE X) (xR X) (xS X) (xM X) (xA X) (xB X) (xMe X) (xC X) H locs cells slots Q (F0 (xM X) pc ls st)
section ZR
variable {X : PX} {G : GT} {T : Nat × Nat} {cc : ByteArray} {nL : Nat} {own : String} {rt : Option FieldType} {d mc ms : Nat} {Q : State → Prop} {pc : Nat} {lv r : List (Option Value)} {st : List Value} {M : Mem} {cells slots : Nat}
theorem z_mem {M' : Mem} (h : M' = M) (k : Z X G T Q pc lv st M' cells slots) : Z X G T Q pc lv st M cells slots := h ▸ k
theorem z_top {x y : Int32} (h : y = x) (k : Z X G T Q pc lv (.int y :: st) M cells slots) : Z X G T Q pc lv (.int x :: st) M cells slots := h ▸ k
theorem z_pc {pc' : Nat} (h : pc' = pc) (k : Z X G T Q pc' lv st M cells slots) : Z X G T Q pc lv st M cells slots := h ▸ k
theorem z_widen {c1 s1 : Nat} (h1 : cells ≤ c1) (h2 : slots ≤ s1) (k : Z X G T Q pc lv st M c1 s1) : Z X G T Q pc lv st M cells slots := fun ls H locs hl hP hT hS => W.widen h1 h2 (k ls H locs hl hP hT hS)
/-- fewer locals known -/
theorem z_loc {lv' : List (Option Value)} (hn : lv'.length = lv.length) (h : ∀ i v, lget lv' i = some v → lget lv i = some v) (k : Z X G T Q pc lv' st M cells slots) : Z X G T Q pc lv st M cells slots := fun ls H locs hl hP hT hS => k ls H locs ⟨by rw [hn]; exact hl.1, hl.2.1, fun i v hi => hl.2.2 i v (h i v hi)⟩ hP hT hS
theorem z_iadd (E : EF X G cc nL own rt d mc ms) (hd : decode cc pc = .ok (.iadd, 1)) {x y : Int32} (k : Z X G T Q (pc + 1) lv (.int (x + y) :: st) M cells slots) : Z X G T Q pc lv (.int y :: .int x :: st) M cells slots := fun ls H locs hl hP hT hS => lv_iadd E.ex E.cb hd (k ls H locs hl hP hT hS)
theorem z_isub (E : EF X G cc nL own rt d mc ms) (hd : decode cc pc = .ok (.isub, 1)) {x y : Int32} (k : Z X G T Q (pc + 1) lv (.int (x - y) :: st) M cells slots) : Z X G T Q pc lv (.int y :: .int x :: st) M cells slots := fun ls H locs hl hP hT hS => lv_isub E.ex E.cb hd (k ls H locs hl hP hT hS)
theorem z_imul (E : EF X G cc nL own rt d mc ms) (hd : decode cc pc = .ok (.imul, 1)) {x y : Int32} (k : Z X G T Q (pc + 1) lv (.int (x * y) :: st) M cells slots) : Z X G T Q pc lv (.int y :: .int x :: st) M cells slots := fun ls H locs hl hP hT hS => lv_imul E.ex E.cb hd (k ls H locs hl hP hT hS)
theorem z_iand (E : EF X G cc nL own rt d mc ms) (hd : decode cc pc = .ok (.iand, 1)) {x y : Int32} (k : Z X G T Q (pc + 1) lv (.int (x &&& y) :: st) M cells slots) : Z X G T Q pc lv (.int y :: .int x :: st) M cells slots := fun ls H locs hl hP hT hS => lv_iand E.ex E.cb hd (k ls H locs hl hP hT hS)
theorem z_ixor (E : EF X G cc nL own rt d mc ms) (hd : decode cc pc = .ok (.ixor, 1)) {x y : Int32} (k : Z X G T Q (pc + 1) lv (.int (x ^^^ y) :: st) M cells slots) : Z X G T Q pc lv (.int y :: .int x :: st) M cells slots := fun ls H locs hl hP hT hS => lv_ixor E.ex E.cb hd (k ls H locs hl hP hT hS)
theorem z_ladd (E : EF X G cc nL own rt d mc ms) (hd : decode cc pc = .ok (.ladd, 1)) {x y : Int64} (k : Z X G T Q (pc + 1) lv (.long (x + y) :: st) M cells slots) : Z X G T Q pc lv (.long y :: .long x :: st) M cells slots := fun ls H locs hl hP hT hS => lv_ladd E.ex E.cb hd (k ls H locs hl hP hT hS)
theorem z_lmul (E : EF X G cc nL own rt d mc ms) (hd : decode cc pc = .ok (.lmul, 1)) {x y : Int64} (k : Z X G T Q (pc + 1) lv (.long (x * y) :: st) M cells slots) : Z X G T Q pc lv (.long y :: .long x :: st) M cells slots := fun ls H locs hl hP hT hS => lv_lmul E.ex E.cb hd (k ls H locs hl hP hT hS)
theorem z_land (E : EF X G cc nL own rt d mc ms) (hd : decode cc pc = .ok (.land, 1)) {x y : Int64} (k : Z X G T Q (pc + 1) lv (.long (x &&& y) :: st) M cells slots) : Z X G T Q pc lv (.long y :: .long x :: st) M cells slots := fun ls H locs hl hP hT hS => lv_land E.ex E.cb hd (k ls H locs hl hP hT hS)
theorem z_lor (E : EF X G cc nL own rt d mc ms) (hd : decode cc pc = .ok (.lor, 1)) {x y : Int64} (k : Z X G T Q (pc + 1) lv (.long (x ||| y) :: st) M cells slots) : Z X G T Q pc lv (.long y :: .long x :: st) M cells slots := fun ls H locs hl hP hT hS => lv_lor E.ex E.cb hd (k ls H locs hl hP hT hS)
theorem z_idiv (E : EF X G cc nL own rt d mc ms) (hd : decode cc pc = .ok (.idiv, 1)) {x y : Int32} (hne : ¬ y = 0) (k : Z X G T Q (pc + 1) lv (.int (x / y) :: st) M cells slots) : Z X G T Q pc lv (.int y :: .int x :: st) M cells slots := fun ls H locs hl hP hT hS => lv_idiv E.ex E.cb hd hne (k ls H locs hl hP hT hS)
theorem z_irem (E : EF X G cc nL own rt d mc ms) (hd : decode cc pc = .ok (.irem, 1)) {x y : Int32} (hne : ¬ y = 0) (k : Z X G T Q (pc + 1) lv (.int (x - x / y * y) :: st) M cells slots) : Z X G T Q pc lv (.int y :: .int x :: st) M cells slots := fun ls H locs hl hP hT hS => lv_irem E.ex E.cb hd hne (k ls H locs hl hP hT hS)
theorem z_lcmp (E : EF X G cc nL own rt d mc ms) (hd : decode cc pc = .ok (.lcmp, 1)) {x y : Int64} (k : Z X G T Q (pc + 1) lv (.int (lg_cmp x y) :: st) M cells slots) : Z X G T Q pc lv (.long y :: .long x :: st) M cells slots := fun ls H locs hl hP hT hS => W.lcmp E.ex E.cb hd (k ls H locs hl hP hT hS)
theorem z_i2l (E : EF X G cc nL own rt d mc ms) (hd : decode cc pc = .ok (.i2l, 1)) {x : Int32} (k : Z X G T Q (pc + 1) lv (.long x.toInt64 :: st) M cells slots) : Z X G T Q pc lv (.int x :: st) M cells slots := fun ls H locs hl hP hT hS => lv_i2l E.ex E.cb hd rfl (k ls H locs hl hP hT hS)
theorem z_lshl (E : EF X G cc nL own rt d mc ms) (hd : decode cc pc = .ok (.lshl, 1)) {x : Int64} {y : Int32} (k : Z X G T Q (pc + 1) lv (.long (x <<< (y.toInt64 &&& 63)) :: st) M cells slots) : Z X G T Q pc lv (.int y :: .long x :: st) M cells slots := fun ls H locs hl hP hT hS => lv_lshl E.ex E.cb hd rfl (k ls H locs hl hP hT hS)
theorem z_lshr (E : EF X G cc nL own rt d mc ms) (hd : decode cc pc = .ok (.lshr, 1)) {x : Int64} {y : Int32} (k : Z X G T Q (pc + 1) lv (.long (x >>> (y.toInt64 &&& 63)) :: st) M cells slots) : Z X G T Q pc lv (.int y :: .long x :: st) M cells slots := fun ls H locs hl hP hT hS => lv_lshr E.ex E.cb hd rfl (k ls H locs hl hP hT hS)
theorem z_i2d (E : EF X G cc nL own rt d mc ms) (hd : decode cc pc = .ok (.i2d, 1)) {x : Int32} (k : Z X G T Q (pc + 1) lv (.double (FP.i2d x) :: st) M cells slots) : Z X G T Q pc lv (.int x :: st) M cells slots := fun ls H locs hl hP hT hS => lv_i2d E.ex E.cb hd (k ls H locs hl hP hT hS)
theorem z_ddiv (E : EF X G cc nL own rt d mc ms) (hd : decode cc pc = .ok (.ddiv, 1)) {x y : UInt64} (hne : vf_n64 (FP.ddiv x y)) (k : Z X G T Q (pc + 1) lv (.double (FP.ddiv x y) :: st) M cells slots) : Z X G T Q pc lv (.double y :: .double x :: st) M cells slots := fun ls H locs hl hP hT hS => lv_ddiv E.ex E.cb hd hne (k ls H locs hl hP hT hS)
theorem z_dup (E : EF X G cc nL own rt d mc ms) (hd : decode cc pc = .ok (.dup, 1)) {a : Value} (hc : a.category = 1) (k : Z X G T Q (pc + 1) lv (a :: a :: st) M cells slots) : Z X G T Q pc lv (a :: st) M cells slots := fun ls H locs hl hP hT hS => lv_dup E.ex E.cb hd hc (k ls H locs hl hP hT hS)
theorem z_iconst (E : EF X G cc nL own rt d mc ms) {n : Int} {v : Int32} (hd : decode cc pc = .ok (.iconst n, 1)) (hv : Int32.ofInt n = v) (k : Z X G T Q (pc + 1) lv (.int v :: st) M cells slots) : Z X G T Q pc lv (st) M cells slots := fun ls H locs hl hP hT hS => lv_iconst E.ex E.cb hd hv (k ls H locs hl hP hT hS)
theorem z_bipush (E : EF X G cc nL own rt d mc ms) {n : Int} {v : Int32} (hd : decode cc pc = .ok (.bipush n, 2)) (hv : (Int8.ofInt n).toInt32 = v) (k : Z X G T Q (pc + 2) lv (.int v :: st) M cells slots) : Z X G T Q pc lv (st) M cells slots := fun ls H locs hl hP hT hS => lv_bipush E.ex E.cb hd hv (k ls H locs hl hP hT hS)
theorem z_sipush (E : EF X G cc nL own rt d mc ms) {n : Int} {v : Int32} (hd : decode cc pc = .ok (.sipush n, 3)) (hv : (Int16.ofInt n).toInt32 = v) (k : Z X G T Q (pc + 3) lv (.int v :: st) M cells slots) : Z X G T Q pc lv (st) M cells slots := fun ls H locs hl hP hT hS => lv_sipush E.ex E.cb hd hv (k ls H locs hl hP hT hS)
theorem z_lconst (E : EF X G cc nL own rt d mc ms) {n : Fin 2} {v : Int64} (hd : decode cc pc = .ok (.lconst n, 1)) (hv : Int64.ofNat (n : Nat) = v) (k : Z X G T Q (pc + 1) lv (.long v :: st) M cells slots) : Z X G T Q pc lv (st) M cells slots := fun ls H locs hl hP hT hS => lv_lconst E.ex E.cb hd hv (k ls H locs hl hP hT hS)
theorem z_ldc2 (E : EF X G cc nL own rt d mc ms) {i : Nat} {v : Int64} (hd : decode cc pc = .ok (.ldc2_w i, 3)) (hv : Cond.constantLong own i v ∈ GW) (k : Z X G T Q (pc + 3) lv (.long v :: st) M cells slots) : Z X G T Q pc lv (st) M cells slots := fun ls H locs hl hP hT hS => lv_ldc2 E.ex E.cb E.ow (E.ts _ hv) hd (k ls H locs hl hP hT hS)
theorem z_goto (E : EF X G cc nL own rt d mc ms) {o : Int} {tgt : Nat} (hd : decode cc pc = .ok (.goto o, 3)) (ht : (pc : Int) + o = (tgt : Int)) (k : Z X G T Q tgt lv st M cells slots) : Z X G T Q pc lv st M cells slots := fun ls H locs hl hP hT hS => lv_goto E.ex E.cb hd ht (k ls H locs hl hP hT hS)
theorem z_icmp_eq (E : EF X G cc nL own rt d mc ms) {o : Int} {tgt : Nat} (hd : decode cc pc = .ok (.if_icmp .eq o, 3)) (ht : (pc : Int) + o = (tgt : Int)) {x y : Int32} (kt : (x = y) → Z X G T Q tgt lv st M cells slots) (kf : ¬ (x = y) → Z X G T Q (pc + 3) lv st M cells slots) : Z X G T Q pc lv (.int y :: .int x :: st) M cells slots := fun ls H locs hl hP hT hS => lv_icmp_eq E.ex E.cb hd ht (fun h => kt h ls H locs hl hP hT hS) (fun h => kf h ls H locs hl hP hT hS)
theorem z_icmp_ne (E : EF X G cc nL own rt d mc ms) {o : Int} {tgt : Nat} (hd : decode cc pc = .ok (.if_icmp .ne o, 3)) (ht : (pc : Int) + o = (tgt : Int)) {x y : Int32} (kt : (¬ x = y) → Z X G T Q tgt lv st M cells slots) (kf : x = y → Z X G T Q (pc + 3) lv st M cells slots) : Z X G T Q pc lv (.int y :: .int x :: st) M cells slots := fun ls H locs hl hP hT hS => lv_icmp_ne E.ex E.cb hd ht (fun h => kt h ls H locs hl hP hT hS) (fun h => kf h ls H locs hl hP hT hS)
theorem z_icmp_lt (E : EF X G cc nL own rt d mc ms) {o : Int} {tgt : Nat} (hd : decode cc pc = .ok (.if_icmp .lt o, 3)) (ht : (pc : Int) + o = (tgt : Int)) {x y : Int32} (kt : (x < y) → Z X G T Q tgt lv st M cells slots) (kf : ¬ (x < y) → Z X G T Q (pc + 3) lv st M cells slots) : Z X G T Q pc lv (.int y :: .int x :: st) M cells slots := fun ls H locs hl hP hT hS => lv_icmp_lt E.ex E.cb hd ht (fun h => kt h ls H locs hl hP hT hS) (fun h => kf h ls H locs hl hP hT hS)
theorem z_icmp_ge (E : EF X G cc nL own rt d mc ms) {o : Int} {tgt : Nat} (hd : decode cc pc = .ok (.if_icmp .ge o, 3)) (ht : (pc : Int) + o = (tgt : Int)) {x y : Int32} (kt : (y ≤ x) → Z X G T Q tgt lv st M cells slots) (kf : ¬ (y ≤ x) → Z X G T Q (pc + 3) lv st M cells slots) : Z X G T Q pc lv (.int y :: .int x :: st) M cells slots := fun ls H locs hl hP hT hS => lv_icmp_ge E.ex E.cb hd ht (fun h => kt h ls H locs hl hP hT hS) (fun h => kf h ls H locs hl hP hT hS)
theorem z_icmp_gt (E : EF X G cc nL own rt d mc ms) {o : Int} {tgt : Nat} (hd : decode cc pc = .ok (.if_icmp .gt o, 3)) (ht : (pc : Int) + o = (tgt : Int)) {x y : Int32} (kt : (y < x) → Z X G T Q tgt lv st M cells slots) (kf : ¬ (y < x) → Z X G T Q (pc + 3) lv st M cells slots) : Z X G T Q pc lv (.int y :: .int x :: st) M cells slots := fun ls H locs hl hP hT hS => lv_icmp_gt E.ex E.cb hd ht (fun h => kt h ls H locs hl hP hT hS) (fun h => kf h ls H locs hl hP hT hS)
theorem z_icmp_le (E : EF X G cc nL own rt d mc ms) {o : Int} {tgt : Nat} (hd : decode cc pc = .ok (.if_icmp .le o, 3)) (ht : (pc : Int) + o = (tgt : Int)) {x y : Int32} (kt : (x ≤ y) → Z X G T Q tgt lv st M cells slots) (kf : ¬ (x ≤ y) → Z X G T Q (pc + 3) lv st M cells slots) : Z X G T Q pc lv (.int y :: .int x :: st) M cells slots := fun ls H locs hl hP hT hS => lv_icmp_le E.ex E.cb hd ht (fun h => kt h ls H locs hl hP hT hS) (fun h => kf h ls H locs hl hP hT hS)
theorem z_if_eq (E : EF X G cc nL own rt d mc ms) {o : Int} {tgt : Nat} (hd : decode cc pc = .ok (.ifCond .eq o, 3)) (ht : (pc : Int) + o = (tgt : Int)) {x : Int32} (kt : (x = 0) → Z X G T Q tgt lv st M cells slots) (kf : (¬ (x = 0)) → Z X G T Q (pc + 3) lv st M cells slots) : Z X G T Q pc lv (.int x :: st) M cells slots := fun ls H locs hl hP hT hS => lv_if_eq E.ex E.cb hd ht (fun h => kt h ls H locs hl hP hT hS) (fun h => kf h ls H locs hl hP hT hS)
theorem z_if_ne (E : EF X G cc nL own rt d mc ms) {o : Int} {tgt : Nat} (hd : decode cc pc = .ok (.ifCond .ne o, 3)) (ht : (pc : Int) + o = (tgt : Int)) {x : Int32} (kt : (¬ x = 0) → Z X G T Q tgt lv st M cells slots) (kf : (x = 0) → Z X G T Q (pc + 3) lv st M cells slots) : Z X G T Q pc lv (.int x :: st) M cells slots := fun ls H locs hl hP hT hS => lv_if_ne E.ex E.cb hd ht (fun h => kt h ls H locs hl hP hT hS) (fun h => kf h ls H locs hl hP hT hS)
theorem z_if_lt (E : EF X G cc nL own rt d mc ms) {o : Int} {tgt : Nat} (hd : decode cc pc = .ok (.ifCond .lt o, 3)) (ht : (pc : Int) + o = (tgt : Int)) {x : Int32} (kt : (x < 0) → Z X G T Q tgt lv st M cells slots) (kf : (¬ (x < 0)) → Z X G T Q (pc + 3) lv st M cells slots) : Z X G T Q pc lv (.int x :: st) M cells slots := fun ls H locs hl hP hT hS => lv_if_lt E.ex E.cb hd ht (fun h => kt h ls H locs hl hP hT hS) (fun h => kf h ls H locs hl hP hT hS)
theorem z_if_ge (E : EF X G cc nL own rt d mc ms) {o : Int} {tgt : Nat} (hd : decode cc pc = .ok (.ifCond .ge o, 3)) (ht : (pc : Int) + o = (tgt : Int)) {x : Int32} (kt : (0 ≤ x) → Z X G T Q tgt lv st M cells slots) (kf : (¬ (0 ≤ x)) → Z X G T Q (pc + 3) lv st M cells slots) : Z X G T Q pc lv (.int x :: st) M cells slots := fun ls H locs hl hP hT hS => lv_if_ge E.ex E.cb hd ht (fun h => kt h ls H locs hl hP hT hS) (fun h => kf h ls H locs hl hP hT hS)
theorem z_if_gt (E : EF X G cc nL own rt d mc ms) {o : Int} {tgt : Nat} (hd : decode cc pc = .ok (.ifCond .gt o, 3)) (ht : (pc : Int) + o = (tgt : Int)) {x : Int32} (kt : (0 < x) → Z X G T Q tgt lv st M cells slots) (kf : (¬ (0 < x)) → Z X G T Q (pc + 3) lv st M cells slots) : Z X G T Q pc lv (.int x :: st) M cells slots := fun ls H locs hl hP hT hS => lv_if_gt E.ex E.cb hd ht (fun h => kt h ls H locs hl hP hT hS) (fun h => kf h ls H locs hl hP hT hS)
theorem z_if_le (E : EF X G cc nL own rt d mc ms) {o : Int} {tgt : Nat} (hd : decode cc pc = .ok (.ifCond .le o, 3)) (ht : (pc : Int) + o = (tgt : Int)) {x : Int32} (kt : (x ≤ 0) → Z X G T Q tgt lv st M cells slots) (kf : (¬ (x ≤ 0)) → Z X G T Q (pc + 3) lv st M cells slots) : Z X G T Q pc lv (.int x :: st) M cells slots := fun ls H locs hl hP hT hS => lv_if_le E.ex E.cb hd ht (fun h => kt h ls H locs hl hP hT hS) (fun h => kf h ls H locs hl hP hT hS)
theorem z_iload_0 (E : EF X G cc nL own rt d mc ms) {x : Int32} (hd : decode cc pc = .ok (.iload_n 0, 1)) (k : Z X G T Q (pc + 1) (some (.int x) :: r) (.int x :: st) M cells slots) : Z X G T Q pc (some (.int x) :: r) st M cells slots := fun ls H locs hl hP hT hS => lv_iload_n (i := 0) E.ex E.cb hd rfl (hl.2.2 0 _ rfl) (k ls H locs hl hP hT hS)
theorem z_aload_0 (E : EF X G cc nL own rt d mc ms) {x : Nat} (hd : decode cc pc = .ok (.aload_n 0, 1)) (k : Z X G T Q (pc + 1) (some (.ref x) :: r) (.ref x :: st) M cells slots) : Z X G T Q pc (some (.ref x) :: r) st M cells slots := fun ls H locs hl hP hT hS => lv_aload_n (i := 0) E.ex E.cb hd rfl (hl.2.2 0 _ rfl) (k ls H locs hl hP hT hS)
theorem z_lload_0 (E : EF X G cc nL own rt d mc ms) {x : Int64} (hd : decode cc pc = .ok (.lload_n 0, 1)) (k : Z X G T Q (pc + 1) (some (.long x) :: r) (.long x :: st) M cells slots) : Z X G T Q pc (some (.long x) :: r) st M cells slots := fun ls H locs hl hP hT hS => lv_lload_n (i := 0) E.ex E.cb hd rfl (hl.2.2 0 _ rfl) (k ls H locs hl hP hT hS)
theorem z_dload_0 (E : EF X G cc nL own rt d mc ms) {x : UInt64} (hd : decode cc pc = .ok (.dload_n 0, 1)) (k : Z X G T Q (pc + 1) (some (.double x) :: r) (.double x :: st) M cells slots) : Z X G T Q pc (some (.double x) :: r) st M cells slots := fun ls H locs hl hP hT hS => lv_dload_n (i := 0) E.ex E.cb hd rfl (hl.2.2 0 _ rfl) (k ls H locs hl hP hT hS)
theorem z_istore_0 (E : EF X G cc nL own rt d mc ms) {a0 : Option Value} {x : Int32} (hd : decode cc pc = .ok (.istore_n 0, 1)) (k : Z X G T Q (pc + 1) (some (.int x) :: r) st M cells slots) : Z X G T Q pc (a0 :: r) (.int x :: st) M cells slots := fun ls H locs hl hP hT hS => lv_istore_n (i := 0) E.ex E.cb hd rfl hl.cv (by simp) rfl (fun ls9 h9 => k ls9 H locs (hasL_st1 (i := 0) (by simp) (fun j w e h => absurd e (Nat.succ_ne_zero j)) (fun j w h => cvL_mem.mpr h) h9) hP hT hS)
theorem z_astore_0 (E : EF X G cc nL own rt d mc ms) {a0 : Option Value} {x : Nat} (hd : decode cc pc = .ok (.astore_n 0, 1)) (k : Z X G T Q (pc + 1) (some (.ref x) :: r) st M cells slots) : Z X G T Q pc (a0 :: r) (.ref x :: st) M cells slots := fun ls H locs hl hP hT hS => lv_astore_n (i := 0) E.ex E.cb hd rfl hl.cv (by simp) rfl (fun ls9 h9 => k ls9 H locs (hasL_st1 (i := 0) (by simp) (fun j w e h => absurd e (Nat.succ_ne_zero j)) (fun j w h => cvL_mem.mpr h) h9) hP hT hS)
theorem z_iinc_0 (E : EF X G cc nL own rt d mc ms) {x v : Int32} {n : Int} (hd : decode cc pc = .ok (.iinc 0 n, 3)) (hv : x + Int32.ofInt n = v) (k : Z X G T Q (pc + 3) (some (.int v) :: r) st M cells slots) : Z X G T Q pc (some (.int x) :: r) st M cells slots := fun ls H locs hl hP hT hS => lv_iinc E.ex E.cb hd (hl.cv1 (i := 0) rfl) (k := 0) rfl hv (by simp) rfl (fun ls9 h9 => k ls9 H locs (hasL_st1 (lv := some (.int x) :: r) (i := 0) (by simp) (fun j w e h => absurd e (Nat.succ_ne_zero j)) (fun j w h => List.mem_cons_of_mem _ (cvL_mem.mpr h)) h9) hP hT hS)
theorem z_lstore_0 (E : EF X G cc nL own rt d mc ms) {a0 a1 : Option Value} {x : Int64} (hd : decode cc pc = .ok (.lstore_n 0, 1)) (k : Z X G T Q (pc + 1) (some (.long x) :: none :: r) st M cells slots) : Z X G T Q pc (a0 :: a1 :: r) (.long x :: st) M cells slots := fun ls H locs hl hP hT hS => lv_lstore_n (i := 0) E.ex E.cb hd rfl hl.cv (by simp) rfl (fun ls9 h9 => k ls9 H locs (hasL_st2 (i := 0) (by simp) (fun j w e h => absurd e (Nat.succ_ne_zero j)) (fun j w h => cvL_mem.mpr h) h9) hP hT hS)
theorem z_dstore_0 (E : EF X G cc nL own rt d mc ms) {a0 a1 : Option Value} {x : UInt64} (hd : decode cc pc = .ok (.dstore_n 0, 1)) (k : Z X G T Q (pc + 1) (some (.double x) :: none :: r) st M cells slots) : Z X G T Q pc (a0 :: a1 :: r) (.double x :: st) M cells slots := fun ls H locs hl hP hT hS => lv_dstore_n (i := 0) E.ex E.cb hd rfl hl.cv (by simp) rfl (fun ls9 h9 => k ls9 H locs (hasL_st2 (i := 0) (by simp) (fun j w e h => absurd e (Nat.succ_ne_zero j)) (fun j w h => cvL_mem.mpr h) h9) hP hT hS)
theorem z_iload_1 (E : EF X G cc nL own rt d mc ms) {a0 : Option Value} {x : Int32} (hd : decode cc pc = .ok (.iload_n 1, 1)) (k : Z X G T Q (pc + 1) (a0 :: some (.int x) :: r) (.int x :: st) M cells slots) : Z X G T Q pc (a0 :: some (.int x) :: r) st M cells slots := fun ls H locs hl hP hT hS => lv_iload_n (i := 1) E.ex E.cb hd rfl (hl.2.2 1 _ rfl) (k ls H locs hl hP hT hS)
theorem z_aload_1 (E : EF X G cc nL own rt d mc ms) {a0 : Option Value} {x : Nat} (hd : decode cc pc = .ok (.aload_n 1, 1)) (k : Z X G T Q (pc + 1) (a0 :: some (.ref x) :: r) (.ref x :: st) M cells slots) : Z X G T Q pc (a0 :: some (.ref x) :: r) st M cells slots := fun ls H locs hl hP hT hS => lv_aload_n (i := 1) E.ex E.cb hd rfl (hl.2.2 1 _ rfl) (k ls H locs hl hP hT hS)
theorem z_lload_1 (E : EF X G cc nL own rt d mc ms) {a0 : Option Value} {x : Int64} (hd : decode cc pc = .ok (.lload_n 1, 1)) (k : Z X G T Q (pc + 1) (a0 :: some (.long x) :: r) (.long x :: st) M cells slots) : Z X G T Q pc (a0 :: some (.long x) :: r) st M cells slots := fun ls H locs hl hP hT hS => lv_lload_n (i := 1) E.ex E.cb hd rfl (hl.2.2 1 _ rfl) (k ls H locs hl hP hT hS)
theorem z_dload_1 (E : EF X G cc nL own rt d mc ms) {a0 : Option Value} {x : UInt64} (hd : decode cc pc = .ok (.dload_n 1, 1)) (k : Z X G T Q (pc + 1) (a0 :: some (.double x) :: r) (.double x :: st) M cells slots) : Z X G T Q pc (a0 :: some (.double x) :: r) st M cells slots := fun ls H locs hl hP hT hS => lv_dload_n (i := 1) E.ex E.cb hd rfl (hl.2.2 1 _ rfl) (k ls H locs hl hP hT hS)
theorem z_istore_1 (E : EF X G cc nL own rt d mc ms) {a0 a1 : Option Value} {x : Int32} (hd : decode cc pc = .ok (.istore_n 1, 1)) (hc : c2 a0 = false) (k : Z X G T Q (pc + 1) (a0 :: some (.int x) :: r) st M cells slots) : Z X G T Q pc (a0 :: a1 :: r) (.int x :: st) M cells slots := fun ls H locs hl hP hT hS => lv_istore_n (i := 1) E.ex E.cb hd rfl hl.cv (by simp) rfl (fun ls9 h9 => k ls9 H locs (hasL_st1 (i := 1) (by simp) (fun j w e h => by cases (show j = 0 by omega); exact c2_of hc h) (fun j w h => cvL_mem.mpr h) h9) hP hT hS)
theorem z_astore_1 (E : EF X G cc nL own rt d mc ms) {a0 a1 : Option Value} {x : Nat} (hd : decode cc pc = .ok (.astore_n 1, 1)) (hc : c2 a0 = false) (k : Z X G T Q (pc + 1) (a0 :: some (.ref x) :: r) st M cells slots) : Z X G T Q pc (a0 :: a1 :: r) (.ref x :: st) M cells slots := fun ls H locs hl hP hT hS => lv_astore_n (i := 1) E.ex E.cb hd rfl hl.cv (by simp) rfl (fun ls9 h9 => k ls9 H locs (hasL_st1 (i := 1) (by simp) (fun j w e h => by cases (show j = 0 by omega); exact c2_of hc h) (fun j w h => cvL_mem.mpr h) h9) hP hT hS)
theorem z_iinc_1 (E : EF X G cc nL own rt d mc ms) {a0 : Option Value} {x v : Int32} {n : Int} (hd : decode cc pc = .ok (.iinc 1 n, 3)) (hv : x + Int32.ofInt n = v) (hc : c2 a0 = false) (k : Z X G T Q (pc + 3) (a0 :: some (.int v) :: r) st M cells slots) : Z X G T Q pc (a0 :: some (.int x) :: r) st M cells slots := fun ls H locs hl hP hT hS => lv_iinc E.ex E.cb hd (hl.cv1 (i := 1) rfl) (k := 0) rfl hv (by simp) rfl (fun ls9 h9 => k ls9 H locs (hasL_st1 (lv := a0 :: some (.int x) :: r) (i := 1) (by simp) (fun j w e h => by cases (show j = 0 by omega); exact c2_of hc h) (fun j w h => List.mem_cons_of_mem _ (cvL_mem.mpr h)) h9) hP hT hS)
theorem z_lstore_1 (E : EF X G cc nL own rt d mc ms) {a0 a1 a2 : Option Value} {x : Int64} (hd : decode cc pc = .ok (.lstore_n 1, 1)) (hc : c2 a0 = false) (k : Z X G T Q (pc + 1) (a0 :: some (.long x) :: none :: r) st M cells slots) : Z X G T Q pc (a0 :: a1 :: a2 :: r) (.long x :: st) M cells slots := fun ls H locs hl hP hT hS => lv_lstore_n (i := 1) E.ex E.cb hd rfl hl.cv (by simp) rfl (fun ls9 h9 => k ls9 H locs (hasL_st2 (i := 1) (by simp) (fun j w e h => by cases (show j = 0 by omega); exact c2_of hc h) (fun j w h => cvL_mem.mpr h) h9) hP hT hS)
theorem z_dstore_1 (E : EF X G cc nL own rt d mc ms) {a0 a1 a2 : Option Value} {x : UInt64} (hd : decode cc pc = .ok (.dstore_n 1, 1)) (hc : c2 a0 = false) (k : Z X G T Q (pc + 1) (a0 :: some (.double x) :: none :: r) st M cells slots) : Z X G T Q pc (a0 :: a1 :: a2 :: r) (.double x :: st) M cells slots := fun ls H locs hl hP hT hS => lv_dstore_n (i := 1) E.ex E.cb hd rfl hl.cv (by simp) rfl (fun ls9 h9 => k ls9 H locs (hasL_st2 (i := 1) (by simp) (fun j w e h => by cases (show j = 0 by omega); exact c2_of hc h) (fun j w h => cvL_mem.mpr h) h9) hP hT hS)
theorem z_iload_2 (E : EF X G cc nL own rt d mc ms) {a0 a1 : Option Value} {x : Int32} (hd : decode cc pc = .ok (.iload_n 2, 1)) (k : Z X G T Q (pc + 1) (a0 :: a1 :: some (.int x) :: r) (.int x :: st) M cells slots) : Z X G T Q pc (a0 :: a1 :: some (.int x) :: r) st M cells slots := fun ls H locs hl hP hT hS => lv_iload_n (i := 2) E.ex E.cb hd rfl (hl.2.2 2 _ rfl) (k ls H locs hl hP hT hS)
theorem z_aload_2 (E : EF X G cc nL own rt d mc ms) {a0 a1 : Option Value} {x : Nat} (hd : decode cc pc = .ok (.aload_n 2, 1)) (k : Z X G T Q (pc + 1) (a0 :: a1 :: some (.ref x) :: r) (.ref x :: st) M cells slots) : Z X G T Q pc (a0 :: a1 :: some (.ref x) :: r) st M cells slots := fun ls H locs hl hP hT hS => lv_aload_n (i := 2) E.ex E.cb hd rfl (hl.2.2 2 _ rfl) (k ls H locs hl hP hT hS)
theorem z_lload_2 (E : EF X G cc nL own rt d mc ms) {a0 a1 : Option Value} {x : Int64} (hd : decode cc pc = .ok (.lload_n 2, 1)) (k : Z X G T Q (pc + 1) (a0 :: a1 :: some (.long x) :: r) (.long x :: st) M cells slots) : Z X G T Q pc (a0 :: a1 :: some (.long x) :: r) st M cells slots := fun ls H locs hl hP hT hS => lv_lload_n (i := 2) E.ex E.cb hd rfl (hl.2.2 2 _ rfl) (k ls H locs hl hP hT hS)
theorem z_dload_2 (E : EF X G cc nL own rt d mc ms) {a0 a1 : Option Value} {x : UInt64} (hd : decode cc pc = .ok (.dload_n 2, 1)) (k : Z X G T Q (pc + 1) (a0 :: a1 :: some (.double x) :: r) (.double x :: st) M cells slots) : Z X G T Q pc (a0 :: a1 :: some (.double x) :: r) st M cells slots := fun ls H locs hl hP hT hS => lv_dload_n (i := 2) E.ex E.cb hd rfl (hl.2.2 2 _ rfl) (k ls H locs hl hP hT hS)
theorem z_istore_2 (E : EF X G cc nL own rt d mc ms) {a0 a1 a2 : Option Value} {x : Int32} (hd : decode cc pc = .ok (.istore_n 2, 1)) (hc : c2 a1 = false) (k : Z X G T Q (pc + 1) (a0 :: a1 :: some (.int x) :: r) st M cells slots) : Z X G T Q pc (a0 :: a1 :: a2 :: r) (.int x :: st) M cells slots := fun ls H locs hl hP hT hS => lv_istore_n (i := 2) E.ex E.cb hd rfl hl.cv (by simp) rfl (fun ls9 h9 => k ls9 H locs (hasL_st1 (i := 2) (by simp) (fun j w e h => by cases (show j = 1 by omega); exact c2_of hc h) (fun j w h => cvL_mem.mpr h) h9) hP hT hS)
theorem z_astore_2 (E : EF X G cc nL own rt d mc ms) {a0 a1 a2 : Option Value} {x : Nat} (hd : decode cc pc = .ok (.astore_n 2, 1)) (hc : c2 a1 = false) (k : Z X G T Q (pc + 1) (a0 :: a1 :: some (.ref x) :: r) st M cells slots) : Z X G T Q pc (a0 :: a1 :: a2 :: r) (.ref x :: st) M cells slots := fun ls H locs hl hP hT hS => lv_astore_n (i := 2) E.ex E.cb hd rfl hl.cv (by simp) rfl (fun ls9 h9 => k ls9 H locs (hasL_st1 (i := 2) (by simp) (fun j w e h => by cases (show j = 1 by omega); exact c2_of hc h) (fun j w h => cvL_mem.mpr h) h9) hP hT hS)
theorem z_iinc_2 (E : EF X G cc nL own rt d mc ms) {a0 a1 : Option Value} {x v : Int32} {n : Int} (hd : decode cc pc = .ok (.iinc 2 n, 3)) (hv : x + Int32.ofInt n = v) (hc : c2 a1 = false) (k : Z X G T Q (pc + 3) (a0 :: a1 :: some (.int v) :: r) st M cells slots) : Z X G T Q pc (a0 :: a1 :: some (.int x) :: r) st M cells slots := fun ls H locs hl hP hT hS => lv_iinc E.ex E.cb hd (hl.cv1 (i := 2) rfl) (k := 0) rfl hv (by simp) rfl (fun ls9 h9 => k ls9 H locs (hasL_st1 (lv := a0 :: a1 :: some (.int x) :: r) (i := 2) (by simp) (fun j w e h => by cases (show j = 1 by omega); exact c2_of hc h) (fun j w h => List.mem_cons_of_mem _ (cvL_mem.mpr h)) h9) hP hT hS)
theorem z_lstore_2 (E : EF X G cc nL own rt d mc ms) {a0 a1 a2 a3 : Option Value} {x : Int64} (hd : decode cc pc = .ok (.lstore_n 2, 1)) (hc : c2 a1 = false) (k : Z X G T Q (pc + 1) (a0 :: a1 :: some (.long x) :: none :: r) st M cells slots) : Z X G T Q pc (a0 :: a1 :: a2 :: a3 :: r) (.long x :: st) M cells slots := fun ls H locs hl hP hT hS => lv_lstore_n (i := 2) E.ex E.cb hd rfl hl.cv (by simp) rfl (fun ls9 h9 => k ls9 H locs (hasL_st2 (i := 2) (by simp) (fun j w e h => by cases (show j = 1 by omega); exact c2_of hc h) (fun j w h => cvL_mem.mpr h) h9) hP hT hS)
theorem z_dstore_2 (E : EF X G cc nL own rt d mc ms) {a0 a1 a2 a3 : Option Value} {x : UInt64} (hd : decode cc pc = .ok (.dstore_n 2, 1)) (hc : c2 a1 = false) (k : Z X G T Q (pc + 1) (a0 :: a1 :: some (.double x) :: none :: r) st M cells slots) : Z X G T Q pc (a0 :: a1 :: a2 :: a3 :: r) (.double x :: st) M cells slots := fun ls H locs hl hP hT hS => lv_dstore_n (i := 2) E.ex E.cb hd rfl hl.cv (by simp) rfl (fun ls9 h9 => k ls9 H locs (hasL_st2 (i := 2) (by simp) (fun j w e h => by cases (show j = 1 by omega); exact c2_of hc h) (fun j w h => cvL_mem.mpr h) h9) hP hT hS)
theorem z_iload_3 (E : EF X G cc nL own rt d mc ms) {a0 a1 a2 : Option Value} {x : Int32} (hd : decode cc pc = .ok (.iload_n 3, 1)) (k : Z X G T Q (pc + 1) (a0 :: a1 :: a2 :: some (.int x) :: r) (.int x :: st) M cells slots) : Z X G T Q pc (a0 :: a1 :: a2 :: some (.int x) :: r) st M cells slots := fun ls H locs hl hP hT hS => lv_iload_n (i := 3) E.ex E.cb hd rfl (hl.2.2 3 _ rfl) (k ls H locs hl hP hT hS)
theorem z_aload_3 (E : EF X G cc nL own rt d mc ms) {a0 a1 a2 : Option Value} {x : Nat} (hd : decode cc pc = .ok (.aload_n 3, 1)) (k : Z X G T Q (pc + 1) (a0 :: a1 :: a2 :: some (.ref x) :: r) (.ref x :: st) M cells slots) : Z X G T Q pc (a0 :: a1 :: a2 :: some (.ref x) :: r) st M cells slots := fun ls H locs hl hP hT hS => lv_aload_n (i := 3) E.ex E.cb hd rfl (hl.2.2 3 _ rfl) (k ls H locs hl hP hT hS)
theorem z_lload_3 (E : EF X G cc nL own rt d mc ms) {a0 a1 a2 : Option Value} {x : Int64} (hd : decode cc pc = .ok (.lload_n 3, 1)) (k : Z X G T Q (pc + 1) (a0 :: a1 :: a2 :: some (.long x) :: r) (.long x :: st) M cells slots) : Z X G T Q pc (a0 :: a1 :: a2 :: some (.long x) :: r) st M cells slots := fun ls H locs hl hP hT hS => lv_lload_n (i := 3) E.ex E.cb hd rfl (hl.2.2 3 _ rfl) (k ls H locs hl hP hT hS)
theorem z_dload_3 (E : EF X G cc nL own rt d mc ms) {a0 a1 a2 : Option Value} {x : UInt64} (hd : decode cc pc = .ok (.dload_n 3, 1)) (k : Z X G T Q (pc + 1) (a0 :: a1 :: a2 :: some (.double x) :: r) (.double x :: st) M cells slots) : Z X G T Q pc (a0 :: a1 :: a2 :: some (.double x) :: r) st M cells slots := fun ls H locs hl hP hT hS => lv_dload_n (i := 3) E.ex E.cb hd rfl (hl.2.2 3 _ rfl) (k ls H locs hl hP hT hS)
theorem z_istore_3 (E : EF X G cc nL own rt d mc ms) {a0 a1 a2 a3 : Option Value} {x : Int32} (hd : decode cc pc = .ok (.istore_n 3, 1)) (hc : c2 a2 = false) (k : Z X G T Q (pc + 1) (a0 :: a1 :: a2 :: some (.int x) :: r) st M cells slots) : Z X G T Q pc (a0 :: a1 :: a2 :: a3 :: r) (.int x :: st) M cells slots := fun ls H locs hl hP hT hS => lv_istore_n (i := 3) E.ex E.cb hd rfl hl.cv (by simp) rfl (fun ls9 h9 => k ls9 H locs (hasL_st1 (i := 3) (by simp) (fun j w e h => by cases (show j = 2 by omega); exact c2_of hc h) (fun j w h => cvL_mem.mpr h) h9) hP hT hS)
theorem z_astore_3 (E : EF X G cc nL own rt d mc ms) {a0 a1 a2 a3 : Option Value} {x : Nat} (hd : decode cc pc = .ok (.astore_n 3, 1)) (hc : c2 a2 = false) (k : Z X G T Q (pc + 1) (a0 :: a1 :: a2 :: some (.ref x) :: r) st M cells slots) : Z X G T Q pc (a0 :: a1 :: a2 :: a3 :: r) (.ref x :: st) M cells slots := fun ls H locs hl hP hT hS => lv_astore_n (i := 3) E.ex E.cb hd rfl hl.cv (by simp) rfl (fun ls9 h9 => k ls9 H locs (hasL_st1 (i := 3) (by simp) (fun j w e h => by cases (show j = 2 by omega); exact c2_of hc h) (fun j w h => cvL_mem.mpr h) h9) hP hT hS)
theorem z_iinc_3 (E : EF X G cc nL own rt d mc ms) {a0 a1 a2 : Option Value} {x v : Int32} {n : Int} (hd : decode cc pc = .ok (.iinc 3 n, 3)) (hv : x + Int32.ofInt n = v) (hc : c2 a2 = false) (k : Z X G T Q (pc + 3) (a0 :: a1 :: a2 :: some (.int v) :: r) st M cells slots) : Z X G T Q pc (a0 :: a1 :: a2 :: some (.int x) :: r) st M cells slots := fun ls H locs hl hP hT hS => lv_iinc E.ex E.cb hd (hl.cv1 (i := 3) rfl) (k := 0) rfl hv (by simp) rfl (fun ls9 h9 => k ls9 H locs (hasL_st1 (lv := a0 :: a1 :: a2 :: some (.int x) :: r) (i := 3) (by simp) (fun j w e h => by cases (show j = 2 by omega); exact c2_of hc h) (fun j w h => List.mem_cons_of_mem _ (cvL_mem.mpr h)) h9) hP hT hS)
theorem z_lstore_3 (E : EF X G cc nL own rt d mc ms) {a0 a1 a2 a3 a4 : Option Value} {x : Int64} (hd : decode cc pc = .ok (.lstore_n 3, 1)) (hc : c2 a2 = false) (k : Z X G T Q (pc + 1) (a0 :: a1 :: a2 :: some (.long x) :: none :: r) st M cells slots) : Z X G T Q pc (a0 :: a1 :: a2 :: a3 :: a4 :: r) (.long x :: st) M cells slots := fun ls H locs hl hP hT hS => lv_lstore_n (i := 3) E.ex E.cb hd rfl hl.cv (by simp) rfl (fun ls9 h9 => k ls9 H locs (hasL_st2 (i := 3) (by simp) (fun j w e h => by cases (show j = 2 by omega); exact c2_of hc h) (fun j w h => cvL_mem.mpr h) h9) hP hT hS)
theorem z_dstore_3 (E : EF X G cc nL own rt d mc ms) {a0 a1 a2 a3 a4 : Option Value} {x : UInt64} (hd : decode cc pc = .ok (.dstore_n 3, 1)) (hc : c2 a2 = false) (k : Z X G T Q (pc + 1) (a0 :: a1 :: a2 :: some (.double x) :: none :: r) st M cells slots) : Z X G T Q pc (a0 :: a1 :: a2 :: a3 :: a4 :: r) (.double x :: st) M cells slots := fun ls H locs hl hP hT hS => lv_dstore_n (i := 3) E.ex E.cb hd rfl hl.cv (by simp) rfl (fun ls9 h9 => k ls9 H locs (hasL_st2 (i := 3) (by simp) (fun j w e h => by cases (show j = 2 by omega); exact c2_of hc h) (fun j w h => cvL_mem.mpr h) h9) hP hT hS)
theorem z_iload_4 (E : EF X G cc nL own rt d mc ms) {a0 a1 a2 a3 : Option Value} {x : Int32} (hd : decode cc pc = .ok (.iload 4, 2)) (k : Z X G T Q (pc + 2) (a0 :: a1 :: a2 :: a3 :: some (.int x) :: r) (.int x :: st) M cells slots) : Z X G T Q pc (a0 :: a1 :: a2 :: a3 :: some (.int x) :: r) st M cells slots := fun ls H locs hl hP hT hS => lv_iload E.ex E.cb hd (hl.2.2 4 _ rfl) (k ls H locs hl hP hT hS)
theorem z_aload_4 (E : EF X G cc nL own rt d mc ms) {a0 a1 a2 a3 : Option Value} {x : Nat} (hd : decode cc pc = .ok (.aload 4, 2)) (k : Z X G T Q (pc + 2) (a0 :: a1 :: a2 :: a3 :: some (.ref x) :: r) (.ref x :: st) M cells slots) : Z X G T Q pc (a0 :: a1 :: a2 :: a3 :: some (.ref x) :: r) st M cells slots := fun ls H locs hl hP hT hS => lv_aload E.ex E.cb hd (hl.2.2 4 _ rfl) (k ls H locs hl hP hT hS)
theorem z_lload_4 (E : EF X G cc nL own rt d mc ms) {a0 a1 a2 a3 : Option Value} {x : Int64} (hd : decode cc pc = .ok (.lload 4, 2)) (k : Z X G T Q (pc + 2) (a0 :: a1 :: a2 :: a3 :: some (.long x) :: r) (.long x :: st) M cells slots) : Z X G T Q pc (a0 :: a1 :: a2 :: a3 :: some (.long x) :: r) st M cells slots := fun ls H locs hl hP hT hS => lv_lload E.ex E.cb hd (hl.2.2 4 _ rfl) (k ls H locs hl hP hT hS)
theorem z_dload_4 (E : EF X G cc nL own rt d mc ms) {a0 a1 a2 a3 : Option Value} {x : UInt64} (hd : decode cc pc = .ok (.dload 4, 2)) (k : Z X G T Q (pc + 2) (a0 :: a1 :: a2 :: a3 :: some (.double x) :: r) (.double x :: st) M cells slots) : Z X G T Q pc (a0 :: a1 :: a2 :: a3 :: some (.double x) :: r) st M cells slots := fun ls H locs hl hP hT hS => lv_dload E.ex E.cb hd (hl.2.2 4 _ rfl) (k ls H locs hl hP hT hS)
theorem z_istore_4 (E : EF X G cc nL own rt d mc ms) {a0 a1 a2 a3 a4 : Option Value} {x : Int32} (hd : decode cc pc = .ok (.istore 4, 2)) (hc : c2 a3 = false) (k : Z X G T Q (pc + 2) (a0 :: a1 :: a2 :: a3 :: some (.int x) :: r) st M cells slots) : Z X G T Q pc (a0 :: a1 :: a2 :: a3 :: a4 :: r) (.int x :: st) M cells slots := fun ls H locs hl hP hT hS => lv_istore E.ex E.cb hd hl.cv (by simp) rfl (fun ls9 h9 => k ls9 H locs (hasL_st1 (i := 4) (by simp) (fun j w e h => by cases (show j = 3 by omega); exact c2_of hc h) (fun j w h => cvL_mem.mpr h) h9) hP hT hS)
theorem z_astore_4 (E : EF X G cc nL own rt d mc ms) {a0 a1 a2 a3 a4 : Option Value} {x : Nat} (hd : decode cc pc = .ok (.astore 4, 2)) (hc : c2 a3 = false) (k : Z X G T Q (pc + 2) (a0 :: a1 :: a2 :: a3 :: some (.ref x) :: r) st M cells slots) : Z X G T Q pc (a0 :: a1 :: a2 :: a3 :: a4 :: r) (.ref x :: st) M cells slots := fun ls H locs hl hP hT hS => lv_astore E.ex E.cb hd hl.cv (by simp) rfl (fun ls9 h9 => k ls9 H locs (hasL_st1 (i := 4) (by simp) (fun j w e h => by cases (show j = 3 by omega); exact c2_of hc h) (fun j w h => cvL_mem.mpr h) h9) hP hT hS)
theorem z_iinc_4 (E : EF X G cc nL own rt d mc ms) {a0 a1 a2 a3 : Option Value} {x v : Int32} {n : Int} (hd : decode cc pc = .ok (.iinc 4 n, 3)) (hv : x + Int32.ofInt n = v) (hc : c2 a3 = false) (k : Z X G T Q (pc + 3) (a0 :: a1 :: a2 :: a3 :: some (.int v) :: r) st M cells slots) : Z X G T Q pc (a0 :: a1 :: a2 :: a3 :: some (.int x) :: r) st M cells slots := fun ls H locs hl hP hT hS => lv_iinc E.ex E.cb hd (hl.cv1 (i := 4) rfl) (k := 0) rfl hv (by simp) rfl (fun ls9 h9 => k ls9 H locs (hasL_st1 (lv := a0 :: a1 :: a2 :: a3 :: some (.int x) :: r) (i := 4) (by simp) (fun j w e h => by cases (show j = 3 by omega); exact c2_of hc h) (fun j w h => List.mem_cons_of_mem _ (cvL_mem.mpr h)) h9) hP hT hS)
theorem z_lstore_4 (E : EF X G cc nL own rt d mc ms) {a0 a1 a2 a3 a4 a5 : Option Value} {x : Int64} (hd : decode cc pc = .ok (.lstore 4, 2)) (hc : c2 a3 = false) (k : Z X G T Q (pc + 2) (a0 :: a1 :: a2 :: a3 :: some (.long x) :: none :: r) st M cells slots) : Z X G T Q pc (a0 :: a1 :: a2 :: a3 :: a4 :: a5 :: r) (.long x :: st) M cells slots := fun ls H locs hl hP hT hS => lv_lstore E.ex E.cb hd hl.cv (by simp) rfl (fun ls9 h9 => k ls9 H locs (hasL_st2 (i := 4) (by simp) (fun j w e h => by cases (show j = 3 by omega); exact c2_of hc h) (fun j w h => cvL_mem.mpr h) h9) hP hT hS)
theorem z_dstore_4 (E : EF X G cc nL own rt d mc ms) {a0 a1 a2 a3 a4 a5 : Option Value} {x : UInt64} (hd : decode cc pc = .ok (.dstore 4, 2)) (hc : c2 a3 = false) (k : Z X G T Q (pc + 2) (a0 :: a1 :: a2 :: a3 :: some (.double x) :: none :: r) st M cells slots) : Z X G T Q pc (a0 :: a1 :: a2 :: a3 :: a4 :: a5 :: r) (.double x :: st) M cells slots := fun ls H locs hl hP hT hS => lv_dstore E.ex E.cb hd hl.cv (by simp) rfl (fun ls9 h9 => k ls9 H locs (hasL_st2 (i := 4) (by simp) (fun j w e h => by cases (show j = 3 by omega); exact c2_of hc h) (fun j w h => cvL_mem.mpr h) h9) hP hT hS)
theorem z_iload_5 (E : EF X G cc nL own rt d mc ms) {a0 a1 a2 a3 a4 : Option Value} {x : Int32} (hd : decode cc pc = .ok (.iload 5, 2)) (k : Z X G T Q (pc + 2) (a0 :: a1 :: a2 :: a3 :: a4 :: some (.int x) :: r) (.int x :: st) M cells slots) : Z X G T Q pc (a0 :: a1 :: a2 :: a3 :: a4 :: some (.int x) :: r) st M cells slots := fun ls H locs hl hP hT hS => lv_iload E.ex E.cb hd (hl.2.2 5 _ rfl) (k ls H locs hl hP hT hS)
theorem z_aload_5 (E : EF X G cc nL own rt d mc ms) {a0 a1 a2 a3 a4 : Option Value} {x : Nat} (hd : decode cc pc = .ok (.aload 5, 2)) (k : Z X G T Q (pc + 2) (a0 :: a1 :: a2 :: a3 :: a4 :: some (.ref x) :: r) (.ref x :: st) M cells slots) : Z X G T Q pc (a0 :: a1 :: a2 :: a3 :: a4 :: some (.ref x) :: r) st M cells slots := fun ls H locs hl hP hT hS => lv_aload E.ex E.cb hd (hl.2.2 5 _ rfl) (k ls H locs hl hP hT hS)
theorem z_lload_5 (E : EF X G cc nL own rt d mc ms) {a0 a1 a2 a3 a4 : Option Value} {x : Int64} (hd : decode cc pc = .ok (.lload 5, 2)) (k : Z X G T Q (pc + 2) (a0 :: a1 :: a2 :: a3 :: a4 :: some (.long x) :: r) (.long x :: st) M cells slots) : Z X G T Q pc (a0 :: a1 :: a2 :: a3 :: a4 :: some (.long x) :: r) st M cells slots := fun ls H locs hl hP hT hS => lv_lload E.ex E.cb hd (hl.2.2 5 _ rfl) (k ls H locs hl hP hT hS)
theorem z_dload_5 (E : EF X G cc nL own rt d mc ms) {a0 a1 a2 a3 a4 : Option Value} {x : UInt64} (hd : decode cc pc = .ok (.dload 5, 2)) (k : Z X G T Q (pc + 2) (a0 :: a1 :: a2 :: a3 :: a4 :: some (.double x) :: r) (.double x :: st) M cells slots) : Z X G T Q pc (a0 :: a1 :: a2 :: a3 :: a4 :: some (.double x) :: r) st M cells slots := fun ls H locs hl hP hT hS => lv_dload E.ex E.cb hd (hl.2.2 5 _ rfl) (k ls H locs hl hP hT hS)
theorem z_istore_5 (E : EF X G cc nL own rt d mc ms) {a0 a1 a2 a3 a4 a5 : Option Value} {x : Int32} (hd : decode cc pc = .ok (.istore 5, 2)) (hc : c2 a4 = false) (k : Z X G T Q (pc + 2) (a0 :: a1 :: a2 :: a3 :: a4 :: some (.int x) :: r) st M cells slots) : Z X G T Q pc (a0 :: a1 :: a2 :: a3 :: a4 :: a5 :: r) (.int x :: st) M cells slots := fun ls H locs hl hP hT hS => lv_istore E.ex E.cb hd hl.cv (by simp) rfl (fun ls9 h9 => k ls9 H locs (hasL_st1 (i := 5) (by simp) (fun j w e h => by cases (show j = 4 by omega); exact c2_of hc h) (fun j w h => cvL_mem.mpr h) h9) hP hT hS)
theorem z_astore_5 (E : EF X G cc nL own rt d mc ms) {a0 a1 a2 a3 a4 a5 : Option Value} {x : Nat} (hd : decode cc pc = .ok (.astore 5, 2)) (hc : c2 a4 = false) (k : Z X G T Q (pc + 2) (a0 :: a1 :: a2 :: a3 :: a4 :: some (.ref x) :: r) st M cells slots) : Z X G T Q pc (a0 :: a1 :: a2 :: a3 :: a4 :: a5 :: r) (.ref x :: st) M cells slots := fun ls H locs hl hP hT hS => lv_astore E.ex E.cb hd hl.cv (by simp) rfl (fun ls9 h9 => k ls9 H locs (hasL_st1 (i := 5) (by simp) (fun j w e h => by cases (show j = 4 by omega); exact c2_of hc h) (fun j w h => cvL_mem.mpr h) h9) hP hT hS)
theorem z_iinc_5 (E : EF X G cc nL own rt d mc ms) {a0 a1 a2 a3 a4 : Option Value} {x v : Int32} {n : Int} (hd : decode cc pc = .ok (.iinc 5 n, 3)) (hv : x + Int32.ofInt n = v) (hc : c2 a4 = false) (k : Z X G T Q (pc + 3) (a0 :: a1 :: a2 :: a3 :: a4 :: some (.int v) :: r) st M cells slots) : Z X G T Q pc (a0 :: a1 :: a2 :: a3 :: a4 :: some (.int x) :: r) st M cells slots := fun ls H locs hl hP hT hS => lv_iinc E.ex E.cb hd (hl.cv1 (i := 5) rfl) (k := 0) rfl hv (by simp) rfl (fun ls9 h9 => k ls9 H locs (hasL_st1 (lv := a0 :: a1 :: a2 :: a3 :: a4 :: some (.int x) :: r) (i := 5) (by simp) (fun j w e h => by cases (show j = 4 by omega); exact c2_of hc h) (fun j w h => List.mem_cons_of_mem _ (cvL_mem.mpr h)) h9) hP hT hS)
theorem z_lstore_5 (E : EF X G cc nL own rt d mc ms) {a0 a1 a2 a3 a4 a5 a6 : Option Value} {x : Int64} (hd : decode cc pc = .ok (.lstore 5, 2)) (hc : c2 a4 = false) (k : Z X G T Q (pc + 2) (a0 :: a1 :: a2 :: a3 :: a4 :: some (.long x) :: none :: r) st M cells slots) : Z X G T Q pc (a0 :: a1 :: a2 :: a3 :: a4 :: a5 :: a6 :: r) (.long x :: st) M cells slots := fun ls H locs hl hP hT hS => lv_lstore E.ex E.cb hd hl.cv (by simp) rfl (fun ls9 h9 => k ls9 H locs (hasL_st2 (i := 5) (by simp) (fun j w e h => by cases (show j = 4 by omega); exact c2_of hc h) (fun j w h => cvL_mem.mpr h) h9) hP hT hS)
theorem z_dstore_5 (E : EF X G cc nL own rt d mc ms) {a0 a1 a2 a3 a4 a5 a6 : Option Value} {x : UInt64} (hd : decode cc pc = .ok (.dstore 5, 2)) (hc : c2 a4 = false) (k : Z X G T Q (pc + 2) (a0 :: a1 :: a2 :: a3 :: a4 :: some (.double x) :: none :: r) st M cells slots) : Z X G T Q pc (a0 :: a1 :: a2 :: a3 :: a4 :: a5 :: a6 :: r) (.double x :: st) M cells slots := fun ls H locs hl hP hT hS => lv_dstore E.ex E.cb hd hl.cv (by simp) rfl (fun ls9 h9 => k ls9 H locs (hasL_st2 (i := 5) (by simp) (fun j w e h => by cases (show j = 4 by omega); exact c2_of hc h) (fun j w h => cvL_mem.mpr h) h9) hP hT hS)
theorem z_iload_6 (E : EF X G cc nL own rt d mc ms) {a0 a1 a2 a3 a4 a5 : Option Value} {x : Int32} (hd : decode cc pc = .ok (.iload 6, 2)) (k : Z X G T Q (pc + 2) (a0 :: a1 :: a2 :: a3 :: a4 :: a5 :: some (.int x) :: r) (.int x :: st) M cells slots) : Z X G T Q pc (a0 :: a1 :: a2 :: a3 :: a4 :: a5 :: some (.int x) :: r) st M cells slots := fun ls H locs hl hP hT hS => lv_iload E.ex E.cb hd (hl.2.2 6 _ rfl) (k ls H locs hl hP hT hS)
theorem z_aload_6 (E : EF X G cc nL own rt d mc ms) {a0 a1 a2 a3 a4 a5 : Option Value} {x : Nat} (hd : decode cc pc = .ok (.aload 6, 2)) (k : Z X G T Q (pc + 2) (a0 :: a1 :: a2 :: a3 :: a4 :: a5 :: some (.ref x) :: r) (.ref x :: st) M cells slots) : Z X G T Q pc (a0 :: a1 :: a2 :: a3 :: a4 :: a5 :: some (.ref x) :: r) st M cells slots := fun ls H locs hl hP hT hS => lv_aload E.ex E.cb hd (hl.2.2 6 _ rfl) (k ls H locs hl hP hT hS)
theorem z_lload_6 (E : EF X G cc nL own rt d mc ms) {a0 a1 a2 a3 a4 a5 : Option Value} {x : Int64} (hd : decode cc pc = .ok (.lload 6, 2)) (k : Z X G T Q (pc + 2) (a0 :: a1 :: a2 :: a3 :: a4 :: a5 :: some (.long x) :: r) (.long x :: st) M cells slots) : Z X G T Q pc (a0 :: a1 :: a2 :: a3 :: a4 :: a5 :: some (.long x) :: r) st M cells slots := fun ls H locs hl hP hT hS => lv_lload E.ex E.cb hd (hl.2.2 6 _ rfl) (k ls H locs hl hP hT hS)
theorem z_dload_6 (E : EF X G cc nL own rt d mc ms) {a0 a1 a2 a3 a4 a5 : Option Value} {x : UInt64} (hd : decode cc pc = .ok (.dload 6, 2)) (k : Z X G T Q (pc + 2) (a0 :: a1 :: a2 :: a3 :: a4 :: a5 :: some (.double x) :: r) (.double x :: st) M cells slots) : Z X G T Q pc (a0 :: a1 :: a2 :: a3 :: a4 :: a5 :: some (.double x) :: r) st M cells slots := fun ls H locs hl hP hT hS => lv_dload E.ex E.cb hd (hl.2.2 6 _ rfl) (k ls H locs hl hP hT hS)
theorem z_istore_6 (E : EF X G cc nL own rt d mc ms) {a0 a1 a2 a3 a4 a5 a6 : Option Value} {x : Int32} (hd : decode cc pc = .ok (.istore 6, 2)) (hc : c2 a5 = false) (k : Z X G T Q (pc + 2) (a0 :: a1 :: a2 :: a3 :: a4 :: a5 :: some (.int x) :: r) st M cells slots) : Z X G T Q pc (a0 :: a1 :: a2 :: a3 :: a4 :: a5 :: a6 :: r) (.int x :: st) M cells slots := fun ls H locs hl hP hT hS => lv_istore E.ex E.cb hd hl.cv (by simp) rfl (fun ls9 h9 => k ls9 H locs (hasL_st1 (i := 6) (by simp) (fun j w e h => by cases (show j = 5 by omega); exact c2_of hc h) (fun j w h => cvL_mem.mpr h) h9) hP hT hS)
theorem z_astore_6 (E : EF X G cc nL own rt d mc ms) {a0 a1 a2 a3 a4 a5 a6 : Option Value} {x : Nat} (hd : decode cc pc = .ok (.astore 6, 2)) (hc : c2 a5 = false) (k : Z X G T Q (pc + 2) (a0 :: a1 :: a2 :: a3 :: a4 :: a5 :: some (.ref x) :: r) st M cells slots) : Z X G T Q pc (a0 :: a1 :: a2 :: a3 :: a4 :: a5 :: a6 :: r) (.ref x :: st) M cells slots := fun ls H locs hl hP hT hS => lv_astore E.ex E.cb hd hl.cv (by simp) rfl (fun ls9 h9 => k ls9 H locs (hasL_st1 (i := 6) (by simp) (fun j w e h => by cases (show j = 5 by omega); exact c2_of hc h) (fun j w h => cvL_mem.mpr h) h9) hP hT hS)
theorem z_iinc_6 (E : EF X G cc nL own rt d mc ms) {a0 a1 a2 a3 a4 a5 : Option Value} {x v : Int32} {n : Int} (hd : decode cc pc = .ok (.iinc 6 n, 3)) (hv : x + Int32.ofInt n = v) (hc : c2 a5 = false) (k : Z X G T Q (pc + 3) (a0 :: a1 :: a2 :: a3 :: a4 :: a5 :: some (.int v) :: r) st M cells slots) : Z X G T Q pc (a0 :: a1 :: a2 :: a3 :: a4 :: a5 :: some (.int x) :: r) st M cells slots := fun ls H locs hl hP hT hS => lv_iinc E.ex E.cb hd (hl.cv1 (i := 6) rfl) (k := 0) rfl hv (by simp) rfl (fun ls9 h9 => k ls9 H locs (hasL_st1 (lv := a0 :: a1 :: a2 :: a3 :: a4 :: a5 :: some (.int x) :: r) (i := 6) (by simp) (fun j w e h => by cases (show j = 5 by omega); exact c2_of hc h) (fun j w h => List.mem_cons_of_mem _ (cvL_mem.mpr h)) h9) hP hT hS)
theorem z_lstore_6 (E : EF X G cc nL own rt d mc ms) {a0 a1 a2 a3 a4 a5 a6 a7 : Option Value} {x : Int64} (hd : decode cc pc = .ok (.lstore 6, 2)) (hc : c2 a5 = false) (k : Z X G T Q (pc + 2) (a0 :: a1 :: a2 :: a3 :: a4 :: a5 :: some (.long x) :: none :: r) st M cells slots) : Z X G T Q pc (a0 :: a1 :: a2 :: a3 :: a4 :: a5 :: a6 :: a7 :: r) (.long x :: st) M cells slots := fun ls H locs hl hP hT hS => lv_lstore E.ex E.cb hd hl.cv (by simp) rfl (fun ls9 h9 => k ls9 H locs (hasL_st2 (i := 6) (by simp) (fun j w e h => by cases (show j = 5 by omega); exact c2_of hc h) (fun j w h => cvL_mem.mpr h) h9) hP hT hS)
theorem z_dstore_6 (E : EF X G cc nL own rt d mc ms) {a0 a1 a2 a3 a4 a5 a6 a7 : Option Value} {x : UInt64} (hd : decode cc pc = .ok (.dstore 6, 2)) (hc : c2 a5 = false) (k : Z X G T Q (pc + 2) (a0 :: a1 :: a2 :: a3 :: a4 :: a5 :: some (.double x) :: none :: r) st M cells slots) : Z X G T Q pc (a0 :: a1 :: a2 :: a3 :: a4 :: a5 :: a6 :: a7 :: r) (.double x :: st) M cells slots := fun ls H locs hl hP hT hS => lv_dstore E.ex E.cb hd hl.cv (by simp) rfl (fun ls9 h9 => k ls9 H locs (hasL_st2 (i := 6) (by simp) (fun j w e h => by cases (show j = 5 by omega); exact c2_of hc h) (fun j w h => cvL_mem.mpr h) h9) hP hT hS)
theorem z_iload_7 (E : EF X G cc nL own rt d mc ms) {a0 a1 a2 a3 a4 a5 a6 : Option Value} {x : Int32} (hd : decode cc pc = .ok (.iload 7, 2)) (k : Z X G T Q (pc + 2) (a0 :: a1 :: a2 :: a3 :: a4 :: a5 :: a6 :: some (.int x) :: r) (.int x :: st) M cells slots) : Z X G T Q pc (a0 :: a1 :: a2 :: a3 :: a4 :: a5 :: a6 :: some (.int x) :: r) st M cells slots := fun ls H locs hl hP hT hS => lv_iload E.ex E.cb hd (hl.2.2 7 _ rfl) (k ls H locs hl hP hT hS)
theorem z_aload_7 (E : EF X G cc nL own rt d mc ms) {a0 a1 a2 a3 a4 a5 a6 : Option Value} {x : Nat} (hd : decode cc pc = .ok (.aload 7, 2)) (k : Z X G T Q (pc + 2) (a0 :: a1 :: a2 :: a3 :: a4 :: a5 :: a6 :: some (.ref x) :: r) (.ref x :: st) M cells slots) : Z X G T Q pc (a0 :: a1 :: a2 :: a3 :: a4 :: a5 :: a6 :: some (.ref x) :: r) st M cells slots := fun ls H locs hl hP hT hS => lv_aload E.ex E.cb hd (hl.2.2 7 _ rfl) (k ls H locs hl hP hT hS)
theorem z_lload_7 (E : EF X G cc nL own rt d mc ms) {a0 a1 a2 a3 a4 a5 a6 : Option Value} {x : Int64} (hd : decode cc pc = .ok (.lload 7, 2)) (k : Z X G T Q (pc + 2) (a0 :: a1 :: a2 :: a3 :: a4 :: a5 :: a6 :: some (.long x) :: r) (.long x :: st) M cells slots) : Z X G T Q pc (a0 :: a1 :: a2 :: a3 :: a4 :: a5 :: a6 :: some (.long x) :: r) st M cells slots := fun ls H locs hl hP hT hS => lv_lload E.ex E.cb hd (hl.2.2 7 _ rfl) (k ls H locs hl hP hT hS)
theorem z_dload_7 (E : EF X G cc nL own rt d mc ms) {a0 a1 a2 a3 a4 a5 a6 : Option Value} {x : UInt64} (hd : decode cc pc = .ok (.dload 7, 2)) (k : Z X G T Q (pc + 2) (a0 :: a1 :: a2 :: a3 :: a4 :: a5 :: a6 :: some (.double x) :: r) (.double x :: st) M cells slots) : Z X G T Q pc (a0 :: a1 :: a2 :: a3 :: a4 :: a5 :: a6 :: some (.double x) :: r) st M cells slots := fun ls H locs hl hP hT hS => lv_dload E.ex E.cb hd (hl.2.2 7 _ rfl) (k ls H locs hl hP hT hS)
theorem z_istore_7 (E : EF X G cc nL own rt d mc ms) {a0 a1 a2 a3 a4 a5 a6 a7 : Option Value} {x : Int32} (hd : decode cc pc = .ok (.istore 7, 2)) (hc : c2 a6 = false) (k : Z X G T Q (pc + 2) (a0 :: a1 :: a2 :: a3 :: a4 :: a5 :: a6 :: some (.int x) :: r) st M cells slots) : Z X G T Q pc (a0 :: a1 :: a2 :: a3 :: a4 :: a5 :: a6 :: a7 :: r) (.int x :: st) M cells slots := fun ls H locs hl hP hT hS => lv_istore E.ex E.cb hd hl.cv (by simp) rfl (fun ls9 h9 => k ls9 H locs (hasL_st1 (i := 7) (by simp) (fun j w e h => by cases (show j = 6 by omega); exact c2_of hc h) (fun j w h => cvL_mem.mpr h) h9) hP hT hS)
theorem z_astore_7 (E : EF X G cc nL own rt d mc ms) {a0 a1 a2 a3 a4 a5 a6 a7 : Option Value} {x : Nat} (hd : decode cc pc = .ok (.astore 7, 2)) (hc : c2 a6 = false) (k : Z X G T Q (pc + 2) (a0 :: a1 :: a2 :: a3 :: a4 :: a5 :: a6 :: some (.ref x) :: r) st M cells slots) : Z X G T Q pc (a0 :: a1 :: a2 :: a3 :: a4 :: a5 :: a6 :: a7 :: r) (.ref x :: st) M cells slots := fun ls H locs hl hP hT hS => lv_astore E.ex E.cb hd hl.cv (by simp) rfl (fun ls9 h9 => k ls9 H locs (hasL_st1 (i := 7) (by simp) (fun j w e h => by cases (show j = 6 by omega); exact c2_of hc h) (fun j w h => cvL_mem.mpr h) h9) hP hT hS)
theorem z_iinc_7 (E : EF X G cc nL own rt d mc ms) {a0 a1 a2 a3 a4 a5 a6 : Option Value} {x v : Int32} {n : Int} (hd : decode cc pc = .ok (.iinc 7 n, 3)) (hv : x + Int32.ofInt n = v) (hc : c2 a6 = false) (k : Z X G T Q (pc + 3) (a0 :: a1 :: a2 :: a3 :: a4 :: a5 :: a6 :: some (.int v) :: r) st M cells slots) : Z X G T Q pc (a0 :: a1 :: a2 :: a3 :: a4 :: a5 :: a6 :: some (.int x) :: r) st M cells slots := fun ls H locs hl hP hT hS => lv_iinc E.ex E.cb hd (hl.cv1 (i := 7) rfl) (k := 0) rfl hv (by simp) rfl (fun ls9 h9 => k ls9 H locs (hasL_st1 (lv := a0 :: a1 :: a2 :: a3 :: a4 :: a5 :: a6 :: some (.int x) :: r) (i := 7) (by simp) (fun j w e h => by cases (show j = 6 by omega); exact c2_of hc h) (fun j w h => List.mem_cons_of_mem _ (cvL_mem.mpr h)) h9) hP hT hS)
theorem z_lstore_7 (E : EF X G cc nL own rt d mc ms) {a0 a1 a2 a3 a4 a5 a6 a7 a8 : Option Value} {x : Int64} (hd : decode cc pc = .ok (.lstore 7, 2)) (hc : c2 a6 = false) (k : Z X G T Q (pc + 2) (a0 :: a1 :: a2 :: a3 :: a4 :: a5 :: a6 :: some (.long x) :: none :: r) st M cells slots) : Z X G T Q pc (a0 :: a1 :: a2 :: a3 :: a4 :: a5 :: a6 :: a7 :: a8 :: r) (.long x :: st) M cells slots := fun ls H locs hl hP hT hS => lv_lstore E.ex E.cb hd hl.cv (by simp) rfl (fun ls9 h9 => k ls9 H locs (hasL_st2 (i := 7) (by simp) (fun j w e h => by cases (show j = 6 by omega); exact c2_of hc h) (fun j w h => cvL_mem.mpr h) h9) hP hT hS)
theorem z_dstore_7 (E : EF X G cc nL own rt d mc ms) {a0 a1 a2 a3 a4 a5 a6 a7 a8 : Option Value} {x : UInt64} (hd : decode cc pc = .ok (.dstore 7, 2)) (hc : c2 a6 = false) (k : Z X G T Q (pc + 2) (a0 :: a1 :: a2 :: a3 :: a4 :: a5 :: a6 :: some (.double x) :: none :: r) st M cells slots) : Z X G T Q pc (a0 :: a1 :: a2 :: a3 :: a4 :: a5 :: a6 :: a7 :: a8 :: r) (.double x :: st) M cells slots := fun ls H locs hl hP hT hS => lv_dstore E.ex E.cb hd hl.cv (by simp) rfl (fun ls9 h9 => k ls9 H locs (hasL_st2 (i := 7) (by simp) (fun j w e h => by cases (show j = 6 by omega); exact c2_of hc h) (fun j w h => cvL_mem.mpr h) h9) hP hT hS)
theorem z_iload_8 (E : EF X G cc nL own rt d mc ms) {a0 a1 a2 a3 a4 a5 a6 a7 : Option Value} {x : Int32} (hd : decode cc pc = .ok (.iload 8, 2)) (k : Z X G T Q (pc + 2) (a0 :: a1 :: a2 :: a3 :: a4 :: a5 :: a6 :: a7 :: some (.int x) :: r) (.int x :: st) M cells slots) : Z X G T Q pc (a0 :: a1 :: a2 :: a3 :: a4 :: a5 :: a6 :: a7 :: some (.int x) :: r) st M cells slots := fun ls H locs hl hP hT hS => lv_iload E.ex E.cb hd (hl.2.2 8 _ rfl) (k ls H locs hl hP hT hS)
theorem z_aload_8 (E : EF X G cc nL own rt d mc ms) {a0 a1 a2 a3 a4 a5 a6 a7 : Option Value} {x : Nat} (hd : decode cc pc = .ok (.aload 8, 2)) (k : Z X G T Q (pc + 2) (a0 :: a1 :: a2 :: a3 :: a4 :: a5 :: a6 :: a7 :: some (.ref x) :: r) (.ref x :: st) M cells slots) : Z X G T Q pc (a0 :: a1 :: a2 :: a3 :: a4 :: a5 :: a6 :: a7 :: some (.ref x) :: r) st M cells slots := fun ls H locs hl hP hT hS => lv_aload E.ex E.cb hd (hl.2.2 8 _ rfl) (k ls H locs hl hP hT hS)
theorem z_lload_8 (E : EF X G cc nL own rt d mc ms) {a0 a1 a2 a3 a4 a5 a6 a7 : Option Value} {x : Int64} (hd : decode cc pc = .ok (.lload 8, 2)) (k : Z X G T Q (pc + 2) (a0 :: a1 :: a2 :: a3 :: a4 :: a5 :: a6 :: a7 :: some (.long x) :: r) (.long x :: st) M cells slots) : Z X G T Q pc (a0 :: a1 :: a2 :: a3 :: a4 :: a5 :: a6 :: a7 :: some (.long x) :: r) st M cells slots := fun ls H locs hl hP hT hS => lv_lload E.ex E.cb hd (hl.2.2 8 _ rfl) (k ls H locs hl hP hT hS)
theorem z_dload_8 (E : EF X G cc nL own rt d mc ms) {a0 a1 a2 a3 a4 a5 a6 a7 : Option Value} {x : UInt64} (hd : decode cc pc = .ok (.dload 8, 2)) (k : Z X G T Q (pc + 2) (a0 :: a1 :: a2 :: a3 :: a4 :: a5 :: a6 :: a7 :: some (.double x) :: r) (.double x :: st) M cells slots) : Z X G T Q pc (a0 :: a1 :: a2 :: a3 :: a4 :: a5 :: a6 :: a7 :: some (.double x) :: r) st M cells slots := fun ls H locs hl hP hT hS => lv_dload E.ex E.cb hd (hl.2.2 8 _ rfl) (k ls H locs hl hP hT hS)
theorem z_istore_8 (E : EF X G cc nL own rt d mc ms) {a0 a1 a2 a3 a4 a5 a6 a7 a8 : Option Value} {x : Int32} (hd : decode cc pc = .ok (.istore 8, 2)) (hc : c2 a7 = false) (k : Z X G T Q (pc + 2) (a0 :: a1 :: a2 :: a3 :: a4 :: a5 :: a6 :: a7 :: some (.int x) :: r) st M cells slots) : Z X G T Q pc (a0 :: a1 :: a2 :: a3 :: a4 :: a5 :: a6 :: a7 :: a8 :: r) (.int x :: st) M cells slots := fun ls H locs hl hP hT hS => lv_istore E.ex E.cb hd hl.cv (by simp) rfl (fun ls9 h9 => k ls9 H locs (hasL_st1 (i := 8) (by simp) (fun j w e h => by cases (show j = 7 by omega); exact c2_of hc h) (fun j w h => cvL_mem.mpr h) h9) hP hT hS)
theorem z_astore_8 (E : EF X G cc nL own rt d mc ms) {a0 a1 a2 a3 a4 a5 a6 a7 a8 : Option Value} {x : Nat} (hd : decode cc pc = .ok (.astore 8, 2)) (hc : c2 a7 = false) (k : Z X G T Q (pc + 2) (a0 :: a1 :: a2 :: a3 :: a4 :: a5 :: a6 :: a7 :: some (.ref x) :: r) st M cells slots) : Z X G T Q pc (a0 :: a1 :: a2 :: a3 :: a4 :: a5 :: a6 :: a7 :: a8 :: r) (.ref x :: st) M cells slots := fun ls H locs hl hP hT hS => lv_astore E.ex E.cb hd hl.cv (by simp) rfl (fun ls9 h9 => k ls9 H locs (hasL_st1 (i := 8) (by simp) (fun j w e h => by cases (show j = 7 by omega); exact c2_of hc h) (fun j w h => cvL_mem.mpr h) h9) hP hT hS)
theorem z_iinc_8 (E : EF X G cc nL own rt d mc ms) {a0 a1 a2 a3 a4 a5 a6 a7 : Option Value} {x v : Int32} {n : Int} (hd : decode cc pc = .ok (.iinc 8 n, 3)) (hv : x + Int32.ofInt n = v) (hc : c2 a7 = false) (k : Z X G T Q (pc + 3) (a0 :: a1 :: a2 :: a3 :: a4 :: a5 :: a6 :: a7 :: some (.int v) :: r) st M cells slots) : Z X G T Q pc (a0 :: a1 :: a2 :: a3 :: a4 :: a5 :: a6 :: a7 :: some (.int x) :: r) st M cells slots := fun ls H locs hl hP hT hS => lv_iinc E.ex E.cb hd (hl.cv1 (i := 8) rfl) (k := 0) rfl hv (by simp) rfl (fun ls9 h9 => k ls9 H locs (hasL_st1 (lv := a0 :: a1 :: a2 :: a3 :: a4 :: a5 :: a6 :: a7 :: some (.int x) :: r) (i := 8) (by simp) (fun j w e h => by cases (show j = 7 by omega); exact c2_of hc h) (fun j w h => List.mem_cons_of_mem _ (cvL_mem.mpr h)) h9) hP hT hS)
end ZR
end
section
/-! rules for fields, arrays, calls, returns -/
def Fi (own : String) (idx ci : Nat) (C : String) (Tf : u_T) (N kf : Nat) : Prop := vwCl[ci]? = some (C, Tf, N) ∧ kf < N ∧ Cond.fieldLink own idx (Tf kf).1 (Tf kf).2.1 (Tf kf).2.2.1 ∈ GW ∧ (∀ w ∈ u_ws C Tf N, w ∈ GW)
def FiN (own : String) (idx ci : Nat) (C : String) (Tf : u_T) (N kf : Nat) (host : String) : Prop := vwCl[ci]? = some (C, Tf, N) ∧ kf < N ∧ (own, idx, (Tf kf).1, (Tf kf).2.1, (Tf kf).2.2.1, host) ∈ NWf ∧ (∀ w ∈ u_ws C Tf N, w ∈ GW)
def Fp (Tf : u_T) (N kf : Nat) : Prop := ∃ ty0 : Nat → FieldType, (∀ k, k < N → parseFieldDescriptor (Tf k).2.2.1 = some (ty0 k)) ∧ (∀ a, a < N → ∀ b, b < N → a ≠ b → (Tf a).2.1 ≠ (Tf b).2.1) ∧ (Tf kf).2.2.2 = false ∧ parseFieldDescriptor (Tf kf).2.2.1 = some .int
section ZF
variable {X : PX} {G : GT} {T : Nat × Nat} {cc : ByteArray} {nL : Nat} {own : String} {rt : Option FieldType} {d mc ms : Nat} {Q : State → Prop} {pc : Nat} {lv r : List (Option Value)} {st : List Value} {M : Mem} {cells slots : Nat}
variable {idx ci kf N k s i n j t0 : Nat} {C : String} {Tf : u_T} {fs : List Value}
theorem z_get (E : EF X G cc nL own rt d mc ms) {v : Value} (hd : decode cc pc = .ok (.getfield idx, 3)) (hf : Fi own idx ci C Tf N kf) (ho : okc k s i) (hc : conV G k s i (M k s i) = .inr (ci, fs)) (hv : fs[kf]? = some v) (kk : Z X G T Q (pc + 3) lv (v :: st) M cells slots) : Z X G T Q pc lv (.ref (ad G k s i) :: st) M cells slots := fun ls H locs hl hP hT hS =>
  va_get E.ex E.cb E.ts hf.2.2.2 E.ow E.kk (hP.one' ho hc) 0 rfl hf.1 kf hf.2.1 (E.ts _ hf.2.2.1) (fun _ h => h) hv hd (kk ls H locs hl hP hT hS)
theorem z_getN (E : EF X G cc nL own rt d mc ms) {v : Value} {host : String} (hd : decode cc pc = .ok (.getfield idx, 3)) (hf : FiN own idx ci C Tf N kf host) (ho : okc k s i) (hc : conV G k s i (M k s i) = .inr (ci, fs)) (hv : fs[kf]? = some v) (kk : Z X G T Q (pc + 3) lv (v :: st) M cells slots) : Z X G T Q pc lv (.ref (ad G k s i) :: st) M cells slots := fun ls H locs hl hP hT hS =>
  va_getN E.ex E.cb E.ts hf.2.2.2 E.ow E.kk (hP.one' ho hc) 0 rfl hf.1 kf hf.2.1 (va_Nw.use rfl (E.wf.2.2.1 _ hf.2.2.1)) (fun _ h => h) hv hd (kk ls H locs hl hP hT hS)
theorem z_put (E : EF X G cc nL own rt d mc ms) {x : Int32} (hd : decode cc pc = .ok (.putfield idx, 3)) (hf : Fi own idx ci C Tf N kf) (hp : Fp Tf N kf) (ho : okc k s i) (hc : conV G k s i (M k s i) = .inr (ci, fs)) (hs : conV G k s i (upd (M k s i) kf x) = .inr (ci, fs.set kf (.int x))) (hl9 : kf < fs.length) (kk : Z X G T Q (pc + 3) lv st (mset M k s i kf x) cells slots) : Z X G T Q pc lv (.int x :: .ref (ad G k s i) :: st) M cells slots := by
  refine fun ls H locs hl hP hT hS => ?_
  obtain ⟨ty0, hty, hnm, hfin, hdd⟩ := hp
  have hP1 := hP.one' ho hc
  have hap := va_apart (own := own) E.ts hf.2.2.2 ty0 hty hnm E.kk hf.1
  obtain ⟨r, h1, cell, q1, q2, q3, q4⟩ := hP1 0 _ rfl
  have hr : r = (C, Tf, N) := Option.some.inj (h1.symm.trans hf.1)
  subst hr
  obtain ⟨hS', hfc, kC, hkC, hkind⟩ := E.kk.1 ci _ hf.1
  obtain ⟨cf, kf', fi, f, hi, hsl⟩ := hS' kf hf.2.1
  have hlay := E.ts _ (hf.2.2.2 _ (u_in_lay hf.2.1))
  unfold u_lay at hlay
  rw [if_neg (by rw [hfin]; decide)] at hlay
  have hst := (u_facts hfc hkC (u_lays E.ts hf.2.2.2 hf.2.1) hi).1
  have h6 := u_store hfc hkC hkind hlay hi hdd (v := .int x) (vp_nar_int x) rfl
  refine W.putK E.ex E.cb (f := f) ⟨E.ow, E.ts _ hf.2.2.1, ⟨_, _, _, hi⟩, hst⟩ (by rw [q2]; exact h6) q1 q3 (by rw [hsl]; exact k2_hasslot (q4 kf hf.2.1)) rfl rfl hd fun H' e1 e2 e3 => ?_
  rw [hsl] at e1 ⊢
  refine kk ls H' _ hl (hP.put ho ?_ e3) (hT.put ho e3) (hS.put e2 e3 (Aw.ad ho))
  rw [hs]
  exact ⟨_, hf.1, t_OB.to (V := updV (vp_V fs) kf (.int x)) ⟨_, e1, q2, q3, t_set q4 hap hf.2.1 (.int x)⟩ (fun j _ => vp_updV_set hl9 (.int x) j)⟩
theorem z_putN (E : EF X G cc nL own rt d mc ms) {x : Int32} {host : String} (hd : decode cc pc = .ok (.putfield idx, 3)) (hf : FiN own idx ci C Tf N kf host) (hp : Fp Tf N kf) (ho : okc k s i) (hc : conV G k s i (M k s i) = .inr (ci, fs)) (hs : conV G k s i (upd (M k s i) kf x) = .inr (ci, fs.set kf (.int x))) (hl9 : kf < fs.length) (kk : Z X G T Q (pc + 3) lv st (mset M k s i kf x) cells slots) : Z X G T Q pc lv (.int x :: .ref (ad G k s i) :: st) M cells slots := by
  refine fun ls H locs hl hP hT hS => ?_
  obtain ⟨ty0, hty, hnm, hfin, hdd⟩ := hp
  have hP1 := hP.one' ho hc
  have hap := va_apart (own := own) E.ts hf.2.2.2 ty0 hty hnm E.kk hf.1
  obtain ⟨r, h1, cell, q1, q2, q3, q4⟩ := hP1 0 _ rfl
  have hr : r = (C, Tf, N) := Option.some.inj (h1.symm.trans hf.1)
  subst hr
  obtain ⟨hS', hfc, kC, hkC, hkind⟩ := E.kk.1 ci _ hf.1
  obtain ⟨cf, kf', fi, f, hi, hsl⟩ := hS' kf hf.2.1
  have hlay := E.ts _ (hf.2.2.2 _ (u_in_lay hf.2.1))
  unfold u_lay at hlay
  rw [if_neg (by rw [hfin]; decide)] at hlay
  have hst := (u_facts hfc hkC (u_lays E.ts hf.2.2.2 hf.2.1) hi).1
  have h6 := u_store hfc hkC hkind hlay hi hdd (v := .int x) (vp_nar_int x) rfl
  refine va_WputK E.ex E.cb (f := f) E.ow (va_Nw.use rfl (E.wf.2.2.1 _ hf.2.2.1)) hi hst (by rw [q2]; exact h6) q1 q3 (by rw [hsl]; exact k2_hasslot (q4 kf hf.2.1)) rfl rfl hd fun H' e1 e2 e3 => ?_
  rw [hsl] at e1 ⊢
  refine kk ls H' _ hl (hP.put ho ?_ e3) (hT.put ho e3) (hS.put e2 e3 (Aw.ad ho))
  rw [hs]
  exact ⟨_, hf.1, t_OB.to (V := updV (vp_V fs) kf (.int x)) ⟨_, e1, q2, q3, t_set q4 hap hf.2.1 (.int x)⟩ (fun j _ => vp_updV_set hl9 (.int x) j)⟩
theorem n31 {n : Nat} (h : n ≤ 1000) : n < 2 ^ 31 := Nat.lt_of_le_of_lt h (by decide)
theorem z_iald (E : EF X G cc nL own rt d mc ms) {ix : Int32} (hd : decode cc pc = .ok (.iaload, 1)) (ho : okc k s i) (hc : conV G k s i (M k s i) = .inl (G.2.1 0, (n, .inl (M k s i)))) (hj : ix = nI j) (hlt : j < n) (hn : n ≤ 1000) (kk : Z X G T Q (pc + 1) lv (.int (M k s i j) :: st) M cells slots) : Z X G T Q pc lv (.int ix :: .ref (ad G k s i) :: st) M cells slots := by
  refine fun ls H locs hl hP hT hS => ?_
  subst hj
  refine va_iald E.ex E.cb E.kk (hP.one' ho hc) 0 0 rfl rfl (vp_in_nI hlt (n31 hn)) hd ?_
  rw [nI_clamp (Nat.lt_trans hlt (n31 hn))]
  exact kk ls H locs hl hP hT hS
theorem z_iast (E : EF X G cc nL own rt d mc ms) {ix x : Int32} (hd : decode cc pc = .ok (.iastore, 1)) (ho : okc k s i) (hc : ∀ f, conV G k s i f = .inl (G.2.1 0, (n, .inl f))) (hj : ix = nI j) (hlt : j < n) (hn : n ≤ 1000) (kk : Z X G T Q (pc + 1) lv st (mset M k s i j x) cells slots) : Z X G T Q pc lv (.int x :: .int ix :: .ref (ad G k s i) :: st) M cells slots := by
  refine fun ls H locs hl hP hT hS => ?_
  subst hj
  refine W.iast E.ex E.cb (hP.one' ho (hc _) 0 _ rfl) ((E.kk.2 0 _ rfl).1 n (fun j => .int (M k s i j))) (fun q => by cases q) (by show ¬ (_ < 0 ∨ (arrV _ _ _).slots.size ≤ _); rw [arrV_size]; exact vp_in_nI hlt (n31 hn)) rfl rfl hd fun H1 e z oq => ?_
  refine kk ls H1 _ hl (hP.put ho ?_ oq) (hT.put ho oq) (hS.put z oq (Aw.ad ho))
  rw [hc]
  rw [nI_clamp (Nat.lt_trans hlt (n31 hn))] at e
  show H1[ad G k s i]? = some (vp_cell _ _)
  rw [e, vp_cell_i, vp_cell_i, arrV_store]
  congr 2
  funext q
  by_cases hq : q = j
  · subst hq
    simp [updV, upd]
  · simp [updV, upd, hq]
theorem z_alen (E : EF X G cc nL own rt d mc ms) {cA : ClassId} {ty : FieldType} {x : vp_A} {v : Int32} (hd : decode cc pc = .ok (.arraylength, 1)) (ho : okc k s i) (hc : conV G k s i (M k s i) = .inl (cA, x)) (ht : (tys G)[t0]? = some (cA, ty)) (hv : Int32.ofNat x.1 = v) (kk : Z X G T Q (pc + 1) lv (.int v :: st) M cells slots) : Z X G T Q pc lv (.ref (ad G k s i) :: st) M cells slots := fun ls H locs hl hP hT hS =>
  va_alen E.ex E.cb E.kk (hP.one' ho hc) 0 t0 rfl ht hv hd (kk ls H locs hl hP hT hS)
theorem z_aald (E : EF X G cc nL own rt d mc ms) {ix : Int32} {cA : ClassId} {a : Nat} {g : Nat → Option Nat} (hd : decode cc pc = .ok (.aaload, 1)) (ho : okc k s i) (hc : conV G k s i (M k s i) = .inl (cA, (n, .inr (.inr (.inr (.inr g)))))) (ht : (tys G)[t0]? = some (cA, .object C)) (hj : ix = nI j) (hlt : j < n) (hn : n ≤ 1000) (hg : g j = some a) (kk : Z X G T Q (pc + 1) lv (.ref a :: st) M cells slots) : Z X G T Q pc lv (.int ix :: .ref (ad G k s i) :: st) M cells slots := by
  refine fun ls H locs hl hP hT hS => ?_
  subst hj
  refine va_aldq E.ex E.cb E.kk (hP.one' ho hc) 0 t0 rfl ht (vp_in_nI hlt (n31 hn)) hd ?_
  rw [nI_clamp (Nat.lt_trans hlt (n31 hn)), hg]
  exact kk ls H locs hl hP hT hS
/-- the table FROM -/
theorem z_from8 (E : EF X G cc nL RX8 rt d mc ms) (hd : decode cc pc = .ok (.getstatic idx, 3)) (hf : Cond.fieldLink RX8 idx RX8 "FROM" "[I" ∈ GW) (kk : Z X G T Q (pc + 3) lv (.ref (G.2.2 1) :: st) M cells slots) : Z X G T Q pc lv st M cells slots := fun ls H locs hl hP hT hS =>
  va_gets E.ex E.cb E.wf.2.2.2.1 hS E.ow (E.ts _ hf) (fun _ h => h) hd (kk ls H locs hl hP hT hS)
theorem z_from7 (E : EF X G cc nL own rt d mc ms) {host : String} (hd : decode cc pc = .ok (.getstatic idx, 3)) (hf : (own, idx, RX8, "FROM", "[I", host) ∈ NWf) (kk : Z X G T Q (pc + 3) lv (.ref (G.2.2 1) :: st) M cells slots) : Z X G T Q pc lv st M cells slots := fun ls H locs hl hP hT hS =>
  va_getsN E.ex E.cb E.wf.2.2.2.1 hS E.ow (va_Nw.use rfl (E.wf.2.2.1 _ hf)) (fun _ h => h) hd (kk ls H locs hl hP hT hS)
theorem z_tald (E : EF X G cc nL own rt d mc ms) {ix : Int32} (hd : decode cc pc = .ok (.iaload, 1)) (hj : ix = nI j) (hlt : j < 4) (kk : Z X G T Q (pc + 1) lv (.int (fromV j) :: st) M cells slots) : Z X G T Q pc lv (.int ix :: .ref (G.2.2 1) :: st) M cells slots := by
  refine fun ls H locs hl hP hT hS => ?_
  subst hj
  refine va_ti E.ex E.cb E.wf.2.2.2.2.1 hS (vp_in_nI hlt (by decide)) ?_ hd (kk ls H locs hl hP hT hS)
  rw [nI_clamp (Nat.lt_trans hlt (by decide))]
/-- Math.max, Math.min -/
theorem z_max (E : EF X G cc nL own rt d mc ms) {x y : Int32} (hd : decode cc pc = .ok (.invokestatic idx, 3)) (hm : Cond.methodLink own idx yJ9_max_7cf53 ∈ GW) (hlv : lv.length = nL) (hdd : 1 ≤ d) (hcat : (st.map fun v => v.category).sum ≤ 8) (hcm : cells ≤ mc ∧ slots ≤ ms) (kk : Z X G T Q (pc + 3) lv (.int (if x < y then y else x) :: st) M cells slots) : Z X G T Q pc lv (.int y :: .int x :: st) M cells slots := fun ls H locs hl hP hT hS =>
  va_mmax E.ex E.cb (by rw [E.ml, hl.1, hlv]) E.ow (E.ts _ hm) (E.ts _ stJ9_max_7cf53) (E.ts _ inJ9) (E.ts _ cdJ9_max_7cf53) (by rw [E.rm]; exact hdd) (by rw [E.rm]; show _ + 13 ≤ 30 * d; omega) (by rw [E.rm]; exact hcm.1) (by rw [E.rm]; exact hcm.2) hd (kk ls H locs hl hP hT hS)
theorem z_min (E : EF X G cc nL own rt d mc ms) {x y : Int32} (hd : decode cc pc = .ok (.invokestatic idx, 3)) (hm : Cond.methodLink own idx yJ9_min_7cf53 ∈ GW) (hlv : lv.length = nL) (hdd : 1 ≤ d) (hcat : (st.map fun v => v.category).sum ≤ 8) (hcm : cells ≤ mc ∧ slots ≤ ms) (kk : Z X G T Q (pc + 3) lv (.int (if y < x then y else x) :: st) M cells slots) : Z X G T Q pc lv (.int y :: .int x :: st) M cells slots := fun ls H locs hl hP hT hS =>
  va_mmin E.ex E.cb (by rw [E.ml, hl.1, hlv]) E.ow (E.ts _ hm) (E.ts _ stJ9_min_7cf53) (E.ts _ inJ9) (E.ts _ cdJ9_min_7cf53) (by rw [E.rm]; exact hdd) (by rw [E.rm]; show _ + 13 ≤ 30 * d; omega) (by rw [E.rm]; exact hcm.1) (by rw [E.rm]; exact hcm.2) hd (kk ls H locs hl hP hT hS)
/-! contracts -/
def Cal (y : MethodName) (C : String) (cy : ByteArray) (nLy : Nat) (rty : Option FieldType) (n : Nat) : Prop := y.cls = C ∧ (y.cls ≠ "java/lang/invoke/MethodHandle" ∧ y.cls ≠ "java/lang/invoke/VarHandle") ∧ (parseMethodDescriptor y.desc).map (fun d => d.parameters.length) = some n ∧ Cond.instanceMethod y ∈ GW ∧ Cond.selects C y y ∈ GW ∧ Cond.initialized C ∈ GW ∧ Cond.code y cy nLy rty ∈ GW
def CalS (y : MethodName) (C : String) (cy : ByteArray) (nLy : Nat) (rty : Option FieldType) (n : Nat) : Prop := y.cls = C ∧ (y.cls ≠ "java/lang/invoke/MethodHandle" ∧ y.cls ≠ "java/lang/invoke/VarHandle") ∧ (parseMethodDescriptor y.desc).map (fun d => d.parameters.length) = some n ∧ Cond.static y ∈ GW ∧ Cond.initialized C ∈ GW ∧ Cond.code y cy nLy rty ∈ GW
theorem good_ws {y : MethodName} {cy : ByteArray} {nLy : Nat} {rty : Option FieldType} (h : Cond.code y cy nLy rty ∈ GW) : GoodIn GW (ws_ y cy nLy rty) := fun w hw => by
  rcases List.mem_cons.mp hw with rfl | hw
  · exact ⟨h, gw_good h⟩
  · exact ⟨hw, gw_good hw⟩
theorem good_V {own : String} {idx : Nat} {y : MethodName} {C : String} {cy : ByteArray} {nLy n : Nat} {rty : Option FieldType} (hy : Cal y C cy nLy rty n) (hm : Cond.methodLink own idx y ∈ GW) : GoodIn GW (wsV own idx C y (ws_ y cy nLy rty)) := by
  obtain ⟨-, -, -, h1, h2, h3, h4⟩ := hy
  intro w hw
  simp only [wsV, List.cons_append, List.nil_append, List.mem_cons] at hw
  rcases hw with rfl | rfl | rfl | rfl | hw
  · exact ⟨hm, gw_good hm⟩
  · exact ⟨h1, gw_good h1⟩
  · exact ⟨h2, gw_good h2⟩
  · exact ⟨h3, gw_good h3⟩
  · exact good_ws h4 w hw
theorem good_S {own : String} {idx : Nat} {y : MethodName} {C : String} {cy : ByteArray} {nLy n : Nat} {rty : Option FieldType} (hy : CalS y C cy nLy rty n) (hm : Cond.methodLink own idx y ∈ GW) : GoodIn GW (va_wsS own idx y (ws_ y cy nLy rty)) := by
  obtain ⟨rfl, -, -, h1, h3, h4⟩ := hy
  intro w hw
  simp only [va_wsS, List.cons_append, List.nil_append, List.mem_cons] at hw
  rcases hw with rfl | rfl | rfl | hw
  · exact ⟨hm, gw_good hm⟩
  · exact ⟨h1, gw_good h1⟩
  · exact ⟨h3, gw_good h3⟩
  · exact good_ws h4 w hw
abbrev PcW (G : GT) (M : Mem) (av : List Value) (sz : Nat) : Array Value → State → Prop := va_Pc av (fun U => U.heap.size = sz ∧ WI G M U)
theorem pcw_blind {G : GT} {M : Mem} {av : List Value} {sz : Nat} : FrameBlind (PcW G M av sz) := fun a U g mk q => ⟨q.1, q.2.1, q.2.2.blind g mk a⟩
theorem EF.wi (E : EF X G cc nL own rt d mc ms) {H : Heap} {locs : List Loc} (hP : PW G M H) (hS : va_S (Aw G (xS X).heap.size) (xS X).heap H locs) {U : State} (hU : U.heap = H) (hW : (xS X).WarmedH U.vm) : U.heap.size = H.size ∧ WI G M U := by
  subst hU
  exact ⟨rfl, Nat.le_trans E.zb hS.1, hP, E.wf.warm hW hS.2.1 (Aw.mono hS.1)⟩
theorem TW.call {H H1 : Heap} {M' : Mem} (hT : TW G T M H) (h22 : T.2 = 0 ∨ M' 22 0 0 = M 22 0 0) (hk : ∀ q : Nat, q < H.size → ¬ Aw G H.size q → H1[q]? = H[q]?) : TW G T M' H1 := by
  rcases h22 with h | h
  · exact Or.inl h
  · exact hT.kept h (fun h1 h2 => hk _ h2 (fun z => by rcases z with ⟨-, z⟩ | z <;> omega))
theorem met_ofWF {l : Launch} {y : MethodName} {ws ws' : List Cond} {rm : Room} {Pc : Array Value → State → Prop} {Qc : Array Value → State → Outcome → State → Prop} {mc ms : Nat} {free : Addr → Prop} {cc : ByteArray} {maxL : Nat} {ret : Option FieldType}
    (hy : plainFor y = true) (hw : ws = Cond.code y cc maxL ret :: ws')
    (body : ∀ p e s m args below meth c s₁, BodyLoose p l y (headSpec ws rm) cc maxL ret e s m args below meth c s₁ → c.maxLocals = maxL → Pc args s →
      W p l e (headSpec ws rm).room s m args below meth c s.heap [] 0 0 (MQ below Qc args s mc ms free) (entryFrame m args maxL)) : Met l y ws rm Pc Qc mc ms free := by
  refine MetFree.of_bodySF (code := cc) (maxLocals := maxL) (ret := ret) hy ?_ ?_
  · intro args s m h hn
    obtain ⟨meth, c, h1, h2, h3, h4, h5, h6, -, -⟩ := Cond.code_spec hn (atoms_spec (ws := ws) h _ (by rw [hw]; exact List.mem_cons_self))
    exact ⟨meth, c, h1, h2, h3, h4, h5, h6⟩
  · intro p e s m args below meth c s₁ B hml hP _
    have hh0 : s₁.heap = s.heap := by rw [B.state]; rfl
    obtain ⟨t, a1, o, b1, b2, b3⟩ := body p e s m args below meth c s₁ B hml hP s₁ hh0 (Stand.of_body B)
    exact ⟨t, o, a1, b1, b2, ⟨b3.1, b3.2⟩⟩
def CI (y : MethodName) (cy : ByteArray) (nLy : Nat) (rty : Option FieldType) (dy my sy : Nat) (av : GT → List Value) (M : Mem) (post : Int32 → Mem → Prop) : Prop := ∀ (l : Launch) (G : GT) (sz : Nat), Met l y (ws_ y cy nLy rty) (rmd dy my sy) (PcW G M (av G) sz) (va_Qi post (fun M' t => PW G M' t.heap) (Aw G sz)) my sy (Aw G sz)
def QI (X : PX) (G : GT) (post : Int32 → Mem → Prop) (my sy : Nat) : State → Prop := MQ (xB X) (va_Qi post (fun M' t => PW G M' t.heap) (Aw G (xS X).heap.size)) (xA X) (xS X) my sy (Aw G (xS X).heap.size)
theorem CI.mk {y : MethodName} {dy my sy : Nat} {av : GT → List Value} {post : Int32 → Mem → Prop} (hy : plainFor y = true) (hown : y.cls = own) (hcat : ∀ G, (av G).all (fun v => v.category == 1) = true) (hlen : ∀ G, (av G).length ≤ nL) {lv0 : GT → List (Option Value)} (hlv : ∀ G, (av G).map some ++ List.replicate (nL - (av G).length) none = lv0 G)
    (body : ∀ X G, EF X G cc nL own rt dy my sy → Z X G (0, 0) (QI X G post my sy) 0 (lv0 G) [] M 0 0) : CI y cc nL rt dy my sy av M post := by
  intro l G sz
  refine met_ofWF (cc := cc) (maxL := nL) (ret := rt) hy rfl ?_
  intro p e s m args below meth c s₁ B hml hv
  obtain ⟨rfl, hsz, h1, hP, hF⟩ := hv
  subst hsz
  have hts := atoms_spec (ws := ws_ y cc nL rt) B.pre
  have E : EF (p, l, e, rmd dy my sy, s, m, (av G).toArray, below, meth, c) G cc nL own rt dy my sy := ⟨B.exec, B.bytes, hml, by rw [← hown]; exact findClass_of_methodNamed B.named, fun w hw => hts w (List.mem_cons_of_mem _ hw), B.notSynchronized, B.returns, h1, hF, rfl⟩
  rw [lg_entry_eq]
  have hl := hasL_entry (av G) (n := nL) (fun v hv => by simpa using List.all_eq_true.mp (hcat G) v hv) (hlen G)
  rw [hlv] at hl
  exact body _ G E _ s.heap [] hl hP (Or.inl rfl) va_S.rf
theorem z_iv (E : EF X G cc nL own rt d mc ms) {y : MethodName} {cy : ByteArray} {nLy dy my sy : Nat} {rty : Option FieldType} {av : GT → List Value} {post : Int32 → Mem → Prop} {As st0 : List Value} (hM : CI y cy nLy rty dy my sy av M post) (hav : av G = .ref (ad G k s i) :: As) (hst : st0 = As.reverse ++ .ref (ad G k s i) :: st) (hy : Cal y C cy nLy rty n) (hm : Cond.methodLink own idx y ∈ GW) (hd : decode cc pc = .ok (.invokevirtual idx, 3)) (ho : okc k s i) (hc : conV G k s i (M k s i) = .inr (ci, fs)) (hcl : vwCl[ci]? = some (C, Tf, N)) (hn : As.length = n) (hcat : (st.map fun v => v.category).sum ≤ 8) (hlv : lv.length = nL) (hdd : dy + 1 ≤ d) (hnl : nLy ≤ 11) (hcm : cells + my ≤ mc ∧ slots + sy ≤ ms) (h22 : ∀ (r : Int32) (M' : Mem), post r M' → T.2 = 0 ∨ M' 22 0 0 = M 22 0 0)
    (kk : ∀ (r : Int32) (M' : Mem), post r M' → Z X G T Q (pc + 3) lv (.int r :: st) M' (cells + my) (slots + sy)) : Z X G T Q pc lv st0 M cells slots := by
  refine fun ls H locs hl hP hT hS => ?_
  refine va_calli (va_runV (As := As) (rest := st) ⟨E.ex, E.cb, E.ml, E.ow, E.ts⟩ (hM (xL X) G H.size) (cwV n E.ts (good_V hy hm) rfl rfl rfl ⟨hy.1, hy.2.1.1, hy.2.1.2, hy.2.2.1⟩ ⟨by rw [E.rm]; exact hdd, by rw [E.rm]; show 8 + (nLy + 11) + 30 * dy ≤ 30 * d; omega⟩) ⟨pcw_blind, va_recv (q0 := 0) E.kk (hP.one' ho hc) hcl rfl, fun U hU hW => ⟨by rw [hav], E.wi hP hS hU hW⟩⟩ rfl hn (hl.1.trans hlv) hst (lv_room hcat) hd ⟨by rw [E.rm]; exact hcm.1, by rw [E.rm]; exact hcm.2⟩) hS (fun q _ h => Aw.mono hS.1 q h) (fun q h => Aw.mono hS.1 q h) (fun r M' t H1 locs1 ht hvm hw hB hz1 hk1 hS1 => ?_)
  exact kk r M' hw ls H1 locs1 hl (by rw [← ht]; exact hB) (hT.call (h22 r M' hw) hk1) hS1
theorem z_is (E : EF X G cc nL own rt d mc ms) {y : MethodName} {cy : ByteArray} {nLy dy my sy : Nat} {rty : Option FieldType} {av : GT → List Value} {post : Int32 → Mem → Prop} {As st0 : List Value} (hM : CI y cy nLy rty dy my sy av M post) (hav : av G = As) (hst : st0 = As.reverse ++ st) (hy : CalS y C cy nLy rty n) (hm : Cond.methodLink own idx y ∈ GW) (hd : decode cc pc = .ok (.invokestatic idx, 3)) (hn : As.length = n) (hcat : (st.map fun v => v.category).sum ≤ 8) (hlv : lv.length = nL) (hdd : dy + 1 ≤ d) (hnl : nLy ≤ 11) (hcm : cells + my ≤ mc ∧ slots + sy ≤ ms) (h22 : ∀ (r : Int32) (M' : Mem), post r M' → T.2 = 0 ∨ M' 22 0 0 = M 22 0 0)
    (kk : ∀ (r : Int32) (M' : Mem), post r M' → Z X G T Q (pc + 3) lv (.int r :: st) M' (cells + my) (slots + sy)) : Z X G T Q pc lv st0 M cells slots := by
  refine fun ls H locs hl hP hT hS => ?_
  refine va_calli (va_runS (As := As) (rest := st) ⟨E.ex, E.cb, E.ml, E.ow, E.ts⟩ (hM (xL X) G H.size) (va_cwS n E.ts (good_S hy hm) rfl rfl rfl ⟨hy.2.1.1, hy.2.1.2, hy.2.2.1⟩ ⟨by rw [E.rm]; exact hdd, by rw [E.rm]; show 8 + (nLy + 11) + 30 * dy ≤ 30 * d; omega⟩) ⟨pcw_blind, fun U hU hW => ⟨by rw [hav], E.wi hP hS hU hW⟩⟩ rfl hn (hl.1.trans hlv) hst (lv_room hcat) hd ⟨by rw [E.rm]; exact hcm.1, by rw [E.rm]; exact hcm.2⟩) hS (fun q _ h => Aw.mono hS.1 q h) (fun q h => Aw.mono hS.1 q h) (fun r M' t H1 locs1 ht hvm hw hB hz1 hk1 hS1 => ?_)
  exact kk r M' hw ls H1 locs1 hl (by rw [← ht]; exact hB) (hT.call (h22 r M' hw) hk1) hS1
theorem z_isN (E : EF X G cc nL own rt d mc ms) {host : String} {y : MethodName} {cy : ByteArray} {nLy dy my sy : Nat} {rty : Option FieldType} {av : GT → List Value} {post : Int32 → Mem → Prop} {As st0 : List Value} (hM : CI y cy nLy rty dy my sy av M post) (hav : av G = As) (hst : st0 = As.reverse ++ st) (hy : CalS y C cy nLy rty n) (hm : (own, idx, y, host) ∈ NWm) (hd : decode cc pc = .ok (.invokestatic idx, 3)) (hn : As.length = n) (hcat : (st.map fun v => v.category).sum ≤ 8) (hlv : lv.length = nL) (hdd : dy + 1 ≤ d) (hnl : nLy ≤ 11) (hcm : cells + my ≤ mc ∧ slots + sy ≤ ms) (h22 : ∀ (r : Int32) (M' : Mem), post r M' → T.2 = 0 ∨ M' 22 0 0 = M 22 0 0)
    (kk : ∀ (r : Int32) (M' : Mem), post r M' → Z X G T Q (pc + 3) lv (.int r :: st) M' (cells + my) (slots + sy)) : Z X G T Q pc lv st0 M cells slots := by
  refine fun ls H locs hl hP hT hS => ?_
  refine va_calli (va_runSN (As := As) (rest := st) ⟨E.ex, E.cb, E.ml, E.ow, E.ts⟩ (hM (xL X) G H.size) ⟨va_cnB n E.ts (good_ws hy.2.2.2.2.2) rfl rfl rfl (E.wf.2.1 _ hm) (by rw [hy.1]; exact E.ts _ hy.2.2.2.2.1) ⟨hy.2.1.1, hy.2.1.2, hy.2.2.1⟩ ⟨by rw [E.rm]; exact hdd, by rw [E.rm]; show 8 + (nLy + 11) + 30 * dy ≤ 30 * d; omega⟩, E.ts _ hy.2.2.2.1, trivial⟩ ⟨pcw_blind, fun U hU hW => ⟨by rw [hav], E.wi hP hS hU hW⟩⟩ rfl hn (hl.1.trans hlv) hst (lv_room hcat) hd ⟨by rw [E.rm]; exact hcm.1, by rw [E.rm]; exact hcm.2⟩) hS (fun q _ h => Aw.mono hS.1 q h) (fun q h => Aw.mono hS.1 q h) (fun r M' t H1 locs1 ht hvm hw hB hz1 hk1 hS1 => ?_)
  exact kk r M' hw ls H1 locs1 hl (by rw [← ht]; exact hB) (hT.call (h22 r M' hw) hk1) hS1
def CV (y : MethodName) (cy : ByteArray) (nLy : Nat) (rty : Option FieldType) (dy my sy : Nat) (av : GT → List Value) (M : Mem) (post : Mem → Prop) : Prop := ∀ (l : Launch) (G : GT) (sz : Nat), Met l y (ws_ y cy nLy rty) (rmd dy my sy) (PcW G M (av G) sz) (va_Qv post (fun M' t => PW G M' t.heap) (Aw G sz)) my sy (Aw G sz)
def QV (X : PX) (G : GT) (post : Mem → Prop) (my sy : Nat) : State → Prop := MQ (xB X) (va_Qv post (fun M' t => PW G M' t.heap) (Aw G (xS X).heap.size)) (xA X) (xS X) my sy (Aw G (xS X).heap.size)
theorem CV.mk {y : MethodName} {dy my sy : Nat} {av : GT → List Value} {post : Mem → Prop} (hy : plainFor y = true) (hown : y.cls = own) (hcat : ∀ G, (av G).all (fun v => v.category == 1) = true) (hlen : ∀ G, (av G).length ≤ nL) {lv0 : GT → List (Option Value)} (hlv : ∀ G, (av G).map some ++ List.replicate (nL - (av G).length) none = lv0 G)
    (body : ∀ X G, EF X G cc nL own rt dy my sy → Z X G (0, 0) (QV X G post my sy) 0 (lv0 G) [] M 0 0) : CV y cc nL rt dy my sy av M post := by
  intro l G sz
  refine met_ofWF (cc := cc) (maxL := nL) (ret := rt) hy rfl ?_
  intro p e s m args below meth c s₁ B hml hv
  obtain ⟨rfl, hsz, h1, hP, hF⟩ := hv
  subst hsz
  have hts := atoms_spec (ws := ws_ y cc nL rt) B.pre
  have E : EF (p, l, e, rmd dy my sy, s, m, (av G).toArray, below, meth, c) G cc nL own rt dy my sy := ⟨B.exec, B.bytes, hml, by rw [← hown]; exact findClass_of_methodNamed B.named, fun w hw => hts w (List.mem_cons_of_mem _ hw), B.notSynchronized, B.returns, h1, hF, rfl⟩
  rw [lg_entry_eq]
  have hl := hasL_entry (av G) (n := nL) (fun v hv => by simpa using List.all_eq_true.mp (hcat G) v hv) (hlen G)
  rw [hlv] at hl
  exact body _ G E _ s.heap [] hl hP (Or.inl rfl) va_S.rf
theorem z_vv (E : EF X G cc nL own rt d mc ms) {y : MethodName} {cy : ByteArray} {nLy dy my sy : Nat} {rty : Option FieldType} {av : GT → List Value} {post : Mem → Prop} {As st0 : List Value} (hM : CV y cy nLy rty dy my sy av M post) (hav : av G = .ref (ad G k s i) :: As) (hst : st0 = As.reverse ++ .ref (ad G k s i) :: st) (hy : Cal y C cy nLy rty n) (hm : Cond.methodLink own idx y ∈ GW) (hd : decode cc pc = .ok (.invokevirtual idx, 3)) (ho : okc k s i) (hc : conV G k s i (M k s i) = .inr (ci, fs)) (hcl : vwCl[ci]? = some (C, Tf, N)) (hn : As.length = n) (hcat : (st.map fun v => v.category).sum ≤ 8) (hlv : lv.length = nL) (hdd : dy + 1 ≤ d) (hnl : nLy ≤ 11) (hcm : cells + my ≤ mc ∧ slots + sy ≤ ms) (h22 : ∀ (M' : Mem), post M' → T.2 = 0 ∨ M' 22 0 0 = M 22 0 0)
    (kk : ∀ (M' : Mem), post M' → Z X G T Q (pc + 3) lv ( st) M' (cells + my) (slots + sy)) : Z X G T Q pc lv st0 M cells slots := by
  refine fun ls H locs hl hP hT hS => ?_
  refine va_callv (va_runV (As := As) (rest := st) ⟨E.ex, E.cb, E.ml, E.ow, E.ts⟩ (hM (xL X) G H.size) (cwV n E.ts (good_V hy hm) rfl rfl rfl ⟨hy.1, hy.2.1.1, hy.2.1.2, hy.2.2.1⟩ ⟨by rw [E.rm]; exact hdd, by rw [E.rm]; show 8 + (nLy + 11) + 30 * dy ≤ 30 * d; omega⟩) ⟨pcw_blind, va_recv (q0 := 0) E.kk (hP.one' ho hc) hcl rfl, fun U hU hW => ⟨by rw [hav], E.wi hP hS hU hW⟩⟩ rfl hn (hl.1.trans hlv) hst (lv_room hcat) hd ⟨by rw [E.rm]; exact hcm.1, by rw [E.rm]; exact hcm.2⟩) hS (fun q _ h => Aw.mono hS.1 q h) (fun q h => Aw.mono hS.1 q h) (fun M' t H1 locs1 ht hvm hw hB hz1 hk1 hS1 => ?_)
  exact kk M' hw ls H1 locs1 hl (by rw [← ht]; exact hB) (hT.call (h22 M' hw) hk1) hS1
theorem z_vs (E : EF X G cc nL own rt d mc ms) {y : MethodName} {cy : ByteArray} {nLy dy my sy : Nat} {rty : Option FieldType} {av : GT → List Value} {post : Mem → Prop} {As st0 : List Value} (hM : CV y cy nLy rty dy my sy av M post) (hav : av G = As) (hst : st0 = As.reverse ++ st) (hy : CalS y C cy nLy rty n) (hm : Cond.methodLink own idx y ∈ GW) (hd : decode cc pc = .ok (.invokestatic idx, 3)) (hn : As.length = n) (hcat : (st.map fun v => v.category).sum ≤ 8) (hlv : lv.length = nL) (hdd : dy + 1 ≤ d) (hnl : nLy ≤ 11) (hcm : cells + my ≤ mc ∧ slots + sy ≤ ms) (h22 : ∀ (M' : Mem), post M' → T.2 = 0 ∨ M' 22 0 0 = M 22 0 0)
    (kk : ∀ (M' : Mem), post M' → Z X G T Q (pc + 3) lv ( st) M' (cells + my) (slots + sy)) : Z X G T Q pc lv st0 M cells slots := by
  refine fun ls H locs hl hP hT hS => ?_
  refine va_callv (va_runS (As := As) (rest := st) ⟨E.ex, E.cb, E.ml, E.ow, E.ts⟩ (hM (xL X) G H.size) (va_cwS n E.ts (good_S hy hm) rfl rfl rfl ⟨hy.2.1.1, hy.2.1.2, hy.2.2.1⟩ ⟨by rw [E.rm]; exact hdd, by rw [E.rm]; show 8 + (nLy + 11) + 30 * dy ≤ 30 * d; omega⟩) ⟨pcw_blind, fun U hU hW => ⟨by rw [hav], E.wi hP hS hU hW⟩⟩ rfl hn (hl.1.trans hlv) hst (lv_room hcat) hd ⟨by rw [E.rm]; exact hcm.1, by rw [E.rm]; exact hcm.2⟩) hS (fun q _ h => Aw.mono hS.1 q h) (fun q h => Aw.mono hS.1 q h) (fun M' t H1 locs1 ht hvm hw hB hz1 hk1 hS1 => ?_)
  exact kk M' hw ls H1 locs1 hl (by rw [← ht]; exact hB) (hT.call (h22 M' hw) hk1) hS1
theorem z_vsN (E : EF X G cc nL own rt d mc ms) {host : String} {y : MethodName} {cy : ByteArray} {nLy dy my sy : Nat} {rty : Option FieldType} {av : GT → List Value} {post : Mem → Prop} {As st0 : List Value} (hM : CV y cy nLy rty dy my sy av M post) (hav : av G = As) (hst : st0 = As.reverse ++ st) (hy : CalS y C cy nLy rty n) (hm : (own, idx, y, host) ∈ NWm) (hd : decode cc pc = .ok (.invokestatic idx, 3)) (hn : As.length = n) (hcat : (st.map fun v => v.category).sum ≤ 8) (hlv : lv.length = nL) (hdd : dy + 1 ≤ d) (hnl : nLy ≤ 11) (hcm : cells + my ≤ mc ∧ slots + sy ≤ ms) (h22 : ∀ (M' : Mem), post M' → T.2 = 0 ∨ M' 22 0 0 = M 22 0 0)
    (kk : ∀ (M' : Mem), post M' → Z X G T Q (pc + 3) lv ( st) M' (cells + my) (slots + sy)) : Z X G T Q pc lv st0 M cells slots := by
  refine fun ls H locs hl hP hT hS => ?_
  refine va_callv (va_runSN (As := As) (rest := st) ⟨E.ex, E.cb, E.ml, E.ow, E.ts⟩ (hM (xL X) G H.size) ⟨va_cnB n E.ts (good_ws hy.2.2.2.2.2) rfl rfl rfl (E.wf.2.1 _ hm) (by rw [hy.1]; exact E.ts _ hy.2.2.2.2.1) ⟨hy.2.1.1, hy.2.1.2, hy.2.2.1⟩ ⟨by rw [E.rm]; exact hdd, by rw [E.rm]; show 8 + (nLy + 11) + 30 * dy ≤ 30 * d; omega⟩, E.ts _ hy.2.2.2.1, trivial⟩ ⟨pcw_blind, fun U hU hW => ⟨by rw [hav], E.wi hP hS hU hW⟩⟩ rfl hn (hl.1.trans hlv) hst (lv_room hcat) hd ⟨by rw [E.rm]; exact hcm.1, by rw [E.rm]; exact hcm.2⟩) hS (fun q _ h => Aw.mono hS.1 q h) (fun q h => Aw.mono hS.1 q h) (fun M' t H1 locs1 ht hvm hw hB hz1 hk1 hS1 => ?_)
  exact kk M' hw ls H1 locs1 hl (by rw [← ht]; exact hB) (hT.call (h22 M' hw) hk1) hS1
def CL (y : MethodName) (cy : ByteArray) (nLy : Nat) (rty : Option FieldType) (dy my sy : Nat) (av : GT → List Value) (M : Mem) (post : Int64 → Mem → Prop) : Prop := ∀ (l : Launch) (G : GT) (sz : Nat), Met l y (ws_ y cy nLy rty) (rmd dy my sy) (PcW G M (av G) sz) (va_Ql post (fun M' t => PW G M' t.heap) (Aw G sz)) my sy (Aw G sz)
def QL (X : PX) (G : GT) (post : Int64 → Mem → Prop) (my sy : Nat) : State → Prop := MQ (xB X) (va_Ql post (fun M' t => PW G M' t.heap) (Aw G (xS X).heap.size)) (xA X) (xS X) my sy (Aw G (xS X).heap.size)
theorem CL.mk {y : MethodName} {dy my sy : Nat} {av : GT → List Value} {post : Int64 → Mem → Prop} (hy : plainFor y = true) (hown : y.cls = own) (hcat : ∀ G, (av G).all (fun v => v.category == 1) = true) (hlen : ∀ G, (av G).length ≤ nL) {lv0 : GT → List (Option Value)} (hlv : ∀ G, (av G).map some ++ List.replicate (nL - (av G).length) none = lv0 G)
    (body : ∀ X G, EF X G cc nL own rt dy my sy → Z X G (0, 0) (QL X G post my sy) 0 (lv0 G) [] M 0 0) : CL y cc nL rt dy my sy av M post := by
  intro l G sz
  refine met_ofWF (cc := cc) (maxL := nL) (ret := rt) hy rfl ?_
  intro p e s m args below meth c s₁ B hml hv
  obtain ⟨rfl, hsz, h1, hP, hF⟩ := hv
  subst hsz
  have hts := atoms_spec (ws := ws_ y cc nL rt) B.pre
  have E : EF (p, l, e, rmd dy my sy, s, m, (av G).toArray, below, meth, c) G cc nL own rt dy my sy := ⟨B.exec, B.bytes, hml, by rw [← hown]; exact findClass_of_methodNamed B.named, fun w hw => hts w (List.mem_cons_of_mem _ hw), B.notSynchronized, B.returns, h1, hF, rfl⟩
  rw [lg_entry_eq]
  have hl := hasL_entry (av G) (n := nL) (fun v hv => by simpa using List.all_eq_true.mp (hcat G) v hv) (hlen G)
  rw [hlv] at hl
  exact body _ G E _ s.heap [] hl hP (Or.inl rfl) va_S.rf
theorem z_lv (E : EF X G cc nL own rt d mc ms) {y : MethodName} {cy : ByteArray} {nLy dy my sy : Nat} {rty : Option FieldType} {av : GT → List Value} {post : Int64 → Mem → Prop} {As st0 : List Value} (hM : CL y cy nLy rty dy my sy av M post) (hav : av G = .ref (ad G k s i) :: As) (hst : st0 = As.reverse ++ .ref (ad G k s i) :: st) (hy : Cal y C cy nLy rty n) (hm : Cond.methodLink own idx y ∈ GW) (hd : decode cc pc = .ok (.invokevirtual idx, 3)) (ho : okc k s i) (hc : conV G k s i (M k s i) = .inr (ci, fs)) (hcl : vwCl[ci]? = some (C, Tf, N)) (hn : As.length = n) (hcat : (st.map fun v => v.category).sum ≤ 8) (hlv : lv.length = nL) (hdd : dy + 1 ≤ d) (hnl : nLy ≤ 11) (hcm : cells + my ≤ mc ∧ slots + sy ≤ ms) (h22 : ∀ (r : Int64) (M' : Mem), post r M' → T.2 = 0 ∨ M' 22 0 0 = M 22 0 0)
    (kk : ∀ (r : Int64) (M' : Mem), post r M' → Z X G T Q (pc + 3) lv (.long r :: st) M' (cells + my) (slots + sy)) : Z X G T Q pc lv st0 M cells slots := by
  refine fun ls H locs hl hP hT hS => ?_
  refine va_calll (va_runV (As := As) (rest := st) ⟨E.ex, E.cb, E.ml, E.ow, E.ts⟩ (hM (xL X) G H.size) (cwV n E.ts (good_V hy hm) rfl rfl rfl ⟨hy.1, hy.2.1.1, hy.2.1.2, hy.2.2.1⟩ ⟨by rw [E.rm]; exact hdd, by rw [E.rm]; show 8 + (nLy + 11) + 30 * dy ≤ 30 * d; omega⟩) ⟨pcw_blind, va_recv (q0 := 0) E.kk (hP.one' ho hc) hcl rfl, fun U hU hW => ⟨by rw [hav], E.wi hP hS hU hW⟩⟩ rfl hn (hl.1.trans hlv) hst (lv_room hcat) hd ⟨by rw [E.rm]; exact hcm.1, by rw [E.rm]; exact hcm.2⟩) hS (fun q _ h => Aw.mono hS.1 q h) (fun q h => Aw.mono hS.1 q h) (fun r M' t H1 locs1 ht hvm hw hB hz1 hk1 hS1 => ?_)
  exact kk r M' hw ls H1 locs1 hl (by rw [← ht]; exact hB) (hT.call (h22 r M' hw) hk1) hS1
theorem z_ls (E : EF X G cc nL own rt d mc ms) {y : MethodName} {cy : ByteArray} {nLy dy my sy : Nat} {rty : Option FieldType} {av : GT → List Value} {post : Int64 → Mem → Prop} {As st0 : List Value} (hM : CL y cy nLy rty dy my sy av M post) (hav : av G = As) (hst : st0 = As.reverse ++ st) (hy : CalS y C cy nLy rty n) (hm : Cond.methodLink own idx y ∈ GW) (hd : decode cc pc = .ok (.invokestatic idx, 3)) (hn : As.length = n) (hcat : (st.map fun v => v.category).sum ≤ 8) (hlv : lv.length = nL) (hdd : dy + 1 ≤ d) (hnl : nLy ≤ 11) (hcm : cells + my ≤ mc ∧ slots + sy ≤ ms) (h22 : ∀ (r : Int64) (M' : Mem), post r M' → T.2 = 0 ∨ M' 22 0 0 = M 22 0 0)
    (kk : ∀ (r : Int64) (M' : Mem), post r M' → Z X G T Q (pc + 3) lv (.long r :: st) M' (cells + my) (slots + sy)) : Z X G T Q pc lv st0 M cells slots := by
  refine fun ls H locs hl hP hT hS => ?_
  refine va_calll (va_runS (As := As) (rest := st) ⟨E.ex, E.cb, E.ml, E.ow, E.ts⟩ (hM (xL X) G H.size) (va_cwS n E.ts (good_S hy hm) rfl rfl rfl ⟨hy.2.1.1, hy.2.1.2, hy.2.2.1⟩ ⟨by rw [E.rm]; exact hdd, by rw [E.rm]; show 8 + (nLy + 11) + 30 * dy ≤ 30 * d; omega⟩) ⟨pcw_blind, fun U hU hW => ⟨by rw [hav], E.wi hP hS hU hW⟩⟩ rfl hn (hl.1.trans hlv) hst (lv_room hcat) hd ⟨by rw [E.rm]; exact hcm.1, by rw [E.rm]; exact hcm.2⟩) hS (fun q _ h => Aw.mono hS.1 q h) (fun q h => Aw.mono hS.1 q h) (fun r M' t H1 locs1 ht hvm hw hB hz1 hk1 hS1 => ?_)
  exact kk r M' hw ls H1 locs1 hl (by rw [← ht]; exact hB) (hT.call (h22 r M' hw) hk1) hS1
theorem z_lsN (E : EF X G cc nL own rt d mc ms) {host : String} {y : MethodName} {cy : ByteArray} {nLy dy my sy : Nat} {rty : Option FieldType} {av : GT → List Value} {post : Int64 → Mem → Prop} {As st0 : List Value} (hM : CL y cy nLy rty dy my sy av M post) (hav : av G = As) (hst : st0 = As.reverse ++ st) (hy : CalS y C cy nLy rty n) (hm : (own, idx, y, host) ∈ NWm) (hd : decode cc pc = .ok (.invokestatic idx, 3)) (hn : As.length = n) (hcat : (st.map fun v => v.category).sum ≤ 8) (hlv : lv.length = nL) (hdd : dy + 1 ≤ d) (hnl : nLy ≤ 11) (hcm : cells + my ≤ mc ∧ slots + sy ≤ ms) (h22 : ∀ (r : Int64) (M' : Mem), post r M' → T.2 = 0 ∨ M' 22 0 0 = M 22 0 0)
    (kk : ∀ (r : Int64) (M' : Mem), post r M' → Z X G T Q (pc + 3) lv (.long r :: st) M' (cells + my) (slots + sy)) : Z X G T Q pc lv st0 M cells slots := by
  refine fun ls H locs hl hP hT hS => ?_
  refine va_calll (va_runSN (As := As) (rest := st) ⟨E.ex, E.cb, E.ml, E.ow, E.ts⟩ (hM (xL X) G H.size) ⟨va_cnB n E.ts (good_ws hy.2.2.2.2.2) rfl rfl rfl (E.wf.2.1 _ hm) (by rw [hy.1]; exact E.ts _ hy.2.2.2.2.1) ⟨hy.2.1.1, hy.2.1.2, hy.2.2.1⟩ ⟨by rw [E.rm]; exact hdd, by rw [E.rm]; show 8 + (nLy + 11) + 30 * dy ≤ 30 * d; omega⟩, E.ts _ hy.2.2.2.1, trivial⟩ ⟨pcw_blind, fun U hU hW => ⟨by rw [hav], E.wi hP hS hU hW⟩⟩ rfl hn (hl.1.trans hlv) hst (lv_room hcat) hd ⟨by rw [E.rm]; exact hcm.1, by rw [E.rm]; exact hcm.2⟩) hS (fun q _ h => Aw.mono hS.1 q h) (fun q h => Aw.mono hS.1 q h) (fun r M' t H1 locs1 ht hvm hw hB hz1 hk1 hS1 => ?_)
  exact kk r M' hw ls H1 locs1 hl (by rw [← ht]; exact hB) (hT.call (h22 r M' hw) hk1) hS1
def CD (y : MethodName) (cy : ByteArray) (nLy : Nat) (rty : Option FieldType) (dy my sy : Nat) (av : GT → List Value) (M : Mem) (post : UInt64 → Mem → Prop) : Prop := ∀ (l : Launch) (G : GT) (sz : Nat), Met l y (ws_ y cy nLy rty) (rmd dy my sy) (PcW G M (av G) sz) (va_Qd post (fun M' t => PW G M' t.heap) (Aw G sz)) my sy (Aw G sz)
def QD (X : PX) (G : GT) (post : UInt64 → Mem → Prop) (my sy : Nat) : State → Prop := MQ (xB X) (va_Qd post (fun M' t => PW G M' t.heap) (Aw G (xS X).heap.size)) (xA X) (xS X) my sy (Aw G (xS X).heap.size)
theorem CD.mk {y : MethodName} {dy my sy : Nat} {av : GT → List Value} {post : UInt64 → Mem → Prop} (hy : plainFor y = true) (hown : y.cls = own) (hcat : ∀ G, (av G).all (fun v => v.category == 1) = true) (hlen : ∀ G, (av G).length ≤ nL) {lv0 : GT → List (Option Value)} (hlv : ∀ G, (av G).map some ++ List.replicate (nL - (av G).length) none = lv0 G)
    (body : ∀ X G, EF X G cc nL own rt dy my sy → Z X G (0, 0) (QD X G post my sy) 0 (lv0 G) [] M 0 0) : CD y cc nL rt dy my sy av M post := by
  intro l G sz
  refine met_ofWF (cc := cc) (maxL := nL) (ret := rt) hy rfl ?_
  intro p e s m args below meth c s₁ B hml hv
  obtain ⟨rfl, hsz, h1, hP, hF⟩ := hv
  subst hsz
  have hts := atoms_spec (ws := ws_ y cc nL rt) B.pre
  have E : EF (p, l, e, rmd dy my sy, s, m, (av G).toArray, below, meth, c) G cc nL own rt dy my sy := ⟨B.exec, B.bytes, hml, by rw [← hown]; exact findClass_of_methodNamed B.named, fun w hw => hts w (List.mem_cons_of_mem _ hw), B.notSynchronized, B.returns, h1, hF, rfl⟩
  rw [lg_entry_eq]
  have hl := hasL_entry (av G) (n := nL) (fun v hv => by simpa using List.all_eq_true.mp (hcat G) v hv) (hlen G)
  rw [hlv] at hl
  exact body _ G E _ s.heap [] hl hP (Or.inl rfl) va_S.rf
theorem z_dv (E : EF X G cc nL own rt d mc ms) {y : MethodName} {cy : ByteArray} {nLy dy my sy : Nat} {rty : Option FieldType} {av : GT → List Value} {post : UInt64 → Mem → Prop} {As st0 : List Value} (hM : CD y cy nLy rty dy my sy av M post) (hav : av G = .ref (ad G k s i) :: As) (hst : st0 = As.reverse ++ .ref (ad G k s i) :: st) (hy : Cal y C cy nLy rty n) (hm : Cond.methodLink own idx y ∈ GW) (hd : decode cc pc = .ok (.invokevirtual idx, 3)) (ho : okc k s i) (hc : conV G k s i (M k s i) = .inr (ci, fs)) (hcl : vwCl[ci]? = some (C, Tf, N)) (hn : As.length = n) (hcat : (st.map fun v => v.category).sum ≤ 8) (hlv : lv.length = nL) (hdd : dy + 1 ≤ d) (hnl : nLy ≤ 11) (hcm : cells + my ≤ mc ∧ slots + sy ≤ ms) (h22 : ∀ (r : UInt64) (M' : Mem), post r M' → T.2 = 0 ∨ M' 22 0 0 = M 22 0 0)
    (kk : ∀ (r : UInt64) (M' : Mem), post r M' → Z X G T Q (pc + 3) lv (.double r :: st) M' (cells + my) (slots + sy)) : Z X G T Q pc lv st0 M cells slots := by
  refine fun ls H locs hl hP hT hS => ?_
  refine va_calld (va_runV (As := As) (rest := st) ⟨E.ex, E.cb, E.ml, E.ow, E.ts⟩ (hM (xL X) G H.size) (cwV n E.ts (good_V hy hm) rfl rfl rfl ⟨hy.1, hy.2.1.1, hy.2.1.2, hy.2.2.1⟩ ⟨by rw [E.rm]; exact hdd, by rw [E.rm]; show 8 + (nLy + 11) + 30 * dy ≤ 30 * d; omega⟩) ⟨pcw_blind, va_recv (q0 := 0) E.kk (hP.one' ho hc) hcl rfl, fun U hU hW => ⟨by rw [hav], E.wi hP hS hU hW⟩⟩ rfl hn (hl.1.trans hlv) hst (lv_room hcat) hd ⟨by rw [E.rm]; exact hcm.1, by rw [E.rm]; exact hcm.2⟩) hS (fun q _ h => Aw.mono hS.1 q h) (fun q h => Aw.mono hS.1 q h) (fun r M' t H1 locs1 ht hvm hw hB hz1 hk1 hS1 => ?_)
  exact kk r M' hw ls H1 locs1 hl (by rw [← ht]; exact hB) (hT.call (h22 r M' hw) hk1) hS1
theorem z_ds (E : EF X G cc nL own rt d mc ms) {y : MethodName} {cy : ByteArray} {nLy dy my sy : Nat} {rty : Option FieldType} {av : GT → List Value} {post : UInt64 → Mem → Prop} {As st0 : List Value} (hM : CD y cy nLy rty dy my sy av M post) (hav : av G = As) (hst : st0 = As.reverse ++ st) (hy : CalS y C cy nLy rty n) (hm : Cond.methodLink own idx y ∈ GW) (hd : decode cc pc = .ok (.invokestatic idx, 3)) (hn : As.length = n) (hcat : (st.map fun v => v.category).sum ≤ 8) (hlv : lv.length = nL) (hdd : dy + 1 ≤ d) (hnl : nLy ≤ 11) (hcm : cells + my ≤ mc ∧ slots + sy ≤ ms) (h22 : ∀ (r : UInt64) (M' : Mem), post r M' → T.2 = 0 ∨ M' 22 0 0 = M 22 0 0)
    (kk : ∀ (r : UInt64) (M' : Mem), post r M' → Z X G T Q (pc + 3) lv (.double r :: st) M' (cells + my) (slots + sy)) : Z X G T Q pc lv st0 M cells slots := by
  refine fun ls H locs hl hP hT hS => ?_
  refine va_calld (va_runS (As := As) (rest := st) ⟨E.ex, E.cb, E.ml, E.ow, E.ts⟩ (hM (xL X) G H.size) (va_cwS n E.ts (good_S hy hm) rfl rfl rfl ⟨hy.2.1.1, hy.2.1.2, hy.2.2.1⟩ ⟨by rw [E.rm]; exact hdd, by rw [E.rm]; show 8 + (nLy + 11) + 30 * dy ≤ 30 * d; omega⟩) ⟨pcw_blind, fun U hU hW => ⟨by rw [hav], E.wi hP hS hU hW⟩⟩ rfl hn (hl.1.trans hlv) hst (lv_room hcat) hd ⟨by rw [E.rm]; exact hcm.1, by rw [E.rm]; exact hcm.2⟩) hS (fun q _ h => Aw.mono hS.1 q h) (fun q h => Aw.mono hS.1 q h) (fun r M' t H1 locs1 ht hvm hw hB hz1 hk1 hS1 => ?_)
  exact kk r M' hw ls H1 locs1 hl (by rw [← ht]; exact hB) (hT.call (h22 r M' hw) hk1) hS1
theorem z_dsN (E : EF X G cc nL own rt d mc ms) {host : String} {y : MethodName} {cy : ByteArray} {nLy dy my sy : Nat} {rty : Option FieldType} {av : GT → List Value} {post : UInt64 → Mem → Prop} {As st0 : List Value} (hM : CD y cy nLy rty dy my sy av M post) (hav : av G = As) (hst : st0 = As.reverse ++ st) (hy : CalS y C cy nLy rty n) (hm : (own, idx, y, host) ∈ NWm) (hd : decode cc pc = .ok (.invokestatic idx, 3)) (hn : As.length = n) (hcat : (st.map fun v => v.category).sum ≤ 8) (hlv : lv.length = nL) (hdd : dy + 1 ≤ d) (hnl : nLy ≤ 11) (hcm : cells + my ≤ mc ∧ slots + sy ≤ ms) (h22 : ∀ (r : UInt64) (M' : Mem), post r M' → T.2 = 0 ∨ M' 22 0 0 = M 22 0 0)
    (kk : ∀ (r : UInt64) (M' : Mem), post r M' → Z X G T Q (pc + 3) lv (.double r :: st) M' (cells + my) (slots + sy)) : Z X G T Q pc lv st0 M cells slots := by
  refine fun ls H locs hl hP hT hS => ?_
  refine va_calld (va_runSN (As := As) (rest := st) ⟨E.ex, E.cb, E.ml, E.ow, E.ts⟩ (hM (xL X) G H.size) ⟨va_cnB n E.ts (good_ws hy.2.2.2.2.2) rfl rfl rfl (E.wf.2.1 _ hm) (by rw [hy.1]; exact E.ts _ hy.2.2.2.2.1) ⟨hy.2.1.1, hy.2.1.2, hy.2.2.1⟩ ⟨by rw [E.rm]; exact hdd, by rw [E.rm]; show 8 + (nLy + 11) + 30 * dy ≤ 30 * d; omega⟩, E.ts _ hy.2.2.2.1, trivial⟩ ⟨pcw_blind, fun U hU hW => ⟨by rw [hav], E.wi hP hS hU hW⟩⟩ rfl hn (hl.1.trans hlv) hst (lv_room hcat) hd ⟨by rw [E.rm]; exact hcm.1, by rw [E.rm]; exact hcm.2⟩) hS (fun q _ h => Aw.mono hS.1 q h) (fun q h => Aw.mono hS.1 q h) (fun r M' t H1 locs1 ht hvm hw hB hz1 hk1 hS1 => ?_)
  exact kk r M' hw ls H1 locs1 hl (by rw [← ht]; exact hB) (hT.call (h22 r M' hw) hk1) hS1
theorem z_iret (E : EF X G cc nL own (some .int) d mc ms) {v : Int32} {post : Int32 → Mem → Prop} (hd : decode cc pc = .ok (.ireturn, 1)) (hp : post v M) : Z X G T (QI X G post cells slots) pc lv [.int v] M cells slots := fun ls H locs hl hP hT hS =>
  W.iret E.ex E.cb E.ret (fun t ht hW => ⟨⟨v, M, rfl, hp, by show PW G M t.heap; rw [ht]; exact hP⟩, hS.F ht⟩) hS.2.2 hd E.lk
theorem z_zret (E : EF X G cc nL own (some .boolean) d mc ms) {v : Int32} {post : Int32 → Mem → Prop} (hd : decode cc pc = .ok (.ireturn, 1)) (hn : v = 0 ∨ v = 1) (hp : post v M) : Z X G T (QI X G post cells slots) pc lv [.int v] M cells slots := fun ls H locs hl hP hT hS =>
  W.zret E.ex E.cb E.ret (by rcases hn with rfl | rfl <;> rfl) (fun t ht hW => ⟨⟨v, M, rfl, hp, by show PW G M t.heap; rw [ht]; exact hP⟩, hS.F ht⟩) hS.2.2 hd E.lk
theorem z_vret (E : EF X G cc nL own none d mc ms) {post : Mem → Prop} (hd : decode cc pc = .ok (.return_, 1)) (hp : post M) : Z X G T (QV X G post cells slots) pc lv [] M cells slots := fun ls H locs hl hP hT hS =>
  W.vret E.ex E.cb E.ret (fun t ht hW => ⟨⟨M, rfl, hp, by show PW G M t.heap; rw [ht]; exact hP⟩, hS.F ht⟩) hS.2.2 hd E.lk
theorem z_lret (E : EF X G cc nL own (some .long) d mc ms) {v : Int64} {post : Int64 → Mem → Prop} (hd : decode cc pc = .ok (.lreturn, 1)) (hp : post v M) : Z X G T (QL X G post cells slots) pc lv [.long v] M cells slots := fun ls H locs hl hP hT hS =>
  W.lret E.ex E.cb E.ret (fun t ht hW => ⟨⟨v, M, rfl, hp, by show PW G M t.heap; rw [ht]; exact hP⟩, hS.F ht⟩) hS.2.2 hd E.lk
theorem z_dret (E : EF X G cc nL own (some .double) d mc ms) {v : UInt64} {post : UInt64 → Mem → Prop} (hd : decode cc pc = .ok (.dreturn, 1)) (hp : post v M) : Z X G T (QD X G post cells slots) pc lv [.double v] M cells slots := fun ls H locs hl hP hT hS =>
  W.dret E.ex E.cb E.ret (fun t ht hW => ⟨⟨v, M, rfl, hp, by show PW G M t.heap; rw [ht]; exact hP⟩, hS.F ht⟩) hS.2.2 hd E.lk
end ZF
end
section
theorem fiX3_9 : Fi RX3 9 3 RX3 TX3 1 0 := ⟨rfl, by decide, flX3_9, uwX3⟩
theorem fiX2_24 : Fi RX2 24 3 RX3 TX3 1 0 := ⟨rfl, by decide, flX2_24, uwX3⟩
theorem fiX6_147 : Fi RX6 147 3 RX3 TX3 1 0 := ⟨rfl, by decide, flX6_147, uwX3⟩
theorem fiX2_14 : Fi RX2 14 2 RX2 TX2 1 0 := ⟨rfl, by decide, flX2_14, uwX2⟩
theorem fiX6_143 : Fi RX6 143 2 RX2 TX2 1 0 := ⟨rfl, by decide, flX6_143, uwX2⟩
theorem fiX1_7 : Fi RX1 7 1 RX1 TX1 2 0 := ⟨rfl, by decide, flX1_7, uwX1⟩
theorem fiX6_53 : Fi RX6 53 1 RX1 TX1 2 0 := ⟨rfl, by decide, flX6_53, uwX1⟩
theorem fiX4_75 : Fi RX4 75 1 RX1 TX1 2 0 := ⟨rfl, by decide, flX4_75, uwX1⟩
theorem fiX1_13 : Fi RX1 13 1 RX1 TX1 2 1 := ⟨rfl, by decide, flX1_13, uwX1⟩
theorem fiX4_156 : Fi RX4 156 1 RX1 TX1 2 1 := ⟨rfl, by decide, flX4_156, uwX1⟩
theorem fiX5_9 : Fi RX5 9 5 RX5 TX5 10 0 := ⟨rfl, by decide, flX5_9, uwX5⟩
theorem fiX4_89 : Fi RX4 89 5 RX5 TX5 10 0 := ⟨rfl, by decide, flX4_89, uwX5⟩
theorem fiX6_122 : Fi RX6 122 5 RX5 TX5 10 0 := ⟨rfl, by decide, flX6_122, uwX5⟩
theorem fiX5_15 : Fi RX5 15 5 RX5 TX5 10 1 := ⟨rfl, by decide, flX5_15, uwX5⟩
theorem fiX0_23 : Fi RX0 23 5 RX5 TX5 10 1 := ⟨rfl, by decide, flX0_23, uwX5⟩
theorem fiX4_165 : Fi RX4 165 5 RX5 TX5 10 1 := ⟨rfl, by decide, flX4_165, uwX5⟩
theorem fiX5_18 : Fi RX5 18 5 RX5 TX5 10 2 := ⟨rfl, by decide, flX5_18, uwX5⟩
theorem fiX4_133 : Fi RX4 133 5 RX5 TX5 10 2 := ⟨rfl, by decide, flX4_133, uwX5⟩
theorem fiX5_21 : Fi RX5 21 5 RX5 TX5 10 3 := ⟨rfl, by decide, flX5_21, uwX5⟩
theorem fiX4_168 : Fi RX4 168 5 RX5 TX5 10 3 := ⟨rfl, by decide, flX4_168, uwX5⟩
theorem fiX5_24 : Fi RX5 24 5 RX5 TX5 10 4 := ⟨rfl, by decide, flX5_24, uwX5⟩
theorem fiX4_143 : Fi RX4 143 5 RX5 TX5 10 4 := ⟨rfl, by decide, flX4_143, uwX5⟩
theorem fiX5_27 : Fi RX5 27 5 RX5 TX5 10 5 := ⟨rfl, by decide, flX5_27, uwX5⟩
theorem fiX5_30 : Fi RX5 30 5 RX5 TX5 10 6 := ⟨rfl, by decide, flX5_30, uwX5⟩
theorem fiX4_113 : Fi RX4 113 5 RX5 TX5 10 6 := ⟨rfl, by decide, flX4_113, uwX5⟩
theorem fiX0_18 : Fi RX0 18 5 RX5 TX5 10 7 := ⟨rfl, by decide, flX0_18, uwX5⟩
theorem fiX5_33 : Fi RX5 33 5 RX5 TX5 10 7 := ⟨rfl, by decide, flX5_33, uwX5⟩
theorem fiX4_83 : Fi RX4 83 5 RX5 TX5 10 7 := ⟨rfl, by decide, flX4_83, uwX5⟩
theorem fiX6_113 : Fi RX6 113 5 RX5 TX5 10 7 := ⟨rfl, by decide, flX6_113, uwX5⟩
theorem fiX0_24 : Fi RX0 24 5 RX5 TX5 10 8 := ⟨rfl, by decide, flX0_24, uwX5⟩
theorem fiX5_36 : Fi RX5 36 5 RX5 TX5 10 8 := ⟨rfl, by decide, flX5_36, uwX5⟩
theorem fiX4_123 : Fi RX4 123 5 RX5 TX5 10 8 := ⟨rfl, by decide, flX4_123, uwX5⟩
theorem fiX5_39 : Fi RX5 39 5 RX5 TX5 10 9 := ⟨rfl, by decide, flX5_39, uwX5⟩
theorem fiX6_116 : Fi RX6 116 5 RX5 TX5 10 9 := ⟨rfl, by decide, flX6_116, uwX5⟩
theorem fiX4_177 : Fi RX4 177 5 RX5 TX5 10 9 := ⟨rfl, by decide, flX4_177, uwX5⟩
theorem fiX0_9 : Fi RX0 9 0 RX0 TX0 2 0 := ⟨rfl, by decide, flX0_9, uwX0⟩
theorem fiX6_62 : Fi RX6 62 0 RX0 TX0 2 0 := ⟨rfl, by decide, flX6_62, uwX0⟩
theorem fiX4_187 : Fi RX4 187 0 RX0 TX0 2 0 := ⟨rfl, by decide, flX4_187, uwX0⟩
theorem fiX0_15 : Fi RX0 15 0 RX0 TX0 2 1 := ⟨rfl, by decide, flX0_15, uwX0⟩
theorem fiX6_188 : Fi RX6 188 0 RX0 TX0 2 1 := ⟨rfl, by decide, flX6_188, uwX0⟩
theorem fiX4_188 : Fi RX4 188 0 RX0 TX0 2 1 := ⟨rfl, by decide, flX4_188, uwX0⟩
theorem fiX4_65 : Fi RX4 65 4 RX4 TX4 9 0 := ⟨rfl, by decide, flX4_65, uwX4⟩
theorem fiX6_105 : Fi RX6 105 4 RX4 TX4 9 0 := ⟨rfl, by decide, flX6_105, uwX4⟩
theorem fiX4_11 : Fi RX4 11 4 RX4 TX4 9 1 := ⟨rfl, by decide, flX4_11, uwX4⟩
theorem fiX6_78 : Fi RX6 78 4 RX4 TX4 9 1 := ⟨rfl, by decide, flX6_78, uwX4⟩
theorem fiX4_80 : Fi RX4 80 4 RX4 TX4 9 2 := ⟨rfl, by decide, flX4_80, uwX4⟩
theorem fiX4_43 : Fi RX4 43 4 RX4 TX4 9 3 := ⟨rfl, by decide, flX4_43, uwX4⟩
theorem fiX6_31 : Fi RX6 31 4 RX4 TX4 9 3 := ⟨rfl, by decide, flX6_31, uwX4⟩
theorem fiX4_50 : Fi RX4 50 4 RX4 TX4 9 4 := ⟨rfl, by decide, flX4_50, uwX4⟩
theorem fiX6_75 : Fi RX6 75 4 RX4 TX4 9 4 := ⟨rfl, by decide, flX6_75, uwX4⟩
theorem fiX4_17 : Fi RX4 17 4 RX4 TX4 9 5 := ⟨rfl, by decide, flX4_17, uwX4⟩
theorem fiX6_49 : Fi RX6 49 4 RX4 TX4 9 5 := ⟨rfl, by decide, flX6_49, uwX4⟩
theorem fiX4_23 : Fi RX4 23 4 RX4 TX4 9 6 := ⟨rfl, by decide, flX4_23, uwX4⟩
theorem fiX6_101 : Fi RX6 101 4 RX4 TX4 9 6 := ⟨rfl, by decide, flX6_101, uwX4⟩
theorem fiX4_29 : Fi RX4 29 4 RX4 TX4 9 7 := ⟨rfl, by decide, flX4_29, uwX4⟩
theorem fiX6_58 : Fi RX6 58 4 RX4 TX4 9 7 := ⟨rfl, by decide, flX6_58, uwX4⟩
theorem fiX4_36 : Fi RX4 36 4 RX4 TX4 9 8 := ⟨rfl, by decide, flX4_36, uwX4⟩
theorem fiX6_82 : Fi RX6 82 4 RX4 TX4 9 8 := ⟨rfl, by decide, flX6_82, uwX4⟩
theorem fiX6_10 : Fi RX6 10 6 RX6 TX6 3 0 := ⟨rfl, by decide, flX6_10, uwX6⟩
theorem fiX6_16 : Fi RX6 16 6 RX6 TX6 3 1 := ⟨rfl, by decide, flX6_16, uwX6⟩
theorem fiX6_19 : Fi RX6 19 6 RX6 TX6 3 2 := ⟨rfl, by decide, flX6_19, uwX6⟩
theorem fiX7_38 : Fi RX7 38 7 RX7 TX7 9 0 := ⟨rfl, by decide, flX7_38, uwX7⟩
theorem fiX8_77 : FiN RX8 77 7 RX7 TX7 9 0 "PawnRackModel" := ⟨rfl, by decide, by decide +kernel, uwX7⟩
theorem fiX7_15 : Fi RX7 15 7 RX7 TX7 9 1 := ⟨rfl, by decide, flX7_15, uwX7⟩
theorem fiX8_74 : FiN RX8 74 7 RX7 TX7 9 1 "PawnRackModel" := ⟨rfl, by decide, by decide +kernel, uwX7⟩
theorem fiX7_41 : Fi RX7 41 7 RX7 TX7 9 2 := ⟨rfl, by decide, flX7_41, uwX7⟩
theorem fiX8_39 : FiN RX8 39 7 RX7 TX7 9 2 "PawnRackModel" := ⟨rfl, by decide, by decide +kernel, uwX7⟩
theorem fiX7_44 : Fi RX7 44 7 RX7 TX7 9 3 := ⟨rfl, by decide, flX7_44, uwX7⟩
theorem fiX8_105 : FiN RX8 105 7 RX7 TX7 9 3 "PawnRackModel" := ⟨rfl, by decide, by decide +kernel, uwX7⟩
theorem fiX7_19 : Fi RX7 19 7 RX7 TX7 9 4 := ⟨rfl, by decide, flX7_19, uwX7⟩
theorem fiX8_46 : FiN RX8 46 7 RX7 TX7 9 4 "PawnRackModel" := ⟨rfl, by decide, by decide +kernel, uwX7⟩
theorem fiX7_23 : Fi RX7 23 7 RX7 TX7 9 5 := ⟨rfl, by decide, flX7_23, uwX7⟩
theorem fiX8_49 : FiN RX8 49 7 RX7 TX7 9 5 "PawnRackModel" := ⟨rfl, by decide, by decide +kernel, uwX7⟩
theorem fiX7_26 : Fi RX7 26 7 RX7 TX7 9 6 := ⟨rfl, by decide, flX7_26, uwX7⟩
theorem fiX8_80 : FiN RX8 80 7 RX7 TX7 9 6 "PawnRackModel" := ⟨rfl, by decide, by decide +kernel, uwX7⟩
theorem fiX7_29 : Fi RX7 29 7 RX7 TX7 9 7 := ⟨rfl, by decide, flX7_29, uwX7⟩
theorem fiX8_125 : FiN RX8 125 7 RX7 TX7 9 7 "PawnRackModel" := ⟨rfl, by decide, by decide +kernel, uwX7⟩
theorem fiX7_3 : Fi RX7 3 7 RX7 TX7 9 8 := ⟨rfl, by decide, flX7_3, uwX7⟩
theorem fiX8_28 : Fi RX8 28 8 RX8 TX8 6 0 := ⟨rfl, by decide, flX8_28, uwX8⟩
theorem fiX8_32 : Fi RX8 32 8 RX8 TX8 6 1 := ⟨rfl, by decide, flX8_32, uwX8⟩
theorem fiX8_9 : Fi RX8 9 8 RX8 TX8 6 2 := ⟨rfl, by decide, flX8_9, uwX8⟩
theorem fiX7_71 : FiN RX7 71 8 RX8 TX8 6 2 "PawnRackModel" := ⟨rfl, by decide, by decide +kernel, uwX8⟩
theorem fiX8_13 : Fi RX8 13 8 RX8 TX8 6 3 := ⟨rfl, by decide, flX8_13, uwX8⟩
theorem fiX7_74 : FiN RX7 74 8 RX8 TX8 6 3 "PawnRackModel" := ⟨rfl, by decide, by decide +kernel, uwX8⟩
theorem fiX8_21 : Fi RX8 21 8 RX8 TX8 6 4 := ⟨rfl, by decide, flX8_21, uwX8⟩
theorem fiX8_25 : Fi RX8 25 8 RX8 TX8 6 5 := ⟨rfl, by decide, flX8_25, uwX8⟩
theorem fpX0_0 : Fp TX0 2 0 := ⟨tyX0, tyX0_ok, nmX0, rfl, by decide +kernel⟩
theorem fpX0_1 : Fp TX0 2 1 := ⟨tyX0, tyX0_ok, nmX0, rfl, by decide +kernel⟩
theorem fpX1_0 : Fp TX1 2 0 := ⟨tyX1, tyX1_ok, nmX1, rfl, by decide +kernel⟩
theorem fpX1_1 : Fp TX1 2 1 := ⟨tyX1, tyX1_ok, nmX1, rfl, by decide +kernel⟩
theorem fpX4_0 : Fp TX4 9 0 := ⟨tyX4, tyX4_ok, nmX4, rfl, by decide +kernel⟩
theorem fpX4_1 : Fp TX4 9 1 := ⟨tyX4, tyX4_ok, nmX4, rfl, by decide +kernel⟩
theorem fpX4_2 : Fp TX4 9 2 := ⟨tyX4, tyX4_ok, nmX4, rfl, by decide +kernel⟩
theorem fpX4_3 : Fp TX4 9 3 := ⟨tyX4, tyX4_ok, nmX4, rfl, by decide +kernel⟩
theorem fpX4_4 : Fp TX4 9 4 := ⟨tyX4, tyX4_ok, nmX4, rfl, by decide +kernel⟩
theorem fpX5_0 : Fp TX5 10 0 := ⟨tyX5, tyX5_ok, nmX5, rfl, by decide +kernel⟩
theorem fpX5_1 : Fp TX5 10 1 := ⟨tyX5, tyX5_ok, nmX5, rfl, by decide +kernel⟩
theorem fpX5_2 : Fp TX5 10 2 := ⟨tyX5, tyX5_ok, nmX5, rfl, by decide +kernel⟩
theorem fpX5_3 : Fp TX5 10 3 := ⟨tyX5, tyX5_ok, nmX5, rfl, by decide +kernel⟩
theorem fpX5_4 : Fp TX5 10 4 := ⟨tyX5, tyX5_ok, nmX5, rfl, by decide +kernel⟩
theorem fpX5_5 : Fp TX5 10 5 := ⟨tyX5, tyX5_ok, nmX5, rfl, by decide +kernel⟩
theorem fpX5_6 : Fp TX5 10 6 := ⟨tyX5, tyX5_ok, nmX5, rfl, by decide +kernel⟩
theorem fpX5_7 : Fp TX5 10 7 := ⟨tyX5, tyX5_ok, nmX5, rfl, by decide +kernel⟩
theorem fpX5_8 : Fp TX5 10 8 := ⟨tyX5, tyX5_ok, nmX5, rfl, by decide +kernel⟩
theorem fpX5_9 : Fp TX5 10 9 := ⟨tyX5, tyX5_ok, nmX5, rfl, by decide +kernel⟩
theorem fpX7_0 : Fp TX7 9 0 := ⟨tyX7, tyX7_ok, nmX7, rfl, by decide +kernel⟩
theorem fpX7_1 : Fp TX7 9 1 := ⟨tyX7, tyX7_ok, nmX7, rfl, by decide +kernel⟩
theorem fpX7_2 : Fp TX7 9 2 := ⟨tyX7, tyX7_ok, nmX7, rfl, by decide +kernel⟩
theorem fpX7_3 : Fp TX7 9 3 := ⟨tyX7, tyX7_ok, nmX7, rfl, by decide +kernel⟩
theorem fpX8_0 : Fp TX8 6 0 := ⟨tyX8, tyX8_ok, nmX8, rfl, by decide +kernel⟩
theorem fpX8_1 : Fp TX8 6 1 := ⟨tyX8, tyX8_ok, nmX8, rfl, by decide +kernel⟩
theorem kX6_tidy : Cal yX6_tidy RX6 cX6_tidy 1 (some .int) 0 := ⟨rfl, by decide +kernel, by decide +kernel, imX6_tidy, seX6_tidy, inX6, cdX6_tidy⟩
theorem kX2_pushLeft : Cal yX2_pushLeft RX2 cX2_pushLeft 3 (some .int) 0 := ⟨rfl, by decide +kernel, by decide +kernel, imX2_pushLeft, seX2_pushLeft, inX2, cdX2_pushLeft⟩
theorem kX3_pushLeft : Cal yX3_pushLeft RX3 cX3_pushLeft 6 (some .int) 0 := ⟨rfl, by decide +kernel, by decide +kernel, imX3_pushLeft, seX3_pushLeft, inX3, cdX3_pushLeft⟩
theorem kX6_fetched : Cal yX6_fetched RX6 cX6_fetched 3 (some .double) 0 := ⟨rfl, by decide +kernel, by decide +kernel, imX6_fetched, seX6_fetched, inX6, cdX6_fetched⟩
theorem kX4_ticketsIn : Cal yX4_ticketsIn RX4 cX4_ticketsIn 4 (some .int) 1 := ⟨rfl, by decide +kernel, by decide +kernel, imX4_ticketsIn, seX4_ticketsIn, inX4, cdX4_ticketsIn⟩
theorem kX6_digest : Cal yX6_digest RX6 cX6_digest 5 (some .long) 0 := ⟨rfl, by decide +kernel, by decide +kernel, imX6_digest, seX6_digest, inX6, cdX6_digest⟩
theorem kX4_tellCount : Cal yX4_tellCount RX4 cX4_tellCount 2 (some .int) 1 := ⟨rfl, by decide +kernel, by decide +kernel, imX4_tellCount, seX4_tellCount, inX4, cdX4_tellCount⟩
theorem kX2_taken : Cal yX2_taken RX2 cX2_taken 3 (some .int) 0 := ⟨rfl, by decide +kernel, by decide +kernel, imX2_taken, seX2_taken, inX2, cdX2_taken⟩
theorem kX3_taken : Cal yX3_taken RX3 cX3_taken 3 (some .int) 0 := ⟨rfl, by decide +kernel, by decide +kernel, imX3_taken, seX3_taken, inX3, cdX3_taken⟩
theorem kX4_loansHeld : Cal yX4_loansHeld RX4 cX4_loansHeld 3 (some .int) 0 := ⟨rfl, by decide +kernel, by decide +kernel, imX4_loansHeld, seX4_loansHeld, inX4, cdX4_loansHeld⟩
theorem kX4_tellCustomer : Cal yX4_tellCustomer RX4 cX4_tellCustomer 3 (some .int) 2 := ⟨rfl, by decide +kernel, by decide +kernel, imX4_tellCustomer, seX4_tellCustomer, inX4, cdX4_tellCustomer⟩
theorem kX4_ticketsOf : Cal yX4_ticketsOf RX4 cX4_ticketsOf 5 (some .int) 2 := ⟨rfl, by decide +kernel, by decide +kernel, imX4_ticketsOf, seX4_ticketsOf, inX4, cdX4_ticketsOf⟩
theorem kX4_debtOf : Cal yX4_debtOf RX4 cX4_debtOf 4 (some .int) 1 := ⟨rfl, by decide +kernel, by decide +kernel, imX4_debtOf, seX4_debtOf, inX4, cdX4_debtOf⟩
theorem kX5_debt : Cal yX5_debt RX5 cX5_debt 2 (some .int) 1 := ⟨rfl, by decide +kernel, by decide +kernel, imX5_debt, seX5_debt, inX5, cdX5_debt⟩
theorem kX5_interest : Cal yX5_interest RX5 cX5_interest 3 (some .int) 1 := ⟨rfl, by decide +kernel, by decide +kernel, imX5_interest, seX5_interest, inX5, cdX5_interest⟩
theorem kJ9_max_7cf53 : CalS yJ9_max_7cf53 RJ9 cJ9_max_7cf53 2 (some .int) 2 := ⟨rfl, by decide +kernel, by decide +kernel, stJ9_max_7cf53, inJ9, cdJ9_max_7cf53⟩
theorem kX4_tellTicket : Cal yX4_tellTicket RX4 cX4_tellTicket 4 (some .int) 2 := ⟨rfl, by decide +kernel, by decide +kernel, imX4_tellTicket, seX4_tellTicket, inX4, cdX4_tellTicket⟩
theorem kX2_shelfOf : Cal yX2_shelfOf RX2 cX2_shelfOf 3 (some .int) 1 := ⟨rfl, by decide +kernel, by decide +kernel, imX2_shelfOf, seX2_shelfOf, inX2, cdX2_shelfOf⟩
theorem kX3_leftmostOf : Cal yX3_leftmostOf RX3 cX3_leftmostOf 3 (some .int) 1 := ⟨rfl, by decide +kernel, by decide +kernel, imX3_leftmostOf, seX3_leftmostOf, inX3, cdX3_leftmostOf⟩
theorem kX2_leftmostOf : Cal yX2_leftmostOf RX2 cX2_leftmostOf 4 (some .int) 1 := ⟨rfl, by decide +kernel, by decide +kernel, imX2_leftmostOf, seX2_leftmostOf, inX2, cdX2_leftmostOf⟩
theorem kX6_come : Cal yX6_come RX6 cX6_come 2 (some .int) 1 := ⟨rfl, by decide +kernel, by decide +kernel, imX6_come, seX6_come, inX6, cdX6_come⟩
theorem kX6_isWithin : CalS yX6_isWithin RX6 cX6_isWithin 3 (some .boolean) 3 := ⟨rfl, by decide +kernel, by decide +kernel, stX6_isWithin, inX6, cdX6_isWithin⟩
theorem kX6_checkArgument : CalS yX6_checkArgument RX6 cX6_checkArgument 1 none 1 := ⟨rfl, by decide +kernel, by decide +kernel, stX6_checkArgument, inX6, cdX6_checkArgument⟩
theorem kX6_checkState : CalS yX6_checkState RX6 cX6_checkState 1 none 1 := ⟨rfl, by decide +kernel, by decide +kernel, stX6_checkState, inX6, cdX6_checkState⟩
theorem kX4_addCustomer : Cal yX4_addCustomer RX4 cX4_addCustomer 3 (some .int) 1 := ⟨rfl, by decide +kernel, by decide +kernel, imX4_addCustomer, seX4_addCustomer, inX4, cdX4_addCustomer⟩
theorem kX1_begin : Cal yX1_begin RX1 cX1_begin 2 none 1 := ⟨rfl, by decide +kernel, by decide +kernel, imX1_begin, seX1_begin, inX1, cdX1_begin⟩
theorem kX6_earn : Cal yX6_earn RX6 cX6_earn 4 (some .int) 2 := ⟨rfl, by decide +kernel, by decide +kernel, imX6_earn, seX6_earn, inX6, cdX6_earn⟩
theorem kX4_hasCustomer : Cal yX4_hasCustomer RX4 cX4_hasCustomer 2 (some .boolean) 1 := ⟨rfl, by decide +kernel, by decide +kernel, imX4_hasCustomer, seX4_hasCustomer, inX4, cdX4_hasCustomer⟩
theorem kX6_checkIndex : CalS yX6_checkIndex RX6 cX6_checkIndex 1 none 1 := ⟨rfl, by decide +kernel, by decide +kernel, stX6_checkIndex, inX6, cdX6_checkIndex⟩
theorem kX6_setBuyer : Cal yX6_setBuyer RX6 cX6_setBuyer 6 (some .int) 3 := ⟨rfl, by decide +kernel, by decide +kernel, imX6_setBuyer, seX6_setBuyer, inX6, cdX6_setBuyer⟩
theorem kX0_want : Cal yX0_want RX0 cX0_want 3 none 2 := ⟨rfl, by decide +kernel, by decide +kernel, imX0_want, seX0_want, inX0, cdX0_want⟩
theorem kX6_customer : Cal yX6_customer RX6 cX6_customer 3 (some .int) 2 := ⟨rfl, by decide +kernel, by decide +kernel, imX6_customer, seX6_customer, inX6, cdX6_customer⟩
theorem kX6_pledge : Cal yX6_pledge RX6 cX6_pledge 5 (some .int) 4 := ⟨rfl, by decide +kernel, by decide +kernel, imX6_pledge, seX6_pledge, inX6, cdX6_pledge⟩
theorem kX1_loanFor : Cal yX1_loanFor RX1 cX1_loanFor 2 (some .int) 1 := ⟨rfl, by decide +kernel, by decide +kernel, imX1_loanFor, seX1_loanFor, inX1, cdX1_loanFor⟩
theorem kX2_spotFor : Cal yX2_spotFor RX2 cX2_spotFor 4 (some .int) 1 := ⟨rfl, by decide +kernel, by decide +kernel, imX2_spotFor, seX2_spotFor, inX2, cdX2_spotFor⟩
theorem kX3_gapFor : Cal yX3_gapFor RX3 cX3_gapFor 4 (some .int) 1 := ⟨rfl, by decide +kernel, by decide +kernel, imX3_gapFor, seX3_gapFor, inX3, cdX3_gapFor⟩
theorem kX4_addTicket : Cal yX4_addTicket RX4 cX4_addTicket 7 (some .int) 4 := ⟨rfl, by decide +kernel, by decide +kernel, imX4_addTicket, seX4_addTicket, inX4, cdX4_addTicket⟩
theorem kX5_describe : Cal yX5_describe RX5 cX5_describe 5 none 4 := ⟨rfl, by decide +kernel, by decide +kernel, imX5_describe, seX5_describe, inX5, cdX5_describe⟩
theorem kX5_lend : Cal yX5_lend RX5 cX5_lend 3 none 2 := ⟨rfl, by decide +kernel, by decide +kernel, imX5_lend, seX5_lend, inX5, cdX5_lend⟩
theorem kX2_lay : Cal yX2_lay RX2 cX2_lay 6 none 2 := ⟨rfl, by decide +kernel, by decide +kernel, imX2_lay, seX2_lay, inX2, cdX2_lay⟩
theorem kX2_hasPlace : Cal yX2_hasPlace RX2 cX2_hasPlace 3 (some .boolean) 2 := ⟨rfl, by decide +kernel, by decide +kernel, imX2_hasPlace, seX2_hasPlace, inX2, cdX2_hasPlace⟩
theorem kX3_lay : Cal yX3_lay RX3 cX3_lay 5 none 3 := ⟨rfl, by decide +kernel, by decide +kernel, imX3_lay, seX3_lay, inX3, cdX3_lay⟩
theorem kX6_ticket : Cal yX6_ticket RX6 cX6_ticket 3 (some .int) 2 := ⟨rfl, by decide +kernel, by decide +kernel, imX6_ticket, seX6_ticket, inX6, cdX6_ticket⟩
theorem kX4_hasTicket : Cal yX4_hasTicket RX4 cX4_hasTicket 2 (some .boolean) 1 := ⟨rfl, by decide +kernel, by decide +kernel, imX4_hasTicket, seX4_hasTicket, inX4, cdX4_hasTicket⟩
theorem kX6_owes : Cal yX6_owes RX6 cX6_owes 2 (some .int) 1 := ⟨rfl, by decide +kernel, by decide +kernel, imX6_owes, seX6_owes, inX6, cdX6_owes⟩
theorem kX6_renew : Cal yX6_renew RX6 cX6_renew 4 (some .int) 1 := ⟨rfl, by decide +kernel, by decide +kernel, imX6_renew, seX6_renew, inX6, cdX6_renew⟩
theorem kX4_canPay : Cal yX4_canPay RX4 cX4_canPay 3 (some .boolean) 2 := ⟨rfl, by decide +kernel, by decide +kernel, imX4_canPay, seX4_canPay, inX4, cdX4_canPay⟩
theorem kX4_takeFrom : Cal yX4_takeFrom RX4 cX4_takeFrom 4 none 3 := ⟨rfl, by decide +kernel, by decide +kernel, imX4_takeFrom, seX4_takeFrom, inX4, cdX4_takeFrom⟩
theorem kX5_extend : Cal yX5_extend RX5 cX5_extend 2 none 1 := ⟨rfl, by decide +kernel, by decide +kernel, imX5_extend, seX5_extend, inX5, cdX5_extend⟩
theorem kX6_fetch : Cal yX6_fetch RX6 cX6_fetch 4 (some .int) 1 := ⟨rfl, by decide +kernel, by decide +kernel, imX6_fetch, seX6_fetch, inX6, cdX6_fetch⟩
theorem kX4_handOut : Cal yX4_handOut RX4 cX4_handOut 2 none 1 := ⟨rfl, by decide +kernel, by decide +kernel, imX4_handOut, seX4_handOut, inX4, cdX4_handOut⟩
theorem kX2_clear : Cal yX2_clear RX2 cX2_clear 3 none 1 := ⟨rfl, by decide +kernel, by decide +kernel, imX2_clear, seX2_clear, inX2, cdX2_clear⟩
theorem kX3_clear : Cal yX3_clear RX3 cX3_clear 3 none 1 := ⟨rfl, by decide +kernel, by decide +kernel, imX3_clear, seX3_clear, inX3, cdX3_clear⟩
theorem kX4_changeTrust : Cal yX4_changeTrust RX4 cX4_changeTrust 3 none 2 := ⟨rfl, by decide +kernel, by decide +kernel, imX4_changeTrust, seX4_changeTrust, inX4, cdX4_changeTrust⟩
theorem kX1_changeTrust : Cal yX1_changeTrust RX1 cX1_changeTrust 2 none 1 := ⟨rfl, by decide +kernel, by decide +kernel, imX1_changeTrust, seX1_changeTrust, inX1, cdX1_changeTrust⟩
theorem kJ9_min_7cf53 : CalS yJ9_min_7cf53 RJ9 cJ9_min_7cf53 2 (some .int) 2 := ⟨rfl, by decide +kernel, by decide +kernel, stJ9_min_7cf53, inJ9, cdJ9_min_7cf53⟩
theorem kX6_at : Cal yX6_at RX6 cX6_at 3 (some .int) 2 := ⟨rfl, by decide +kernel, by decide +kernel, imX6_at, seX6_at, inX6, cdX6_at⟩
theorem kX6_room : Cal yX6_room RX6 cX6_room 2 (some .int) 1 := ⟨rfl, by decide +kernel, by decide +kernel, imX6_room, seX6_room, inX6, cdX6_room⟩
theorem kX6_pass : Cal yX6_pass RX6 cX6_pass 2 (some .int) 1 := ⟨rfl, by decide +kernel, by decide +kernel, imX6_pass, seX6_pass, inX6, cdX6_pass⟩
theorem kX4_goOn : Cal yX4_goOn RX4 cX4_goOn 4 (some .int) 1 := ⟨rfl, by decide +kernel, by decide +kernel, imX4_goOn, seX4_goOn, inX4, cdX4_goOn⟩
theorem kX4_ageTickets : Cal yX4_ageTickets RX4 cX4_ageTickets 3 none 0 := ⟨rfl, by decide +kernel, by decide +kernel, imX4_ageTickets, seX4_ageTickets, inX4, cdX4_ageTickets⟩
theorem kX5_cheapen : Cal yX5_cheapen RX5 cX5_cheapen 1 none 0 := ⟨rfl, by decide +kernel, by decide +kernel, imX5_cheapen, seX5_cheapen, inX5, cdX5_cheapen⟩
theorem kX5_offer : Cal yX5_offer RX5 cX5_offer 1 none 0 := ⟨rfl, by decide +kernel, by decide +kernel, imX5_offer, seX5_offer, inX5, cdX5_offer⟩
theorem kJ9_floorMod_7cf53 : CalS yJ9_floorMod_7cf53 RJ9 cJ9_floorMod_7cf53 3 (some .int) 2 := ⟨rfl, by decide +kernel, by decide +kernel, stJ9_floorMod_7cf53, inJ9, cdJ9_floorMod_7cf53⟩
theorem kX4_sellToBuyer : Cal yX4_sellToBuyer RX4 cX4_sellToBuyer 3 (some .boolean) 1 := ⟨rfl, by decide +kernel, by decide +kernel, imX4_sellToBuyer, seX4_sellToBuyer, inX4, cdX4_sellToBuyer⟩
theorem kX4_dearestFor : Cal yX4_dearestFor RX4 cX4_dearestFor 5 (some .int) 1 := ⟨rfl, by decide +kernel, by decide +kernel, imX4_dearestFor, seX4_dearestFor, inX4, cdX4_dearestFor⟩
theorem kX0_takes : Cal yX0_takes RX0 cX0_takes 2 (some .boolean) 1 := ⟨rfl, by decide +kernel, by decide +kernel, imX0_takes, seX0_takes, inX0, cdX0_takes⟩
theorem kX6_count : Cal yX6_count RX6 cX6_count 2 (some .int) 1 := ⟨rfl, by decide +kernel, by decide +kernel, imX6_count, seX6_count, inX6, cdX6_count⟩
theorem kX6_foresee : Cal yX6_foresee RX6 cX6_foresee 4 (some .int) 2 := ⟨rfl, by decide +kernel, by decide +kernel, imX6_foresee, seX6_foresee, inX6, cdX6_foresee⟩
theorem kX4_copyFrom : Cal yX4_copyFrom RX4 cX4_copyFrom 3 none 1 := ⟨rfl, by decide +kernel, by decide +kernel, imX4_copyFrom, seX4_copyFrom, inX4, cdX4_copyFrom⟩
theorem kX1_copyFrom : Cal yX1_copyFrom RX1 cX1_copyFrom 2 none 1 := ⟨rfl, by decide +kernel, by decide +kernel, imX1_copyFrom, seX1_copyFrom, inX1, cdX1_copyFrom⟩
theorem kX5_copyFrom : Cal yX5_copyFrom RX5 cX5_copyFrom 2 none 1 := ⟨rfl, by decide +kernel, by decide +kernel, imX5_copyFrom, seX5_copyFrom, inX5, cdX5_copyFrom⟩
theorem kX2_copyFrom : Cal yX2_copyFrom RX2 cX2_copyFrom 3 none 1 := ⟨rfl, by decide +kernel, by decide +kernel, imX2_copyFrom, seX2_copyFrom, inX2, cdX2_copyFrom⟩
theorem kX3_copyFrom : Cal yX3_copyFrom RX3 cX3_copyFrom 3 none 1 := ⟨rfl, by decide +kernel, by decide +kernel, imX3_copyFrom, seX3_copyFrom, inX3, cdX3_copyFrom⟩
theorem kX6_raise : Cal yX6_raise RX6 cX6_raise 5 (some .int) 1 := ⟨rfl, by decide +kernel, by decide +kernel, imX6_raise, seX6_raise, inX6, cdX6_raise⟩
theorem kX4_putPrices : Cal yX4_putPrices RX4 cX4_putPrices 4 (some .int) 1 := ⟨rfl, by decide +kernel, by decide +kernel, imX4_putPrices, seX4_putPrices, inX4, cdX4_putPrices⟩
theorem kX6_sortUp : CalS yX6_sortUp RX6 cX6_sortUp 5 none 2 := ⟨rfl, by decide +kernel, by decide +kernel, stX6_sortUp, inX6, cdX6_sortUp⟩
theorem kX6_best : Cal yX6_best RX6 cX6_best 2 (some .int) 1 := ⟨rfl, by decide +kernel, by decide +kernel, imX6_best, seX6_best, inX6, cdX6_best⟩
theorem kX4_bestFor : Cal yX4_bestFor RX4 cX4_bestFor 7 (some .int) 1 := ⟨rfl, by decide +kernel, by decide +kernel, imX4_bestFor, seX4_bestFor, inX4, cdX4_bestFor⟩
theorem kX4_isHeldBy : Cal yX4_isHeldBy RX4 cX4_isHeldBy 3 (some .boolean) 2 := ⟨rfl, by decide +kernel, by decide +kernel, imX4_isHeldBy, seX4_isHeldBy, inX4, cdX4_isHeldBy⟩
theorem kX6_most : Cal yX6_most RX6 cX6_most 5 (some .int) 1 := ⟨rfl, by decide +kernel, by decide +kernel, imX6_most, seX6_most, inX6, cdX6_most⟩
theorem kX4_putDebts : Cal yX4_putDebts RX4 cX4_putDebts 5 (some .int) 2 := ⟨rfl, by decide +kernel, by decide +kernel, imX4_putDebts, seX4_putDebts, inX4, cdX4_putDebts⟩
theorem kX8_thrown : Cal yX8_thrown RX8 cX8_thrown 1 (some .int) 0 := ⟨rfl, by decide +kernel, by decide +kernel, imX8_thrown, seX8_thrown, inX8, cdX8_thrown⟩
theorem kX8_come : Cal yX8_come RX8 cX8_come 2 (some .int) 1 := ⟨rfl, by decide +kernel, by decide +kernel, imX8_come, seX8_come, inX8, cdX8_come⟩
theorem kX8_isIn : CalS yX8_isIn RX8 cX8_isIn 3 (some .boolean) 3 := ⟨rfl, by decide +kernel, by decide +kernel, stX8_isIn, inX8, cdX8_isIn⟩
theorem kX8_no : Cal yX8_no RX8 cX8_no 2 (some .int) 1 := ⟨rfl, by decide +kernel, by decide +kernel, imX8_no, seX8_no, inX8, cdX8_no⟩
theorem kX8_earn : Cal yX8_earn RX8 cX8_earn 3 (some .int) 2 := ⟨rfl, by decide +kernel, by decide +kernel, imX8_earn, seX8_earn, inX8, cdX8_earn⟩
theorem kX8_isCustomer : Cal yX8_isCustomer RX8 cX8_isCustomer 2 (some .boolean) 1 := ⟨rfl, by decide +kernel, by decide +kernel, imX8_isCustomer, seX8_isCustomer, inX8, cdX8_isCustomer⟩
theorem kX8_setBuyer : Cal yX8_setBuyer RX8 cX8_setBuyer 5 (some .int) 3 := ⟨rfl, by decide +kernel, by decide +kernel, imX8_setBuyer, seX8_setBuyer, inX8, cdX8_setBuyer⟩
theorem kX8_customer : Cal yX8_customer RX8 cX8_customer 3 (some .int) 2 := ⟨rfl, by decide +kernel, by decide +kernel, imX8_customer, seX8_customer, inX8, cdX8_customer⟩
theorem kX8_customerTold : Cal yX8_customerTold RX8 cX8_customerTold 5 (some .int) 2 := ⟨rfl, by decide +kernel, by decide +kernel, imX8_customerTold, seX8_customerTold, inX8, cdX8_customerTold⟩
theorem kX7_get : Cal yX7_get RX7 cX7_get 3 (some .int) 2 := ⟨rfl, by decide +kernel, by decide +kernel, imX7_get, seX7_get, inX7, cdX7_get⟩
theorem kX7_owed : Cal yX7_owed RX7 cX7_owed 2 (some .int) 1 := ⟨rfl, by decide +kernel, by decide +kernel, imX7_owed, seX7_owed, inX7, cdX7_owed⟩
theorem kX7_interestOf : Cal yX7_interestOf RX7 cX7_interestOf 2 (some .int) 1 := ⟨rfl, by decide +kernel, by decide +kernel, imX7_interestOf, seX7_interestOf, inX7, cdX7_interestOf⟩
theorem kX8_pledge : Cal yX8_pledge RX8 cX8_pledge 8 (some .int) 4 := ⟨rfl, by decide +kernel, by decide +kernel, imX8_pledge, seX8_pledge, inX8, cdX8_pledge⟩
theorem kX7_gap : Cal yX7_gap RX7 cX7_gap 5 (some .int) 1 := ⟨rfl, by decide +kernel, by decide +kernel, imX7_gap, seX7_gap, inX7, cdX7_gap⟩
theorem kX7_lay : Cal yX7_lay RX7 cX7_lay 4 none 2 := ⟨rfl, by decide +kernel, by decide +kernel, imX7_lay, seX7_lay, inX7, cdX7_lay⟩
theorem kX7_set : Cal yX7_set RX7 cX7_set 4 none 3 := ⟨rfl, by decide +kernel, by decide +kernel, imX7_set, seX7_set, inX7, cdX7_set⟩
theorem kX8_ticket : Cal yX8_ticket RX8 cX8_ticket 3 (some .int) 2 := ⟨rfl, by decide +kernel, by decide +kernel, imX8_ticket, seX8_ticket, inX8, cdX8_ticket⟩
theorem kX8_isTicket : Cal yX8_isTicket RX8 cX8_isTicket 2 (some .boolean) 1 := ⟨rfl, by decide +kernel, by decide +kernel, imX8_isTicket, seX8_isTicket, inX8, cdX8_isTicket⟩
theorem kX8_ticketTold : Cal yX8_ticketTold RX8 cX8_ticketTold 4 (some .int) 2 := ⟨rfl, by decide +kernel, by decide +kernel, imX8_ticketTold, seX8_ticketTold, inX8, cdX8_ticketTold⟩
theorem kX8_shelfOf : CalS yX8_shelfOf RX8 cX8_shelfOf 1 (some .int) 1 := ⟨rfl, by decide +kernel, by decide +kernel, stX8_shelfOf, inX8, cdX8_shelfOf⟩
theorem kX8_owes : Cal yX8_owes RX8 cX8_owes 2 (some .int) 1 := ⟨rfl, by decide +kernel, by decide +kernel, imX8_owes, seX8_owes, inX8, cdX8_owes⟩
theorem kX8_renew : Cal yX8_renew RX8 cX8_renew 4 (some .int) 1 := ⟨rfl, by decide +kernel, by decide +kernel, imX8_renew, seX8_renew, inX8, cdX8_renew⟩
theorem kX8_pay : Cal yX8_pay RX8 cX8_pay 4 none 3 := ⟨rfl, by decide +kernel, by decide +kernel, imX8_pay, seX8_pay, inX8, cdX8_pay⟩
theorem kX8_fetch : Cal yX8_fetch RX8 cX8_fetch 4 (some .int) 1 := ⟨rfl, by decide +kernel, by decide +kernel, imX8_fetch, seX8_fetch, inX8, cdX8_fetch⟩
theorem kX7_take : Cal yX7_take RX7 cX7_take 3 none 1 := ⟨rfl, by decide +kernel, by decide +kernel, imX7_take, seX7_take, inX7, cdX7_take⟩
theorem kX8_at : Cal yX8_at RX8 cX8_at 3 (some .int) 2 := ⟨rfl, by decide +kernel, by decide +kernel, imX8_at, seX8_at, inX8, cdX8_at⟩
theorem kX8_room : Cal yX8_room RX8 cX8_room 3 (some .int) 1 := ⟨rfl, by decide +kernel, by decide +kernel, imX8_room, seX8_room, inX8, cdX8_room⟩
theorem kX8_tidy : Cal yX8_tidy RX8 cX8_tidy 6 (some .int) 0 := ⟨rfl, by decide +kernel, by decide +kernel, imX8_tidy, seX8_tidy, inX8, cdX8_tidy⟩
theorem kX8_pass : Cal yX8_pass RX8 cX8_pass 4 (some .int) 1 := ⟨rfl, by decide +kernel, by decide +kernel, imX8_pass, seX8_pass, inX8, cdX8_pass⟩
theorem kX7_pass : Cal yX7_pass RX7 cX7_pass 3 (some .int) 0 := ⟨rfl, by decide +kernel, by decide +kernel, imX7_pass, seX7_pass, inX7, cdX7_pass⟩
theorem kX7_isBought : Cal yX7_isBought RX7 cX7_isBought 4 (some .boolean) 0 := ⟨rfl, by decide +kernel, by decide +kernel, imX7_isBought, seX7_isBought, inX7, cdX7_isBought⟩
theorem kX8_count : Cal yX8_count RX8 cX8_count 2 (some .int) 1 := ⟨rfl, by decide +kernel, by decide +kernel, imX8_count, seX8_count, inX8, cdX8_count⟩
theorem kX8_counted : Cal yX8_counted RX8 cX8_counted 5 (some .int) 1 := ⟨rfl, by decide +kernel, by decide +kernel, imX8_counted, seX8_counted, inX8, cdX8_counted⟩
theorem kX7_how : Cal yX7_how RX7 cX7_how 4 (some .int) 1 := ⟨rfl, by decide +kernel, by decide +kernel, imX7_how, seX7_how, inX7, cdX7_how⟩
theorem kX8_foresee : Cal yX8_foresee RX8 cX8_foresee 5 (some .int) 2 := ⟨rfl, by decide +kernel, by decide +kernel, imX8_foresee, seX8_foresee, inX8, cdX8_foresee⟩
theorem kX7_become : Cal yX7_become RX7 cX7_become 2 none 1 := ⟨rfl, by decide +kernel, by decide +kernel, imX7_become, seX7_become, inX7, cdX7_become⟩
theorem kX7_copy : Cal yX7_copy RX7 cX7_copy 3 none 2 := ⟨rfl, by decide +kernel, by decide +kernel, imX7_copy, seX7_copy, inX7, cdX7_copy⟩
theorem kX8_raise : Cal yX8_raise RX8 cX8_raise 7 (some .int) 1 := ⟨rfl, by decide +kernel, by decide +kernel, imX8_raise, seX8_raise, inX8, cdX8_raise⟩
theorem kX8_best : Cal yX8_best RX8 cX8_best 6 (some .int) 1 := ⟨rfl, by decide +kernel, by decide +kernel, imX8_best, seX8_best, inX8, cdX8_best⟩
theorem kX8_most : Cal yX8_most RX8 cX8_most 8 (some .int) 1 := ⟨rfl, by decide +kernel, by decide +kernel, imX8_most, seX8_most, inX8, cdX8_most⟩
theorem kX8_fetched : Cal yX8_fetched RX8 cX8_fetched 2 (some .double) 0 := ⟨rfl, by decide +kernel, by decide +kernel, imX8_fetched, seX8_fetched, inX8, cdX8_fetched⟩
theorem kX8_digest : Cal yX8_digest RX8 cX8_digest 5 (some .long) 0 := ⟨rfl, by decide +kernel, by decide +kernel, imX8_digest, seX8_digest, inX8, cdX8_digest⟩
end
section
theorem ok5 : okc 5 0 0 := ⟨by decide, by decide, by decide⟩
theorem ok11 : okc 11 0 0 := ⟨by decide, by decide, by decide⟩
theorem ok12 : okc 12 0 0 := ⟨by decide, by decide, by decide⟩
theorem ok13 : okc 13 0 0 := ⟨by decide, by decide, by decide⟩
theorem ok14 : okc 14 0 0 := ⟨by decide, by decide, by decide⟩
theorem ok21 : okc 21 0 0 := ⟨by decide, by decide, by decide⟩
theorem ok1 {s i : Nat} (hs : s < 2) (hi : i < 10) : okc 1 s i := ⟨by decide, hs, hi⟩
theorem ok2 {s i : Nat} (hs : s < 2) (hi : i < 40) : okc 2 s i := ⟨by decide, hs, hi⟩
theorem ok3 {s i : Nat} (hs : s < 2) (hi : i < 7) : okc 3 s i := ⟨by decide, hs, hi⟩
theorem ok4 {s i : Nat} (hs : s < 2) (hi : i < 3) : okc 4 s i := ⟨by decide, hs, hi⟩
theorem ok16 {s i : Nat} (hs : s < 2) (hi : i < 3) : okc 16 s i := ⟨by decide, hs, hi⟩
theorem ok0 {s : Nat} (hs : s < 2) : okc 0 s 0 := ⟨by decide, hs, Nat.zero_lt_one⟩
theorem ok6 {s : Nat} (hs : s < 2) : okc 6 s 0 := ⟨by decide, hs, Nat.zero_lt_one⟩
theorem ok7 {s : Nat} (hs : s < 2) : okc 7 s 0 := ⟨by decide, hs, Nat.zero_lt_one⟩
theorem ok8 {s : Nat} (hs : s < 2) : okc 8 s 0 := ⟨by decide, hs, Nat.zero_lt_one⟩
theorem ok9 {s : Nat} (hs : s < 2) : okc 9 s 0 := ⟨by decide, hs, Nat.zero_lt_one⟩
theorem ok10 {s : Nat} (hs : s < 2) : okc 10 s 0 := ⟨by decide, hs, Nat.zero_lt_one⟩
theorem ok15 {s : Nat} (hs : s < 2) : okc 15 s 0 := ⟨by decide, hs, Nat.zero_lt_one⟩
theorem ok17 {s : Nat} (hs : s < 2) : okc 17 s 0 := ⟨by decide, hs, Nat.zero_lt_one⟩
theorem ok18 {s : Nat} (hs : s < 2) : okc 18 s 0 := ⟨by decide, hs, Nat.zero_lt_one⟩
theorem ok19 {s : Nat} (hs : s < 2) : okc 19 s 0 := ⟨by decide, hs, Nat.zero_lt_one⟩
theorem ok20 {s : Nat} (hs : s < 2) : okc 20 s 0 := ⟨by decide, hs, Nat.zero_lt_one⟩
section ZP
variable {X : PX} {G : GT} {T : Nat × Nat} {cc : ByteArray} {nL : Nat} {own : String} {rt : Option FieldType} {d mc ms : Nat} {Q : State → Prop} {pc : Nat} {lv r : List (Option Value)} {st : List Value} {M : Mem} {cells slots : Nat}
variable {idx ci kf N k s i n j t0 : Nat} {C : String} {Tf : u_T} {fs : List Value}
variable {y : MethodName} {cy : ByteArray} {nLy dy : Nat} {rty : Option FieldType} {av : GT → List Value} {As st0 : List Value}
theorem z_ivp (E : EF X G cc nL own rt d mc ms) {v : Int32} (hM : CI y cy nLy rty dy 0 0 av M (fun r M' => r = v ∧ M' = M)) (hav : av G = .ref (ad G k s i) :: As) (hst : st0 = As.reverse ++ .ref (ad G k s i) :: st) (hy : Cal y C cy nLy rty n) (hm : Cond.methodLink own idx y ∈ GW) (hd : decode cc pc = .ok (.invokevirtual idx, 3)) (ho : okc k s i) (hc : conV G k s i (M k s i) = .inr (ci, fs)) (hcl : vwCl[ci]? = some (C, Tf, N)) (hn : As.length = n) (hcat : (st.map fun v => v.category).sum ≤ 8) (hlv : lv.length = nL) (hdd : dy + 1 ≤ d) (hnl : nLy ≤ 11) (hcm : cells ≤ mc ∧ slots ≤ ms) (kk : Z X G T Q (pc + 3) lv (.int v :: st) M cells slots) : Z X G T Q pc lv st0 M cells slots :=
  z_iv E hM hav hst hy hm hd ho hc hcl hn hcat hlv hdd hnl hcm (fun r M' h => Or.inr (by rw [h.2])) (fun r M' h => by obtain ⟨h1, h2⟩ := h; subst h1; subst h2; exact kk)
theorem z_ivf {M1 : Mem} (E : EF X G cc nL own rt d mc ms) {v : Int32} (hM : CI y cy nLy rty dy 0 0 av M (fun r M' => r = v ∧ M' = M1)) (hav : av G = .ref (ad G k s i) :: As) (hst : st0 = As.reverse ++ .ref (ad G k s i) :: st) (hy : Cal y C cy nLy rty n) (hm : Cond.methodLink own idx y ∈ GW) (hd : decode cc pc = .ok (.invokevirtual idx, 3)) (ho : okc k s i) (hc : conV G k s i (M k s i) = .inr (ci, fs)) (hcl : vwCl[ci]? = some (C, Tf, N)) (hn : As.length = n) (hcat : (st.map fun v => v.category).sum ≤ 8) (hlv : lv.length = nL) (hdd : dy + 1 ≤ d) (hnl : nLy ≤ 11) (hcm : cells ≤ mc ∧ slots ≤ ms) (kk : Z X G (0, 0) Q (pc + 3) lv (.int v :: st) M1 cells slots) : Z X G (0, 0) Q pc lv st0 M cells slots :=
  z_iv E hM hav hst hy hm hd ho hc hcl hn hcat hlv hdd hnl hcm (fun r M' h => Or.inl rfl) (fun r M' h => by obtain ⟨h1, h2⟩ := h; subst h1; subst h2; exact kk)
theorem z_isp (E : EF X G cc nL own rt d mc ms) {v : Int32} (hM : CI y cy nLy rty dy 0 0 av M (fun r M' => r = v ∧ M' = M)) (hav : av G = As) (hst : st0 = As.reverse ++ st) (hy : CalS y C cy nLy rty n) (hm : Cond.methodLink own idx y ∈ GW) (hd : decode cc pc = .ok (.invokestatic idx, 3)) (hn : As.length = n) (hcat : (st.map fun v => v.category).sum ≤ 8) (hlv : lv.length = nL) (hdd : dy + 1 ≤ d) (hnl : nLy ≤ 11) (hcm : cells ≤ mc ∧ slots ≤ ms) (kk : Z X G T Q (pc + 3) lv (.int v :: st) M cells slots) : Z X G T Q pc lv st0 M cells slots :=
  z_is E hM hav hst hy hm hd hn hcat hlv hdd hnl hcm (fun r M' h => Or.inr (by rw [h.2])) (fun r M' h => by obtain ⟨h1, h2⟩ := h; subst h1; subst h2; exact kk)
theorem z_isf {M1 : Mem} (E : EF X G cc nL own rt d mc ms) {v : Int32} (hM : CI y cy nLy rty dy 0 0 av M (fun r M' => r = v ∧ M' = M1)) (hav : av G = As) (hst : st0 = As.reverse ++ st) (hy : CalS y C cy nLy rty n) (hm : Cond.methodLink own idx y ∈ GW) (hd : decode cc pc = .ok (.invokestatic idx, 3)) (hn : As.length = n) (hcat : (st.map fun v => v.category).sum ≤ 8) (hlv : lv.length = nL) (hdd : dy + 1 ≤ d) (hnl : nLy ≤ 11) (hcm : cells ≤ mc ∧ slots ≤ ms) (kk : Z X G (0, 0) Q (pc + 3) lv (.int v :: st) M1 cells slots) : Z X G (0, 0) Q pc lv st0 M cells slots :=
  z_is E hM hav hst hy hm hd hn hcat hlv hdd hnl hcm (fun r M' h => Or.inl rfl) (fun r M' h => by obtain ⟨h1, h2⟩ := h; subst h1; subst h2; exact kk)
theorem z_isNp (E : EF X G cc nL own rt d mc ms) {v : Int32} (hM : CI y cy nLy rty dy 0 0 av M (fun r M' => r = v ∧ M' = M)) {host : String} (hav : av G = As) (hst : st0 = As.reverse ++ st) (hy : CalS y C cy nLy rty n) (hm : (own, idx, y, host) ∈ NWm) (hd : decode cc pc = .ok (.invokestatic idx, 3)) (hn : As.length = n) (hcat : (st.map fun v => v.category).sum ≤ 8) (hlv : lv.length = nL) (hdd : dy + 1 ≤ d) (hnl : nLy ≤ 11) (hcm : cells ≤ mc ∧ slots ≤ ms) (kk : Z X G T Q (pc + 3) lv (.int v :: st) M cells slots) : Z X G T Q pc lv st0 M cells slots :=
  z_isN E hM hav hst hy hm hd hn hcat hlv hdd hnl hcm (fun r M' h => Or.inr (by rw [h.2])) (fun r M' h => by obtain ⟨h1, h2⟩ := h; subst h1; subst h2; exact kk)
theorem z_isNf {M1 : Mem} (E : EF X G cc nL own rt d mc ms) {v : Int32} (hM : CI y cy nLy rty dy 0 0 av M (fun r M' => r = v ∧ M' = M1)) {host : String} (hav : av G = As) (hst : st0 = As.reverse ++ st) (hy : CalS y C cy nLy rty n) (hm : (own, idx, y, host) ∈ NWm) (hd : decode cc pc = .ok (.invokestatic idx, 3)) (hn : As.length = n) (hcat : (st.map fun v => v.category).sum ≤ 8) (hlv : lv.length = nL) (hdd : dy + 1 ≤ d) (hnl : nLy ≤ 11) (hcm : cells ≤ mc ∧ slots ≤ ms) (kk : Z X G (0, 0) Q (pc + 3) lv (.int v :: st) M1 cells slots) : Z X G (0, 0) Q pc lv st0 M cells slots :=
  z_isN E hM hav hst hy hm hd hn hcat hlv hdd hnl hcm (fun r M' h => Or.inl rfl) (fun r M' h => by obtain ⟨h1, h2⟩ := h; subst h1; subst h2; exact kk)
theorem z_lvp (E : EF X G cc nL own rt d mc ms) {v : Int64} (hM : CL y cy nLy rty dy 0 0 av M (fun r M' => r = v ∧ M' = M)) (hav : av G = .ref (ad G k s i) :: As) (hst : st0 = As.reverse ++ .ref (ad G k s i) :: st) (hy : Cal y C cy nLy rty n) (hm : Cond.methodLink own idx y ∈ GW) (hd : decode cc pc = .ok (.invokevirtual idx, 3)) (ho : okc k s i) (hc : conV G k s i (M k s i) = .inr (ci, fs)) (hcl : vwCl[ci]? = some (C, Tf, N)) (hn : As.length = n) (hcat : (st.map fun v => v.category).sum ≤ 8) (hlv : lv.length = nL) (hdd : dy + 1 ≤ d) (hnl : nLy ≤ 11) (hcm : cells ≤ mc ∧ slots ≤ ms) (kk : Z X G T Q (pc + 3) lv (.long v :: st) M cells slots) : Z X G T Q pc lv st0 M cells slots :=
  z_lv E hM hav hst hy hm hd ho hc hcl hn hcat hlv hdd hnl hcm (fun r M' h => Or.inr (by rw [h.2])) (fun r M' h => by obtain ⟨h1, h2⟩ := h; subst h1; subst h2; exact kk)
theorem z_lvf {M1 : Mem} (E : EF X G cc nL own rt d mc ms) {v : Int64} (hM : CL y cy nLy rty dy 0 0 av M (fun r M' => r = v ∧ M' = M1)) (hav : av G = .ref (ad G k s i) :: As) (hst : st0 = As.reverse ++ .ref (ad G k s i) :: st) (hy : Cal y C cy nLy rty n) (hm : Cond.methodLink own idx y ∈ GW) (hd : decode cc pc = .ok (.invokevirtual idx, 3)) (ho : okc k s i) (hc : conV G k s i (M k s i) = .inr (ci, fs)) (hcl : vwCl[ci]? = some (C, Tf, N)) (hn : As.length = n) (hcat : (st.map fun v => v.category).sum ≤ 8) (hlv : lv.length = nL) (hdd : dy + 1 ≤ d) (hnl : nLy ≤ 11) (hcm : cells ≤ mc ∧ slots ≤ ms) (kk : Z X G (0, 0) Q (pc + 3) lv (.long v :: st) M1 cells slots) : Z X G (0, 0) Q pc lv st0 M cells slots :=
  z_lv E hM hav hst hy hm hd ho hc hcl hn hcat hlv hdd hnl hcm (fun r M' h => Or.inl rfl) (fun r M' h => by obtain ⟨h1, h2⟩ := h; subst h1; subst h2; exact kk)
theorem z_lsp (E : EF X G cc nL own rt d mc ms) {v : Int64} (hM : CL y cy nLy rty dy 0 0 av M (fun r M' => r = v ∧ M' = M)) (hav : av G = As) (hst : st0 = As.reverse ++ st) (hy : CalS y C cy nLy rty n) (hm : Cond.methodLink own idx y ∈ GW) (hd : decode cc pc = .ok (.invokestatic idx, 3)) (hn : As.length = n) (hcat : (st.map fun v => v.category).sum ≤ 8) (hlv : lv.length = nL) (hdd : dy + 1 ≤ d) (hnl : nLy ≤ 11) (hcm : cells ≤ mc ∧ slots ≤ ms) (kk : Z X G T Q (pc + 3) lv (.long v :: st) M cells slots) : Z X G T Q pc lv st0 M cells slots :=
  z_ls E hM hav hst hy hm hd hn hcat hlv hdd hnl hcm (fun r M' h => Or.inr (by rw [h.2])) (fun r M' h => by obtain ⟨h1, h2⟩ := h; subst h1; subst h2; exact kk)
theorem z_lsf {M1 : Mem} (E : EF X G cc nL own rt d mc ms) {v : Int64} (hM : CL y cy nLy rty dy 0 0 av M (fun r M' => r = v ∧ M' = M1)) (hav : av G = As) (hst : st0 = As.reverse ++ st) (hy : CalS y C cy nLy rty n) (hm : Cond.methodLink own idx y ∈ GW) (hd : decode cc pc = .ok (.invokestatic idx, 3)) (hn : As.length = n) (hcat : (st.map fun v => v.category).sum ≤ 8) (hlv : lv.length = nL) (hdd : dy + 1 ≤ d) (hnl : nLy ≤ 11) (hcm : cells ≤ mc ∧ slots ≤ ms) (kk : Z X G (0, 0) Q (pc + 3) lv (.long v :: st) M1 cells slots) : Z X G (0, 0) Q pc lv st0 M cells slots :=
  z_ls E hM hav hst hy hm hd hn hcat hlv hdd hnl hcm (fun r M' h => Or.inl rfl) (fun r M' h => by obtain ⟨h1, h2⟩ := h; subst h1; subst h2; exact kk)
theorem z_lsNp (E : EF X G cc nL own rt d mc ms) {v : Int64} (hM : CL y cy nLy rty dy 0 0 av M (fun r M' => r = v ∧ M' = M)) {host : String} (hav : av G = As) (hst : st0 = As.reverse ++ st) (hy : CalS y C cy nLy rty n) (hm : (own, idx, y, host) ∈ NWm) (hd : decode cc pc = .ok (.invokestatic idx, 3)) (hn : As.length = n) (hcat : (st.map fun v => v.category).sum ≤ 8) (hlv : lv.length = nL) (hdd : dy + 1 ≤ d) (hnl : nLy ≤ 11) (hcm : cells ≤ mc ∧ slots ≤ ms) (kk : Z X G T Q (pc + 3) lv (.long v :: st) M cells slots) : Z X G T Q pc lv st0 M cells slots :=
  z_lsN E hM hav hst hy hm hd hn hcat hlv hdd hnl hcm (fun r M' h => Or.inr (by rw [h.2])) (fun r M' h => by obtain ⟨h1, h2⟩ := h; subst h1; subst h2; exact kk)
theorem z_lsNf {M1 : Mem} (E : EF X G cc nL own rt d mc ms) {v : Int64} (hM : CL y cy nLy rty dy 0 0 av M (fun r M' => r = v ∧ M' = M1)) {host : String} (hav : av G = As) (hst : st0 = As.reverse ++ st) (hy : CalS y C cy nLy rty n) (hm : (own, idx, y, host) ∈ NWm) (hd : decode cc pc = .ok (.invokestatic idx, 3)) (hn : As.length = n) (hcat : (st.map fun v => v.category).sum ≤ 8) (hlv : lv.length = nL) (hdd : dy + 1 ≤ d) (hnl : nLy ≤ 11) (hcm : cells ≤ mc ∧ slots ≤ ms) (kk : Z X G (0, 0) Q (pc + 3) lv (.long v :: st) M1 cells slots) : Z X G (0, 0) Q pc lv st0 M cells slots :=
  z_lsN E hM hav hst hy hm hd hn hcat hlv hdd hnl hcm (fun r M' h => Or.inl rfl) (fun r M' h => by obtain ⟨h1, h2⟩ := h; subst h1; subst h2; exact kk)
theorem z_dvp (E : EF X G cc nL own rt d mc ms) {v : UInt64} (hM : CD y cy nLy rty dy 0 0 av M (fun r M' => r = v ∧ M' = M)) (hav : av G = .ref (ad G k s i) :: As) (hst : st0 = As.reverse ++ .ref (ad G k s i) :: st) (hy : Cal y C cy nLy rty n) (hm : Cond.methodLink own idx y ∈ GW) (hd : decode cc pc = .ok (.invokevirtual idx, 3)) (ho : okc k s i) (hc : conV G k s i (M k s i) = .inr (ci, fs)) (hcl : vwCl[ci]? = some (C, Tf, N)) (hn : As.length = n) (hcat : (st.map fun v => v.category).sum ≤ 8) (hlv : lv.length = nL) (hdd : dy + 1 ≤ d) (hnl : nLy ≤ 11) (hcm : cells ≤ mc ∧ slots ≤ ms) (kk : Z X G T Q (pc + 3) lv (.double v :: st) M cells slots) : Z X G T Q pc lv st0 M cells slots :=
  z_dv E hM hav hst hy hm hd ho hc hcl hn hcat hlv hdd hnl hcm (fun r M' h => Or.inr (by rw [h.2])) (fun r M' h => by obtain ⟨h1, h2⟩ := h; subst h1; subst h2; exact kk)
theorem z_dvf {M1 : Mem} (E : EF X G cc nL own rt d mc ms) {v : UInt64} (hM : CD y cy nLy rty dy 0 0 av M (fun r M' => r = v ∧ M' = M1)) (hav : av G = .ref (ad G k s i) :: As) (hst : st0 = As.reverse ++ .ref (ad G k s i) :: st) (hy : Cal y C cy nLy rty n) (hm : Cond.methodLink own idx y ∈ GW) (hd : decode cc pc = .ok (.invokevirtual idx, 3)) (ho : okc k s i) (hc : conV G k s i (M k s i) = .inr (ci, fs)) (hcl : vwCl[ci]? = some (C, Tf, N)) (hn : As.length = n) (hcat : (st.map fun v => v.category).sum ≤ 8) (hlv : lv.length = nL) (hdd : dy + 1 ≤ d) (hnl : nLy ≤ 11) (hcm : cells ≤ mc ∧ slots ≤ ms) (kk : Z X G (0, 0) Q (pc + 3) lv (.double v :: st) M1 cells slots) : Z X G (0, 0) Q pc lv st0 M cells slots :=
  z_dv E hM hav hst hy hm hd ho hc hcl hn hcat hlv hdd hnl hcm (fun r M' h => Or.inl rfl) (fun r M' h => by obtain ⟨h1, h2⟩ := h; subst h1; subst h2; exact kk)
theorem z_dsp (E : EF X G cc nL own rt d mc ms) {v : UInt64} (hM : CD y cy nLy rty dy 0 0 av M (fun r M' => r = v ∧ M' = M)) (hav : av G = As) (hst : st0 = As.reverse ++ st) (hy : CalS y C cy nLy rty n) (hm : Cond.methodLink own idx y ∈ GW) (hd : decode cc pc = .ok (.invokestatic idx, 3)) (hn : As.length = n) (hcat : (st.map fun v => v.category).sum ≤ 8) (hlv : lv.length = nL) (hdd : dy + 1 ≤ d) (hnl : nLy ≤ 11) (hcm : cells ≤ mc ∧ slots ≤ ms) (kk : Z X G T Q (pc + 3) lv (.double v :: st) M cells slots) : Z X G T Q pc lv st0 M cells slots :=
  z_ds E hM hav hst hy hm hd hn hcat hlv hdd hnl hcm (fun r M' h => Or.inr (by rw [h.2])) (fun r M' h => by obtain ⟨h1, h2⟩ := h; subst h1; subst h2; exact kk)
theorem z_dsf {M1 : Mem} (E : EF X G cc nL own rt d mc ms) {v : UInt64} (hM : CD y cy nLy rty dy 0 0 av M (fun r M' => r = v ∧ M' = M1)) (hav : av G = As) (hst : st0 = As.reverse ++ st) (hy : CalS y C cy nLy rty n) (hm : Cond.methodLink own idx y ∈ GW) (hd : decode cc pc = .ok (.invokestatic idx, 3)) (hn : As.length = n) (hcat : (st.map fun v => v.category).sum ≤ 8) (hlv : lv.length = nL) (hdd : dy + 1 ≤ d) (hnl : nLy ≤ 11) (hcm : cells ≤ mc ∧ slots ≤ ms) (kk : Z X G (0, 0) Q (pc + 3) lv (.double v :: st) M1 cells slots) : Z X G (0, 0) Q pc lv st0 M cells slots :=
  z_ds E hM hav hst hy hm hd hn hcat hlv hdd hnl hcm (fun r M' h => Or.inl rfl) (fun r M' h => by obtain ⟨h1, h2⟩ := h; subst h1; subst h2; exact kk)
theorem z_dsNp (E : EF X G cc nL own rt d mc ms) {v : UInt64} (hM : CD y cy nLy rty dy 0 0 av M (fun r M' => r = v ∧ M' = M)) {host : String} (hav : av G = As) (hst : st0 = As.reverse ++ st) (hy : CalS y C cy nLy rty n) (hm : (own, idx, y, host) ∈ NWm) (hd : decode cc pc = .ok (.invokestatic idx, 3)) (hn : As.length = n) (hcat : (st.map fun v => v.category).sum ≤ 8) (hlv : lv.length = nL) (hdd : dy + 1 ≤ d) (hnl : nLy ≤ 11) (hcm : cells ≤ mc ∧ slots ≤ ms) (kk : Z X G T Q (pc + 3) lv (.double v :: st) M cells slots) : Z X G T Q pc lv st0 M cells slots :=
  z_dsN E hM hav hst hy hm hd hn hcat hlv hdd hnl hcm (fun r M' h => Or.inr (by rw [h.2])) (fun r M' h => by obtain ⟨h1, h2⟩ := h; subst h1; subst h2; exact kk)
theorem z_dsNf {M1 : Mem} (E : EF X G cc nL own rt d mc ms) {v : UInt64} (hM : CD y cy nLy rty dy 0 0 av M (fun r M' => r = v ∧ M' = M1)) {host : String} (hav : av G = As) (hst : st0 = As.reverse ++ st) (hy : CalS y C cy nLy rty n) (hm : (own, idx, y, host) ∈ NWm) (hd : decode cc pc = .ok (.invokestatic idx, 3)) (hn : As.length = n) (hcat : (st.map fun v => v.category).sum ≤ 8) (hlv : lv.length = nL) (hdd : dy + 1 ≤ d) (hnl : nLy ≤ 11) (hcm : cells ≤ mc ∧ slots ≤ ms) (kk : Z X G (0, 0) Q (pc + 3) lv (.double v :: st) M1 cells slots) : Z X G (0, 0) Q pc lv st0 M cells slots :=
  z_dsN E hM hav hst hy hm hd hn hcat hlv hdd hnl hcm (fun r M' h => Or.inl rfl) (fun r M' h => by obtain ⟨h1, h2⟩ := h; subst h1; subst h2; exact kk)
theorem z_vvp (E : EF X G cc nL own rt d mc ms) (hM : CV y cy nLy rty dy 0 0 av M (fun M' => M' = M)) (hav : av G = .ref (ad G k s i) :: As) (hst : st0 = As.reverse ++ .ref (ad G k s i) :: st) (hy : Cal y C cy nLy rty n) (hm : Cond.methodLink own idx y ∈ GW) (hd : decode cc pc = .ok (.invokevirtual idx, 3)) (ho : okc k s i) (hc : conV G k s i (M k s i) = .inr (ci, fs)) (hcl : vwCl[ci]? = some (C, Tf, N)) (hn : As.length = n) (hcat : (st.map fun v => v.category).sum ≤ 8) (hlv : lv.length = nL) (hdd : dy + 1 ≤ d) (hnl : nLy ≤ 11) (hcm : cells ≤ mc ∧ slots ≤ ms) (kk : Z X G T Q (pc + 3) lv ( st) M cells slots) : Z X G T Q pc lv st0 M cells slots :=
  z_vv E hM hav hst hy hm hd ho hc hcl hn hcat hlv hdd hnl hcm (fun M' h => Or.inr (by rw [h])) (fun M' h => by subst h; exact kk)
theorem z_vvf {M1 : Mem} (E : EF X G cc nL own rt d mc ms) (hM : CV y cy nLy rty dy 0 0 av M (fun M' => M' = M1)) (hav : av G = .ref (ad G k s i) :: As) (hst : st0 = As.reverse ++ .ref (ad G k s i) :: st) (hy : Cal y C cy nLy rty n) (hm : Cond.methodLink own idx y ∈ GW) (hd : decode cc pc = .ok (.invokevirtual idx, 3)) (ho : okc k s i) (hc : conV G k s i (M k s i) = .inr (ci, fs)) (hcl : vwCl[ci]? = some (C, Tf, N)) (hn : As.length = n) (hcat : (st.map fun v => v.category).sum ≤ 8) (hlv : lv.length = nL) (hdd : dy + 1 ≤ d) (hnl : nLy ≤ 11) (hcm : cells ≤ mc ∧ slots ≤ ms) (kk : Z X G (0, 0) Q (pc + 3) lv ( st) M1 cells slots) : Z X G (0, 0) Q pc lv st0 M cells slots :=
  z_vv E hM hav hst hy hm hd ho hc hcl hn hcat hlv hdd hnl hcm (fun M' h => Or.inl rfl) (fun M' h => by subst h; exact kk)
theorem z_vsp (E : EF X G cc nL own rt d mc ms) (hM : CV y cy nLy rty dy 0 0 av M (fun M' => M' = M)) (hav : av G = As) (hst : st0 = As.reverse ++ st) (hy : CalS y C cy nLy rty n) (hm : Cond.methodLink own idx y ∈ GW) (hd : decode cc pc = .ok (.invokestatic idx, 3)) (hn : As.length = n) (hcat : (st.map fun v => v.category).sum ≤ 8) (hlv : lv.length = nL) (hdd : dy + 1 ≤ d) (hnl : nLy ≤ 11) (hcm : cells ≤ mc ∧ slots ≤ ms) (kk : Z X G T Q (pc + 3) lv ( st) M cells slots) : Z X G T Q pc lv st0 M cells slots :=
  z_vs E hM hav hst hy hm hd hn hcat hlv hdd hnl hcm (fun M' h => Or.inr (by rw [h])) (fun M' h => by subst h; exact kk)
theorem z_vsf {M1 : Mem} (E : EF X G cc nL own rt d mc ms) (hM : CV y cy nLy rty dy 0 0 av M (fun M' => M' = M1)) (hav : av G = As) (hst : st0 = As.reverse ++ st) (hy : CalS y C cy nLy rty n) (hm : Cond.methodLink own idx y ∈ GW) (hd : decode cc pc = .ok (.invokestatic idx, 3)) (hn : As.length = n) (hcat : (st.map fun v => v.category).sum ≤ 8) (hlv : lv.length = nL) (hdd : dy + 1 ≤ d) (hnl : nLy ≤ 11) (hcm : cells ≤ mc ∧ slots ≤ ms) (kk : Z X G (0, 0) Q (pc + 3) lv ( st) M1 cells slots) : Z X G (0, 0) Q pc lv st0 M cells slots :=
  z_vs E hM hav hst hy hm hd hn hcat hlv hdd hnl hcm (fun M' h => Or.inl rfl) (fun M' h => by subst h; exact kk)
theorem z_vsNp (E : EF X G cc nL own rt d mc ms) (hM : CV y cy nLy rty dy 0 0 av M (fun M' => M' = M)) {host : String} (hav : av G = As) (hst : st0 = As.reverse ++ st) (hy : CalS y C cy nLy rty n) (hm : (own, idx, y, host) ∈ NWm) (hd : decode cc pc = .ok (.invokestatic idx, 3)) (hn : As.length = n) (hcat : (st.map fun v => v.category).sum ≤ 8) (hlv : lv.length = nL) (hdd : dy + 1 ≤ d) (hnl : nLy ≤ 11) (hcm : cells ≤ mc ∧ slots ≤ ms) (kk : Z X G T Q (pc + 3) lv ( st) M cells slots) : Z X G T Q pc lv st0 M cells slots :=
  z_vsN E hM hav hst hy hm hd hn hcat hlv hdd hnl hcm (fun M' h => Or.inr (by rw [h])) (fun M' h => by subst h; exact kk)
theorem z_vsNf {M1 : Mem} (E : EF X G cc nL own rt d mc ms) (hM : CV y cy nLy rty dy 0 0 av M (fun M' => M' = M1)) {host : String} (hav : av G = As) (hst : st0 = As.reverse ++ st) (hy : CalS y C cy nLy rty n) (hm : (own, idx, y, host) ∈ NWm) (hd : decode cc pc = .ok (.invokestatic idx, 3)) (hn : As.length = n) (hcat : (st.map fun v => v.category).sum ≤ 8) (hlv : lv.length = nL) (hdd : dy + 1 ≤ d) (hnl : nLy ≤ 11) (hcm : cells ≤ mc ∧ slots ≤ ms) (kk : Z X G (0, 0) Q (pc + 3) lv ( st) M1 cells slots) : Z X G (0, 0) Q pc lv st0 M cells slots :=
  z_vsN E hM hav hst hy hm hd hn hcat hlv hdd hnl hcm (fun M' h => Or.inl rfl) (fun M' h => by subst h; exact kk)
end ZP
/-! numbers -/
def b2 (p : Prop) [Decidable p] : Int32 := if p then 1 else 0
theorem b2_t {p : Prop} [Decidable p] (h : p) : b2 p = 1 := if_pos h
theorem b2_f {p : Prop} [Decidable p] (h : ¬ p) : b2 p = 0 := if_neg h
theorem b2_01 (p : Prop) [Decidable p] : b2 p = 0 ∨ b2 p = 1 := by
  unfold b2
  split
  · exact Or.inr rfl
  · exact Or.inl rfl
theorem b2_0 {p : Prop} [Decidable p] : b2 p = 0 ↔ ¬ p := by
  unfold b2
  split <;> simp_all
theorem b2_n0 {p : Prop} [Decidable p] (h : ¬ b2 p = 0) : p := by
  apply Decidable.byContradiction
  intro q
  exact h (b2_f q)
theorem b2_e0 {p : Prop} [Decidable p] (h : b2 p = 0) : ¬ p := b2_0.mp h
/-- sums over the first n -/
def fsum : Nat → (Nat → Int32) → Int32
  | 0, _ => 0
  | n + 1, f => fsum n f + f n
theorem fsum_congr {f g : Nat → Int32} : ∀ {n : Nat}, (∀ t, t < n → f t = g t) → fsum n f = fsum n g
  | 0, _ => rfl
  | n + 1, h => by
    show fsum n f + f n = fsum n g + g n
    rw [fsum_congr (fun t ht => h t (Nat.lt_succ_of_lt ht)), h n (Nat.lt_succ_self n)]
/-- a counter against a bound -/
theorem ct_ge {a : Int32} {t n : Nat} (ha : a = nI n) (h : n ≤ t) (ht : t ≤ 1000) : a ≤ nI t := by rw [ha]; exact nI_le h (n31 ht)
theorem ct_lt {a : Int32} {t n : Nat} (ha : a = nI n) (h : t < n) (hn : n ≤ 1000) : ¬ a ≤ nI t := by rw [ha]; exact nI_ge h (n31 hn)
theorem i32_le_of_not_lt {a b : Int32} (h : ¬ a < b) : b ≤ a := Int32.not_lt.mp h
theorem i32_lt_of_not_le {a b : Int32} (h : ¬ a ≤ b) : b < a := Int32.not_le.mp h
/-- an index that a test has let through -/
theorem ix_of {x : Int32} {n : Nat} (h : 0 ≤ x ∧ x ≤ nI n - 1) (hn : n ≤ 1000) : ∃ j : Nat, j < n ∧ x = nI j := by
  obtain ⟨h1, h2⟩ := h
  have hx := Int32.le_iff_toInt_le.mp h1
  have hy := Int32.le_iff_toInt_le.mp h2
  have e0 : (0 : Int32).toInt = 0 := rfl
  have e1 : (nI n - 1).toInt = (n : Int) - 1 := by
    have h := pk_sub_toInt (a := n) (b := 1) (by omega) (by omega)
    have e : (1 : Int32) = nI 1 := rfl
    rw [e, h]
    rfl
  rw [e0] at hx
  rw [e1] at hy
  refine ⟨x.toInt.toNat, by omega, ?_⟩
  have h3 : x.toInt = (nI x.toInt.toNat).toInt := by rw [nI_toInt (by omega)]; omega
  exact Int32.toInt_inj.mp h3
end
section
section ZS
variable {X : PX} {G : GT} {T : Nat × Nat} {cc : ByteArray} {nL : Nat} {own : String} {rt : Option FieldType} {d mc ms : Nat} {Q : State → Prop} {pc : Nat} {lv r : List (Option Value)} {st : List Value} {M : Mem} {cells slots : Nat}
theorem z_tswIn (E : EF X G cc nL own rt d mc ms) {dflt lo hi : Int} {offs : Array Int} {len : Nat} {x : Int32} {off : Int} {tgt : Nat} (hd : decode cc pc = .ok (.tableswitch dflt lo hi offs, len)) (h1 : ¬ x.toInt < lo) (h2 : ¬ hi < x.toInt) (ho : offs[(x.toInt - lo).toNat]? = some off) (ht : (pc : Int) + off = (tgt : Int)) (k : Z X G T Q tgt lv st M cells slots) : Z X G T Q pc lv (.int x :: st) M cells slots := fun ls H locs hl hP hT hS => lv_tableIn E.ex E.cb hd h1 h2 ho ht (k ls H locs hl hP hT hS)
theorem z_tswOut (E : EF X G cc nL own rt d mc ms) {dflt lo hi : Int} {offs : Array Int} {len : Nat} {x : Int32} {tgt : Nat} (hd : decode cc pc = .ok (.tableswitch dflt lo hi offs, len)) (h : x.toInt < lo ∨ hi < x.toInt) (ht : (pc : Int) + dflt = (tgt : Int)) (k : Z X G T Q tgt lv st M cells slots) : Z X G T Q pc lv (.int x :: st) M cells slots := fun ls H locs hl hP hT hS => lv_tableOut E.ex E.cb hd h ht (k ls H locs hl hP hT hS)
theorem z_lsw (E : EF X G cc nL own rt d mc ms) {dflt : Int} {ps : Array (Int × Int)} {len : Nat} {x : Int32} {off : Int} {tgt : Nat} (hd : decode cc pc = .ok (.lookupswitch dflt ps, len)) (hp : (ps.toList.zip (ps.toList.drop 1)).all (fun (a, next) => a.1 < next.1) = true) (ho : Op.lookupswitch.offset ps.toList dflt x.toInt = off) (ht : (pc : Int) + off = (tgt : Int)) (k : Z X G T Q tgt lv st M cells slots) : Z X G T Q pc lv (.int x :: st) M cells slots := fun ls H locs hl hP hT hS => lv_lookup E.ex E.cb hd hp ho ht (k ls H locs hl hP hT hS)
end ZS
end
section
/-! what the methods compute, as functions of the memory -/
def rset (M : Mem) (k s i : Nat) (f : Nat → Int32) : Mem := fun k' s' i' => if k' = k ∧ s' = s ∧ i' = i then f else M k' s' i'
theorem rset_cell (M : Mem) (k s i : Nat) (f : Nat → Int32) : rset M k s i f k s i = f := if_pos ⟨rfl, rfl, rfl⟩
theorem rset_off (M : Mem) {k s i k' s' i' : Nat} (f : Nat → Int32) (h : ¬ (k' = k ∧ s' = s ∧ i' = i)) : rset M k s i f k' s' i' = M k' s' i' := if_neg h
theorem rset_self (M : Mem) (k s i : Nat) : rset M k s i (M k s i) = M := by
  funext k' s' i'
  by_cases h : k' = k ∧ s' = s ∧ i' = i
  · obtain ⟨rfl, rfl, rfl⟩ := h
    exact rset_cell M _ _ _ _
  · exact rset_off M _ h
theorem mset_r (M : Mem) (k s i j : Nat) (x : Int32) : mset M k s i j x = rset M k s i (upd (M k s i) j x) := by
  funext k' s' i'
  by_cases h : k' = k ∧ s' = s ∧ i' = i
  · obtain ⟨rfl, rfl, rfl⟩ := h
    rw [mset_cell, rset_cell]
  · rw [mset_off M j x h, rset_off M _ h]
theorem rset_rset (M : Mem) (k s i : Nat) (f g : Nat → Int32) : rset (rset M k s i f) k s i g = rset M k s i g := by
  funext k' s' i'
  by_cases h : k' = k ∧ s' = s ∧ i' = i
  · obtain ⟨rfl, rfl, rfl⟩ := h
    rw [rset_cell, rset_cell]
  · rw [rset_off _ _ h, rset_off _ _ h, rset_off _ _ h]
theorem mset_rset (M : Mem) (k s i j : Nat) (f : Nat → Int32) (x : Int32) : mset (rset M k s i f) k s i j x = rset M k s i (upd f j x) := by
  rw [mset_r, rset_cell, rset_rset]
theorem rset_congr {M : Mem} {k s i : Nat} {f g : Nat → Int32} (h : ∀ j, f j = g j) : rset M k s i f = rset M k s i g := by rw [show f = g from funext h]
def mx (x y : Int32) : Int32 := if x < y then y else x
def mn (x y : Int32) : Int32 := if y < x then y else x
def intr (day since loan : Int32) : Int32 := ((day - since) / 30 + 1) * mx 1 (loan * 5 / 100)
def loanV (tr value : Int32) : Int32 := mx 1 (value * (40 + 4 * tr) / 100)
def trV (tr x : Int32) : Int32 := mx 0 (mn 10 (tr + x))
def cheapV (price value : Int32) : Int32 := mx (price - value / 20) (value * 3 / 10)
def debtV (M : Mem) (s t : Nat) (day : Int32) : Int32 := if M 2 s t 7 = 0 then M 2 s t 4 + intr day (M 2 s t 5) (M 2 s t 4) else 0
/-- a gap: places k .. k + n - 1 are left, f are free behind k; the answer counts from b -/
def gapB (p : Nat → Int32) (w : Int32) (b : Nat) : Nat → Nat → Int32 → Int32
  | 0, _, _ => -1
  | n + 1, k, f => if (if p k = -1 then f + 1 else 0) = w then nI (b + k) - w + 1 else gapB p w b n (k + 1) (if p k = -1 then f + 1 else 0)
def layF (p : Nat → Int32) (t a w : Int32) (n : Nat) : Nat → Int32 := fun j => if j < n ∧ a ≤ nI j ∧ nI j < a + w then t else p j
def clrF (p : Nat → Int32) (t : Int32) (n : Nat) : Nat → Int32 := fun j => if j < n ∧ p j = t then -1 else p j
def cpyF (p q : Nat → Int32) (n : Nat) : Nat → Int32 := fun j => if j < n then q j else p j
def leftF (p : Nat → Int32) (t : Int32) : Nat → Nat → Int32
  | 0, _ => -1
  | n + 1, k => if p k = t then nI k else leftF p t n (k + 1)
/-- tidying a shelf: left, place, things moved, last thing, next place, the places -/
def pushF : Nat → Nat → Int32 → Int32 → Nat → (Nat → Int32) → Int32 × (Nat → Int32)
  | 0, _, m, _, _, p => (m, p)
  | n + 1, k, m, l, to, p => if p k = -1 then pushF n (k + 1) m l to p else
      pushF n (k + 1) (if p k ≠ l ∧ to < k then m + 1 else m) (p k) (to + 1) (upd (upd p k (-1)) to (p k))
theorem upd10 (f g : Nat → Int32) : upd (upd (upd (upd (upd (upd (upd (upd (upd (upd (f) 0 (g 0)) 1 (g 1)) 2 (g 2)) 3 (g 3)) 4 (g 4)) 5 (g 5)) 6 (g 6)) 7 (g 7)) 8 (g 8)) 9 (g 9) = fun j => if j < 10 then g j else f j := by
  funext j
  match j with
  | 0 => rfl
  | 1 => rfl
  | 2 => rfl
  | 3 => rfl
  | 4 => rfl
  | 5 => rfl
  | 6 => rfl
  | 7 => rfl
  | 8 => rfl
  | 9 => rfl
  | n + 10 => simp [upd]; omega
theorem nn_xor {n : Nat} (h : n < 2 ^ 31) : (0 : Int32) ≤ nI n ^^^ 7 := by
  have e : nI n ^^^ (7 : Int32) = nI (n ^^^ 7) := by
    apply Int32.toBitVec_inj.mp
    show BitVec.ofNat 32 n ^^^ BitVec.ofNat 32 7 = BitVec.ofNat 32 (n ^^^ 7)
    apply BitVec.eq_of_toNat_eq
    simp only [BitVec.toNat_xor, BitVec.toNat_ofNat]
    exact (Nat.xor_mod_two_pow (n := 32)).symm
  rw [e]
  exact nI_pos' (Nat.xor_lt_two_pow h (by decide))
theorem clr_s {p : Nat → Int32} {t : Int32} {j : Nat} (h : p j = t) (q : Nat) : clrF p t (j + 1) q = upd (clrF p t j) j (-1) q := by
  unfold clrF upd
  by_cases e : q = j
  · subst e; simp [h]
  · have : (q < j + 1) = (q < j) := by simp; omega
    simp [e, this]
theorem clr_n {p : Nat → Int32} {t : Int32} {j : Nat} (h : ¬ p j = t) (q : Nat) : clrF p t (j + 1) q = clrF p t j q := by
  unfold clrF
  by_cases e : q = j
  · subst e; simp [h]
  · have : (q < j + 1) = (q < j) := by simp; omega
    simp [this]
theorem clr_0 (p : Nat → Int32) (t : Int32) : clrF p t 0 = p := by funext q; simp [clrF]
theorem clr_j (p : Nat → Int32) (t : Int32) (j : Nat) : clrF p t j j = p j := by simp [clrF]
theorem lay_s {p : Nat → Int32} {t a w : Int32} {j : Nat} (h : a ≤ nI j ∧ nI j < a + w) (q : Nat) : layF p t a w (j + 1) q = upd (layF p t a w j) j t q := by
  unfold layF upd
  by_cases e : q = j
  · subst e; simp [h]
  · have : (q < j + 1) = (q < j) := by simp; omega
    simp [e, this]
theorem lay_n {p : Nat → Int32} {t a w : Int32} {j : Nat} (h : ¬ (a ≤ nI j ∧ nI j < a + w)) (q : Nat) : layF p t a w (j + 1) q = layF p t a w j q := by
  unfold layF
  by_cases e : q = j
  · subst e; simp [h]
  · have : (q < j + 1) = (q < j) := by simp; omega
    simp [this]
theorem lay_0 (p : Nat → Int32) (t a w : Int32) : layF p t a w 0 = p := by funext q; simp [layF]
theorem cpy_s {p g : Nat → Int32} {j : Nat} (q : Nat) : cpyF p g (j + 1) q = upd (cpyF p g j) j (g j) q := by
  unfold cpyF upd
  by_cases e : q = j
  · subst e; simp
  · have : (q < j + 1) = (q < j) := by simp; omega
    simp [e, this]
theorem cpy_0 (p g : Nat → Int32) : cpyF p g 0 = p := by funext q; simp [cpyF]
theorem push_n {n k : Nat} {m l : Int32} {to : Nat} {p : Nat → Int32} (h : p k = -1) : pushF (n + 1) k m l to p = pushF n (k + 1) m l to p := by
  show (if p k = -1 then _ else _) = _
  rw [if_pos h]
theorem push_a {n k : Nat} {m l : Int32} {to : Nat} {p : Nat → Int32} (h : ¬ p k = -1) (h2 : p k = l ∨ k ≤ to) : pushF (n + 1) k m l to p = pushF n (k + 1) m (p k) (to + 1) (upd (upd p k (-1)) to (p k)) := by
  show (if p k = -1 then _ else pushF n (k + 1) (if p k ≠ l ∧ to < k then m + 1 else m) _ _ _) = _
  rw [if_neg h, if_neg (fun z => h2.elim z.1 (fun y => by omega))]
theorem push_b {n k : Nat} {m l : Int32} {to : Nat} {p : Nat → Int32} (h : ¬ p k = -1) (h2 : ¬ p k = l) (h3 : to < k) : pushF (n + 1) k m l to p = pushF n (k + 1) (m + 1) (p k) (to + 1) (upd (upd p k (-1)) to (p k)) := by
  show (if p k = -1 then _ else pushF n (k + 1) (if p k ≠ l ∧ to < k then m + 1 else m) _ _ _) = _
  rw [if_neg h, if_pos ⟨h2, h3⟩]
/-! the rack -/
def gapS (M : Mem) (s i : Nat) (w : Int32) : Int32 := gapB (M 4 s i) w 0 (10 * (i + 1)) 0 0
def spotF (M : Mem) (s : Nat) (w : Int32) : Nat → Nat → Int32
  | 0, _ => -1
  | n + 1, i => if gapS M s i w = -1 then spotF M s w n (i + 1) else 100 * nI i + gapS M s i w
def leftS (M : Mem) (s i : Nat) (t : Int32) : Int32 := leftF (M 4 s i) t (10 * (i + 1)) 0
def shelfF (M : Mem) (s : Nat) (t : Int32) : Nat → Nat → Int32
  | 0, _ => -1
  | n + 1, i => if leftS M s i t = -1 then shelfF M s t n (i + 1) else nI i
def leftR (M : Mem) (s : Nat) (t : Int32) : Nat → Nat → Int32
  | 0, _ => -1
  | n + 1, i => if leftS M s i t = -1 then leftR M s t n (i + 1) else leftS M s i t
def takenS (M : Mem) (s i : Nat) : Int32 := fsum (10 * (i + 1)) (fun j => b2 (¬ M 4 s i j = -1))
/-- the first n shelves of a shop, each by a function of its own places -/
def shM (M : Mem) (s n : Nat) (f : Nat → (Nat → Int32) → Nat → Int32) : Mem := fun k' s' i' => if k' = 4 ∧ s' = s ∧ i' < n then f i' (M 4 s i') else M k' s' i'
theorem shM_0 (M : Mem) (s : Nat) (f : Nat → (Nat → Int32) → Nat → Int32) : shM M s 0 f = M := by
  funext k' s' i'
  simp [shM]
theorem shM_n (M : Mem) (s n : Nat) (f : Nat → (Nat → Int32) → Nat → Int32) : shM M s n f 4 s n = M 4 s n := by simp [shM]
theorem shM_s (M : Mem) (s n : Nat) (f : Nat → (Nat → Int32) → Nat → Int32) : shM M s (n + 1) f = rset (shM M s n f) 4 s n (f n (M 4 s n)) := by
  funext k' s' i'
  unfold shM rset
  by_cases h1 : k' = 4 ∧ s' = s
  · obtain ⟨rfl, rfl⟩ := h1
    by_cases e : i' = n
    · subst e; simp
    · have : (i' < n + 1) = (i' < n) := by simp; omega
      simp [e, this]
  · have h2 : ¬ (k' = 4 ∧ s' = s ∧ i' < n + 1) := fun z => h1 ⟨z.1, z.2.1⟩
    have h3 : ¬ (k' = 4 ∧ s' = s ∧ i' = n) := fun z => h1 ⟨z.1, z.2.1⟩
    have h4 : ¬ (k' = 4 ∧ s' = s ∧ i' < n) := fun z => h1 ⟨z.1, z.2.1⟩
    rw [if_neg h2, if_neg h3]
    exact (if_neg h4).symm
theorem shM_off (M : Mem) {s n : Nat} (f : Nat → (Nat → Int32) → Nat → Int32) {k' s' i' : Nat} (h : ¬ (k' = 4 ∧ s' = s)) : shM M s n f k' s' i' = M k' s' i' := if_neg (fun z => h ⟨z.1, z.2.1⟩)
def clrM (M : Mem) (s : Nat) (t : Int32) (n : Nat) : Mem := shM M s n (fun i p => clrF p t (10 * (i + 1)))
def cpyM (M : Mem) (s s2 n : Nat) : Mem := shM M s n (fun i p => cpyF p (M 4 s2 i) (10 * (i + 1)))
def pushS (M : Mem) (s i : Nat) : Int32 × (Nat → Int32) := pushF (10 * (i + 1)) 0 0 (-1) 0 (M 4 s i)
def pushM (M : Mem) (s n : Nat) : Mem := shM M s n (fun i p => (pushF (10 * (i + 1)) 0 0 (-1) 0 p).2)
/-- a place of the rack, told by numbers -/
def plcP (sh pl : Int32) : Prop := ∃ i p : Nat, i < 3 ∧ p < 10 * (i + 1) ∧ sh = nI i ∧ pl = nI p
theorem in_of_ix {x : Int32} {j n : Nat} (h : x = nI j) (hj : j < n) (hn : n ≤ 1000) : 0 ≤ x ∧ x ≤ nI n - 1 := by
  subst h
  refine ⟨nI_pos' (n31 (by omega)), ?_⟩
  have e : nI n - 1 = nI (n - 1) := pk_sub (a := n) (b := 1) (by omega)
  rw [e]
  exact nI_le (by omega) (n31 (by omega))
theorem nI_inj {a b : Nat} (ha : a ≤ 1000) (hb : b ≤ 1000) (h : nI a = nI b) : a = b := (nI_eq (n31 ha) (n31 hb)).mp h
end
section
set_option maxRecDepth 100000 in
set_option maxHeartbeats 4000000 in
theorem m_X6_isWithin (M : Mem) (x lo hi : Int32) : CI yX6_isWithin cX6_isWithin 3 (some .boolean) 0 0 0 (fun G => [.int x, .int lo, .int hi]) M (fun r M' => r = b2 (lo ≤ x ∧ x ≤ hi) ∧ M' = M) := by
  refine CI.mk (own := RX6) (by decide +kernel) rfl (fun _ => rfl) (fun _ => Nat.le_of_ble_eq_true rfl) (lv0 := fun G => [some (.int x), some (.int lo), some (.int hi)]) (fun _ => rfl) (fun X G E => ?_)
  refine z_iload_0 (pc := 0) E dX6_isWithin_0 ?_
  refine z_iload_1 (pc := 1) E dX6_isWithin_1 ?_
  refine z_icmp_lt (pc := 2) (tgt := 14) E dX6_isWithin_2 (by decide) (fun h2 => ?_) (fun h2 => ?_)
  · refine z_iconst (v := 0) (pc := 14) E dX6_isWithin_14 (by decide) ?_
    exact z_zret (pc := 15) E dX6_isWithin_15 (by first | exact Or.inl rfl | exact Or.inr rfl | exact b2_01 _) ⟨by first | exact (b2_t ⟨Int32.not_lt.mp h2, Int32.not_lt.mp h7⟩).symm | exact (b2_f (fun z => Int32.not_le.mpr h7 z.2)).symm | exact (b2_f (fun z => Int32.not_le.mpr h2 z.1)).symm, rfl⟩
  · refine z_iload_0 (pc := 5) E dX6_isWithin_5 ?_
    refine z_iload_2 (pc := 6) E dX6_isWithin_6 ?_
    refine z_icmp_gt (pc := 7) (tgt := 14) E dX6_isWithin_7 (by decide) (fun h7 => ?_) (fun h7 => ?_)
    · refine z_iconst (v := 0) (pc := 14) E dX6_isWithin_14 (by decide) ?_
      exact z_zret (pc := 15) E dX6_isWithin_15 (by first | exact Or.inl rfl | exact Or.inr rfl | exact b2_01 _) ⟨by first | exact (b2_t ⟨Int32.not_lt.mp h2, Int32.not_lt.mp h7⟩).symm | exact (b2_f (fun z => Int32.not_le.mpr h7 z.2)).symm | exact (b2_f (fun z => Int32.not_le.mpr h2 z.1)).symm, rfl⟩
    · refine z_iconst (v := 1) (pc := 10) E dX6_isWithin_10 (by decide) ?_
      refine z_goto (pc := 11) (tgt := 15) E dX6_isWithin_11 (by decide) ?_
      exact z_zret (pc := 15) E dX6_isWithin_15 (by first | exact Or.inl rfl | exact Or.inr rfl | exact b2_01 _) ⟨by first | exact (b2_t ⟨Int32.not_lt.mp h2, Int32.not_lt.mp h7⟩).symm | exact (b2_f (fun z => Int32.not_le.mpr h7 z.2)).symm | exact (b2_f (fun z => Int32.not_le.mpr h2 z.1)).symm, rfl⟩

set_option maxRecDepth 100000 in
set_option maxHeartbeats 4000000 in
theorem m_J9_floorMod_7cf53 (M : Mem) (n : Nat) (hn : n < 2 ^ 31) : CI yJ9_floorMod_7cf53 cJ9_floorMod_7cf53 3 (some .int) 0 0 0 (fun G => [.int (nI n), .int 7]) M (fun r M' => r = nI (n % 7) ∧ M' = M) := by
  refine CI.mk (own := RJ9) (by decide +kernel) rfl (fun _ => rfl) (fun _ => Nat.le_of_ble_eq_true rfl) (lv0 := fun G => [some (.int (nI n)), some (.int 7), none]) (fun _ => rfl) (fun X G E => ?_)
  refine z_iload_0 (pc := 0) E dJ9_floorMod_7cf53_0 ?_
  refine z_iload_1 (pc := 1) E dJ9_floorMod_7cf53_1 ?_
  refine z_irem (pc := 2) E dJ9_floorMod_7cf53_2 (by decide) ?_
  refine z_istore_2 (pc := 3) E dJ9_floorMod_7cf53_3 rfl ?_
  refine z_iload_0 (pc := 4) E dJ9_floorMod_7cf53_4 ?_
  refine z_iload_1 (pc := 5) E dJ9_floorMod_7cf53_5 ?_
  refine z_ixor (pc := 6) E dJ9_floorMod_7cf53_6 ?_
  refine z_if_ge (pc := 7) (tgt := 18) E dJ9_floorMod_7cf53_7 (by decide) (fun h7 => ?_) (fun h7 => absurd h7 (fun z => z (nn_xor hn)))
  refine z_iload_2 (pc := 18) E dJ9_floorMod_7cf53_18 ?_
  exact z_iret (pc := 19) E dJ9_floorMod_7cf53_19 ⟨pk_rem hn (by decide) (by decide), rfl⟩

set_option maxRecDepth 100000 in
set_option maxHeartbeats 4000000 in
theorem m_X4_hasCustomer (M : Mem) (s : Nat) (c : Int32) (hs : s < 2) : CI yX4_hasCustomer cX4_hasCustomer 2 (some .boolean) 1 0 0 (fun G => [.ref (ad G 0 s 0), .int c]) M (fun r M' => r = b2 (0 ≤ c ∧ c ≤ M 0 s 0 3 - 1) ∧ M' = M) := by
  refine CI.mk (own := RX4) (by decide +kernel) rfl (fun _ => rfl) (fun _ => Nat.le_of_ble_eq_true rfl) (lv0 := fun G => [some (.ref (ad G 0 s 0)), some (.int c)]) (fun _ => rfl) (fun X G E => ?_)
  refine z_iload_1 (pc := 0) E dX4_hasCustomer_0 ?_
  refine z_iconst (v := 0) (pc := 1) E dX4_hasCustomer_1 (by decide) ?_
  refine z_aload_0 (pc := 2) E dX4_hasCustomer_2 ?_
  refine z_get (pc := 3) E dX4_hasCustomer_3 fiX4_43 (ok0 (by omega)) rfl rfl ?_
  refine z_iconst (v := 1) (pc := 6) E dX4_hasCustomer_6 (by decide) ?_
  refine z_isub (pc := 7) E dX4_hasCustomer_7 ?_
  refine z_isNp (pc := 8) E (m_X6_isWithin _ _ _ _) rfl rfl kX6_isWithin (by decide +kernel : ((RX4 : String), 46, yX6_isWithin, (RX6 : String)) ∈ NWm) dX4_hasCustomer_8 rfl (Nat.le_of_ble_eq_true rfl) rfl (by decide) (by decide) ⟨by omega, by omega⟩ ?_
  exact z_zret (pc := 11) E dX4_hasCustomer_11 (by first | exact Or.inl rfl | exact Or.inr rfl | exact b2_01 _) ⟨rfl, rfl⟩

set_option maxRecDepth 100000 in
set_option maxHeartbeats 4000000 in
theorem m_X4_hasTicket (M : Mem) (s : Nat) (c : Int32) (hs : s < 2) : CI yX4_hasTicket cX4_hasTicket 2 (some .boolean) 1 0 0 (fun G => [.ref (ad G 0 s 0), .int c]) M (fun r M' => r = b2 (0 ≤ c ∧ c ≤ M 0 s 0 4 - 1) ∧ M' = M) := by
  refine CI.mk (own := RX4) (by decide +kernel) rfl (fun _ => rfl) (fun _ => Nat.le_of_ble_eq_true rfl) (lv0 := fun G => [some (.ref (ad G 0 s 0)), some (.int c)]) (fun _ => rfl) (fun X G E => ?_)
  refine z_iload_1 (pc := 0) E dX4_hasTicket_0 ?_
  refine z_iconst (v := 0) (pc := 1) E dX4_hasTicket_1 (by decide) ?_
  refine z_aload_0 (pc := 2) E dX4_hasTicket_2 ?_
  refine z_get (pc := 3) E dX4_hasTicket_3 fiX4_50 (ok0 (by omega)) rfl rfl ?_
  refine z_iconst (v := 1) (pc := 6) E dX4_hasTicket_6 (by decide) ?_
  refine z_isub (pc := 7) E dX4_hasTicket_7 ?_
  refine z_isNp (pc := 8) E (m_X6_isWithin _ _ _ _) rfl rfl kX6_isWithin (by decide +kernel : ((RX4 : String), 46, yX6_isWithin, (RX6 : String)) ∈ NWm) dX4_hasTicket_8 rfl (Nat.le_of_ble_eq_true rfl) rfl (by decide) (by decide) ⟨by omega, by omega⟩ ?_
  exact z_zret (pc := 11) E dX4_hasTicket_11 (by first | exact Or.inl rfl | exact Or.inr rfl | exact b2_01 _) ⟨rfl, rfl⟩

set_option maxRecDepth 100000 in
set_option maxHeartbeats 4000000 in
theorem m_X0_want (M : Mem) (s i : Nat) (k p : Int32) (hs : s < 2) (hi : i < 7) : CV yX0_want cX0_want 3 none 0 0 0 (fun G => [.ref (ad G 3 s i), .int k, .int p]) M (fun M' => M' = mset (mset M 3 s i 0 k) 3 s i 1 (if k = -1 then 0 else p)) := by
  refine CV.mk (own := RX0) (by decide +kernel) rfl (fun _ => rfl) (fun _ => Nat.le_of_ble_eq_true rfl) (lv0 := fun G => [some (.ref (ad G 3 s i)), some (.int k), some (.int p)]) (fun _ => rfl) (fun X G E => ?_)
  refine z_aload_0 (pc := 0) E dX0_want_0 ?_
  refine z_iload_1 (pc := 1) E dX0_want_1 ?_
  refine z_put (pc := 2) E dX0_want_2 fiX0_9 fpX0_0 (ok3 (by omega) (by omega)) rfl rfl (Nat.le_of_ble_eq_true rfl) ?_
  refine z_aload_0 (pc := 5) E dX0_want_5 ?_
  refine z_iload_1 (pc := 6) E dX0_want_6 ?_
  refine z_iconst (v := -1) (pc := 7) E dX0_want_7 (by decide) ?_
  refine z_icmp_ne (pc := 8) (tgt := 15) E dX0_want_8 (by decide) (fun h8 => ?_) (fun h8 => ?_)
  · refine z_iload_2 (pc := 15) E dX0_want_15 ?_
    refine z_put (pc := 16) E dX0_want_16 fiX0_15 fpX0_1 (ok3 (by omega) (by omega)) rfl rfl (Nat.le_of_ble_eq_true rfl) ?_
    exact z_vret (pc := 19) E dX0_want_19 (by first | rw [if_neg h8] | rw [if_pos (Decidable.not_not.mp h8)] | rw [if_pos h8])
  · refine z_iconst (v := 0) (pc := 11) E dX0_want_11 (by decide) ?_
    refine z_goto (pc := 12) (tgt := 16) E dX0_want_12 (by decide) ?_
    refine z_put (pc := 16) E dX0_want_16 fiX0_15 fpX0_1 (ok3 (by omega) (by omega)) rfl rfl (Nat.le_of_ble_eq_true rfl) ?_
    exact z_vret (pc := 19) E dX0_want_19 (by first | rw [if_neg h8] | rw [if_pos (Decidable.not_not.mp h8)] | rw [if_pos h8])

set_option maxRecDepth 100000 in
set_option maxHeartbeats 4000000 in
theorem m_X0_takes (M : Mem) (s i t : Nat) (hs : s < 2) (hi : i < 7) (ht : t < 40) : CI yX0_takes cX0_takes 2 (some .boolean) 0 0 0 (fun G => [.ref (ad G 3 s i), .ref (ad G 2 s t)]) M (fun r M' => r = b2 (M 2 s t 7 = 2 ∧ M 2 s t 1 = M 3 s i 0 ∧ M 2 s t 8 ≤ M 3 s i 1) ∧ M' = M) := by
  refine CI.mk (own := RX0) (by decide +kernel) rfl (fun _ => rfl) (fun _ => Nat.le_of_ble_eq_true rfl) (lv0 := fun G => [some (.ref (ad G 3 s i)), some (.ref (ad G 2 s t))]) (fun _ => rfl) (fun X G E => ?_)
  refine z_aload_1 (pc := 0) E dX0_takes_0 ?_
  refine z_get (pc := 1) E dX0_takes_1 fiX0_18 (ok2 (by omega) (by omega)) rfl rfl ?_
  refine z_iconst (v := 2) (pc := 4) E dX0_takes_4 (by decide) ?_
  refine z_icmp_ne (pc := 5) (tgt := 34) E dX0_takes_5 (by decide) (fun h5 => ?_) (fun h5 => ?_)
  · refine z_iconst (v := 0) (pc := 34) E dX0_takes_34 (by decide) ?_
    exact z_zret (pc := 35) E dX0_takes_35 (by first | exact Or.inl rfl | exact Or.inr rfl | exact b2_01 _) ⟨by first | exact (b2_t ⟨h5, h16, Int32.not_lt.mp h27⟩).symm | exact (b2_f (fun z => Int32.not_le.mpr h27 z.2.2)).symm | exact (b2_f (fun z => h16 z.2.1)).symm | exact (b2_f (fun z => h5 z.1)).symm, rfl⟩
  · refine z_aload_1 (pc := 8) E dX0_takes_8 ?_
    refine z_get (pc := 9) E dX0_takes_9 fiX0_23 (ok2 (by omega) (by omega)) rfl rfl ?_
    refine z_aload_0 (pc := 12) E dX0_takes_12 ?_
    refine z_get (pc := 13) E dX0_takes_13 fiX0_9 (ok3 (by omega) (by omega)) rfl rfl ?_
    refine z_icmp_ne (pc := 16) (tgt := 34) E dX0_takes_16 (by decide) (fun h16 => ?_) (fun h16 => ?_)
    · refine z_iconst (v := 0) (pc := 34) E dX0_takes_34 (by decide) ?_
      exact z_zret (pc := 35) E dX0_takes_35 (by first | exact Or.inl rfl | exact Or.inr rfl | exact b2_01 _) ⟨by first | exact (b2_t ⟨h5, h16, Int32.not_lt.mp h27⟩).symm | exact (b2_f (fun z => Int32.not_le.mpr h27 z.2.2)).symm | exact (b2_f (fun z => h16 z.2.1)).symm | exact (b2_f (fun z => h5 z.1)).symm, rfl⟩
    · refine z_aload_1 (pc := 19) E dX0_takes_19 ?_
      refine z_get (pc := 20) E dX0_takes_20 fiX0_24 (ok2 (by omega) (by omega)) rfl rfl ?_
      refine z_aload_0 (pc := 23) E dX0_takes_23 ?_
      refine z_get (pc := 24) E dX0_takes_24 fiX0_15 (ok3 (by omega) (by omega)) rfl rfl ?_
      refine z_icmp_gt (pc := 27) (tgt := 34) E dX0_takes_27 (by decide) (fun h27 => ?_) (fun h27 => ?_)
      · refine z_iconst (v := 0) (pc := 34) E dX0_takes_34 (by decide) ?_
        exact z_zret (pc := 35) E dX0_takes_35 (by first | exact Or.inl rfl | exact Or.inr rfl | exact b2_01 _) ⟨by first | exact (b2_t ⟨h5, h16, Int32.not_lt.mp h27⟩).symm | exact (b2_f (fun z => Int32.not_le.mpr h27 z.2.2)).symm | exact (b2_f (fun z => h16 z.2.1)).symm | exact (b2_f (fun z => h5 z.1)).symm, rfl⟩
      · refine z_iconst (v := 1) (pc := 30) E dX0_takes_30 (by decide) ?_
        refine z_goto (pc := 31) (tgt := 35) E dX0_takes_31 (by decide) ?_
        exact z_zret (pc := 35) E dX0_takes_35 (by first | exact Or.inl rfl | exact Or.inr rfl | exact b2_01 _) ⟨by first | exact (b2_t ⟨h5, h16, Int32.not_lt.mp h27⟩).symm | exact (b2_f (fun z => Int32.not_le.mpr h27 z.2.2)).symm | exact (b2_f (fun z => h16 z.2.1)).symm | exact (b2_f (fun z => h5 z.1)).symm, rfl⟩

set_option maxRecDepth 100000 in
set_option maxHeartbeats 4000000 in
theorem m_X1_begin (M : Mem) (s i : Nat) (c : Int32) (hs : s < 2) (hi : i < 10) : CV yX1_begin cX1_begin 2 none 0 0 0 (fun G => [.ref (ad G 1 s i), .int c]) M (fun M' => M' = mset (mset M 1 s i 0 c) 1 s i 1 5) := by
  refine CV.mk (own := RX1) (by decide +kernel) rfl (fun _ => rfl) (fun _ => Nat.le_of_ble_eq_true rfl) (lv0 := fun G => [some (.ref (ad G 1 s i)), some (.int c)]) (fun _ => rfl) (fun X G E => ?_)
  refine z_aload_0 (pc := 0) E dX1_begin_0 ?_
  refine z_iload_1 (pc := 1) E dX1_begin_1 ?_
  refine z_put (pc := 2) E dX1_begin_2 fiX1_7 fpX1_0 (ok1 (by omega) (by omega)) rfl rfl (Nat.le_of_ble_eq_true rfl) ?_
  refine z_aload_0 (pc := 5) E dX1_begin_5 ?_
  refine z_iconst (v := 5) (pc := 6) E dX1_begin_6 (by decide) ?_
  refine z_put (pc := 7) E dX1_begin_7 fiX1_13 fpX1_1 (ok1 (by omega) (by omega)) rfl rfl (Nat.le_of_ble_eq_true rfl) ?_
  exact z_vret (pc := 10) E dX1_begin_10 rfl

set_option maxRecDepth 100000 in
set_option maxHeartbeats 4000000 in
theorem m_X1_loanFor (M : Mem) (s i : Nat) (v : Int32) (hs : s < 2) (hi : i < 10) : CI yX1_loanFor cX1_loanFor 2 (some .int) 1 0 0 (fun G => [.ref (ad G 1 s i), .int v]) M (fun r M' => r = loanV (M 1 s i 1) v ∧ M' = M) := by
  refine CI.mk (own := RX1) (by decide +kernel) rfl (fun _ => rfl) (fun _ => Nat.le_of_ble_eq_true rfl) (lv0 := fun G => [some (.ref (ad G 1 s i)), some (.int v)]) (fun _ => rfl) (fun X G E => ?_)
  refine z_iconst (v := 1) (pc := 0) E dX1_loanFor_0 (by decide) ?_
  refine z_iload_1 (pc := 1) E dX1_loanFor_1 ?_
  refine z_bipush (v := 40) (pc := 2) E dX1_loanFor_2 (by decide) ?_
  refine z_iconst (v := 4) (pc := 4) E dX1_loanFor_4 (by decide) ?_
  refine z_aload_0 (pc := 5) E dX1_loanFor_5 ?_
  refine z_get (pc := 6) E dX1_loanFor_6 fiX1_13 (ok1 (by omega) (by omega)) rfl rfl ?_
  refine z_imul (pc := 9) E dX1_loanFor_9 ?_
  refine z_iadd (pc := 10) E dX1_loanFor_10 ?_
  refine z_imul (pc := 11) E dX1_loanFor_11 ?_
  refine z_bipush (v := 100) (pc := 12) E dX1_loanFor_12 (by decide) ?_
  refine z_idiv (pc := 14) E dX1_loanFor_14 (by decide) ?_
  refine z_max (pc := 15) E dX1_loanFor_15 mlX1_16 rfl (by decide) (Nat.le_of_ble_eq_true rfl) ⟨by omega, by omega⟩ ?_
  exact z_iret (pc := 18) E dX1_loanFor_18 ⟨rfl, rfl⟩

set_option maxRecDepth 100000 in
set_option maxHeartbeats 4000000 in
theorem m_X1_changeTrust (M : Mem) (s i : Nat) (x : Int32) (hs : s < 2) (hi : i < 10) : CV yX1_changeTrust cX1_changeTrust 2 none 1 0 0 (fun G => [.ref (ad G 1 s i), .int x]) M (fun M' => M' = mset M 1 s i 1 (trV (M 1 s i 1) x)) := by
  refine CV.mk (own := RX1) (by decide +kernel) rfl (fun _ => rfl) (fun _ => Nat.le_of_ble_eq_true rfl) (lv0 := fun G => [some (.ref (ad G 1 s i)), some (.int x)]) (fun _ => rfl) (fun X G E => ?_)
  refine z_aload_0 (pc := 0) E dX1_changeTrust_0 ?_
  refine z_iconst (v := 0) (pc := 1) E dX1_changeTrust_1 (by decide) ?_
  refine z_bipush (v := 10) (pc := 2) E dX1_changeTrust_2 (by decide) ?_
  refine z_aload_0 (pc := 4) E dX1_changeTrust_4 ?_
  refine z_get (pc := 5) E dX1_changeTrust_5 fiX1_13 (ok1 (by omega) (by omega)) rfl rfl ?_
  refine z_iload_1 (pc := 8) E dX1_changeTrust_8 ?_
  refine z_iadd (pc := 9) E dX1_changeTrust_9 ?_
  refine z_min (pc := 10) E dX1_changeTrust_10 mlX1_22 rfl (by decide) (Nat.le_of_ble_eq_true rfl) ⟨by omega, by omega⟩ ?_
  refine z_max (pc := 13) E dX1_changeTrust_13 mlX1_16 rfl (by decide) (Nat.le_of_ble_eq_true rfl) ⟨by omega, by omega⟩ ?_
  refine z_put (pc := 16) E dX1_changeTrust_16 fiX1_13 fpX1_1 (ok1 (by omega) (by omega)) rfl rfl (Nat.le_of_ble_eq_true rfl) ?_
  exact z_vret (pc := 19) E dX1_changeTrust_19 rfl

set_option maxRecDepth 100000 in
set_option maxHeartbeats 4000000 in
theorem m_X1_copyFrom (M : Mem) (s i s2 i2 : Nat) (hs : s < 2) (hi : i < 10) (hs2 : s2 < 2) (hi2 : i2 < 10) (hne : ¬ s2 = s) : CV yX1_copyFrom cX1_copyFrom 2 none 0 0 0 (fun G => [.ref (ad G 1 s i), .ref (ad G 1 s2 i2)]) M (fun M' => M' = mset (mset M 1 s i 0 (M 1 s2 i2 0)) 1 s i 1 (M 1 s2 i2 1)) := by
  refine CV.mk (own := RX1) (by decide +kernel) rfl (fun _ => rfl) (fun _ => Nat.le_of_ble_eq_true rfl) (lv0 := fun G => [some (.ref (ad G 1 s i)), some (.ref (ad G 1 s2 i2))]) (fun _ => rfl) (fun X G E => ?_)
  refine z_aload_0 (pc := 0) E dX1_copyFrom_0 ?_
  refine z_aload_1 (pc := 1) E dX1_copyFrom_1 ?_
  refine z_get (pc := 2) E dX1_copyFrom_2 fiX1_7 (ok1 (by omega) (by omega)) rfl rfl ?_
  refine z_put (pc := 5) E dX1_copyFrom_5 fiX1_7 fpX1_0 (ok1 (by omega) (by omega)) rfl rfl (Nat.le_of_ble_eq_true rfl) ?_
  refine z_aload_0 (pc := 8) E dX1_copyFrom_8 ?_
  refine z_aload_1 (pc := 9) E dX1_copyFrom_9 ?_
  refine z_get (pc := 10) E dX1_copyFrom_10 fiX1_13 (ok1 (by omega) (by omega)) rfl rfl ?_
  refine z_put (pc := 13) E dX1_copyFrom_13 fiX1_13 fpX1_1 (ok1 (by omega) (by omega)) rfl rfl (Nat.le_of_ble_eq_true rfl) ?_
  exact z_vret (pc := 16) E dX1_copyFrom_16 (by simp [mset, hne])

set_option maxRecDepth 100000 in
set_option maxHeartbeats 4000000 in
theorem m_X5_describe (M : Mem) (s t : Nat) (a b c d : Int32) (hs : s < 2) (ht : t < 40) : CV yX5_describe cX5_describe 5 none 0 0 0 (fun G => [.ref (ad G 2 s t), .int a, .int b, .int c, .int d]) M (fun M' => M' = mset (mset (mset (mset M 2 s t 0 a) 2 s t 1 b) 2 s t 2 c) 2 s t 3 d) := by
  refine CV.mk (own := RX5) (by decide +kernel) rfl (fun _ => rfl) (fun _ => Nat.le_of_ble_eq_true rfl) (lv0 := fun G => [some (.ref (ad G 2 s t)), some (.int a), some (.int b), some (.int c), some (.int d)]) (fun _ => rfl) (fun X G E => ?_)
  refine z_aload_0 (pc := 0) E dX5_describe_0 ?_
  refine z_iload_1 (pc := 1) E dX5_describe_1 ?_
  refine z_put (pc := 2) E dX5_describe_2 fiX5_9 fpX5_0 (ok2 (by omega) (by omega)) rfl rfl (Nat.le_of_ble_eq_true rfl) ?_
  refine z_aload_0 (pc := 5) E dX5_describe_5 ?_
  refine z_iload_2 (pc := 6) E dX5_describe_6 ?_
  refine z_put (pc := 7) E dX5_describe_7 fiX5_15 fpX5_1 (ok2 (by omega) (by omega)) rfl rfl (Nat.le_of_ble_eq_true rfl) ?_
  refine z_aload_0 (pc := 10) E dX5_describe_10 ?_
  refine z_iload_3 (pc := 11) E dX5_describe_11 ?_
  refine z_put (pc := 12) E dX5_describe_12 fiX5_18 fpX5_2 (ok2 (by omega) (by omega)) rfl rfl (Nat.le_of_ble_eq_true rfl) ?_
  refine z_aload_0 (pc := 15) E dX5_describe_15 ?_
  refine z_iload_4 (pc := 16) E dX5_describe_16 ?_
  refine z_put (pc := 18) E dX5_describe_18 fiX5_21 fpX5_3 (ok2 (by omega) (by omega)) rfl rfl (Nat.le_of_ble_eq_true rfl) ?_
  exact z_vret (pc := 21) E dX5_describe_21 rfl

set_option maxRecDepth 100000 in
set_option maxHeartbeats 4000000 in
theorem m_X5_lend (M : Mem) (s t : Nat) (a b : Int32) (hs : s < 2) (ht : t < 40) : CV yX5_lend cX5_lend 3 none 0 0 0 (fun G => [.ref (ad G 2 s t), .int a, .int b]) M (fun M' => M' = mset (mset (mset (mset (mset (mset M 2 s t 4 a) 2 s t 5 b) 2 s t 6 (b + 60)) 2 s t 7 0) 2 s t 8 0) 2 s t 9 0) := by
  refine CV.mk (own := RX5) (by decide +kernel) rfl (fun _ => rfl) (fun _ => Nat.le_of_ble_eq_true rfl) (lv0 := fun G => [some (.ref (ad G 2 s t)), some (.int a), some (.int b)]) (fun _ => rfl) (fun X G E => ?_)
  refine z_aload_0 (pc := 0) E dX5_lend_0 ?_
  refine z_iload_1 (pc := 1) E dX5_lend_1 ?_
  refine z_put (pc := 2) E dX5_lend_2 fiX5_24 fpX5_4 (ok2 (by omega) (by omega)) rfl rfl (Nat.le_of_ble_eq_true rfl) ?_
  refine z_aload_0 (pc := 5) E dX5_lend_5 ?_
  refine z_iload_2 (pc := 6) E dX5_lend_6 ?_
  refine z_put (pc := 7) E dX5_lend_7 fiX5_27 fpX5_5 (ok2 (by omega) (by omega)) rfl rfl (Nat.le_of_ble_eq_true rfl) ?_
  refine z_aload_0 (pc := 10) E dX5_lend_10 ?_
  refine z_iload_2 (pc := 11) E dX5_lend_11 ?_
  refine z_bipush (v := 60) (pc := 12) E dX5_lend_12 (by decide) ?_
  refine z_iadd (pc := 14) E dX5_lend_14 ?_
  refine z_put (pc := 15) E dX5_lend_15 fiX5_30 fpX5_6 (ok2 (by omega) (by omega)) rfl rfl (Nat.le_of_ble_eq_true rfl) ?_
  refine z_aload_0 (pc := 18) E dX5_lend_18 ?_
  refine z_iconst (v := 0) (pc := 19) E dX5_lend_19 (by decide) ?_
  refine z_put (pc := 20) E dX5_lend_20 fiX5_33 fpX5_7 (ok2 (by omega) (by omega)) rfl rfl (Nat.le_of_ble_eq_true rfl) ?_
  refine z_aload_0 (pc := 23) E dX5_lend_23 ?_
  refine z_iconst (v := 0) (pc := 24) E dX5_lend_24 (by decide) ?_
  refine z_put (pc := 25) E dX5_lend_25 fiX5_36 fpX5_8 (ok2 (by omega) (by omega)) rfl rfl (Nat.le_of_ble_eq_true rfl) ?_
  refine z_aload_0 (pc := 28) E dX5_lend_28 ?_
  refine z_iconst (v := 0) (pc := 29) E dX5_lend_29 (by decide) ?_
  refine z_put (pc := 30) E dX5_lend_30 fiX5_39 fpX5_9 (ok2 (by omega) (by omega)) rfl rfl (Nat.le_of_ble_eq_true rfl) ?_
  exact z_vret (pc := 33) E dX5_lend_33 rfl

set_option maxRecDepth 100000 in
set_option maxHeartbeats 4000000 in
theorem m_X5_extend (M : Mem) (s t : Nat) (a : Int32) (hs : s < 2) (ht : t < 40) : CV yX5_extend cX5_extend 2 none 0 0 0 (fun G => [.ref (ad G 2 s t), .int a]) M (fun M' => M' = mset (mset (mset M 2 s t 5 a) 2 s t 6 (a + 60)) 2 s t 9 (M 2 s t 9 + 1)) := by
  refine CV.mk (own := RX5) (by decide +kernel) rfl (fun _ => rfl) (fun _ => Nat.le_of_ble_eq_true rfl) (lv0 := fun G => [some (.ref (ad G 2 s t)), some (.int a)]) (fun _ => rfl) (fun X G E => ?_)
  refine z_aload_0 (pc := 0) E dX5_extend_0 ?_
  refine z_iload_1 (pc := 1) E dX5_extend_1 ?_
  refine z_put (pc := 2) E dX5_extend_2 fiX5_27 fpX5_5 (ok2 (by omega) (by omega)) rfl rfl (Nat.le_of_ble_eq_true rfl) ?_
  refine z_aload_0 (pc := 5) E dX5_extend_5 ?_
  refine z_iload_1 (pc := 6) E dX5_extend_6 ?_
  refine z_bipush (v := 60) (pc := 7) E dX5_extend_7 (by decide) ?_
  refine z_iadd (pc := 9) E dX5_extend_9 ?_
  refine z_put (pc := 10) E dX5_extend_10 fiX5_30 fpX5_6 (ok2 (by omega) (by omega)) rfl rfl (Nat.le_of_ble_eq_true rfl) ?_
  refine z_aload_0 (pc := 13) E dX5_extend_13 ?_
  refine z_dup (pc := 14) E dX5_extend_14 rfl ?_
  refine z_get (pc := 15) E dX5_extend_15 fiX5_39 (ok2 (by omega) (by omega)) rfl rfl ?_
  refine z_iconst (v := 1) (pc := 18) E dX5_extend_18 (by decide) ?_
  refine z_iadd (pc := 19) E dX5_extend_19 ?_
  refine z_put (pc := 20) E dX5_extend_20 fiX5_39 fpX5_9 (ok2 (by omega) (by omega)) rfl rfl (Nat.le_of_ble_eq_true rfl) ?_
  exact z_vret (pc := 23) E dX5_extend_23 (by simp [mset])

set_option maxRecDepth 100000 in
set_option maxHeartbeats 4000000 in
theorem m_X5_interest (M : Mem) (s t : Nat) (day : Int32) (hs : s < 2) (ht : t < 40) : CI yX5_interest cX5_interest 3 (some .int) 1 0 0 (fun G => [.ref (ad G 2 s t), .int day]) M (fun r M' => r = intr day (M 2 s t 5) (M 2 s t 4) ∧ M' = M) := by
  refine CI.mk (own := RX5) (by decide +kernel) rfl (fun _ => rfl) (fun _ => Nat.le_of_ble_eq_true rfl) (lv0 := fun G => [some (.ref (ad G 2 s t)), some (.int day), none]) (fun _ => rfl) (fun X G E => ?_)
  refine z_iload_1 (pc := 0) E dX5_interest_0 ?_
  refine z_aload_0 (pc := 1) E dX5_interest_1 ?_
  refine z_get (pc := 2) E dX5_interest_2 fiX5_27 (ok2 (by omega) (by omega)) rfl rfl ?_
  refine z_isub (pc := 5) E dX5_interest_5 ?_
  refine z_bipush (v := 30) (pc := 6) E dX5_interest_6 (by decide) ?_
  refine z_idiv (pc := 8) E dX5_interest_8 (by decide) ?_
  refine z_iconst (v := 1) (pc := 9) E dX5_interest_9 (by decide) ?_
  refine z_iadd (pc := 10) E dX5_interest_10 ?_
  refine z_istore_2 (pc := 11) E dX5_interest_11 rfl ?_
  refine z_iload_2 (pc := 12) E dX5_interest_12 ?_
  refine z_iconst (v := 1) (pc := 13) E dX5_interest_13 (by decide) ?_
  refine z_aload_0 (pc := 14) E dX5_interest_14 ?_
  refine z_get (pc := 15) E dX5_interest_15 fiX5_24 (ok2 (by omega) (by omega)) rfl rfl ?_
  refine z_iconst (v := 5) (pc := 18) E dX5_interest_18 (by decide) ?_
  refine z_imul (pc := 19) E dX5_interest_19 ?_
  refine z_bipush (v := 100) (pc := 20) E dX5_interest_20 (by decide) ?_
  refine z_idiv (pc := 22) E dX5_interest_22 (by decide) ?_
  refine z_max (pc := 23) E dX5_interest_23 mlX5_42 rfl (by decide) (Nat.le_of_ble_eq_true rfl) ⟨by omega, by omega⟩ ?_
  refine z_imul (pc := 26) E dX5_interest_26 ?_
  exact z_iret (pc := 27) E dX5_interest_27 ⟨rfl, rfl⟩

set_option maxRecDepth 100000 in
set_option maxHeartbeats 4000000 in
theorem m_X5_debt (M : Mem) (s t : Nat) (day : Int32) (hs : s < 2) (ht : t < 40) : CI yX5_debt cX5_debt 2 (some .int) 2 0 0 (fun G => [.ref (ad G 2 s t), .int day]) M (fun r M' => r = debtV M s t day ∧ M' = M) := by
  refine CI.mk (own := RX5) (by decide +kernel) rfl (fun _ => rfl) (fun _ => Nat.le_of_ble_eq_true rfl) (lv0 := fun G => [some (.ref (ad G 2 s t)), some (.int day)]) (fun _ => rfl) (fun X G E => ?_)
  refine z_aload_0 (pc := 0) E dX5_debt_0 ?_
  refine z_get (pc := 1) E dX5_debt_1 fiX5_33 (ok2 (by omega) (by omega)) rfl rfl ?_
  refine z_if_ne (pc := 4) (tgt := 20) E dX5_debt_4 (by decide) (fun h4 => ?_) (fun h4 => ?_)
  · refine z_iconst (v := 0) (pc := 20) E dX5_debt_20 (by decide) ?_
    exact z_iret (pc := 21) E dX5_debt_21 ⟨by first | exact (if_pos h4).symm | exact (if_pos (Decidable.not_not.mp h4)).symm | exact (if_neg h4).symm, rfl⟩
  · refine z_aload_0 (pc := 7) E dX5_debt_7 ?_
    refine z_get (pc := 8) E dX5_debt_8 fiX5_24 (ok2 (by omega) (by omega)) rfl rfl ?_
    refine z_aload_0 (pc := 11) E dX5_debt_11 ?_
    refine z_iload_1 (pc := 12) E dX5_debt_12 ?_
    refine z_ivp (pc := 13) E (m_X5_interest _ _ _ _ hs ht) rfl rfl kX5_interest mlX5_48 dX5_debt_13 (ok2 (by omega) (by omega)) rfl rfl rfl (Nat.le_of_ble_eq_true rfl) rfl (by decide) (by decide) ⟨by omega, by omega⟩ ?_
    refine z_iadd (pc := 16) E dX5_debt_16 ?_
    refine z_goto (pc := 17) (tgt := 21) E dX5_debt_17 (by decide) ?_
    exact z_iret (pc := 21) E dX5_debt_21 ⟨by first | exact (if_pos h4).symm | exact (if_pos (Decidable.not_not.mp h4)).symm | exact (if_neg h4).symm, rfl⟩

set_option maxRecDepth 100000 in
set_option maxHeartbeats 4000000 in
theorem m_X5_offer (M : Mem) (s t : Nat) (hs : s < 2) (ht : t < 40) : CV yX5_offer cX5_offer 1 none 0 0 0 (fun G => [.ref (ad G 2 s t)]) M (fun M' => M' = mset (mset M 2 s t 7 2) 2 s t 8 (M 2 s t 2)) := by
  refine CV.mk (own := RX5) (by decide +kernel) rfl (fun _ => rfl) (fun _ => Nat.le_of_ble_eq_true rfl) (lv0 := fun G => [some (.ref (ad G 2 s t))]) (fun _ => rfl) (fun X G E => ?_)
  refine z_aload_0 (pc := 0) E dX5_offer_0 ?_
  refine z_iconst (v := 2) (pc := 1) E dX5_offer_1 (by decide) ?_
  refine z_put (pc := 2) E dX5_offer_2 fiX5_33 fpX5_7 (ok2 (by omega) (by omega)) rfl rfl (Nat.le_of_ble_eq_true rfl) ?_
  refine z_aload_0 (pc := 5) E dX5_offer_5 ?_
  refine z_aload_0 (pc := 6) E dX5_offer_6 ?_
  refine z_get (pc := 7) E dX5_offer_7 fiX5_18 (ok2 (by omega) (by omega)) rfl rfl ?_
  refine z_put (pc := 10) E dX5_offer_10 fiX5_36 fpX5_8 (ok2 (by omega) (by omega)) rfl rfl (Nat.le_of_ble_eq_true rfl) ?_
  exact z_vret (pc := 13) E dX5_offer_13 (by simp [mset])

set_option maxRecDepth 100000 in
set_option maxHeartbeats 4000000 in
theorem m_X5_cheapen (M : Mem) (s t : Nat) (hs : s < 2) (ht : t < 40) : CV yX5_cheapen cX5_cheapen 1 none 1 0 0 (fun G => [.ref (ad G 2 s t)]) M (fun M' => M' = mset M 2 s t 8 (cheapV (M 2 s t 8) (M 2 s t 2))) := by
  refine CV.mk (own := RX5) (by decide +kernel) rfl (fun _ => rfl) (fun _ => Nat.le_of_ble_eq_true rfl) (lv0 := fun G => [some (.ref (ad G 2 s t))]) (fun _ => rfl) (fun X G E => ?_)
  refine z_aload_0 (pc := 0) E dX5_cheapen_0 ?_
  refine z_aload_0 (pc := 1) E dX5_cheapen_1 ?_
  refine z_get (pc := 2) E dX5_cheapen_2 fiX5_36 (ok2 (by omega) (by omega)) rfl rfl ?_
  refine z_aload_0 (pc := 5) E dX5_cheapen_5 ?_
  refine z_get (pc := 6) E dX5_cheapen_6 fiX5_18 (ok2 (by omega) (by omega)) rfl rfl ?_
  refine z_bipush (v := 20) (pc := 9) E dX5_cheapen_9 (by decide) ?_
  refine z_idiv (pc := 11) E dX5_cheapen_11 (by decide) ?_
  refine z_isub (pc := 12) E dX5_cheapen_12 ?_
  refine z_aload_0 (pc := 13) E dX5_cheapen_13 ?_
  refine z_get (pc := 14) E dX5_cheapen_14 fiX5_18 (ok2 (by omega) (by omega)) rfl rfl ?_
  refine z_iconst (v := 3) (pc := 17) E dX5_cheapen_17 (by decide) ?_
  refine z_imul (pc := 18) E dX5_cheapen_18 ?_
  refine z_bipush (v := 10) (pc := 19) E dX5_cheapen_19 (by decide) ?_
  refine z_idiv (pc := 21) E dX5_cheapen_21 (by decide) ?_
  refine z_max (pc := 22) E dX5_cheapen_22 mlX5_42 rfl (by decide) (Nat.le_of_ble_eq_true rfl) ⟨by omega, by omega⟩ ?_
  refine z_put (pc := 25) E dX5_cheapen_25 fiX5_36 fpX5_8 (ok2 (by omega) (by omega)) rfl rfl (Nat.le_of_ble_eq_true rfl) ?_
  exact z_vret (pc := 28) E dX5_cheapen_28 rfl

set_option maxRecDepth 100000 in
set_option maxHeartbeats 4000000 in
theorem m_X5_copyFrom (M : Mem) (s t s2 t2 : Nat) (hs : s < 2) (ht : t < 40) (hs2 : s2 < 2) (ht2 : t2 < 40) (hne : ¬ s2 = s) : CV yX5_copyFrom cX5_copyFrom 2 none 1 0 0 (fun G => [.ref (ad G 2 s t), .ref (ad G 2 s2 t2)]) M (fun M' => M' = rset M 2 s t (fun j => if j < 10 then M 2 s2 t2 j else M 2 s t j)) := by
  refine CV.mk (own := RX5) (by decide +kernel) rfl (fun _ => rfl) (fun _ => Nat.le_of_ble_eq_true rfl) (lv0 := fun G => [some (.ref (ad G 2 s t)), some (.ref (ad G 2 s2 t2))]) (fun _ => rfl) (fun X G E => ?_)
  refine z_aload_0 (pc := 0) E dX5_copyFrom_0 ?_
  refine z_aload_1 (pc := 1) E dX5_copyFrom_1 ?_
  refine z_get (pc := 2) E dX5_copyFrom_2 fiX5_9 (ok2 (by omega) (by omega)) rfl rfl ?_
  refine z_aload_1 (pc := 5) E dX5_copyFrom_5 ?_
  refine z_get (pc := 6) E dX5_copyFrom_6 fiX5_15 (ok2 (by omega) (by omega)) rfl rfl ?_
  refine z_aload_1 (pc := 9) E dX5_copyFrom_9 ?_
  refine z_get (pc := 10) E dX5_copyFrom_10 fiX5_18 (ok2 (by omega) (by omega)) rfl rfl ?_
  refine z_aload_1 (pc := 13) E dX5_copyFrom_13 ?_
  refine z_get (pc := 14) E dX5_copyFrom_14 fiX5_21 (ok2 (by omega) (by omega)) rfl rfl ?_
  refine z_vvf (pc := 17) E (m_X5_describe _ _ _ _ _ _ _ hs ht) rfl rfl kX5_describe mlX5_52 dX5_copyFrom_17 (ok2 (by omega) (by omega)) rfl rfl rfl (Nat.le_of_ble_eq_true rfl) rfl (by decide) (by decide) ⟨by omega, by omega⟩ ?_
  refine z_aload_0 (pc := 20) E dX5_copyFrom_20 ?_
  refine z_aload_1 (pc := 21) E dX5_copyFrom_21 ?_
  refine z_get (pc := 22) E dX5_copyFrom_22 fiX5_24 (ok2 (by omega) (by omega)) rfl rfl ?_
  refine z_put (pc := 25) E dX5_copyFrom_25 fiX5_24 fpX5_4 (ok2 (by omega) (by omega)) rfl rfl (Nat.le_of_ble_eq_true rfl) ?_
  refine z_aload_0 (pc := 28) E dX5_copyFrom_28 ?_
  refine z_aload_1 (pc := 29) E dX5_copyFrom_29 ?_
  refine z_get (pc := 30) E dX5_copyFrom_30 fiX5_27 (ok2 (by omega) (by omega)) rfl rfl ?_
  refine z_put (pc := 33) E dX5_copyFrom_33 fiX5_27 fpX5_5 (ok2 (by omega) (by omega)) rfl rfl (Nat.le_of_ble_eq_true rfl) ?_
  refine z_aload_0 (pc := 36) E dX5_copyFrom_36 ?_
  refine z_aload_1 (pc := 37) E dX5_copyFrom_37 ?_
  refine z_get (pc := 38) E dX5_copyFrom_38 fiX5_30 (ok2 (by omega) (by omega)) rfl rfl ?_
  refine z_put (pc := 41) E dX5_copyFrom_41 fiX5_30 fpX5_6 (ok2 (by omega) (by omega)) rfl rfl (Nat.le_of_ble_eq_true rfl) ?_
  refine z_aload_0 (pc := 44) E dX5_copyFrom_44 ?_
  refine z_aload_1 (pc := 45) E dX5_copyFrom_45 ?_
  refine z_get (pc := 46) E dX5_copyFrom_46 fiX5_33 (ok2 (by omega) (by omega)) rfl rfl ?_
  refine z_put (pc := 49) E dX5_copyFrom_49 fiX5_33 fpX5_7 (ok2 (by omega) (by omega)) rfl rfl (Nat.le_of_ble_eq_true rfl) ?_
  refine z_aload_0 (pc := 52) E dX5_copyFrom_52 ?_
  refine z_aload_1 (pc := 53) E dX5_copyFrom_53 ?_
  refine z_get (pc := 54) E dX5_copyFrom_54 fiX5_36 (ok2 (by omega) (by omega)) rfl rfl ?_
  refine z_put (pc := 57) E dX5_copyFrom_57 fiX5_36 fpX5_8 (ok2 (by omega) (by omega)) rfl rfl (Nat.le_of_ble_eq_true rfl) ?_
  refine z_aload_0 (pc := 60) E dX5_copyFrom_60 ?_
  refine z_aload_1 (pc := 61) E dX5_copyFrom_61 ?_
  refine z_get (pc := 62) E dX5_copyFrom_62 fiX5_39 (ok2 (by omega) (by omega)) rfl rfl ?_
  refine z_put (pc := 65) E dX5_copyFrom_65 fiX5_39 fpX5_9 (ok2 (by omega) (by omega)) rfl rfl (Nat.le_of_ble_eq_true rfl) ?_
  exact z_vret (pc := 68) E dX5_copyFrom_68 (by simp only [mset_r, rset_cell, rset_rset, rset_off _ _ (show ¬ ((2 : Nat) = 2 ∧ s2 = s ∧ t2 = t) from fun z => hne z.2.1)]; exact congrArg (rset M 2 s t) (upd10 _ _))
end
section
set_option maxRecDepth 100000 in
set_option maxHeartbeats 4000000 in
theorem m_X3_gapFor (M : Mem) (s i : Nat) (w : Int32) (hs : s < 2) (hi : i < 3) : CI yX3_gapFor cX3_gapFor 4 (some .int) 0 0 0 (fun G => [.ref (ad G 16 s i), .int w]) M (fun r M' => r = gapB (M 4 s i) w 0 (10 * (i + 1)) 0 0 ∧ M' = M) := by
  refine CI.mk (own := RX3) (by decide +kernel) rfl (fun _ => rfl) (fun _ => Nat.le_of_ble_eq_true rfl) (lv0 := fun G => [some (.ref (ad G 16 s i)), some (.int w), none, none]) (fun _ => rfl) (fun X G E => ?_)
  have L : ∀ (k : Nat) (j : Nat) (f : Int32), j + k = 10 * (i + 1) → gapB (M 4 s i) w 0 (10 * (i + 1)) 0 0 = gapB (M 4 s i) w 0 k j f → Z X G (0, 0) (QI X G (fun r M' => r = gapB (M 4 s i) w 0 (10 * (i + 1)) 0 0 ∧ M' = M) 0 0) 4 [some (.ref (ad G 16 s i)), some (.int w), some (.int f), some (.int (nI j))] [] (M) 0 0 := by
    intro k
    induction k with
    | zero =>
      intro j f hj hE
      refine z_iload_3 (pc := 4) E dX3_gapFor_4 ?_
      refine z_aload_0 (pc := 5) E dX3_gapFor_5 ?_
      refine z_get (pc := 6) E dX3_gapFor_6 fiX3_9 (ok16 (by omega) (by omega)) rfl rfl ?_
      refine z_alen (t0 := 0) (pc := 9) E dX3_gapFor_9 (ok4 (by omega) (by omega)) rfl rfl rfl ?_
      refine z_icmp_ge (pc := 10) (tgt := 48) E dX3_gapFor_10 (by decide) (fun h10 => ?_) (fun h10 => absurd h10 (fun z => z (ct_ge rfl (by omega) (by omega))))
      refine z_iconst (v := -1) (pc := 48) E dX3_gapFor_48 (by decide) ?_
      exact z_iret (pc := 49) E dX3_gapFor_49 ⟨by rw [hE]; rfl, rfl⟩
    | succ k ih =>
      intro j f hj hE
      refine z_iload_3 (pc := 4) E dX3_gapFor_4 ?_
      refine z_aload_0 (pc := 5) E dX3_gapFor_5 ?_
      refine z_get (pc := 6) E dX3_gapFor_6 fiX3_9 (ok16 (by omega) (by omega)) rfl rfl ?_
      refine z_alen (t0 := 0) (pc := 9) E dX3_gapFor_9 (ok4 (by omega) (by omega)) rfl rfl rfl ?_
      refine z_icmp_ge (pc := 10) (tgt := 48) E dX3_gapFor_10 (by decide) (fun h10 => absurd h10 (ct_lt rfl (by omega) (by omega))) (fun h10 => ?_)
      refine z_aload_0 (pc := 13) E dX3_gapFor_13 ?_
      refine z_get (pc := 14) E dX3_gapFor_14 fiX3_9 (ok16 (by omega) (by omega)) rfl rfl ?_
      refine z_iload_3 (pc := 17) E dX3_gapFor_17 ?_
      refine z_iald (pc := 18) E dX3_gapFor_18 (ok4 (by omega) (by omega)) rfl rfl (by omega) (by omega) ?_
      refine z_iconst (v := -1) (pc := 19) E dX3_gapFor_19 (by decide) ?_
      refine z_icmp_ne (pc := 20) (tgt := 29) E dX3_gapFor_20 (by decide) (fun h20 => ?_) (fun h20 => ?_)
      · refine z_iconst (v := 0) (pc := 29) E dX3_gapFor_29 (by decide) ?_
        refine z_istore_2 (pc := 30) E dX3_gapFor_30 rfl ?_
        refine z_iload_2 (pc := 31) E dX3_gapFor_31 ?_
        refine z_iload_1 (pc := 32) E dX3_gapFor_32 ?_
        refine z_icmp_ne (pc := 33) (tgt := 42) E dX3_gapFor_33 (by decide) (fun h33 => ?_) (fun h33 => ?_)
        · refine z_iinc_3 (pc := 42) E dX3_gapFor_42 (nI_1 j) rfl ?_
          refine z_goto (pc := 45) (tgt := 4) E dX3_gapFor_45 (by decide) ?_
          exact ih (j + 1) _ (by omega) (by rw [hE]; simp [gapB, h20, h33])
        · refine z_iload_3 (pc := 36) E dX3_gapFor_36 ?_
          refine z_iload_1 (pc := 37) E dX3_gapFor_37 ?_
          refine z_isub (pc := 38) E dX3_gapFor_38 ?_
          refine z_iconst (v := 1) (pc := 39) E dX3_gapFor_39 (by decide) ?_
          refine z_iadd (pc := 40) E dX3_gapFor_40 ?_
          exact z_iret (pc := 41) E dX3_gapFor_41 ⟨by rw [hE]; simp [gapB, h20, h33], rfl⟩
      · refine z_iload_2 (pc := 23) E dX3_gapFor_23 ?_
        refine z_iconst (v := 1) (pc := 24) E dX3_gapFor_24 (by decide) ?_
        refine z_iadd (pc := 25) E dX3_gapFor_25 ?_
        refine z_goto (pc := 26) (tgt := 30) E dX3_gapFor_26 (by decide) ?_
        refine z_istore_2 (pc := 30) E dX3_gapFor_30 rfl ?_
        refine z_iload_2 (pc := 31) E dX3_gapFor_31 ?_
        refine z_iload_1 (pc := 32) E dX3_gapFor_32 ?_
        refine z_icmp_ne (pc := 33) (tgt := 42) E dX3_gapFor_33 (by decide) (fun h33 => ?_) (fun h33 => ?_)
        · refine z_iinc_3 (pc := 42) E dX3_gapFor_42 (nI_1 j) rfl ?_
          refine z_goto (pc := 45) (tgt := 4) E dX3_gapFor_45 (by decide) ?_
          exact ih (j + 1) _ (by omega) (by rw [hE]; simp [gapB, h20, h33])
        · refine z_iload_3 (pc := 36) E dX3_gapFor_36 ?_
          refine z_iload_1 (pc := 37) E dX3_gapFor_37 ?_
          refine z_isub (pc := 38) E dX3_gapFor_38 ?_
          refine z_iconst (v := 1) (pc := 39) E dX3_gapFor_39 (by decide) ?_
          refine z_iadd (pc := 40) E dX3_gapFor_40 ?_
          exact z_iret (pc := 41) E dX3_gapFor_41 ⟨by rw [hE]; simp [gapB, h20, h33], rfl⟩
  refine z_iconst (v := 0) (pc := 0) E dX3_gapFor_0 (by decide) ?_
  refine z_istore_2 (pc := 1) E dX3_gapFor_1 rfl ?_
  refine z_iconst (v := 0) (pc := 2) E dX3_gapFor_2 (by decide) ?_
  refine z_istore_3 (pc := 3) E dX3_gapFor_3 rfl ?_
  exact L (10 * (i + 1)) 0 0 (by omega) rfl

set_option maxRecDepth 100000 in
set_option maxHeartbeats 4000000 in
theorem m_X3_leftmostOf (M : Mem) (s i : Nat) (t : Int32) (hs : s < 2) (hi : i < 3) : CI yX3_leftmostOf cX3_leftmostOf 3 (some .int) 0 0 0 (fun G => [.ref (ad G 16 s i), .int t]) M (fun r M' => r = leftF (M 4 s i) t (10 * (i + 1)) 0 ∧ M' = M) := by
  refine CI.mk (own := RX3) (by decide +kernel) rfl (fun _ => rfl) (fun _ => Nat.le_of_ble_eq_true rfl) (lv0 := fun G => [some (.ref (ad G 16 s i)), some (.int t), none]) (fun _ => rfl) (fun X G E => ?_)
  have L : ∀ (k : Nat) (j : Nat), j + k = 10 * (i + 1) → leftF (M 4 s i) t (10 * (i + 1)) 0 = leftF (M 4 s i) t k j → Z X G (0, 0) (QI X G (fun r M' => r = leftF (M 4 s i) t (10 * (i + 1)) 0 ∧ M' = M) 0 0) 2 [some (.ref (ad G 16 s i)), some (.int t), some (.int (nI j))] [] (M) 0 0 := by
    intro k
    induction k with
    | zero =>
      intro j hj hE
      refine z_iload_2 (pc := 2) E dX3_leftmostOf_2 ?_
      refine z_aload_0 (pc := 3) E dX3_leftmostOf_3 ?_
      refine z_get (pc := 4) E dX3_leftmostOf_4 fiX3_9 (ok16 (by omega) (by omega)) rfl rfl ?_
      refine z_alen (t0 := 0) (pc := 7) E dX3_leftmostOf_7 (ok4 (by omega) (by omega)) rfl rfl rfl ?_
      refine z_icmp_ge (pc := 8) (tgt := 29) E dX3_leftmostOf_8 (by decide) (fun h8 => ?_) (fun h8 => absurd h8 (fun z => z (ct_ge rfl (by omega) (by omega))))
      refine z_iconst (v := -1) (pc := 29) E dX3_leftmostOf_29 (by decide) ?_
      exact z_iret (pc := 30) E dX3_leftmostOf_30 ⟨by rw [hE]; rfl, rfl⟩
    | succ k ih =>
      intro j hj hE
      refine z_iload_2 (pc := 2) E dX3_leftmostOf_2 ?_
      refine z_aload_0 (pc := 3) E dX3_leftmostOf_3 ?_
      refine z_get (pc := 4) E dX3_leftmostOf_4 fiX3_9 (ok16 (by omega) (by omega)) rfl rfl ?_
      refine z_alen (t0 := 0) (pc := 7) E dX3_leftmostOf_7 (ok4 (by omega) (by omega)) rfl rfl rfl ?_
      refine z_icmp_ge (pc := 8) (tgt := 29) E dX3_leftmostOf_8 (by decide) (fun h8 => absurd h8 (ct_lt rfl (by omega) (by omega))) (fun h8 => ?_)
      refine z_aload_0 (pc := 11) E dX3_leftmostOf_11 ?_
      refine z_get (pc := 12) E dX3_leftmostOf_12 fiX3_9 (ok16 (by omega) (by omega)) rfl rfl ?_
      refine z_iload_2 (pc := 15) E dX3_leftmostOf_15 ?_
      refine z_iald (pc := 16) E dX3_leftmostOf_16 (ok4 (by omega) (by omega)) rfl rfl (by omega) (by omega) ?_
      refine z_iload_1 (pc := 17) E dX3_leftmostOf_17 ?_
      refine z_icmp_ne (pc := 18) (tgt := 23) E dX3_leftmostOf_18 (by decide) (fun h18 => ?_) (fun h18 => ?_)
      · refine z_iinc_2 (pc := 23) E dX3_leftmostOf_23 (nI_1 j) rfl ?_
        refine z_goto (pc := 26) (tgt := 2) E dX3_leftmostOf_26 (by decide) ?_
        exact ih (j + 1) (by omega) (by rw [hE]; simp [leftF, h18])
      · refine z_iload_2 (pc := 21) E dX3_leftmostOf_21 ?_
        exact z_iret (pc := 22) E dX3_leftmostOf_22 ⟨by rw [hE]; simp [leftF, h18], rfl⟩
  refine z_iconst (v := 0) (pc := 0) E dX3_leftmostOf_0 (by decide) ?_
  refine z_istore_2 (pc := 1) E dX3_leftmostOf_1 rfl ?_
  exact L (10 * (i + 1)) 0 (by omega) rfl

set_option maxRecDepth 100000 in
set_option maxHeartbeats 4000000 in
theorem m_X3_taken (M : Mem) (s i : Nat) (hs : s < 2) (hi : i < 3) : CI yX3_taken cX3_taken 3 (some .int) 0 0 0 (fun G => [.ref (ad G 16 s i)]) M (fun r M' => r = fsum (10 * (i + 1)) (fun j => b2 (¬ M 4 s i j = -1)) ∧ M' = M) := by
  refine CI.mk (own := RX3) (by decide +kernel) rfl (fun _ => rfl) (fun _ => Nat.le_of_ble_eq_true rfl) (lv0 := fun G => [some (.ref (ad G 16 s i)), none, none]) (fun _ => rfl) (fun X G E => ?_)
  have L : ∀ (k : Nat) (j : Nat), j + k = 10 * (i + 1) → Z X G (0, 0) (QI X G (fun r M' => r = fsum (10 * (i + 1)) (fun j => b2 (¬ M 4 s i j = -1)) ∧ M' = M) 0 0) 4 [some (.ref (ad G 16 s i)), some (.int (fsum j (fun j => b2 (¬ M 4 s i j = -1)))), some (.int (nI j))] [] (M) 0 0 := by
    intro k
    induction k with
    | zero =>
      intro j hj
      obtain rfl : j = 10 * (i + 1) := by omega
      refine z_iload_2 (pc := 4) E dX3_taken_4 ?_
      refine z_aload_0 (pc := 5) E dX3_taken_5 ?_
      refine z_get (pc := 6) E dX3_taken_6 fiX3_9 (ok16 (by omega) (by omega)) rfl rfl ?_
      refine z_alen (t0 := 0) (pc := 9) E dX3_taken_9 (ok4 (by omega) (by omega)) rfl rfl rfl ?_
      refine z_icmp_ge (pc := 10) (tgt := 32) E dX3_taken_10 (by decide) (fun h10 => ?_) (fun h10 => absurd h10 (fun z => z (ct_ge rfl (by omega) (by omega))))
      refine z_iload_1 (pc := 32) E dX3_taken_32 ?_
      exact z_iret (pc := 33) E dX3_taken_33 ⟨rfl, rfl⟩
    | succ k ih =>
      intro j hj
      refine z_iload_2 (pc := 4) E dX3_taken_4 ?_
      refine z_aload_0 (pc := 5) E dX3_taken_5 ?_
      refine z_get (pc := 6) E dX3_taken_6 fiX3_9 (ok16 (by omega) (by omega)) rfl rfl ?_
      refine z_alen (t0 := 0) (pc := 9) E dX3_taken_9 (ok4 (by omega) (by omega)) rfl rfl rfl ?_
      refine z_icmp_ge (pc := 10) (tgt := 32) E dX3_taken_10 (by decide) (fun h10 => absurd h10 (ct_lt rfl (by omega) (by omega))) (fun h10 => ?_)
      refine z_aload_0 (pc := 13) E dX3_taken_13 ?_
      refine z_get (pc := 14) E dX3_taken_14 fiX3_9 (ok16 (by omega) (by omega)) rfl rfl ?_
      refine z_iload_2 (pc := 17) E dX3_taken_17 ?_
      refine z_iald (pc := 18) E dX3_taken_18 (ok4 (by omega) (by omega)) rfl rfl (by omega) (by omega) ?_
      refine z_iconst (v := -1) (pc := 19) E dX3_taken_19 (by decide) ?_
      refine z_icmp_eq (pc := 20) (tgt := 26) E dX3_taken_20 (by decide) (fun h20 => ?_) (fun h20 => ?_)
      · refine z_iinc_2 (pc := 26) E dX3_taken_26 (nI_1 j) rfl ?_
        refine z_goto (pc := 29) (tgt := 4) E dX3_taken_29 (by decide) ?_
        first | exact ih (j + 1) (by omega) | exact (show fsum (j + 1) (fun j => b2 (¬ M 4 s i j = -1)) = fsum j (fun j => b2 (¬ M 4 s i j = -1)) from by show fsum j (fun j => b2 (¬ M 4 s i j = -1)) + b2 _ = _; rw [b2_f (fun z => z h20)]; exact Int32.add_zero _) ▸ ih (j + 1) (by omega)
      · refine z_iinc_1 (pc := 23) E dX3_taken_23 (show fsum j (fun j => b2 (¬ M 4 s i j = -1)) + Int32.ofInt 1 = fsum (j + 1) (fun j => b2 (¬ M 4 s i j = -1)) from by show _ = fsum j (fun j => b2 (¬ M 4 s i j = -1)) + b2 _; rw [b2_t h20]; rfl) rfl ?_
        refine z_iinc_2 (pc := 26) E dX3_taken_26 (nI_1 j) rfl ?_
        refine z_goto (pc := 29) (tgt := 4) E dX3_taken_29 (by decide) ?_
        first | exact ih (j + 1) (by omega) | exact (show fsum (j + 1) (fun j => b2 (¬ M 4 s i j = -1)) = fsum j (fun j => b2 (¬ M 4 s i j = -1)) from by show fsum j (fun j => b2 (¬ M 4 s i j = -1)) + b2 _ = _; rw [b2_f (fun z => z h20)]; exact Int32.add_zero _) ▸ ih (j + 1) (by omega)
  refine z_iconst (v := 0) (pc := 0) E dX3_taken_0 (by decide) ?_
  refine z_istore_1 (pc := 1) E dX3_taken_1 rfl ?_
  refine z_iconst (v := 0) (pc := 2) E dX3_taken_2 (by decide) ?_
  refine z_istore_2 (pc := 3) E dX3_taken_3 rfl ?_
  exact L (10 * (i + 1)) 0 (by omega)

set_option maxRecDepth 100000 in
set_option maxHeartbeats 4000000 in
theorem m_X3_clear (M : Mem) (s i : Nat) (t : Int32) (hs : s < 2) (hi : i < 3) : CV yX3_clear cX3_clear 3 none 0 0 0 (fun G => [.ref (ad G 16 s i), .int t]) M (fun M' => M' = rset M 4 s i (clrF (M 4 s i) t (10 * (i + 1)))) := by
  refine CV.mk (own := RX3) (by decide +kernel) rfl (fun _ => rfl) (fun _ => Nat.le_of_ble_eq_true rfl) (lv0 := fun G => [some (.ref (ad G 16 s i)), some (.int t), none]) (fun _ => rfl) (fun X G E => ?_)
  have L : ∀ (k : Nat) (j : Nat), j + k = 10 * (i + 1) → Z X G (0, 0) (QV X G (fun M' => M' = rset M 4 s i (clrF (M 4 s i) t (10 * (i + 1)))) 0 0) 2 [some (.ref (ad G 16 s i)), some (.int t), some (.int (nI j))] [] (rset M 4 s i (clrF (M 4 s i) t j)) 0 0 := by
    intro k
    induction k with
    | zero =>
      intro j hj
      obtain rfl : j = 10 * (i + 1) := by omega
      refine z_iload_2 (pc := 2) E dX3_clear_2 ?_
      refine z_aload_0 (pc := 3) E dX3_clear_3 ?_
      refine z_get (pc := 4) E dX3_clear_4 fiX3_9 (ok16 (by omega) (by omega)) rfl rfl ?_
      refine z_alen (t0 := 0) (pc := 7) E dX3_clear_7 (ok4 (by omega) (by omega)) rfl rfl rfl ?_
      refine z_icmp_ge (pc := 8) (tgt := 34) E dX3_clear_8 (by decide) (fun h8 => ?_) (fun h8 => absurd h8 (fun z => z (ct_ge rfl (by omega) (by omega))))
      exact z_vret (pc := 34) E dX3_clear_34 rfl
    | succ k ih =>
      intro j hj
      refine z_iload_2 (pc := 2) E dX3_clear_2 ?_
      refine z_aload_0 (pc := 3) E dX3_clear_3 ?_
      refine z_get (pc := 4) E dX3_clear_4 fiX3_9 (ok16 (by omega) (by omega)) rfl rfl ?_
      refine z_alen (t0 := 0) (pc := 7) E dX3_clear_7 (ok4 (by omega) (by omega)) rfl rfl rfl ?_
      refine z_icmp_ge (pc := 8) (tgt := 34) E dX3_clear_8 (by decide) (fun h8 => absurd h8 (ct_lt rfl (by omega) (by omega))) (fun h8 => ?_)
      refine z_aload_0 (pc := 11) E dX3_clear_11 ?_
      refine z_get (pc := 12) E dX3_clear_12 fiX3_9 (ok16 (by omega) (by omega)) rfl rfl ?_
      refine z_iload_2 (pc := 15) E dX3_clear_15 ?_
      refine z_iald (pc := 16) E dX3_clear_16 (ok4 (by omega) (by omega)) rfl rfl (by omega) (by omega) ?_
      rw [rset_cell, clr_j]
      refine z_iload_1 (pc := 17) E dX3_clear_17 ?_
      refine z_icmp_ne (pc := 18) (tgt := 28) E dX3_clear_18 (by decide) (fun h18 => ?_) (fun h18 => ?_)
      · refine z_iinc_2 (pc := 28) E dX3_clear_28 (nI_1 j) rfl ?_
        refine z_goto (pc := 31) (tgt := 2) E dX3_clear_31 (by decide) ?_
        first | exact z_mem (by rw [mset_rset]; exact rset_congr (clr_s h18)) (ih (j + 1) (by omega)) | exact z_mem (rset_congr (clr_n h18)) (ih (j + 1) (by omega))
      · refine z_aload_0 (pc := 21) E dX3_clear_21 ?_
        refine z_get (pc := 22) E dX3_clear_22 fiX3_9 (ok16 (by omega) (by omega)) rfl rfl ?_
        refine z_iload_2 (pc := 25) E dX3_clear_25 ?_
        refine z_iconst (v := -1) (pc := 26) E dX3_clear_26 (by decide) ?_
        refine z_iast (pc := 27) E dX3_clear_27 (ok4 (by omega) (by omega)) (fun _ => rfl) rfl (by omega) (by omega) ?_
        refine z_iinc_2 (pc := 28) E dX3_clear_28 (nI_1 j) rfl ?_
        refine z_goto (pc := 31) (tgt := 2) E dX3_clear_31 (by decide) ?_
        first | exact z_mem (by rw [mset_rset]; exact rset_congr (clr_s h18)) (ih (j + 1) (by omega)) | exact z_mem (rset_congr (clr_n h18)) (ih (j + 1) (by omega))
  refine z_iconst (v := 0) (pc := 0) E dX3_clear_0 (by decide) ?_
  refine z_istore_2 (pc := 1) E dX3_clear_1 rfl ?_
  exact z_mem (by rw [clr_0, rset_self]) (L (10 * (i + 1)) 0 (by omega))

set_option maxRecDepth 100000 in
set_option maxHeartbeats 4000000 in
theorem m_X3_lay (M : Mem) (s i : Nat) (t a w : Int32) (hs : s < 2) (hi : i < 3) : CV yX3_lay cX3_lay 5 none 0 0 0 (fun G => [.ref (ad G 16 s i), .int t, .int a, .int w]) M (fun M' => M' = rset M 4 s i (layF (M 4 s i) t a w (10 * (i + 1)))) := by
  refine CV.mk (own := RX3) (by decide +kernel) rfl (fun _ => rfl) (fun _ => Nat.le_of_ble_eq_true rfl) (lv0 := fun G => [some (.ref (ad G 16 s i)), some (.int t), some (.int a), some (.int w), none]) (fun _ => rfl) (fun X G E => ?_)
  have L : ∀ (k : Nat) (j : Nat), j + k = 10 * (i + 1) → Z X G (0, 0) (QV X G (fun M' => M' = rset M 4 s i (layF (M 4 s i) t a w (10 * (i + 1)))) 0 0) 3 [some (.ref (ad G 16 s i)), some (.int t), some (.int a), some (.int w), some (.int (nI j))] [] (rset M 4 s i (layF (M 4 s i) t a w j)) 0 0 := by
    intro k
    induction k with
    | zero =>
      intro j hj
      obtain rfl : j = 10 * (i + 1) := by omega
      refine z_iload_4 (pc := 3) E dX3_lay_3 ?_
      refine z_aload_0 (pc := 5) E dX3_lay_5 ?_
      refine z_get (pc := 6) E dX3_lay_6 fiX3_9 (ok16 (by omega) (by omega)) rfl rfl ?_
      refine z_alen (t0 := 0) (pc := 9) E dX3_lay_9 (ok4 (by omega) (by omega)) rfl rfl rfl ?_
      refine z_icmp_ge (pc := 10) (tgt := 41) E dX3_lay_10 (by decide) (fun h10 => ?_) (fun h10 => absurd h10 (fun z => z (ct_ge rfl (by omega) (by omega))))
      exact z_vret (pc := 41) E dX3_lay_41 rfl
    | succ k ih =>
      intro j hj
      refine z_iload_4 (pc := 3) E dX3_lay_3 ?_
      refine z_aload_0 (pc := 5) E dX3_lay_5 ?_
      refine z_get (pc := 6) E dX3_lay_6 fiX3_9 (ok16 (by omega) (by omega)) rfl rfl ?_
      refine z_alen (t0 := 0) (pc := 9) E dX3_lay_9 (ok4 (by omega) (by omega)) rfl rfl rfl ?_
      refine z_icmp_ge (pc := 10) (tgt := 41) E dX3_lay_10 (by decide) (fun h10 => absurd h10 (ct_lt rfl (by omega) (by omega))) (fun h10 => ?_)
      refine z_iload_4 (pc := 13) E dX3_lay_13 ?_
      refine z_iload_2 (pc := 15) E dX3_lay_15 ?_
      refine z_icmp_lt (pc := 16) (tgt := 35) E dX3_lay_16 (by decide) (fun h16 => ?_) (fun h16 => ?_)
      · refine z_iinc_4 (pc := 35) E dX3_lay_35 (nI_1 j) rfl ?_
        refine z_goto (pc := 38) (tgt := 3) E dX3_lay_38 (by decide) ?_
        first | exact z_mem (by rw [mset_rset]; exact rset_congr (lay_s ⟨Int32.not_lt.mp h16, Int32.not_le.mp h24⟩)) (ih (j + 1) (by omega)) | exact z_mem (rset_congr (lay_n (fun z => Int32.not_le.mpr z.2 h24))) (ih (j + 1) (by omega)) | exact z_mem (rset_congr (lay_n (fun z => Int32.not_le.mpr h16 z.1))) (ih (j + 1) (by omega))
      · refine z_iload_4 (pc := 19) E dX3_lay_19 ?_
        refine z_iload_2 (pc := 21) E dX3_lay_21 ?_
        refine z_iload_3 (pc := 22) E dX3_lay_22 ?_
        refine z_iadd (pc := 23) E dX3_lay_23 ?_
        refine z_icmp_ge (pc := 24) (tgt := 35) E dX3_lay_24 (by decide) (fun h24 => ?_) (fun h24 => ?_)
        · refine z_iinc_4 (pc := 35) E dX3_lay_35 (nI_1 j) rfl ?_
          refine z_goto (pc := 38) (tgt := 3) E dX3_lay_38 (by decide) ?_
          first | exact z_mem (by rw [mset_rset]; exact rset_congr (lay_s ⟨Int32.not_lt.mp h16, Int32.not_le.mp h24⟩)) (ih (j + 1) (by omega)) | exact z_mem (rset_congr (lay_n (fun z => Int32.not_le.mpr z.2 h24))) (ih (j + 1) (by omega)) | exact z_mem (rset_congr (lay_n (fun z => Int32.not_le.mpr h16 z.1))) (ih (j + 1) (by omega))
        · refine z_aload_0 (pc := 27) E dX3_lay_27 ?_
          refine z_get (pc := 28) E dX3_lay_28 fiX3_9 (ok16 (by omega) (by omega)) rfl rfl ?_
          refine z_iload_4 (pc := 31) E dX3_lay_31 ?_
          refine z_iload_1 (pc := 33) E dX3_lay_33 ?_
          refine z_iast (pc := 34) E dX3_lay_34 (ok4 (by omega) (by omega)) (fun _ => rfl) rfl (by omega) (by omega) ?_
          refine z_iinc_4 (pc := 35) E dX3_lay_35 (nI_1 j) rfl ?_
          refine z_goto (pc := 38) (tgt := 3) E dX3_lay_38 (by decide) ?_
          first | exact z_mem (by rw [mset_rset]; exact rset_congr (lay_s ⟨Int32.not_lt.mp h16, Int32.not_le.mp h24⟩)) (ih (j + 1) (by omega)) | exact z_mem (rset_congr (lay_n (fun z => Int32.not_le.mpr z.2 h24))) (ih (j + 1) (by omega)) | exact z_mem (rset_congr (lay_n (fun z => Int32.not_le.mpr h16 z.1))) (ih (j + 1) (by omega))
  refine z_iconst (v := 0) (pc := 0) E dX3_lay_0 (by decide) ?_
  refine z_istore_4 (pc := 1) E dX3_lay_1 rfl ?_
  exact z_mem (by rw [lay_0, rset_self]) (L (10 * (i + 1)) 0 (by omega))

set_option maxRecDepth 100000 in
set_option maxHeartbeats 4000000 in
theorem m_X3_copyFrom (M : Mem) (s i : Nat) (s2 : Nat) (hs : s < 2) (hi : i < 3) (hs2 : s2 < 2) (hne : ¬ s2 = s) : CV yX3_copyFrom cX3_copyFrom 3 none 0 0 0 (fun G => [.ref (ad G 16 s i), .ref (ad G 16 s2 i)]) M (fun M' => M' = rset M 4 s i (cpyF (M 4 s i) (M 4 s2 i) (10 * (i + 1)))) := by
  refine CV.mk (own := RX3) (by decide +kernel) rfl (fun _ => rfl) (fun _ => Nat.le_of_ble_eq_true rfl) (lv0 := fun G => [some (.ref (ad G 16 s i)), some (.ref (ad G 16 s2 i)), none]) (fun _ => rfl) (fun X G E => ?_)
  have L : ∀ (k : Nat) (j : Nat), j + k = 10 * (i + 1) → Z X G (0, 0) (QV X G (fun M' => M' = rset M 4 s i (cpyF (M 4 s i) (M 4 s2 i) (10 * (i + 1)))) 0 0) 2 [some (.ref (ad G 16 s i)), some (.ref (ad G 16 s2 i)), some (.int (nI j))] [] (rset M 4 s i (cpyF (M 4 s i) (M 4 s2 i) j)) 0 0 := by
    intro k
    induction k with
    | zero =>
      intro j hj
      obtain rfl : j = 10 * (i + 1) := by omega
      refine z_iload_2 (pc := 2) E dX3_copyFrom_2 ?_
      refine z_aload_0 (pc := 3) E dX3_copyFrom_3 ?_
      refine z_get (pc := 4) E dX3_copyFrom_4 fiX3_9 (ok16 (by omega) (by omega)) rfl rfl ?_
      refine z_alen (t0 := 0) (pc := 7) E dX3_copyFrom_7 (ok4 (by omega) (by omega)) rfl rfl rfl ?_
      refine z_icmp_ge (pc := 8) (tgt := 38) E dX3_copyFrom_8 (by decide) (fun h8 => ?_) (fun h8 => absurd h8 (fun z => z (ct_ge rfl (by omega) (by omega))))
      exact z_vret (pc := 38) E dX3_copyFrom_38 rfl
    | succ k ih =>
      intro j hj
      refine z_iload_2 (pc := 2) E dX3_copyFrom_2 ?_
      refine z_aload_0 (pc := 3) E dX3_copyFrom_3 ?_
      refine z_get (pc := 4) E dX3_copyFrom_4 fiX3_9 (ok16 (by omega) (by omega)) rfl rfl ?_
      refine z_alen (t0 := 0) (pc := 7) E dX3_copyFrom_7 (ok4 (by omega) (by omega)) rfl rfl rfl ?_
      refine z_icmp_ge (pc := 8) (tgt := 38) E dX3_copyFrom_8 (by decide) (fun h8 => absurd h8 (ct_lt rfl (by omega) (by omega))) (fun h8 => ?_)
      refine z_iload_2 (pc := 11) E dX3_copyFrom_11 ?_
      refine z_aload_1 (pc := 12) E dX3_copyFrom_12 ?_
      refine z_get (pc := 13) E dX3_copyFrom_13 fiX3_9 (ok16 (by omega) (by omega)) rfl rfl ?_
      refine z_alen (t0 := 0) (pc := 16) E dX3_copyFrom_16 (ok4 (by omega) (by omega)) rfl rfl rfl ?_
      refine z_icmp_ge (pc := 17) (tgt := 38) E dX3_copyFrom_17 (by decide) (fun h17 => absurd h17 (ct_lt rfl (by omega) (by omega))) (fun h17 => ?_)
      refine z_aload_0 (pc := 20) E dX3_copyFrom_20 ?_
      refine z_get (pc := 21) E dX3_copyFrom_21 fiX3_9 (ok16 (by omega) (by omega)) rfl rfl ?_
      refine z_iload_2 (pc := 24) E dX3_copyFrom_24 ?_
      refine z_aload_1 (pc := 25) E dX3_copyFrom_25 ?_
      refine z_get (pc := 26) E dX3_copyFrom_26 fiX3_9 (ok16 (by omega) (by omega)) rfl rfl ?_
      refine z_iload_2 (pc := 29) E dX3_copyFrom_29 ?_
      refine z_iald (pc := 30) E dX3_copyFrom_30 (ok4 (by omega) (by omega)) rfl rfl (by omega) (by omega) ?_
      rw [rset_off _ _ (show ¬ ((4 : Nat) = 4 ∧ s2 = s ∧ i = i) from fun z => hne z.2.1)]
      refine z_iast (pc := 31) E dX3_copyFrom_31 (ok4 (by omega) (by omega)) (fun _ => rfl) rfl (by omega) (by omega) ?_
      refine z_iinc_2 (pc := 32) E dX3_copyFrom_32 (nI_1 j) rfl ?_
      refine z_goto (pc := 35) (tgt := 2) E dX3_copyFrom_35 (by decide) ?_
      exact z_mem (by rw [mset_rset]; exact rset_congr cpy_s) (ih (j + 1) (by omega))
  refine z_iconst (v := 0) (pc := 0) E dX3_copyFrom_0 (by decide) ?_
  refine z_istore_2 (pc := 1) E dX3_copyFrom_1 rfl ?_
  exact z_mem (by rw [cpy_0, rset_self]) (L (10 * (i + 1)) 0 (by omega))

set_option maxRecDepth 100000 in
set_option maxHeartbeats 4000000 in
theorem m_X3_pushLeft (M : Mem) (s i : Nat) (hs : s < 2) (hi : i < 3) : CI yX3_pushLeft cX3_pushLeft 6 (some .int) 0 0 0 (fun G => [.ref (ad G 16 s i)]) M (fun r M' => r = (pushF (10 * (i + 1)) 0 0 (-1) 0 (M 4 s i)).1 ∧ M' = rset M 4 s i (pushF (10 * (i + 1)) 0 0 (-1) 0 (M 4 s i)).2) := by
  refine CI.mk (own := RX3) (by decide +kernel) rfl (fun _ => rfl) (fun _ => Nat.le_of_ble_eq_true rfl) (lv0 := fun G => [some (.ref (ad G 16 s i)), none, none, none, none, none]) (fun _ => rfl) (fun X G E => ?_)
  have L : ∀ (k : Nat) (j : Nat) (m l : Int32) (to : Nat) (p : Nat → Int32) (v5 : Option Value), j + k = 10 * (i + 1) → to ≤ j → pushF (10 * (i + 1)) 0 0 (-1) 0 (M 4 s i) = pushF k j m l to p → Z X G (0, 0) (QI X G (fun r M' => r = (pushF (10 * (i + 1)) 0 0 (-1) 0 (M 4 s i)).1 ∧ M' = rset M 4 s i (pushF (10 * (i + 1)) 0 0 (-1) 0 (M 4 s i)).2) 0 0) 9 [some (.ref (ad G 16 s i)), some (.int m), some (.int l), some (.int (nI to)), some (.int (nI j)), v5] [] (rset M 4 s i p) 0 0 := by
    intro k
    induction k with
    | zero =>
      intro j m l to p v5 hj hto hE
      refine z_iload_4 (pc := 9) E dX3_pushLeft_9 ?_
      refine z_aload_0 (pc := 11) E dX3_pushLeft_11 ?_
      refine z_get (pc := 12) E dX3_pushLeft_12 fiX3_9 (ok16 (by omega) (by omega)) rfl rfl ?_
      refine z_alen (t0 := 0) (pc := 15) E dX3_pushLeft_15 (ok4 (by omega) (by omega)) rfl rfl rfl ?_
      refine z_icmp_ge (pc := 16) (tgt := 77) E dX3_pushLeft_16 (by decide) (fun h16 => ?_) (fun h16 => absurd h16 (fun z => z (ct_ge rfl (by omega) (by omega))))
      refine z_iload_1 (pc := 77) E dX3_pushLeft_77 ?_
      exact z_iret (pc := 78) E dX3_pushLeft_78 ⟨by rw [hE]; rfl, by rw [hE]; rfl⟩
    | succ k ih =>
      intro j m l to p v5 hj hto hE
      refine z_iload_4 (pc := 9) E dX3_pushLeft_9 ?_
      refine z_aload_0 (pc := 11) E dX3_pushLeft_11 ?_
      refine z_get (pc := 12) E dX3_pushLeft_12 fiX3_9 (ok16 (by omega) (by omega)) rfl rfl ?_
      refine z_alen (t0 := 0) (pc := 15) E dX3_pushLeft_15 (ok4 (by omega) (by omega)) rfl rfl rfl ?_
      refine z_icmp_ge (pc := 16) (tgt := 77) E dX3_pushLeft_16 (by decide) (fun h16 => absurd h16 (ct_lt rfl (by omega) (by omega))) (fun h16 => ?_)
      refine z_aload_0 (pc := 19) E dX3_pushLeft_19 ?_
      refine z_get (pc := 20) E dX3_pushLeft_20 fiX3_9 (ok16 (by omega) (by omega)) rfl rfl ?_
      refine z_iload_4 (pc := 23) E dX3_pushLeft_23 ?_
      refine z_iald (pc := 25) E dX3_pushLeft_25 (ok4 (by omega) (by omega)) rfl rfl (by omega) (by omega) ?_
      rw [rset_cell]
      refine z_istore_5 (pc := 26) E dX3_pushLeft_26 rfl ?_
      refine z_iload_5 (pc := 28) E dX3_pushLeft_28 ?_
      refine z_iconst (v := -1) (pc := 30) E dX3_pushLeft_30 (by decide) ?_
      refine z_icmp_eq (pc := 31) (tgt := 71) E dX3_pushLeft_31 (by decide) (fun h31 => ?_) (fun h31 => ?_)
      · refine z_iinc_4 (pc := 71) E dX3_pushLeft_71 (nI_1 j) rfl ?_
        refine z_goto (pc := 74) (tgt := 9) E dX3_pushLeft_74 (by decide) ?_
        first | exact ih (j + 1) _ _ _ _ _ (by omega) (by omega) (hE.trans (push_n h31)) | exact z_mem (by rw [mset_rset, mset_rset]) (ih (j + 1) _ _ (to + 1) _ _ (by omega) (by omega) (hE.trans (push_a h31 (Or.inl h37)))) | exact z_mem (by rw [mset_rset, mset_rset]) (ih (j + 1) _ _ (to + 1) _ _ (by omega) (by omega) (hE.trans (push_a h31 (Or.inr ((nI_leI (n31 (by omega)) (n31 (by omega))).mp h43))))) | exact z_mem (by rw [mset_rset, mset_rset]) (ih (j + 1) _ _ (to + 1) _ _ (by omega) (by omega) (hE.trans (push_b h31 h37 (Nat.not_le.mp (fun z => h43 ((nI_leI (n31 (by omega)) (n31 (by omega))).mpr z))))))
      · refine z_iload_5 (pc := 34) E dX3_pushLeft_34 ?_
        refine z_iload_2 (pc := 36) E dX3_pushLeft_36 ?_
        refine z_icmp_eq (pc := 37) (tgt := 49) E dX3_pushLeft_37 (by decide) (fun h37 => ?_) (fun h37 => ?_)
        · refine z_iload_5 (pc := 49) E dX3_pushLeft_49 ?_
          refine z_istore_2 (pc := 51) E dX3_pushLeft_51 rfl ?_
          refine z_aload_0 (pc := 52) E dX3_pushLeft_52 ?_
          refine z_get (pc := 53) E dX3_pushLeft_53 fiX3_9 (ok16 (by omega) (by omega)) rfl rfl ?_
          refine z_iload_4 (pc := 56) E dX3_pushLeft_56 ?_
          refine z_iconst (v := -1) (pc := 58) E dX3_pushLeft_58 (by decide) ?_
          refine z_iast (pc := 59) E dX3_pushLeft_59 (ok4 (by omega) (by omega)) (fun _ => rfl) rfl (by omega) (by omega) ?_
          refine z_aload_0 (pc := 60) E dX3_pushLeft_60 ?_
          refine z_get (pc := 61) E dX3_pushLeft_61 fiX3_9 (ok16 (by omega) (by omega)) rfl rfl ?_
          refine z_iload_3 (pc := 64) E dX3_pushLeft_64 ?_
          refine z_iload_5 (pc := 65) E dX3_pushLeft_65 ?_
          refine z_iast (pc := 67) E dX3_pushLeft_67 (ok4 (by omega) (by omega)) (fun _ => rfl) rfl (by omega) (by omega) ?_
          refine z_iinc_3 (pc := 68) E dX3_pushLeft_68 (nI_1 to) rfl ?_
          refine z_iinc_4 (pc := 71) E dX3_pushLeft_71 (nI_1 j) rfl ?_
          refine z_goto (pc := 74) (tgt := 9) E dX3_pushLeft_74 (by decide) ?_
          first | exact ih (j + 1) _ _ _ _ _ (by omega) (by omega) (hE.trans (push_n h31)) | exact z_mem (by rw [mset_rset, mset_rset]) (ih (j + 1) _ _ (to + 1) _ _ (by omega) (by omega) (hE.trans (push_a h31 (Or.inl h37)))) | exact z_mem (by rw [mset_rset, mset_rset]) (ih (j + 1) _ _ (to + 1) _ _ (by omega) (by omega) (hE.trans (push_a h31 (Or.inr ((nI_leI (n31 (by omega)) (n31 (by omega))).mp h43))))) | exact z_mem (by rw [mset_rset, mset_rset]) (ih (j + 1) _ _ (to + 1) _ _ (by omega) (by omega) (hE.trans (push_b h31 h37 (Nat.not_le.mp (fun z => h43 ((nI_leI (n31 (by omega)) (n31 (by omega))).mpr z))))))
        · refine z_iload_3 (pc := 40) E dX3_pushLeft_40 ?_
          refine z_iload_4 (pc := 41) E dX3_pushLeft_41 ?_
          refine z_icmp_ge (pc := 43) (tgt := 49) E dX3_pushLeft_43 (by decide) (fun h43 => ?_) (fun h43 => ?_)
          · refine z_iload_5 (pc := 49) E dX3_pushLeft_49 ?_
            refine z_istore_2 (pc := 51) E dX3_pushLeft_51 rfl ?_
            refine z_aload_0 (pc := 52) E dX3_pushLeft_52 ?_
            refine z_get (pc := 53) E dX3_pushLeft_53 fiX3_9 (ok16 (by omega) (by omega)) rfl rfl ?_
            refine z_iload_4 (pc := 56) E dX3_pushLeft_56 ?_
            refine z_iconst (v := -1) (pc := 58) E dX3_pushLeft_58 (by decide) ?_
            refine z_iast (pc := 59) E dX3_pushLeft_59 (ok4 (by omega) (by omega)) (fun _ => rfl) rfl (by omega) (by omega) ?_
            refine z_aload_0 (pc := 60) E dX3_pushLeft_60 ?_
            refine z_get (pc := 61) E dX3_pushLeft_61 fiX3_9 (ok16 (by omega) (by omega)) rfl rfl ?_
            refine z_iload_3 (pc := 64) E dX3_pushLeft_64 ?_
            refine z_iload_5 (pc := 65) E dX3_pushLeft_65 ?_
            refine z_iast (pc := 67) E dX3_pushLeft_67 (ok4 (by omega) (by omega)) (fun _ => rfl) rfl (by omega) (by omega) ?_
            refine z_iinc_3 (pc := 68) E dX3_pushLeft_68 (nI_1 to) rfl ?_
            refine z_iinc_4 (pc := 71) E dX3_pushLeft_71 (nI_1 j) rfl ?_
            refine z_goto (pc := 74) (tgt := 9) E dX3_pushLeft_74 (by decide) ?_
            first | exact ih (j + 1) _ _ _ _ _ (by omega) (by omega) (hE.trans (push_n h31)) | exact z_mem (by rw [mset_rset, mset_rset]) (ih (j + 1) _ _ (to + 1) _ _ (by omega) (by omega) (hE.trans (push_a h31 (Or.inl h37)))) | exact z_mem (by rw [mset_rset, mset_rset]) (ih (j + 1) _ _ (to + 1) _ _ (by omega) (by omega) (hE.trans (push_a h31 (Or.inr ((nI_leI (n31 (by omega)) (n31 (by omega))).mp h43))))) | exact z_mem (by rw [mset_rset, mset_rset]) (ih (j + 1) _ _ (to + 1) _ _ (by omega) (by omega) (hE.trans (push_b h31 h37 (Nat.not_le.mp (fun z => h43 ((nI_leI (n31 (by omega)) (n31 (by omega))).mpr z))))))
          · refine z_iinc_1 (pc := 46) E dX3_pushLeft_46 rfl rfl ?_
            refine z_iload_5 (pc := 49) E dX3_pushLeft_49 ?_
            refine z_istore_2 (pc := 51) E dX3_pushLeft_51 rfl ?_
            refine z_aload_0 (pc := 52) E dX3_pushLeft_52 ?_
            refine z_get (pc := 53) E dX3_pushLeft_53 fiX3_9 (ok16 (by omega) (by omega)) rfl rfl ?_
            refine z_iload_4 (pc := 56) E dX3_pushLeft_56 ?_
            refine z_iconst (v := -1) (pc := 58) E dX3_pushLeft_58 (by decide) ?_
            refine z_iast (pc := 59) E dX3_pushLeft_59 (ok4 (by omega) (by omega)) (fun _ => rfl) rfl (by omega) (by omega) ?_
            refine z_aload_0 (pc := 60) E dX3_pushLeft_60 ?_
            refine z_get (pc := 61) E dX3_pushLeft_61 fiX3_9 (ok16 (by omega) (by omega)) rfl rfl ?_
            refine z_iload_3 (pc := 64) E dX3_pushLeft_64 ?_
            refine z_iload_5 (pc := 65) E dX3_pushLeft_65 ?_
            refine z_iast (pc := 67) E dX3_pushLeft_67 (ok4 (by omega) (by omega)) (fun _ => rfl) rfl (by omega) (by omega) ?_
            refine z_iinc_3 (pc := 68) E dX3_pushLeft_68 (nI_1 to) rfl ?_
            refine z_iinc_4 (pc := 71) E dX3_pushLeft_71 (nI_1 j) rfl ?_
            refine z_goto (pc := 74) (tgt := 9) E dX3_pushLeft_74 (by decide) ?_
            first | exact ih (j + 1) _ _ _ _ _ (by omega) (by omega) (hE.trans (push_n h31)) | exact z_mem (by rw [mset_rset, mset_rset]) (ih (j + 1) _ _ (to + 1) _ _ (by omega) (by omega) (hE.trans (push_a h31 (Or.inl h37)))) | exact z_mem (by rw [mset_rset, mset_rset]) (ih (j + 1) _ _ (to + 1) _ _ (by omega) (by omega) (hE.trans (push_a h31 (Or.inr ((nI_leI (n31 (by omega)) (n31 (by omega))).mp h43))))) | exact z_mem (by rw [mset_rset, mset_rset]) (ih (j + 1) _ _ (to + 1) _ _ (by omega) (by omega) (hE.trans (push_b h31 h37 (Nat.not_le.mp (fun z => h43 ((nI_leI (n31 (by omega)) (n31 (by omega))).mpr z))))))
  refine z_iconst (v := 0) (pc := 0) E dX3_pushLeft_0 (by decide) ?_
  refine z_istore_1 (pc := 1) E dX3_pushLeft_1 rfl ?_
  refine z_iconst (v := -1) (pc := 2) E dX3_pushLeft_2 (by decide) ?_
  refine z_istore_2 (pc := 3) E dX3_pushLeft_3 rfl ?_
  refine z_iconst (v := 0) (pc := 4) E dX3_pushLeft_4 (by decide) ?_
  refine z_istore_3 (pc := 5) E dX3_pushLeft_5 rfl ?_
  refine z_iconst (v := 0) (pc := 6) E dX3_pushLeft_6 (by decide) ?_
  refine z_istore_4 (pc := 7) E dX3_pushLeft_7 rfl ?_
  exact z_mem (rset_self _ _ _ _) (L (10 * (i + 1)) 0 0 (-1) 0 _ _ (by omega) (by omega) rfl)
end
section
set_option maxRecDepth 100000 in
set_option maxHeartbeats 4000000 in
theorem m_X2_spotFor (M : Mem) (s : Nat) (w : Int32) (hs : s < 2) : CI yX2_spotFor cX2_spotFor 4 (some .int) 1 0 0 (fun G => [.ref (ad G 15 s 0), .int w]) M (fun r M' => r = spotF M s w 3 0 ∧ M' = M) := by
  refine CI.mk (own := RX2) (by decide +kernel) rfl (fun _ => rfl) (fun _ => Nat.le_of_ble_eq_true rfl) (lv0 := fun G => [some (.ref (ad G 15 s 0)), some (.int w), none, none]) (fun _ => rfl) (fun X G E => ?_)
  have L : ∀ (k : Nat) (i : Nat) (v3 : Option Value), i + k = 3 → spotF M s w 3 0 = spotF M s w k i → Z X G (0, 0) (QI X G (fun r M' => r = spotF M s w 3 0 ∧ M' = M) 0 0) 2 [some (.ref (ad G 15 s 0)), some (.int w), some (.int (nI i)), v3] [] (M) 0 0 := by
    intro k
    induction k with
    | zero =>
      intro i v3 hi hE
      refine z_iload_2 (pc := 2) E dX2_spotFor_2 ?_
      refine z_aload_0 (pc := 3) E dX2_spotFor_3 ?_
      refine z_get (pc := 4) E dX2_spotFor_4 fiX2_14 (ok15 (by omega)) rfl rfl ?_
      refine z_alen (t0 := 3) (pc := 7) E dX2_spotFor_7 (ok20 (by omega)) rfl rfl rfl ?_
      refine z_icmp_ge (pc := 8) (tgt := 40) E dX2_spotFor_8 (by decide) (fun h8 => ?_) (fun h8 => absurd h8 (fun z => z (ct_ge rfl (by omega) (by omega))))
      refine z_iconst (v := -1) (pc := 40) E dX2_spotFor_40 (by decide) ?_
      exact z_iret (pc := 41) E dX2_spotFor_41 ⟨by rw [hE]; rfl, rfl⟩
    | succ k ih =>
      intro i v3 hi hE
      refine z_iload_2 (pc := 2) E dX2_spotFor_2 ?_
      refine z_aload_0 (pc := 3) E dX2_spotFor_3 ?_
      refine z_get (pc := 4) E dX2_spotFor_4 fiX2_14 (ok15 (by omega)) rfl rfl ?_
      refine z_alen (t0 := 3) (pc := 7) E dX2_spotFor_7 (ok20 (by omega)) rfl rfl rfl ?_
      refine z_icmp_ge (pc := 8) (tgt := 40) E dX2_spotFor_8 (by decide) (fun h8 => absurd h8 (ct_lt rfl (by omega) (by omega))) (fun h8 => ?_)
      refine z_aload_0 (pc := 11) E dX2_spotFor_11 ?_
      refine z_get (pc := 12) E dX2_spotFor_12 fiX2_14 (ok15 (by omega)) rfl rfl ?_
      refine z_iload_2 (pc := 15) E dX2_spotFor_15 ?_
      refine z_aald (t0 := 3) (pc := 16) E dX2_spotFor_16 (ok20 (by omega)) rfl rfl rfl (by omega) (by omega) rfl ?_
      refine z_iload_1 (pc := 17) E dX2_spotFor_17 ?_
      refine z_ivp (pc := 18) E (m_X3_gapFor _ _ _ _ hs (by omega)) rfl rfl kX3_gapFor mlX2_28 dX2_spotFor_18 (ok16 (by omega) (by omega)) rfl rfl rfl (Nat.le_of_ble_eq_true rfl) rfl (by decide) (by decide) ⟨by omega, by omega⟩ ?_
      refine z_istore_3 (pc := 21) E dX2_spotFor_21 rfl ?_
      refine z_iload_3 (pc := 22) E dX2_spotFor_22 ?_
      refine z_iconst (v := -1) (pc := 23) E dX2_spotFor_23 (by decide) ?_
      refine z_icmp_eq (pc := 24) (tgt := 34) E dX2_spotFor_24 (by decide) (fun h24 => ?_) (fun h24 => ?_)
      · refine z_iinc_2 (pc := 34) E dX2_spotFor_34 (nI_1 i) rfl ?_
        refine z_goto (pc := 37) (tgt := 2) E dX2_spotFor_37 (by decide) ?_
        exact ih (i + 1) _ (by omega) (by rw [hE]; exact if_pos h24)
      · refine z_bipush (v := 100) (pc := 27) E dX2_spotFor_27 (by decide) ?_
        refine z_iload_2 (pc := 29) E dX2_spotFor_29 ?_
        refine z_imul (pc := 30) E dX2_spotFor_30 ?_
        refine z_iload_3 (pc := 31) E dX2_spotFor_31 ?_
        refine z_iadd (pc := 32) E dX2_spotFor_32 ?_
        exact z_iret (pc := 33) E dX2_spotFor_33 ⟨by rw [hE]; exact (if_neg h24).symm, rfl⟩
  refine z_iconst (v := 0) (pc := 0) E dX2_spotFor_0 (by decide) ?_
  refine z_istore_2 (pc := 1) E dX2_spotFor_1 rfl ?_
  exact L 3 0 _ (by omega) rfl

set_option maxRecDepth 100000 in
set_option maxHeartbeats 4000000 in
theorem m_X2_shelfOf (M : Mem) (s : Nat) (t : Int32) (hs : s < 2) : CI yX2_shelfOf cX2_shelfOf 3 (some .int) 1 0 0 (fun G => [.ref (ad G 15 s 0), .int t]) M (fun r M' => r = shelfF M s t 3 0 ∧ M' = M) := by
  refine CI.mk (own := RX2) (by decide +kernel) rfl (fun _ => rfl) (fun _ => Nat.le_of_ble_eq_true rfl) (lv0 := fun G => [some (.ref (ad G 15 s 0)), some (.int t), none]) (fun _ => rfl) (fun X G E => ?_)
  have L : ∀ (k : Nat) (i : Nat), i + k = 3 → shelfF M s t 3 0 = shelfF M s t k i → Z X G (0, 0) (QI X G (fun r M' => r = shelfF M s t 3 0 ∧ M' = M) 0 0) 2 [some (.ref (ad G 15 s 0)), some (.int t), some (.int (nI i))] [] (M) 0 0 := by
    intro k
    induction k with
    | zero =>
      intro i hi hE
      refine z_iload_2 (pc := 2) E dX2_shelfOf_2 ?_
      refine z_aload_0 (pc := 3) E dX2_shelfOf_3 ?_
      refine z_get (pc := 4) E dX2_shelfOf_4 fiX2_14 (ok15 (by omega)) rfl rfl ?_
      refine z_alen (t0 := 3) (pc := 7) E dX2_shelfOf_7 (ok20 (by omega)) rfl rfl rfl ?_
      refine z_icmp_ge (pc := 8) (tgt := 33) E dX2_shelfOf_8 (by decide) (fun h8 => ?_) (fun h8 => absurd h8 (fun z => z (ct_ge rfl (by omega) (by omega))))
      refine z_iconst (v := -1) (pc := 33) E dX2_shelfOf_33 (by decide) ?_
      exact z_iret (pc := 34) E dX2_shelfOf_34 ⟨by rw [hE]; rfl, rfl⟩
    | succ k ih =>
      intro i hi hE
      refine z_iload_2 (pc := 2) E dX2_shelfOf_2 ?_
      refine z_aload_0 (pc := 3) E dX2_shelfOf_3 ?_
      refine z_get (pc := 4) E dX2_shelfOf_4 fiX2_14 (ok15 (by omega)) rfl rfl ?_
      refine z_alen (t0 := 3) (pc := 7) E dX2_shelfOf_7 (ok20 (by omega)) rfl rfl rfl ?_
      refine z_icmp_ge (pc := 8) (tgt := 33) E dX2_shelfOf_8 (by decide) (fun h8 => absurd h8 (ct_lt rfl (by omega) (by omega))) (fun h8 => ?_)
      refine z_aload_0 (pc := 11) E dX2_shelfOf_11 ?_
      refine z_get (pc := 12) E dX2_shelfOf_12 fiX2_14 (ok15 (by omega)) rfl rfl ?_
      refine z_iload_2 (pc := 15) E dX2_shelfOf_15 ?_
      refine z_aald (t0 := 3) (pc := 16) E dX2_shelfOf_16 (ok20 (by omega)) rfl rfl rfl (by omega) (by omega) rfl ?_
      refine z_iload_1 (pc := 17) E dX2_shelfOf_17 ?_
      refine z_ivp (pc := 18) E (m_X3_leftmostOf _ _ _ _ hs (by omega)) rfl rfl kX3_leftmostOf mlX2_46 dX2_shelfOf_18 (ok16 (by omega) (by omega)) rfl rfl rfl (Nat.le_of_ble_eq_true rfl) rfl (by decide) (by decide) ⟨by omega, by omega⟩ ?_
      refine z_iconst (v := -1) (pc := 21) E dX2_shelfOf_21 (by decide) ?_
      refine z_icmp_eq (pc := 22) (tgt := 27) E dX2_shelfOf_22 (by decide) (fun h22 => ?_) (fun h22 => ?_)
      · refine z_iinc_2 (pc := 27) E dX2_shelfOf_27 (nI_1 i) rfl ?_
        refine z_goto (pc := 30) (tgt := 2) E dX2_shelfOf_30 (by decide) ?_
        exact ih (i + 1) (by omega) (by rw [hE]; exact if_pos h22)
      · refine z_iload_2 (pc := 25) E dX2_shelfOf_25 ?_
        exact z_iret (pc := 26) E dX2_shelfOf_26 ⟨by rw [hE]; exact (if_neg h22).symm, rfl⟩
  refine z_iconst (v := 0) (pc := 0) E dX2_shelfOf_0 (by decide) ?_
  refine z_istore_2 (pc := 1) E dX2_shelfOf_1 rfl ?_
  exact L 3 0 (by omega) rfl

set_option maxRecDepth 100000 in
set_option maxHeartbeats 4000000 in
theorem m_X2_leftmostOf (M : Mem) (s : Nat) (t : Int32) (hs : s < 2) : CI yX2_leftmostOf cX2_leftmostOf 4 (some .int) 1 0 0 (fun G => [.ref (ad G 15 s 0), .int t]) M (fun r M' => r = leftR M s t 3 0 ∧ M' = M) := by
  refine CI.mk (own := RX2) (by decide +kernel) rfl (fun _ => rfl) (fun _ => Nat.le_of_ble_eq_true rfl) (lv0 := fun G => [some (.ref (ad G 15 s 0)), some (.int t), none, none]) (fun _ => rfl) (fun X G E => ?_)
  have L : ∀ (k : Nat) (i : Nat) (v3 : Option Value), i + k = 3 → leftR M s t 3 0 = leftR M s t k i → Z X G (0, 0) (QI X G (fun r M' => r = leftR M s t 3 0 ∧ M' = M) 0 0) 2 [some (.ref (ad G 15 s 0)), some (.int t), some (.int (nI i)), v3] [] (M) 0 0 := by
    intro k
    induction k with
    | zero =>
      intro i v3 hi hE
      refine z_iload_2 (pc := 2) E dX2_leftmostOf_2 ?_
      refine z_aload_0 (pc := 3) E dX2_leftmostOf_3 ?_
      refine z_get (pc := 4) E dX2_leftmostOf_4 fiX2_14 (ok15 (by omega)) rfl rfl ?_
      refine z_alen (t0 := 3) (pc := 7) E dX2_leftmostOf_7 (ok20 (by omega)) rfl rfl rfl ?_
      refine z_icmp_ge (pc := 8) (tgt := 35) E dX2_leftmostOf_8 (by decide) (fun h8 => ?_) (fun h8 => absurd h8 (fun z => z (ct_ge rfl (by omega) (by omega))))
      refine z_iconst (v := -1) (pc := 35) E dX2_leftmostOf_35 (by decide) ?_
      exact z_iret (pc := 36) E dX2_leftmostOf_36 ⟨by rw [hE]; rfl, rfl⟩
    | succ k ih =>
      intro i v3 hi hE
      refine z_iload_2 (pc := 2) E dX2_leftmostOf_2 ?_
      refine z_aload_0 (pc := 3) E dX2_leftmostOf_3 ?_
      refine z_get (pc := 4) E dX2_leftmostOf_4 fiX2_14 (ok15 (by omega)) rfl rfl ?_
      refine z_alen (t0 := 3) (pc := 7) E dX2_leftmostOf_7 (ok20 (by omega)) rfl rfl rfl ?_
      refine z_icmp_ge (pc := 8) (tgt := 35) E dX2_leftmostOf_8 (by decide) (fun h8 => absurd h8 (ct_lt rfl (by omega) (by omega))) (fun h8 => ?_)
      refine z_aload_0 (pc := 11) E dX2_leftmostOf_11 ?_
      refine z_get (pc := 12) E dX2_leftmostOf_12 fiX2_14 (ok15 (by omega)) rfl rfl ?_
      refine z_iload_2 (pc := 15) E dX2_leftmostOf_15 ?_
      refine z_aald (t0 := 3) (pc := 16) E dX2_leftmostOf_16 (ok20 (by omega)) rfl rfl rfl (by omega) (by omega) rfl ?_
      refine z_iload_1 (pc := 17) E dX2_leftmostOf_17 ?_
      refine z_ivp (pc := 18) E (m_X3_leftmostOf _ _ _ _ hs (by omega)) rfl rfl kX3_leftmostOf mlX2_46 dX2_leftmostOf_18 (ok16 (by omega) (by omega)) rfl rfl rfl (Nat.le_of_ble_eq_true rfl) rfl (by decide) (by decide) ⟨by omega, by omega⟩ ?_
      refine z_istore_3 (pc := 21) E dX2_leftmostOf_21 rfl ?_
      refine z_iload_3 (pc := 22) E dX2_leftmostOf_22 ?_
      refine z_iconst (v := -1) (pc := 23) E dX2_leftmostOf_23 (by decide) ?_
      refine z_icmp_eq (pc := 24) (tgt := 29) E dX2_leftmostOf_24 (by decide) (fun h24 => ?_) (fun h24 => ?_)
      · refine z_iinc_2 (pc := 29) E dX2_leftmostOf_29 (nI_1 i) rfl ?_
        refine z_goto (pc := 32) (tgt := 2) E dX2_leftmostOf_32 (by decide) ?_
        exact ih (i + 1) _ (by omega) (by rw [hE]; exact if_pos h24)
      · refine z_iload_3 (pc := 27) E dX2_leftmostOf_27 ?_
        exact z_iret (pc := 28) E dX2_leftmostOf_28 ⟨by rw [hE]; exact (if_neg h24).symm, rfl⟩
  refine z_iconst (v := 0) (pc := 0) E dX2_leftmostOf_0 (by decide) ?_
  refine z_istore_2 (pc := 1) E dX2_leftmostOf_1 rfl ?_
  exact L 3 0 _ (by omega) rfl

set_option maxRecDepth 100000 in
set_option maxHeartbeats 4000000 in
theorem m_X2_taken (M : Mem) (s : Nat) (hs : s < 2) : CI yX2_taken cX2_taken 3 (some .int) 1 0 0 (fun G => [.ref (ad G 15 s 0)]) M (fun r M' => r = fsum 3 (takenS M s) ∧ M' = M) := by
  refine CI.mk (own := RX2) (by decide +kernel) rfl (fun _ => rfl) (fun _ => Nat.le_of_ble_eq_true rfl) (lv0 := fun G => [some (.ref (ad G 15 s 0)), none, none]) (fun _ => rfl) (fun X G E => ?_)
  have L : ∀ (k : Nat) (i : Nat), i + k = 3 → Z X G (0, 0) (QI X G (fun r M' => r = fsum 3 (takenS M s) ∧ M' = M) 0 0) 4 [some (.ref (ad G 15 s 0)), some (.int (fsum i (takenS M s))), some (.int (nI i))] [] (M) 0 0 := by
    intro k
    induction k with
    | zero =>
      intro i hi
      obtain rfl : i = 3 := by omega
      refine z_iload_2 (pc := 4) E dX2_taken_4 ?_
      refine z_aload_0 (pc := 5) E dX2_taken_5 ?_
      refine z_get (pc := 6) E dX2_taken_6 fiX2_14 (ok15 (by omega)) rfl rfl ?_
      refine z_alen (t0 := 3) (pc := 9) E dX2_taken_9 (ok20 (by omega)) rfl rfl rfl ?_
      refine z_icmp_ge (pc := 10) (tgt := 31) E dX2_taken_10 (by decide) (fun h10 => ?_) (fun h10 => absurd h10 (fun z => z (ct_ge rfl (by omega) (by omega))))
      refine z_iload_1 (pc := 31) E dX2_taken_31 ?_
      exact z_iret (pc := 32) E dX2_taken_32 ⟨rfl, rfl⟩
    | succ k ih =>
      intro i hi
      refine z_iload_2 (pc := 4) E dX2_taken_4 ?_
      refine z_aload_0 (pc := 5) E dX2_taken_5 ?_
      refine z_get (pc := 6) E dX2_taken_6 fiX2_14 (ok15 (by omega)) rfl rfl ?_
      refine z_alen (t0 := 3) (pc := 9) E dX2_taken_9 (ok20 (by omega)) rfl rfl rfl ?_
      refine z_icmp_ge (pc := 10) (tgt := 31) E dX2_taken_10 (by decide) (fun h10 => absurd h10 (ct_lt rfl (by omega) (by omega))) (fun h10 => ?_)
      refine z_iload_1 (pc := 13) E dX2_taken_13 ?_
      refine z_aload_0 (pc := 14) E dX2_taken_14 ?_
      refine z_get (pc := 15) E dX2_taken_15 fiX2_14 (ok15 (by omega)) rfl rfl ?_
      refine z_iload_2 (pc := 18) E dX2_taken_18 ?_
      refine z_aald (t0 := 3) (pc := 19) E dX2_taken_19 (ok20 (by omega)) rfl rfl rfl (by omega) (by omega) rfl ?_
      refine z_ivp (pc := 20) E (m_X3_taken _ _ _ hs (by omega)) rfl rfl kX3_taken mlX2_49 dX2_taken_20 (ok16 (by omega) (by omega)) rfl rfl rfl (Nat.le_of_ble_eq_true rfl) rfl (by decide) (by decide) ⟨by omega, by omega⟩ ?_
      refine z_iadd (pc := 23) E dX2_taken_23 ?_
      refine z_istore_1 (pc := 24) E dX2_taken_24 rfl ?_
      refine z_iinc_2 (pc := 25) E dX2_taken_25 (nI_1 i) rfl ?_
      refine z_goto (pc := 28) (tgt := 4) E dX2_taken_28 (by decide) ?_
      exact ih (i + 1) (by omega)
  refine z_iconst (v := 0) (pc := 0) E dX2_taken_0 (by decide) ?_
  refine z_istore_1 (pc := 1) E dX2_taken_1 rfl ?_
  refine z_iconst (v := 0) (pc := 2) E dX2_taken_2 (by decide) ?_
  refine z_istore_2 (pc := 3) E dX2_taken_3 rfl ?_
  exact L 3 0 (by omega)

set_option maxRecDepth 100000 in
set_option maxHeartbeats 4000000 in
theorem m_X2_clear (M : Mem) (s : Nat) (t : Int32) (hs : s < 2) : CV yX2_clear cX2_clear 3 none 1 0 0 (fun G => [.ref (ad G 15 s 0), .int t]) M (fun M' => M' = clrM M s t 3) := by
  refine CV.mk (own := RX2) (by decide +kernel) rfl (fun _ => rfl) (fun _ => Nat.le_of_ble_eq_true rfl) (lv0 := fun G => [some (.ref (ad G 15 s 0)), some (.int t), none]) (fun _ => rfl) (fun X G E => ?_)
  have L : ∀ (k : Nat) (i : Nat), i + k = 3 → Z X G (0, 0) (QV X G (fun M' => M' = clrM M s t 3) 0 0) 2 [some (.ref (ad G 15 s 0)), some (.int t), some (.int (nI i))] [] (clrM M s t i) 0 0 := by
    intro k
    induction k with
    | zero =>
      intro i hi
      obtain rfl : i = 3 := by omega
      refine z_iload_2 (pc := 2) E dX2_clear_2 ?_
      refine z_aload_0 (pc := 3) E dX2_clear_3 ?_
      refine z_get (pc := 4) E dX2_clear_4 fiX2_14 (ok15 (by omega)) rfl rfl ?_
      refine z_alen (t0 := 3) (pc := 7) E dX2_clear_7 (ok20 (by omega)) rfl rfl rfl ?_
      refine z_icmp_ge (pc := 8) (tgt := 27) E dX2_clear_8 (by decide) (fun h8 => ?_) (fun h8 => absurd h8 (fun z => z (ct_ge rfl (by omega) (by omega))))
      exact z_vret (pc := 27) E dX2_clear_27 rfl
    | succ k ih =>
      intro i hi
      refine z_iload_2 (pc := 2) E dX2_clear_2 ?_
      refine z_aload_0 (pc := 3) E dX2_clear_3 ?_
      refine z_get (pc := 4) E dX2_clear_4 fiX2_14 (ok15 (by omega)) rfl rfl ?_
      refine z_alen (t0 := 3) (pc := 7) E dX2_clear_7 (ok20 (by omega)) rfl rfl rfl ?_
      refine z_icmp_ge (pc := 8) (tgt := 27) E dX2_clear_8 (by decide) (fun h8 => absurd h8 (ct_lt rfl (by omega) (by omega))) (fun h8 => ?_)
      refine z_aload_0 (pc := 11) E dX2_clear_11 ?_
      refine z_get (pc := 12) E dX2_clear_12 fiX2_14 (ok15 (by omega)) rfl rfl ?_
      refine z_iload_2 (pc := 15) E dX2_clear_15 ?_
      refine z_aald (t0 := 3) (pc := 16) E dX2_clear_16 (ok20 (by omega)) rfl rfl rfl (by omega) (by omega) rfl ?_
      refine z_iload_1 (pc := 17) E dX2_clear_17 ?_
      refine z_vvf (pc := 18) E (m_X3_clear _ _ _ _ hs (by omega)) rfl rfl kX3_clear mlX2_43 dX2_clear_18 (ok16 (by omega) (by omega)) rfl rfl rfl (Nat.le_of_ble_eq_true rfl) rfl (by decide) (by decide) ⟨by omega, by omega⟩ ?_
      refine z_iinc_2 (pc := 21) E dX2_clear_21 (nI_1 i) rfl ?_
      refine z_goto (pc := 24) (tgt := 2) E dX2_clear_24 (by decide) ?_
      exact z_mem (by rw [show clrM M s t i 4 s i = M 4 s i from shM_n _ _ _ _]; exact shM_s _ _ _ _) (ih (i + 1) (by omega))
  refine z_iconst (v := 0) (pc := 0) E dX2_clear_0 (by decide) ?_
  refine z_istore_2 (pc := 1) E dX2_clear_1 rfl ?_
  exact z_mem (shM_0 _ _ _) (L 3 0 (by omega))

set_option maxRecDepth 100000 in
set_option maxHeartbeats 4000000 in
theorem m_X2_copyFrom (M : Mem) (s : Nat) (s2 : Nat) (hs : s < 2) (hs2 : s2 < 2) (hne : ¬ s2 = s) : CV yX2_copyFrom cX2_copyFrom 3 none 1 0 0 (fun G => [.ref (ad G 15 s 0), .ref (ad G 15 s2 0)]) M (fun M' => M' = cpyM M s s2 3) := by
  refine CV.mk (own := RX2) (by decide +kernel) rfl (fun _ => rfl) (fun _ => Nat.le_of_ble_eq_true rfl) (lv0 := fun G => [some (.ref (ad G 15 s 0)), some (.ref (ad G 15 s2 0)), none]) (fun _ => rfl) (fun X G E => ?_)
  have L : ∀ (k : Nat) (i : Nat), i + k = 3 → Z X G (0, 0) (QV X G (fun M' => M' = cpyM M s s2 3) 0 0) 2 [some (.ref (ad G 15 s 0)), some (.ref (ad G 15 s2 0)), some (.int (nI i))] [] (cpyM M s s2 i) 0 0 := by
    intro k
    induction k with
    | zero =>
      intro i hi
      obtain rfl : i = 3 := by omega
      refine z_iload_2 (pc := 2) E dX2_copyFrom_2 ?_
      refine z_aload_0 (pc := 3) E dX2_copyFrom_3 ?_
      refine z_get (pc := 4) E dX2_copyFrom_4 fiX2_14 (ok15 (by omega)) rfl rfl ?_
      refine z_alen (t0 := 3) (pc := 7) E dX2_copyFrom_7 (ok20 (by omega)) rfl rfl rfl ?_
      refine z_icmp_ge (pc := 8) (tgt := 32) E dX2_copyFrom_8 (by decide) (fun h8 => ?_) (fun h8 => absurd h8 (fun z => z (ct_ge rfl (by omega) (by omega))))
      exact z_vret (pc := 32) E dX2_copyFrom_32 rfl
    | succ k ih =>
      intro i hi
      refine z_iload_2 (pc := 2) E dX2_copyFrom_2 ?_
      refine z_aload_0 (pc := 3) E dX2_copyFrom_3 ?_
      refine z_get (pc := 4) E dX2_copyFrom_4 fiX2_14 (ok15 (by omega)) rfl rfl ?_
      refine z_alen (t0 := 3) (pc := 7) E dX2_copyFrom_7 (ok20 (by omega)) rfl rfl rfl ?_
      refine z_icmp_ge (pc := 8) (tgt := 32) E dX2_copyFrom_8 (by decide) (fun h8 => absurd h8 (ct_lt rfl (by omega) (by omega))) (fun h8 => ?_)
      refine z_aload_0 (pc := 11) E dX2_copyFrom_11 ?_
      refine z_get (pc := 12) E dX2_copyFrom_12 fiX2_14 (ok15 (by omega)) rfl rfl ?_
      refine z_iload_2 (pc := 15) E dX2_copyFrom_15 ?_
      refine z_aald (t0 := 3) (pc := 16) E dX2_copyFrom_16 (ok20 (by omega)) rfl rfl rfl (by omega) (by omega) rfl ?_
      refine z_aload_1 (pc := 17) E dX2_copyFrom_17 ?_
      refine z_get (pc := 18) E dX2_copyFrom_18 fiX2_14 (ok15 (by omega)) rfl rfl ?_
      refine z_iload_2 (pc := 21) E dX2_copyFrom_21 ?_
      refine z_aald (t0 := 3) (pc := 22) E dX2_copyFrom_22 (ok20 (by omega)) rfl rfl rfl (by omega) (by omega) rfl ?_
      refine z_vvf (pc := 23) E (m_X3_copyFrom _ _ _ _ hs (by omega) hs2 hne) rfl rfl kX3_copyFrom mlX2_56 dX2_copyFrom_23 (ok16 (by omega) (by omega)) rfl rfl rfl (Nat.le_of_ble_eq_true rfl) rfl (by decide) (by decide) ⟨by omega, by omega⟩ ?_
      refine z_iinc_2 (pc := 26) E dX2_copyFrom_26 (nI_1 i) rfl ?_
      refine z_goto (pc := 29) (tgt := 2) E dX2_copyFrom_29 (by decide) ?_
      exact z_mem (by rw [show cpyM M s s2 i 4 s i = M 4 s i from shM_n _ _ _ _, show cpyM M s s2 i 4 s2 i = M 4 s2 i from shM_off _ _ (fun z => hne z.2)]; exact shM_s _ _ _ _) (ih (i + 1) (by omega))
  refine z_iconst (v := 0) (pc := 0) E dX2_copyFrom_0 (by decide) ?_
  refine z_istore_2 (pc := 1) E dX2_copyFrom_1 rfl ?_
  exact z_mem (shM_0 _ _ _) (L 3 0 (by omega))

set_option maxRecDepth 100000 in
set_option maxHeartbeats 4000000 in
theorem m_X2_pushLeft (M : Mem) (s : Nat) (hs : s < 2) : CI yX2_pushLeft cX2_pushLeft 3 (some .int) 1 0 0 (fun G => [.ref (ad G 15 s 0)]) M (fun r M' => r = fsum 3 (fun i => (pushS M s i).1) ∧ M' = pushM M s 3) := by
  refine CI.mk (own := RX2) (by decide +kernel) rfl (fun _ => rfl) (fun _ => Nat.le_of_ble_eq_true rfl) (lv0 := fun G => [some (.ref (ad G 15 s 0)), none, none]) (fun _ => rfl) (fun X G E => ?_)
  have L : ∀ (k : Nat) (i : Nat), i + k = 3 → Z X G (0, 0) (QI X G (fun r M' => r = fsum 3 (fun i => (pushS M s i).1) ∧ M' = pushM M s 3) 0 0) 4 [some (.ref (ad G 15 s 0)), some (.int (fsum i (fun i => (pushS M s i).1))), some (.int (nI i))] [] (pushM M s i) 0 0 := by
    intro k
    induction k with
    | zero =>
      intro i hi
      obtain rfl : i = 3 := by omega
      refine z_iload_2 (pc := 4) E dX2_pushLeft_4 ?_
      refine z_aload_0 (pc := 5) E dX2_pushLeft_5 ?_
      refine z_get (pc := 6) E dX2_pushLeft_6 fiX2_14 (ok15 (by omega)) rfl rfl ?_
      refine z_alen (t0 := 3) (pc := 9) E dX2_pushLeft_9 (ok20 (by omega)) rfl rfl rfl ?_
      refine z_icmp_ge (pc := 10) (tgt := 31) E dX2_pushLeft_10 (by decide) (fun h10 => ?_) (fun h10 => absurd h10 (fun z => z (ct_ge rfl (by omega) (by omega))))
      refine z_iload_1 (pc := 31) E dX2_pushLeft_31 ?_
      exact z_iret (pc := 32) E dX2_pushLeft_32 ⟨rfl, rfl⟩
    | succ k ih =>
      intro i hi
      refine z_iload_2 (pc := 4) E dX2_pushLeft_4 ?_
      refine z_aload_0 (pc := 5) E dX2_pushLeft_5 ?_
      refine z_get (pc := 6) E dX2_pushLeft_6 fiX2_14 (ok15 (by omega)) rfl rfl ?_
      refine z_alen (t0 := 3) (pc := 9) E dX2_pushLeft_9 (ok20 (by omega)) rfl rfl rfl ?_
      refine z_icmp_ge (pc := 10) (tgt := 31) E dX2_pushLeft_10 (by decide) (fun h10 => absurd h10 (ct_lt rfl (by omega) (by omega))) (fun h10 => ?_)
      refine z_iload_1 (pc := 13) E dX2_pushLeft_13 ?_
      refine z_aload_0 (pc := 14) E dX2_pushLeft_14 ?_
      refine z_get (pc := 15) E dX2_pushLeft_15 fiX2_14 (ok15 (by omega)) rfl rfl ?_
      refine z_iload_2 (pc := 18) E dX2_pushLeft_18 ?_
      refine z_aald (t0 := 3) (pc := 19) E dX2_pushLeft_19 (ok20 (by omega)) rfl rfl rfl (by omega) (by omega) rfl ?_
      refine z_ivf (pc := 20) E (m_X3_pushLeft _ _ _ hs (by omega)) rfl rfl kX3_pushLeft mlX2_53 dX2_pushLeft_20 (ok16 (by omega) (by omega)) rfl rfl rfl (Nat.le_of_ble_eq_true rfl) rfl (by decide) (by decide) ⟨by omega, by omega⟩ ?_
      rw [show pushM M s i 4 s i = M 4 s i from shM_n _ _ _ _]
      refine z_iadd (pc := 23) E dX2_pushLeft_23 ?_
      refine z_istore_1 (pc := 24) E dX2_pushLeft_24 rfl ?_
      refine z_iinc_2 (pc := 25) E dX2_pushLeft_25 (nI_1 i) rfl ?_
      refine z_goto (pc := 28) (tgt := 4) E dX2_pushLeft_28 (by decide) ?_
      exact z_mem (shM_s _ _ _ _) (ih (i + 1) (by omega))
  refine z_iconst (v := 0) (pc := 0) E dX2_pushLeft_0 (by decide) ?_
  refine z_istore_1 (pc := 1) E dX2_pushLeft_1 rfl ?_
  refine z_iconst (v := 0) (pc := 2) E dX2_pushLeft_2 (by decide) ?_
  refine z_istore_2 (pc := 3) E dX2_pushLeft_3 rfl ?_
  exact z_mem (shM_0 _ _ _) (L 3 0 (by omega))

set_option maxRecDepth 100000 in
set_option maxHeartbeats 4000000 in
theorem m_X2_hasPlace (M : Mem) (s : Nat) (sh pl : Int32) (hs : s < 2) : CI yX2_hasPlace cX2_hasPlace 3 (some .boolean) 1 0 0 (fun G => [.ref (ad G 15 s 0), .int sh, .int pl]) M (fun r M' => M' = M ∧ ((r = 1 ∧ plcP sh pl) ∨ (r = 0 ∧ ¬ plcP sh pl))) := by
  refine CI.mk (own := RX2) (by decide +kernel) rfl (fun _ => rfl) (fun _ => Nat.le_of_ble_eq_true rfl) (lv0 := fun G => [some (.ref (ad G 15 s 0)), some (.int sh), some (.int pl)]) (fun _ => rfl) (fun X G E => ?_)
  refine z_iload_1 (pc := 0) E dX2_hasPlace_0 ?_
  refine z_iconst (v := 0) (pc := 1) E dX2_hasPlace_1 (by decide) ?_
  refine z_aload_0 (pc := 2) E dX2_hasPlace_2 ?_
  refine z_get (pc := 3) E dX2_hasPlace_3 fiX2_14 (ok15 (by omega)) rfl rfl ?_
  refine z_alen (t0 := 3) (pc := 6) E dX2_hasPlace_6 (ok20 (by omega)) rfl rfl rfl ?_
  refine z_iconst (v := 1) (pc := 7) E dX2_hasPlace_7 (by decide) ?_
  refine z_isub (pc := 8) E dX2_hasPlace_8 ?_
  refine z_isNp (pc := 9) E (m_X6_isWithin _ _ _ _) rfl rfl kX6_isWithin (by decide +kernel : ((RX2 : String), 20, yX6_isWithin, (RX6 : String)) ∈ NWm) dX2_hasPlace_9 rfl (Nat.le_of_ble_eq_true rfl) rfl (by decide) (by decide) ⟨by omega, by omega⟩ ?_
  refine z_if_eq (pc := 12) (tgt := 39) E dX2_hasPlace_12 (by decide) (fun h12 => ?_) (fun h12 => ?_)
  · refine z_iconst (v := 0) (pc := 39) E dX2_hasPlace_39 (by decide) ?_
    exact z_zret (pc := 40) E dX2_hasPlace_40 (by first | exact Or.inl rfl | exact Or.inr rfl | exact b2_01 _) ⟨rfl, by first | exact Or.inl ⟨rfl, i, q, hi, hq, rfl, rfl⟩ | exact Or.inr ⟨rfl, fun ⟨i2, q2, a1, a2, a3, a4⟩ => b2_e0 h32 (in_of_ix (n := 10 * (i + 1)) a4 (by have := nI_inj (by omega) (by omega) a3; omega) (by omega))⟩ | exact Or.inr ⟨rfl, fun ⟨i2, q2, a1, a2, a3, a4⟩ => b2_e0 h12 (in_of_ix (n := 3) a3 a1 (by omega))⟩⟩
  · obtain ⟨i, hi, rfl⟩ := ix_of (n := 3) (b2_n0 h12) (by omega)
    refine z_iload_2 (pc := 15) E dX2_hasPlace_15 ?_
    refine z_iconst (v := 0) (pc := 16) E dX2_hasPlace_16 (by decide) ?_
    refine z_aload_0 (pc := 17) E dX2_hasPlace_17 ?_
    refine z_get (pc := 18) E dX2_hasPlace_18 fiX2_14 (ok15 (by omega)) rfl rfl ?_
    refine z_iload_1 (pc := 21) E dX2_hasPlace_21 ?_
    refine z_aald (t0 := 3) (pc := 22) E dX2_hasPlace_22 (ok20 (by omega)) rfl rfl rfl (by omega) (by omega) rfl ?_
    refine z_get (pc := 23) E dX2_hasPlace_23 fiX2_24 (ok16 (by omega) (by omega)) rfl rfl ?_
    refine z_alen (t0 := 0) (pc := 26) E dX2_hasPlace_26 (ok4 (by omega) (by omega)) rfl rfl rfl ?_
    refine z_iconst (v := 1) (pc := 27) E dX2_hasPlace_27 (by decide) ?_
    refine z_isub (pc := 28) E dX2_hasPlace_28 ?_
    refine z_isNp (pc := 29) E (m_X6_isWithin _ _ _ _) rfl rfl kX6_isWithin (by decide +kernel : ((RX2 : String), 20, yX6_isWithin, (RX6 : String)) ∈ NWm) dX2_hasPlace_29 rfl (Nat.le_of_ble_eq_true rfl) rfl (by decide) (by decide) ⟨by omega, by omega⟩ ?_
    refine z_if_eq (pc := 32) (tgt := 39) E dX2_hasPlace_32 (by decide) (fun h32 => ?_) (fun h32 => ?_)
    · refine z_iconst (v := 0) (pc := 39) E dX2_hasPlace_39 (by decide) ?_
      exact z_zret (pc := 40) E dX2_hasPlace_40 (by first | exact Or.inl rfl | exact Or.inr rfl | exact b2_01 _) ⟨rfl, by first | exact Or.inl ⟨rfl, i, q, hi, hq, rfl, rfl⟩ | exact Or.inr ⟨rfl, fun ⟨i2, q2, a1, a2, a3, a4⟩ => b2_e0 h32 (in_of_ix (n := 10 * (i + 1)) a4 (by have := nI_inj (by omega) (by omega) a3; omega) (by omega))⟩ | exact Or.inr ⟨rfl, fun ⟨i2, q2, a1, a2, a3, a4⟩ => b2_e0 h12 (in_of_ix (n := 3) a3 a1 (by omega))⟩⟩
    · obtain ⟨q, hq, rfl⟩ := ix_of (n := 10 * (i + 1)) (b2_n0 h32) (by omega)
      refine z_iconst (v := 1) (pc := 35) E dX2_hasPlace_35 (by decide) ?_
      refine z_goto (pc := 36) (tgt := 40) E dX2_hasPlace_36 (by decide) ?_
      exact z_zret (pc := 40) E dX2_hasPlace_40 (by first | exact Or.inl rfl | exact Or.inr rfl | exact b2_01 _) ⟨rfl, by first | exact Or.inl ⟨rfl, i, q, hi, hq, rfl, rfl⟩ | exact Or.inr ⟨rfl, fun ⟨i2, q2, a1, a2, a3, a4⟩ => b2_e0 h32 (in_of_ix (n := 10 * (i + 1)) a4 (by have := nI_inj (by omega) (by omega) a3; omega) (by omega))⟩ | exact Or.inr ⟨rfl, fun ⟨i2, q2, a1, a2, a3, a4⟩ => b2_e0 h12 (in_of_ix (n := 3) a3 a1 (by omega))⟩⟩

set_option maxRecDepth 100000 in
set_option maxHeartbeats 4000000 in
theorem m_X2_lay (M : Mem) (s : Nat) (i q : Nat) (t w : Int32) (hs : s < 2) (hi : i < 3) (hq : q < 10 * (i + 1)) (hsp : spotF M s w 3 0 = nI (100 * i + q)) : CV yX2_lay cX2_lay 6 none 2 0 0 (fun G => [.ref (ad G 15 s 0), .int t, .int w]) M (fun M' => M' = rset M 4 s i (layF (M 4 s i) t (nI q) w (10 * (i + 1)))) := by
  refine CV.mk (own := RX2) (by decide +kernel) rfl (fun _ => rfl) (fun _ => Nat.le_of_ble_eq_true rfl) (lv0 := fun G => [some (.ref (ad G 15 s 0)), some (.int t), some (.int w), none, none, none]) (fun _ => rfl) (fun X G E => ?_)
  refine z_aload_0 (pc := 0) E dX2_lay_0 ?_
  refine z_iload_2 (pc := 1) E dX2_lay_1 ?_
  refine z_ivp (pc := 2) E (m_X2_spotFor _ _ _ hs) rfl rfl kX2_spotFor mlX2_32 dX2_lay_2 (ok15 (by omega)) rfl rfl rfl (Nat.le_of_ble_eq_true rfl) rfl (by decide) (by decide) ⟨by omega, by omega⟩ ?_
  rw [hsp]
  refine z_istore_3 (pc := 5) E dX2_lay_5 rfl ?_
  refine z_iload_3 (pc := 6) E dX2_lay_6 ?_
  refine z_bipush (v := 100) (pc := 7) E dX2_lay_7 (by decide) ?_
  refine z_idiv (pc := 9) E dX2_lay_9 (by decide) ?_
  refine z_top (y := nI i) (by rw [show (100 : Int32) = nI 100 from rfl, pk_div (n31 (by omega)) (by decide) (by decide)]; congr 1; omega) ?_
  refine z_istore_4 (pc := 10) E dX2_lay_10 rfl ?_
  refine z_iload_3 (pc := 12) E dX2_lay_12 ?_
  refine z_bipush (v := 100) (pc := 13) E dX2_lay_13 (by decide) ?_
  refine z_irem (pc := 15) E dX2_lay_15 (by decide) ?_
  refine z_top (y := nI q) (by rw [show (100 : Int32) = nI 100 from rfl, pk_rem (n31 (by omega)) (by decide) (by decide)]; congr 1; omega) ?_
  refine z_istore_5 (pc := 16) E dX2_lay_16 rfl ?_
  refine z_aload_0 (pc := 18) E dX2_lay_18 ?_
  refine z_iload_4 (pc := 19) E dX2_lay_19 ?_
  refine z_iload_5 (pc := 21) E dX2_lay_21 ?_
  refine z_iv (pc := 23) E (m_X2_hasPlace _ _ _ _ hs) rfl rfl kX2_hasPlace mlX2_35 dX2_lay_23 (ok15 (by omega)) rfl rfl rfl (Nat.le_of_ble_eq_true rfl) rfl (by decide) (by decide) ⟨by omega, by omega⟩ (fun _ _ _ => Or.inl rfl) (fun r23 M23 hM23 => ?_)
  obtain ⟨rfl, hM23⟩ := hM23
  obtain ⟨rfl, -⟩ : r23 = 1 ∧ plcP (nI i) (nI q) := hM23.resolve_right (fun z => z.2 ⟨i, q, hi, hq, rfl, rfl⟩)
  refine z_if_eq (pc := 26) (tgt := 43) E dX2_lay_26 (by decide) (fun h26 => absurd h26 (by decide)) (fun h26 => ?_)
  refine z_aload_0 (pc := 29) E dX2_lay_29 ?_
  refine z_get (pc := 30) E dX2_lay_30 fiX2_14 (ok15 (by omega)) rfl rfl ?_
  refine z_iload_4 (pc := 33) E dX2_lay_33 ?_
  refine z_aald (t0 := 3) (pc := 35) E dX2_lay_35 (ok20 (by omega)) rfl rfl rfl (by omega) (by omega) rfl ?_
  refine z_iload_1 (pc := 36) E dX2_lay_36 ?_
  refine z_iload_5 (pc := 37) E dX2_lay_37 ?_
  refine z_iload_2 (pc := 39) E dX2_lay_39 ?_
  refine z_vvf (pc := 40) E (m_X3_lay _ _ _ _ _ _ hs hi) rfl rfl kX3_lay mlX2_39 dX2_lay_40 (ok16 (by omega) (by omega)) rfl rfl rfl (Nat.le_of_ble_eq_true rfl) rfl (by decide) (by decide) ⟨by omega, by omega⟩ ?_
  exact z_vret (pc := 43) E dX2_lay_43 rfl
end
