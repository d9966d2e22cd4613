section
-- ===== PART A: goes FIRST, ahead of the names: the tables' words, and 'selects' of the private methods out of them =====
/-- a private method of a class that the tables say can be made, by its rows of tables_1 -/
def lw_okq (q : MethodName × Nat) : Prop := (q.1.cls ≠ "java/lang/invoke/MethodHandle" ∧ q.1.cls ≠ "java/lang/invoke/VarHandle") ∧ Cond.instantiable q.1.cls q.2 ∈ tables_1 ∧ Cond.privateMethod q.1 ∈ tables_1 ∧ Cond.instanceMethod q.1 ∈ tables_1
theorem lw_p0 : lw_okq (⟨"java/lang/Throwable", "fillInStackTrace", "(I)Ljava/lang/Throwable;"⟩, 6) := ⟨⟨by decide +kernel, by decide +kernel⟩, List.mem_of_getElem? (i := 205) (by decide +kernel), List.mem_of_getElem? (i := 203) (by decide +kernel), List.mem_of_getElem? (i := 204) (by decide +kernel)⟩
theorem lw_p1 : lw_okq (⟨"PartitionedCache", "makeAccess", "(II)I"⟩, 6) := ⟨⟨by decide +kernel, by decide +kernel⟩, List.mem_of_getElem? (i := 16) (by decide +kernel), List.mem_of_getElem? (i := 275) (by decide +kernel), List.mem_of_getElem? (i := 276) (by decide +kernel)⟩
theorem lw_p2 : lw_okq (⟨"PartitionedCache", "bringIn", "(II)V"⟩, 6) := ⟨⟨by decide +kernel, by decide +kernel⟩, List.mem_of_getElem? (i := 16) (by decide +kernel), List.mem_of_getElem? (i := 305) (by decide +kernel), List.mem_of_getElem? (i := 306) (by decide +kernel)⟩
theorem lw_p3 : lw_okq (⟨"PartitionedCache", "moveOneWay", "()I"⟩, 6) := ⟨⟨by decide +kernel, by decide +kernel⟩, List.mem_of_getElem? (i := 16) (by decide +kernel), List.mem_of_getElem? (i := 317) (by decide +kernel), List.mem_of_getElem? (i := 318) (by decide +kernel)⟩
theorem lw_p4 : lw_okq (⟨"PartitionedCache$Targets", "growOne", "(LPartitionedCache$Monitors;I)I"⟩, 1) := ⟨⟨by decide +kernel, by decide +kernel⟩, List.mem_of_getElem? (i := 93) (by decide +kernel), List.mem_of_getElem? (i := 325) (by decide +kernel), List.mem_of_getElem? (i := 326) (by decide +kernel)⟩
theorem lw_p5 : lw_okq (⟨"PartitionedCache$Targets", "lowest", "()I"⟩, 1) := ⟨⟨by decide +kernel, by decide +kernel⟩, List.mem_of_getElem? (i := 93) (by decide +kernel), List.mem_of_getElem? (i := 329) (by decide +kernel), List.mem_of_getElem? (i := 330) (by decide +kernel)⟩
theorem lw_p6 : lw_okq (⟨"PartitionedCache", "deficitOf", "(I)I"⟩, 6) := ⟨⟨by decide +kernel, by decide +kernel⟩, List.mem_of_getElem? (i := 16) (by decide +kernel), List.mem_of_getElem? (i := 333) (by decide +kernel), List.mem_of_getElem? (i := 334) (by decide +kernel)⟩
def lw_privs_1 : List (MethodName × Nat) := [(⟨"java/lang/Throwable", "fillInStackTrace", "(I)Ljava/lang/Throwable;"⟩, 6), (⟨"PartitionedCache", "makeAccess", "(II)I"⟩, 6), (⟨"PartitionedCache", "bringIn", "(II)V"⟩, 6), (⟨"PartitionedCache", "moveOneWay", "()I"⟩, 6), (⟨"PartitionedCache$Targets", "growOne", "(LPartitionedCache$Monitors;I)I"⟩, 1), (⟨"PartitionedCache$Targets", "lowest", "()I"⟩, 1), (⟨"PartitionedCache", "deficitOf", "(I)I"⟩, 6)]
theorem lw_r1 : ∀ q ∈ lw_privs_1, lw_okq q := List.forall_mem_cons.mpr ⟨lw_p0, List.forall_mem_cons.mpr ⟨lw_p1, List.forall_mem_cons.mpr ⟨lw_p2, List.forall_mem_cons.mpr ⟨lw_p3, List.forall_mem_cons.mpr ⟨lw_p4, List.forall_mem_cons.mpr ⟨lw_p5, List.forall_mem_cons.mpr ⟨lw_p6, fun _ h => absurd h List.not_mem_nil⟩⟩⟩⟩⟩⟩⟩
def lw_privs : List (MethodName × Nat) := lw_privs_1
def lw_tbl : List Cond := k2_sels lw_privs ++ tables_1
theorem lw_privs_ok : ∀ q ∈ lw_privs, lw_okq q := lw_r1
-- ===== end of PART A; then your names; then what follows =====
end
section
/-! ===== BEGIN words of one list among another's, by their places ===== -/
theorem goodIn_r {big : List Cond} (ws : List Cond) (ps : List Nat) (hp : ws = ps.filterMap (fun i => big[i]?)) (h : ws.all goodWord = true) : GoodIn big ws := by
  intro w hw
  have h1 := List.all_eq_true.mp h w hw
  rw [hp] at hw
  obtain ⟨i, -, hi⟩ := List.mem_filterMap.mp hw
  have hm : w ∈ big := by first | exact List.mem_of_getElem? hi | exact List.getElem?_mem hi
  exact ⟨hm, good_of_word h1⟩
theorem goodIn_app {big a b : List Cond} (ha : GoodIn big a) (hb : GoodIn big b) : GoodIn big (a ++ b) := fun w h => (List.mem_append.mp h).elim (ha w) (hb w)
theorem goodIn_ca {big a b : List Cond} {c : Cond} (ha : GoodIn big (c :: a)) (hb : GoodIn big b) : GoodIn big (c :: (a ++ b)) := fun w h => (List.mem_cons.mp h).elim (fun e => ha w (List.mem_cons.mpr (Or.inl e))) (fun h => (List.mem_append.mp h).elim (fun h => ha w (List.mem_cons.mpr (Or.inr h))) (hb w))
theorem goodIn_sub {big ws : List Cond} (hm : ∀ w ∈ ws, w ∈ big) (h : ws.all goodWord = true) : GoodIn big ws := fun w hw => ⟨hm w hw, good_of_word (List.all_eq_true.mp h w hw)⟩
/-! ===== END ===== -/

/-! ===== BEGIN exceptions that leave a method, and their catching by the caller (launches without stack traces) ===== -/
section VXA
/-! The laws vx_back, vx_callV, vx_callS, vx_callSW, vx_throw0, vx_throwS follow proofs of the library, with one case more: JvmDerived/Free/Laws.lean (Back.of_free), Shelf42/LK1.lean (callV, callS), Shelf/KitTraced.lean (throwNew0V, throwNewS). -/
/-- where a method has thrown q: the class by its name, the cell, what was written, the world -/
def vx_T (XC : String → State → State → Prop) (st : State) (q : Addr) (t : State) (mc ms : Nat) (free : Addr → Prop) : Prop :=
  ∃ (E : String) (ce : Cell) (L : List Loc), XC E st t ∧ t.heap[q]? = some ce ∧ ce.vm = .none ∧ st.vm.findClass E = some ce.cls ∧ st.WarmedH t.vm ∧ st.sameButNew ({ t with vm := st.vm } : State) L mc ms ∧ ∀ z ∈ L, free z.base
def vx_Q (Qc : Array Value → State → Outcome → State → Prop) (XC : String → State → State → Prop) (mc ms : Nat) (free : Addr → Prop) : Array Value → State → Outcome → State → Prop := fun a st o t =>
  (Qc a st o t ∧ ∃ L, FrameEnd st o t L mc ms ∧ ∀ q ∈ L, free q.base) ∨ ∃ q, o = .threw q ∧ vx_T XC st q t mc ms free
/-- a callee that returns or throws -/
def vx_Met (l : Launch) (y : MethodName) (ws : List Cond) (rm : Room) (Pc : Array Value → State → Prop) (Qc : Array Value → State → Outcome → State → Prop) (XC : String → State → State → Prop) (mc ms : Nat) (free : Addr → Prop) : Prop :=
  MetFree l y (headSpec ws rm) Pc (fun _ _ _ _ _ => True) (vx_Q Qc XC mc ms free)
def vx_Post (XC : String → State → State → Prop) (mc ms : Nat) (free : Addr → Prop) : Pt → Array Value → Addr → Pt → Prop := fun A a q B =>
  ∃ (g : JFrame) (mk : MethodId) (t : State) (L : List Loc) (E : String) (ce : Cell), B.U.heap = t.heap ∧ B.U.vm = t.vm ∧ XC E (A.U.calling g mk a) t ∧ t.heap[q]? = some ce ∧ ce.vm = .none ∧ A.U.vm.findClass E = some ce.cls ∧ B.locs = A.locs ++ L ∧ (∀ z ∈ L, free z.base) ∧ B.cells = A.cells + mc ∧ B.slots = A.slots + ms
def vx_Back (l : Launch) (R : Room) (p : Program) (e : Env) (below : List Frame) (s : State) (sargs : Array Value) (y : MethodName) (len W9 : Nat)
    (Pre : Pt → Array Value → Prop) (Post : Pt → Array Value → Option Value → Pt → Prop) (PostX : Pt → Array Value → Addr → Pt → Prop) : Prop :=
  ∀ (m : MethodId) (meth : Method) (c : Code) (A : Pt) (g : JFrame) (ig : Instr) (mk : MethodId) (a : Array Value),
    Stand p l e R s m sargs below meth c A.U A.locs A.cells A.slots → g.method = m → g.locals.size = c.maxLocals → decode c.code g.pc = .ok (ig, len) →
    2 * g.monitorRoom + (g.stack.map fun v => v.category).sum ≤ W9 → A.U.methodNamed? y = some mk → Pre A a →
    (∃ (v : Option Value) (B : Pt), Stand p l e R s m sargs below meth c B.U B.locs B.cells B.slots ∧ Post A a v B ∧
      Steps p.tables e below (doInvoke e (A.U.setTop g) [] mk a).1 (B.U.setTop { g with pc := g.pc + len, stack := v.toList ++ g.stack })) ∨
    (∃ (q : Addr) (B : Pt), Stand p l e R s m sargs below meth c B.U B.locs B.cells B.slots ∧ PostX A a q B ∧
      Steps p.tables e below (doInvoke e (A.U.setTop g) [] mk a).1 ((B.U.setTop g).pushFrame (.throwing q)))
section Payer
variable {l : Launch} {R : Room} {p : Program} {e : Env} {below : List Frame} {s : State} {sargs : Array Value} {y : MethodName} {len W9 : Nat}
theorem vx_back {ws : List Cond} {rm : Room} {Pc : Array Value → State → Prop} {Qc : Array Value → State → Outcome → State → Prop} {XC : String → State → State → Prop} {mc ms : Nat} {free : Addr → Prop} {bytes : ByteArray} {maxL : Nat} {ret : Option FieldType}
    (hM : vx_Met l y ws rm Pc Qc XC mc ms free) (hblind : FrameBlind Pc) (hrc : rm.cells = mc) (hrs : rm.slots = ms)
    (hframes : rm.frames + 1 ≤ R.frames) (hlocals : W9 + (maxL + 11) + rm.locals ≤ R.locals)
    (hws : ∀ w ∈ ws, ∀ a' U, s.WarmedH U.vm → w.before a' U = true) (hcode : Cond.code y bytes maxL ret ∈ ws) (hinit : ∀ a' U, s.WarmedH U.vm → (Cond.initialized y.cls).before a' U = true) :
    vx_Back l R p e below s sargs y len W9 (PreOf R mc ms Pc) (PostOf Qc mc ms free) (vx_Post XC mc ms free) := by
  intro m meth c A g ig mk a X hg hsize hdg hW hn hp
  have h1 : (headSpec ws rm).pre.before a A.U = true := atoms_intro fun w hw => hws w hw _ _ X.warmed
  have h2 : (Cond.code y bytes maxL ret).before a A.U = true := hws _ hcode _ _ X.warmed
  have h3 : (Cond.initialized y.cls).before a A.U = true := hinit _ _ X.warmed
  have h4 : A.cells + (headSpec ws rm).room.cells ≤ R.cells := by rw [show (headSpec ws rm).room.cells = mc from hrc]; exact hp.1
  have h5 : A.slots + (headSpec ws rm).room.slots ≤ R.slots := by rw [show (headSpec ws rm).room.slots = ms from hrs]; exact hp.2.1
  have hPc : Pc a (A.U.calling g mk a) := hblind _ _ _ _ hp.2.2
  obtain ⟨U, Ls, c0, s0⟩ := A
  dsimp only [Pt.U, Pt.locs, Pt.cells, Pt.slots] at h1 h2 h3 h4 h5 X hn hPc ⊢
  obtain ⟨methY, cY, hmY, hcY, -, hlY, -, -, -, -⟩ := Cond.code_spec hn h2
  obtain ⟨kY, hkY, -⟩ := className_of_methodNamed hn
  have hinitY : kY.init = .initialized := Cond.initialized_spec (findClass_of_methodNamed hn) hkY h3
  have h : At U g.method c below := by rw [hg]; exact X.here
  have hlocals9 : W9 + (maxL + 11) + (headSpec ws rm).room.locals ≤ R.locals := hlocals
  have happ : (headSpec ws rm).appliesLoose y e.platform (U.calling g mk a) = true :=
    Spec.appliesLoose_calling (g := g) h hdg hn hkY hinitY
      (X.room_calling (g := g) (R' := (headSpec ws rm).room) hsize hmY hcY hframes (by rw [hlY]; omega) h4 h5) h1
  obtain ⟨mid, hmid⟩ := h.above
  have hfr : (U.setTop g).frames = (.java g :: mid) ++ below := by rw [State.frames_setTop' g h.top, hmid]; rfl
  obtain ⟨o, s₂, hsteps, -, hend, hq⟩ := Steps.callFree hM p X.admits X.cas X.clock (acts := []) hfr happ hPc trivial
  have hq' : vx_Q Qc XC mc ms free a (U.calling g mk a) o s₂ := hq
  rw [State.frames_setTop' g h.top] at hend
  obtain ⟨g₀, hg0⟩ := Option.isSome_iff_exists.mp h.top
  obtain ⟨r, hr⟩ := State.topJava?_eq_some.mp hg0
  have hr' : (({ U with heap := s₂.heap, slotsUsed := s₂.slotsUsed } : State).setVm s₂.vm).frames = .java g₀ :: r := hr
  rcases hq' with ⟨hqc, L, hfe, hL⟩ | ⟨q, rfl, E, ce, L, hx, hce, hcv, hcl, hW₂, hsm, hL⟩
  · obtain ⟨⟨v, rfl⟩, hW₂, e2, q2, q3, q4, q5, q6⟩ := id hfe
    have e3 : s₂ = ({ (U.calling g mk a).setFrames s₂.frames with heap := s₂.heap, slotsUsed := s₂.slotsUsed } : State).setVm s₂.vm := by
      have : s₂ = ({ s₂ with vm := (U.calling g mk a).vm } : State).setVm s₂.vm := rfl
      rw [e2] at this
      exact this
    obtain ⟨c₂, i₂, len₂, hc₂, hd₂, hf₂⟩ := hend
    have hW' : U.WarmedH s₂.vm := hW₂
    have hcc : c₂ = c := by
      have h1 : s₂.code? g.method = U.code? g.method := by
        rw [State.code?_eq, State.code?_eq, hW'.alike.method?]
      exact Option.some.inj (hc₂.symm.trans (h1.trans h.code))
    subst hcc
    have hlen : len₂ = len := by rw [hdg] at hd₂; cases hd₂; rfl
    subst hlen
    have hs₂ : s₂ = (({ U with heap := s₂.heap, slotsUsed := s₂.slotsUsed } : State).setVm s₂.vm).setTop { g with pc := g.pc + len₂, stack := v.toList ++ g.stack } := by
      refine e3.trans ?_
      rw [hf₂, State.calling_eq h.top, State.setFrames_setFrames, State.setTop_of_frames _ hr', hr]
      rfl
    have hsame : U.sameButNew ({ U with heap := s₂.heap, slotsUsed := s₂.slotsUsed } : State) L mc ms := by
      refine ⟨?_, q2, q3, q4, q5, q6⟩
      obtain ⟨t, ht, -⟩ := State.frames_cons hr
      show ({ U with heap := s₂.heap, slotsUsed := s₂.slotsUsed } : State) = { U.setFrames U.frames with heap := s₂.heap, slotsUsed := s₂.slotsUsed }
      rw [State.setFrames_self ht]
    subst hg
    refine Or.inl ⟨v, ⟨(({ U with heap := s₂.heap, slotsUsed := s₂.slotsUsed } : State).setVm s₂.vm), Ls ++ L, c0 + mc, s0 + ms⟩,
      ⟨X.admits, X.cas, X.clock, X.frames, X.room, X.hears, X.method, X.code, (X.here.setHeapUsed s₂.heap s₂.slotsUsed).setVm hW'.alike, X.tail, State.WarmedH.trans X.warmed hW', X.limits, X.bytes, X.same.trans (hsame.setVm s.vm)⟩,
      ⟨g, mk, s₂, L, rfl, rfl, hqc, rfl, hL, rfl, rfl⟩, ?_⟩
    show Steps p.tables e below _ ((({ U with heap := s₂.heap, slotsUsed := s₂.slotsUsed } : State).setVm s₂.vm).setTop { g with pc := g.pc + len₂, stack := v.toList ++ g.stack })
    rw [← hs₂]
    exact hsteps
  · obtain ⟨e2, q2, q3, q4, q5, q6⟩ := id hsm
    have e3 : s₂ = ({ (U.calling g mk a).setFrames s₂.frames with heap := s₂.heap, slotsUsed := s₂.slotsUsed } : State).setVm s₂.vm := by
      have : s₂ = ({ s₂ with vm := (U.calling g mk a).vm } : State).setVm s₂.vm := rfl
      rw [e2] at this
      exact this
    have hf₂ : s₂.frames = .throwing q :: .java g :: U.frames.tail := hend
    have hW' : U.WarmedH s₂.vm := hW₂
    have hs₂ : s₂ = ((({ U with heap := s₂.heap, slotsUsed := s₂.slotsUsed } : State).setVm s₂.vm).setTop g).pushFrame (.throwing q) := by
      refine e3.trans ?_
      rw [hf₂, State.calling_eq h.top, State.setFrames_setFrames, State.pushFrame, State.frames_setTop _ hr', State.setTop_of_frames _ hr', State.setFrames_setFrames, hr]
      rfl
    have hsame : U.sameButNew ({ U with heap := s₂.heap, slotsUsed := s₂.slotsUsed } : State) L mc ms := by
      refine ⟨?_, q2, q3, q4, q5, q6⟩
      obtain ⟨t, ht, -⟩ := State.frames_cons hr
      show ({ U with heap := s₂.heap, slotsUsed := s₂.slotsUsed } : State) = { U.setFrames U.frames with heap := s₂.heap, slotsUsed := s₂.slotsUsed }
      rw [State.setFrames_self ht]
    subst hg
    refine Or.inr ⟨q, ⟨(({ U with heap := s₂.heap, slotsUsed := s₂.slotsUsed } : State).setVm s₂.vm), Ls ++ L, c0 + mc, s0 + ms⟩,
      ⟨X.admits, X.cas, X.clock, X.frames, X.room, X.hears, X.method, X.code, (X.here.setHeapUsed s₂.heap s₂.slotsUsed).setVm hW'.alike, X.tail, State.WarmedH.trans X.warmed hW', X.limits, X.bytes, X.same.trans (hsame.setVm s.vm)⟩,
      ⟨g, mk, s₂, L, E, ce, rfl, rfl, hx, hce, hcv, hcl, rfl, hL, rfl, rfl⟩, ?_⟩
    show Steps p.tables e below _ (((({ U with heap := s₂.heap, slotsUsed := s₂.slotsUsed } : State).setVm s₂.vm).setTop g).pushFrame (.throwing q))
    rw [← hs₂]
    exact hsteps
end Payer
section Calls
variable {p : Program} {l : Launch} {e : Env} {R : Room} {s : State} {m : MethodId} {args : Array Value} {below : List Frame} {meth : Method} {c : Code} {T : State} {locs : List Loc} {cells slots : Nat}
theorem vx_callV (X : Stand p l e R s m args below meth c T locs cells slots) (hexec : p.tables.exec = Jvm.exec) {own C : String} {index : Nat} {y : MethodName} {bytes : ByteArray} {maxL : Nat} {ret : Option FieldType}
    (hown : s.vm.findClass own = some m.cls) (hlink : (Cond.methodLink own index y).before args s = true) (hinst : (Cond.instanceMethod y).before args s = true) (hsel : (Cond.selects C y y).before args s = true)
    (hcode : (Cond.code y bytes maxL ret).before args s = true) (hy : y.cls ≠ "java/lang/invoke/MethodHandle" ∧ y.cls ≠ "java/lang/invoke/VarHandle")
    {W9 : Nat} {Pre : Pt → Array Value → Prop} {Post : Pt → Array Value → Option Value → Pt → Prop} {PostX : Pt → Array Value → Addr → Pt → Prop} (hK : vx_Back l R p e below s args y 3 W9 Pre Post PostX)
    {b : Addr} {cellB : Cell} (hcell : T.heap[b]? = some cellB) (hobj : cellB.vm.isStatics = false) (hcls : s.vm.findClass C = some cellB.cls)
    {g : JFrame} (hg : g.method = m) (hsize : g.locals.size = c.maxLocals) {argsL rest : List Value} (hlen : ∀ sig, parseMethodDescriptor y.desc = some sig → argsL.length = sig.parameters.length)
    (hstack : g.stack = argsL.reverse ++ .ref b :: rest) (hW : 2 * g.monitorRoom + (rest.map fun v => v.category).sum ≤ W9) (hdg : decode c.code g.pc = .ok (.invokevirtual index, 3))
    (hpre : ∀ vm₁, s.WarmedH vm₁ → Pre ⟨T.setVm vm₁, locs, cells, slots⟩ (Value.ref b :: argsL).toArray) :
    (∃ (v : Option Value) (vm₁ : Vm) (B : Pt), s.WarmedH vm₁ ∧ Stand p l e R s m args below meth c B.U B.locs B.cells B.slots ∧ Post ⟨T.setVm vm₁, locs, cells, slots⟩ (Value.ref b :: argsL).toArray v B ∧
      ∀ target, Steps p.tables e below (B.U.setTop { g with pc := g.pc + 3, stack := v.toList ++ rest }) target → Steps p.tables e below (T.setTop g) target) ∨
    (∃ (q : Addr) (vm₁ : Vm) (B : Pt), s.WarmedH vm₁ ∧ Stand p l e R s m args below meth c B.U B.locs B.cells B.slots ∧ PostX ⟨T.setVm vm₁, locs, cells, slots⟩ (Value.ref b :: argsL).toArray q B ∧
      Steps p.tables e below (T.setTop g) ((B.U.setTop { g with stack := rest }).pushFrame (.throwing q))) := by
  obtain ⟨mk, methM, hnamed, hmethM, hstM, habM⟩ := Cond.instanceMethod_spec hinst
  obtain ⟨methM', cM, hmethM', -, -, -, -, -, -, hsigM⟩ := Cond.code_spec hnamed hcode
  cases hmethM.symm.trans hmethM'
  obtain ⟨c2, r2, m2, q1, q2, q3, q4, kP, hkP, hkPi⟩ := Cond.selects_spec hsel
  cases hcls.symm.trans q1
  cases (State.methodFound?_of_named hnamed hy).symm.trans q2
  cases hnamed.symm.trans q3
  have hselP : selectMethod e.platform s.vm cellB.cls mk = .method mk := by rw [Launch.admits_selectMethod X.admits]; exact q4
  obtain ⟨vm₁, X₁, hstep₁⟩ := X.invokevirtual hexec hown hlink hnamed hmethM hstM hkP hkPi hy (a := b) (cell := cellB) hcell
    (fun z h => by rw [h] at hobj; cases hobj) hselP hmethM habM hkP hkPi (g := g) hg (argsL := argsL) (rest := rest) (hlen _ hsigM) hstack hdg
  rcases hK m meth c ⟨T.setVm vm₁, locs, cells, slots⟩ { g with stack := rest } (.invokevirtual index) mk (Value.ref b :: argsL).toArray X₁ hg hsize hdg hW (X₁.named hnamed) (hpre vm₁ X₁.warmed) with ⟨v, B, X', hpost, hsteps⟩ | ⟨q, B, X', hpost, hsteps⟩
  · exact Or.inl ⟨v, vm₁, B, X₁.warmed, X', hpost, fun target h => hstep₁ _ fun acts => by rw [doInvoke_state]; exact hsteps.trans h⟩
  · exact Or.inr ⟨q, vm₁, B, X₁.warmed, X', hpost, hstep₁ _ fun acts => by rw [doInvoke_state]; exact hsteps⟩
theorem vx_callS (X : Stand p l e R s m args below meth c T locs cells slots) (hexec : p.tables.exec = Jvm.exec) {own : String} {index : Nat} {y : MethodName} {bytes : ByteArray} {maxL : Nat} {ret : Option FieldType}
    (hown : s.vm.findClass own = some m.cls) (hlink : (Cond.methodLink own index y).before args s = true) (hstat : (Cond.static y).before args s = true) (hinit : (Cond.initialized y.cls).before args s = true)
    (hcode : (Cond.code y bytes maxL ret).before args s = true) (hy : y.cls ≠ "java/lang/invoke/MethodHandle" ∧ y.cls ≠ "java/lang/invoke/VarHandle")
    {W9 : Nat} {Pre : Pt → Array Value → Prop} {Post : Pt → Array Value → Option Value → Pt → Prop} {PostX : Pt → Array Value → Addr → Pt → Prop} (hK : vx_Back l R p e below s args y 3 W9 Pre Post PostX)
    {g : JFrame} (hg : g.method = m) (hsize : g.locals.size = c.maxLocals) {argsL rest : List Value} (hlen : ∀ sig, parseMethodDescriptor y.desc = some sig → argsL.length = sig.parameters.length)
    (hstack : g.stack = argsL.reverse ++ rest) (hW : 2 * g.monitorRoom + (rest.map fun v => v.category).sum ≤ W9) (hdg : decode c.code g.pc = .ok (.invokestatic index, 3))
    (hpre : ∀ vm₁, s.WarmedH vm₁ → Pre ⟨T.setVm vm₁, locs, cells, slots⟩ argsL.toArray) :
    (∃ (v : Option Value) (vm₁ : Vm) (B : Pt), s.WarmedH vm₁ ∧ Stand p l e R s m args below meth c B.U B.locs B.cells B.slots ∧ Post ⟨T.setVm vm₁, locs, cells, slots⟩ argsL.toArray v B ∧
      ∀ target, Steps p.tables e below (B.U.setTop { g with pc := g.pc + 3, stack := v.toList ++ rest }) target → Steps p.tables e below (T.setTop g) target) ∨
    (∃ (q : Addr) (vm₁ : Vm) (B : Pt), s.WarmedH vm₁ ∧ Stand p l e R s m args below meth c B.U B.locs B.cells B.slots ∧ PostX ⟨T.setVm vm₁, locs, cells, slots⟩ argsL.toArray q B ∧
      Steps p.tables e below (T.setTop g) ((B.U.setTop { g with stack := rest }).pushFrame (.throwing q))) := by
  obtain ⟨mk, hnamed⟩ := Cond.code_named hcode
  obtain ⟨methM, cM, hmethM, -, -, -, -, -, -, hsigM⟩ := Cond.code_spec hnamed hcode
  have hstatic : methM.isStatic = true := Cond.static_spec hnamed hmethM hstat
  obtain ⟨kP, hkP, -⟩ := className_of_methodNamed hnamed
  have hinitP : kP.init = .initialized := Cond.initialized_spec (findClass_of_methodNamed hnamed) hkP hinit
  obtain ⟨vm₁, X₁, hstep₁⟩ := X.invokestatic hexec hown hlink hnamed hmethM hstatic hkP hinitP hy (g := g) hg (argsL := argsL) (rest := rest) (hlen _ hsigM) hstack hdg
  rcases hK m meth c ⟨T.setVm vm₁, locs, cells, slots⟩ { g with stack := rest } (.invokestatic index) mk argsL.toArray X₁ hg hsize hdg hW (X₁.named hnamed) (hpre vm₁ X₁.warmed) with ⟨v, B, X', hpost, hsteps⟩ | ⟨q, B, X', hpost, hsteps⟩
  · exact Or.inl ⟨v, vm₁, B, X₁.warmed, X', hpost, fun target h => hstep₁ _ fun acts => by rw [doInvoke_state]; exact hsteps.trans h⟩
  · exact Or.inr ⟨q, vm₁, B, X₁.warmed, X', hpost, hstep₁ _ fun acts => by rw [doInvoke_state]; exact hsteps⟩
end Calls
theorem vx_cls {s : State} {T : State} {vm₁ : Vm} {E : String} {k : ClassId} (hW : s.WarmedH vm₁) (h : (T.setVm vm₁).vm.findClass E = some k) : s.vm.findClass E = some k := by
  have h1 : vm₁.findClass E = some k := h
  rw [hW.alike.findClass] at h1
  exact h1
/-- the method's frame g, with q thrown over it -/
def vx_W (p : Program) (l : Launch) (e : Env) (R : Room) (s : State) (m : MethodId) (args : Array Value) (below : List Frame) (meth : Method) (c : Code) (H : Heap) (locs : List Loc) (cells slots : Nat) (Q : State → Prop) (g : JFrame) (q : Addr) : Prop :=
  ∀ T : State, T.heap = H → Stand p l e R s m args below meth c T locs cells slots → ∃ t, Steps p.tables e below ((T.setTop g).pushFrame (.throwing q)) t ∧ Q t
def vx_Run (p : Program) (l : Launch) (e : Env) (R : Room) (s : State) (m : MethodId) (args : Array Value) (below : List Frame) (meth : Method) (c : Code) (H : Heap) (locs : List Loc) (cells slots mc ms : Nat) (g : JFrame) (rest : List Value) (Qa : State → Outcome → State → Prop) (XC : String → State → State → Prop) (free : Addr → Prop) : Prop :=
  ∀ T : State, T.heap = H → Stand p l e R s m args below meth c T locs cells slots →
    (∃ (v : Option Value) (st₀ t T' : State) (L : List Loc), st₀.heap = H ∧ Stand p l e R s m args below meth c T' (locs ++ L) (cells + mc) (slots + ms) ∧ (∀ q ∈ L, free q.base) ∧ T'.heap = t.heap ∧ T'.vm = t.vm ∧ Qa st₀ (.returned v) t ∧
      Goes p e below T g T' { g with pc := g.pc + 3, stack := v.toList ++ rest }) ∨
    (∃ (q : Addr) (st₀ t T' : State) (L : List Loc) (E : String) (ce : Cell), st₀.heap = H ∧ Stand p l e R s m args below meth c T' (locs ++ L) (cells + mc) (slots + ms) ∧ (∀ z ∈ L, free z.base) ∧ T'.heap = t.heap ∧ T'.vm = t.vm ∧ XC E st₀ t ∧ t.heap[q]? = some ce ∧ ce.vm = .none ∧ s.vm.findClass E = some ce.cls ∧
      Steps p.tables e below (T.setTop g) ((T'.setTop { g with stack := rest }).pushFrame (.throwing q)))
def vx_X {S : Type} (px : S → Prop) (B : String → S → State → Prop) (A : Nat → Prop) : String → State → State → Prop := fun E st t => ∃ u : S, px u ∧ B E u t ∧ va_F A st t
section Runs
variable {p : Program} {l : Launch} {e : Env} {R : Room} {s : State} {m : MethodId} {args : Array Value} {below : List Frame} {meth : Method} {c : Code} {H : Heap} {locs : List Loc} {cells slots : Nat}
variable {y : MethodName} {bytes cc : ByteArray} {maxL nL mc ms n index : Nat} {ret : Option FieldType} {ws : List Cond} {rm : Room} {Pc : Array Value → State → Prop} {Qc : Array Value → State → Outcome → State → Prop} {XC : String → State → State → Prop} {free : Addr → Prop} {Ts : List Cond} {own C : String} {b : Addr} {As rest : List Value} {g : JFrame}
theorem vx_callBack (cb : CallB R s args own index y bytes maxL ret ws rm mc ms n) (hM : vx_Met l y ws rm Pc Qc XC mc ms free) (hbl : FrameBlind Pc) : vx_Back l R p e below s args y 3 8 (PreOf R mc ms Pc) (PostOf Qc mc ms free) (vx_Post XC mc ms free) := by
  obtain ⟨hrc, hrs, hfr, hlo, hws, hcw, -, hini, -⟩ := cb
  exact vx_back (bytes := bytes) (maxL := maxL) (ret := ret) hM hbl hrc hrs hfr hlo hws hcw (fun a' U hW => word_at hW (Or.inl (by first | rfl | simp [Cond.onTables, Cond.keeps, Cond.steady])) hini)
theorem vx_runV (S : CallFix p m c cc nL s args Ts own) (hM : vx_Met l y ws rm Pc Qc XC mc ms free) (cw : CallW R s args own C index y bytes maxL ret ws rm mc ms n) (hp : PreV s H C b Pc As)
    (hg : g.method = m) (hn : As.length = n) (hsize : g.locals.size = nL) (hstack : g.stack = As.reverse ++ .ref b :: rest) (hW : 2 * g.monitorRoom + (rest.map fun v => v.category).sum ≤ 8) (hdg : decode cc g.pc = .ok (.invokevirtual index, 3)) (hf : cells + mc ≤ R.cells ∧ slots + ms ≤ R.slots) :
    vx_Run p l e R s m args below meth c H locs cells slots mc ms g rest (Qc (Value.ref b :: As).toArray) XC free := by
  have hK : vx_Back l R p e below s args y 3 8 (PreOf R mc ms Pc) (PostOf Qc mc ms free) (vx_Post XC mc ms free) := vx_callBack cw.1 hM hp.1
  obtain ⟨⟨-, -, -, -, -, -, hcode, -, hy, hlen, hl⟩, hin, hse⟩ := cw
  obtain ⟨hx, hb, hml, ho, -⟩ := S
  obtain ⟨-, ⟨cellB, hcB, hoB, hclB⟩, hPc⟩ := hp
  intro T hT X
  rcases vx_callV X hx (C := C) (bytes := bytes) (maxL := maxL) (ret := ret) ho hl hin hse hcode hy hK (by rw [hT]; exact hcB) hoB hclB hg (hsize.trans hml.symm) (argsL := As) (rest := rest) (fun sig h => hn.trans (hlen sig h)) hstack hW (by rw [hb]; exact hdg)
    (fun vm₁ hW₁ => ⟨hf.1, hf.2, hPc (T.setVm vm₁) hT hW₁⟩) with ⟨v, vm₁, ⟨U', l2, c2, s2⟩, hW₁, X', ⟨g', mk, t, L, e1, e2, hq, h1, hL, h2, h3⟩, st⟩ | ⟨q, vm₁, ⟨U', l2, c2, s2⟩, hW₁, X', ⟨g', mk, t, L, E, ce, e1, e2, hq, hce, hcv, hcl, h1, hL, h2, h3⟩, st⟩
  · dsimp only [Pt.U, Pt.locs, Pt.cells, Pt.slots] at X' e1 e2 h1 h2 h3 st
    subst h1; subst h2; subst h3
    exact Or.inl ⟨v, (T.setVm vm₁).calling g' mk (Value.ref b :: As).toArray, t, U', L, hT, X', hL, e1, e2, hq, st⟩
  · dsimp only [Pt.U, Pt.locs, Pt.cells, Pt.slots] at X' e1 e2 h1 h2 h3 st hcl
    subst h1; subst h2; subst h3
    exact Or.inr ⟨q, (T.setVm vm₁).calling g' mk (Value.ref b :: As).toArray, t, U', L, E, ce, hT, X', hL, e1, e2, hq, hce, hcv, vx_cls hW₁ hcl, st⟩
theorem vx_runS (S : CallFix p m c cc nL s args Ts own) (hM : vx_Met l y ws rm Pc Qc XC mc ms free) (cw : CallB R s args own index y bytes maxL ret ws rm mc ms n ∧ (Cond.static y).before args s = true) (hp : PreS s H Pc As)
    (hg : g.method = m) (hn : As.length = n) (hsize : g.locals.size = nL) (hstack : g.stack = As.reverse ++ rest) (hW : 2 * g.monitorRoom + (rest.map fun v => v.category).sum ≤ 8) (hdg : decode cc g.pc = .ok (.invokestatic index, 3)) (hf : cells + mc ≤ R.cells ∧ slots + ms ≤ R.slots) :
    vx_Run p l e R s m args below meth c H locs cells slots mc ms g rest (Qc As.toArray) XC free := by
  have hK : vx_Back l R p e below s args y 3 8 (PreOf R mc ms Pc) (PostOf Qc mc ms free) (vx_Post XC mc ms free) := vx_callBack cw.1 hM hp.1
  obtain ⟨⟨-, -, -, -, -, -, hcode, hini, hy, hlen, hl⟩, hstt⟩ := cw
  obtain ⟨hx, hb, hml, ho, -⟩ := S
  intro T hT X
  rcases vx_callS X hx (bytes := bytes) (maxL := maxL) (ret := ret) ho hl hstt hini hcode hy hK hg (hsize.trans hml.symm) (argsL := As) (rest := rest) (fun sig h => hn.trans (hlen sig h)) hstack hW (by rw [hb]; exact hdg)
    (fun vm₁ hW₁ => ⟨hf.1, hf.2, hp.2 (T.setVm vm₁) hT hW₁⟩) with ⟨v, vm₁, ⟨U', l2, c2, s2⟩, hW₁, X', ⟨g', mk, t, L, e1, e2, hq, h1, hL, h2, h3⟩, st⟩ | ⟨q, vm₁, ⟨U', l2, c2, s2⟩, hW₁, X', ⟨g', mk, t, L, E, ce, e1, e2, hq, hce, hcv, hcl, h1, hL, h2, h3⟩, st⟩
  · dsimp only [Pt.U, Pt.locs, Pt.cells, Pt.slots] at X' e1 e2 h1 h2 h3 st
    subst h1; subst h2; subst h3
    exact Or.inl ⟨v, (T.setVm vm₁).calling g' mk As.toArray, t, U', L, hT, X', hL, e1, e2, hq, st⟩
  · dsimp only [Pt.U, Pt.locs, Pt.cells, Pt.slots] at X' e1 e2 h1 h2 h3 st hcl
    subst h1; subst h2; subst h3
    exact Or.inr ⟨q, (T.setVm vm₁).calling g' mk As.toArray, t, U', L, E, ce, hT, X', hL, e1, e2, hq, hce, hcv, vx_cls hW₁ hcl, st⟩
end Runs
section Rows
variable {p : Program} {l : Launch} {e : Env} {R : Room} {s : State} {m : MethodId} {args : Array Value} {below : List Frame} {meth : Method} {c : Code} {H : Heap} {locs : List Loc} {cells slots : Nat} {Q : State → Prop}
variable {mc ms : Nat} {free : Addr → Prop} {A0 A1 : Nat → Prop} {H0 : Heap} {a : Array Value} {pc : Nat} {ls : Array Slot} {st0 rest : List Value}
theorem vx_keep {st₀ t T' : State} {L : List Loc} (h0 : st₀.heap = H) (e1 : T'.heap = t.heap) (hS : va_S A0 H0 H locs) (hA : ∀ q, q < H.size → A1 q → A0 q) (hf : ∀ q, free q → A0 q) (hL : ∀ q ∈ L, free q.base) (hF : va_F A1 st₀ t) :
    H.size ≤ T'.heap.size ∧ (∀ q : Nat, q < H.size → ¬ A1 q → T'.heap[q]? = H[q]?) ∧ va_S A0 H0 T'.heap (locs ++ L) := by
  obtain ⟨hz, hk⟩ := hF
  rw [h0] at hz hk
  exact ⟨by rw [e1]; exact hz, fun q h1 h2 => by rw [e1]; exact hk q h1 h2,
    ⟨Nat.le_trans hS.1 (by rw [e1]; exact hz), fun q h1 h2 => by rw [e1, hk q (Nat.lt_of_lt_of_le h1 hS.1) (fun z => h2 (hA q (Nat.lt_of_lt_of_le h1 hS.1) z))]; exact hS.2.1 q h1 h2, fun q hq => by
      rcases List.mem_append.mp hq with h | h
      · exact hS.2.2 q h
      · exact hf _ (hL q h)⟩⟩
theorem vx_calli {S SX : Type} {post : Int32 → S → Prop} {px : SX → Prop} {B : S → State → Prop} {BX : String → SX → State → Prop} {AX : Nat → Prop} (hr : vx_Run p l e R s m args below meth c H locs cells slots mc ms (F0 m pc ls st0) rest (va_Qi post B A1 a) (vx_X px BX AX) free) (hS : va_S A0 H0 H locs) (hA : ∀ q, q < H.size → A1 q → A0 q) (hf : ∀ q, free q → A0 q) (hAX : ∀ q, q < H.size → AX q → A0 q)
    (kx : ∀ (E : String) (ce : Cell) (q9 : Addr) (u : SX) (t : State) (H1 : Heap) (locs1 : List Loc), t.heap = H1 → s.vm.Alike t.vm → px u → BX E u t → H.size ≤ H1.size → (∀ q : Nat, q < H.size → ¬ AX q → H1[q]? = H[q]?) → va_S A0 H0 H1 locs1 → H1[q9]? = some ce → ce.vm = .none → s.vm.findClass E = some ce.cls → vx_W p l e R s m args below meth c H1 locs1 (cells + mc) (slots + ms) Q (F0 m pc ls rest) q9)
    (kk : ∀ (r : Int32) (u : S) (t : State) (H1 : Heap) (locs1 : List Loc), t.heap = H1 → s.vm.Alike t.vm → post r u → B u t → H.size ≤ H1.size → (∀ q : Nat, q < H.size → ¬ A1 q → H1[q]? = H[q]?) → va_S A0 H0 H1 locs1 → W p l e R s m args below meth c H1 locs1 (cells + mc) (slots + ms) Q (F0 m (pc + 3) ls (.int r :: rest))) : W p l e R s m args below meth c H locs cells slots Q (F0 m pc ls st0) := by
  intro T hT X
  rcases hr T hT X with ⟨v, st₀, t, T', L, h0, X', hL, e1, e2, ⟨⟨r, u, hv, hp, hb⟩, hF⟩, st⟩ | ⟨q, st₀, t, T', L, E, ce, h0, X', hL, e1, e2, ⟨u, hp, hb, hF⟩, hce, hcv, hcl, st⟩
  · cases hv
    obtain ⟨k1, k2, k3⟩ := vx_keep h0 e1 hS hA hf hL hF
    obtain ⟨t2, a1, b1⟩ := kk r u t T'.heap (locs ++ L) e1.symm (by rw [← e2]; exact X'.warmed.alike) hp hb k1 k2 k3 T' rfl X'
    exact ⟨t2, st t2 a1, b1⟩
  · obtain ⟨k1, k2, k3⟩ := vx_keep h0 e1 hS hAX hf hL hF
    obtain ⟨t2, a1, b1⟩ := kx E ce q u t T'.heap (locs ++ L) e1.symm (by rw [← e2]; exact X'.warmed.alike) hp hb k1 k2 k3 (by rw [e1]; exact hce) hcv hcl T' rfl X'
    exact ⟨t2, st.trans a1, b1⟩
theorem vx_calll {S SX : Type} {post : Int64 → S → Prop} {px : SX → Prop} {B : S → State → Prop} {BX : String → SX → State → Prop} {AX : Nat → Prop} (hr : vx_Run p l e R s m args below meth c H locs cells slots mc ms (F0 m pc ls st0) rest (va_Ql post B A1 a) (vx_X px BX AX) free) (hS : va_S A0 H0 H locs) (hA : ∀ q, q < H.size → A1 q → A0 q) (hf : ∀ q, free q → A0 q) (hAX : ∀ q, q < H.size → AX q → A0 q)
    (kx : ∀ (E : String) (ce : Cell) (q9 : Addr) (u : SX) (t : State) (H1 : Heap) (locs1 : List Loc), t.heap = H1 → s.vm.Alike t.vm → px u → BX E u t → H.size ≤ H1.size → (∀ q : Nat, q < H.size → ¬ AX q → H1[q]? = H[q]?) → va_S A0 H0 H1 locs1 → H1[q9]? = some ce → ce.vm = .none → s.vm.findClass E = some ce.cls → vx_W p l e R s m args below meth c H1 locs1 (cells + mc) (slots + ms) Q (F0 m pc ls rest) q9)
    (kk : ∀ (r : Int64) (u : S) (t : State) (H1 : Heap) (locs1 : List Loc), t.heap = H1 → s.vm.Alike t.vm → post r u → B u t → H.size ≤ H1.size → (∀ q : Nat, q < H.size → ¬ A1 q → H1[q]? = H[q]?) → va_S A0 H0 H1 locs1 → W p l e R s m args below meth c H1 locs1 (cells + mc) (slots + ms) Q (F0 m (pc + 3) ls (.long r :: rest))) : W p l e R s m args below meth c H locs cells slots Q (F0 m pc ls st0) := by
  intro T hT X
  rcases hr T hT X with ⟨v, st₀, t, T', L, h0, X', hL, e1, e2, ⟨⟨r, u, hv, hp, hb⟩, hF⟩, st⟩ | ⟨q, st₀, t, T', L, E, ce, h0, X', hL, e1, e2, ⟨u, hp, hb, hF⟩, hce, hcv, hcl, st⟩
  · cases hv
    obtain ⟨k1, k2, k3⟩ := vx_keep h0 e1 hS hA hf hL hF
    obtain ⟨t2, a1, b1⟩ := kk r u t T'.heap (locs ++ L) e1.symm (by rw [← e2]; exact X'.warmed.alike) hp hb k1 k2 k3 T' rfl X'
    exact ⟨t2, st t2 a1, b1⟩
  · obtain ⟨k1, k2, k3⟩ := vx_keep h0 e1 hS hAX hf hL hF
    obtain ⟨t2, a1, b1⟩ := kx E ce q u t T'.heap (locs ++ L) e1.symm (by rw [← e2]; exact X'.warmed.alike) hp hb k1 k2 k3 (by rw [e1]; exact hce) hcv hcl T' rfl X'
    exact ⟨t2, st.trans a1, b1⟩
theorem vx_callf {S SX : Type} {post : UInt32 → S → Prop} {px : SX → Prop} {B : S → State → Prop} {BX : String → SX → State → Prop} {AX : Nat → Prop} (hr : vx_Run p l e R s m args below meth c H locs cells slots mc ms (F0 m pc ls st0) rest (va_Qf post B A1 a) (vx_X px BX AX) free) (hS : va_S A0 H0 H locs) (hA : ∀ q, q < H.size → A1 q → A0 q) (hf : ∀ q, free q → A0 q) (hAX : ∀ q, q < H.size → AX q → A0 q)
    (kx : ∀ (E : String) (ce : Cell) (q9 : Addr) (u : SX) (t : State) (H1 : Heap) (locs1 : List Loc), t.heap = H1 → s.vm.Alike t.vm → px u → BX E u t → H.size ≤ H1.size → (∀ q : Nat, q < H.size → ¬ AX q → H1[q]? = H[q]?) → va_S A0 H0 H1 locs1 → H1[q9]? = some ce → ce.vm = .none → s.vm.findClass E = some ce.cls → vx_W p l e R s m args below meth c H1 locs1 (cells + mc) (slots + ms) Q (F0 m pc ls rest) q9)
    (kk : ∀ (r : UInt32) (u : S) (t : State) (H1 : Heap) (locs1 : List Loc), t.heap = H1 → s.vm.Alike t.vm → post r u → B u t → H.size ≤ H1.size → (∀ q : Nat, q < H.size → ¬ A1 q → H1[q]? = H[q]?) → va_S A0 H0 H1 locs1 → W p l e R s m args below meth c H1 locs1 (cells + mc) (slots + ms) Q (F0 m (pc + 3) ls (.float r :: rest))) : W p l e R s m args below meth c H locs cells slots Q (F0 m pc ls st0) := by
  intro T hT X
  rcases hr T hT X with ⟨v, st₀, t, T', L, h0, X', hL, e1, e2, ⟨⟨r, u, hv, hp, hb⟩, hF⟩, st⟩ | ⟨q, st₀, t, T', L, E, ce, h0, X', hL, e1, e2, ⟨u, hp, hb, hF⟩, hce, hcv, hcl, st⟩
  · cases hv
    obtain ⟨k1, k2, k3⟩ := vx_keep h0 e1 hS hA hf hL hF
    obtain ⟨t2, a1, b1⟩ := kk r u t T'.heap (locs ++ L) e1.symm (by rw [← e2]; exact X'.warmed.alike) hp hb k1 k2 k3 T' rfl X'
    exact ⟨t2, st t2 a1, b1⟩
  · obtain ⟨k1, k2, k3⟩ := vx_keep h0 e1 hS hAX hf hL hF
    obtain ⟨t2, a1, b1⟩ := kx E ce q u t T'.heap (locs ++ L) e1.symm (by rw [← e2]; exact X'.warmed.alike) hp hb k1 k2 k3 (by rw [e1]; exact hce) hcv hcl T' rfl X'
    exact ⟨t2, st.trans a1, b1⟩
theorem vx_calld {S SX : Type} {post : UInt64 → S → Prop} {px : SX → Prop} {B : S → State → Prop} {BX : String → SX → State → Prop} {AX : Nat → Prop} (hr : vx_Run p l e R s m args below meth c H locs cells slots mc ms (F0 m pc ls st0) rest (va_Qd post B A1 a) (vx_X px BX AX) free) (hS : va_S A0 H0 H locs) (hA : ∀ q, q < H.size → A1 q → A0 q) (hf : ∀ q, free q → A0 q) (hAX : ∀ q, q < H.size → AX q → A0 q)
    (kx : ∀ (E : String) (ce : Cell) (q9 : Addr) (u : SX) (t : State) (H1 : Heap) (locs1 : List Loc), t.heap = H1 → s.vm.Alike t.vm → px u → BX E u t → H.size ≤ H1.size → (∀ q : Nat, q < H.size → ¬ AX q → H1[q]? = H[q]?) → va_S A0 H0 H1 locs1 → H1[q9]? = some ce → ce.vm = .none → s.vm.findClass E = some ce.cls → vx_W p l e R s m args below meth c H1 locs1 (cells + mc) (slots + ms) Q (F0 m pc ls rest) q9)
    (kk : ∀ (r : UInt64) (u : S) (t : State) (H1 : Heap) (locs1 : List Loc), t.heap = H1 → s.vm.Alike t.vm → post r u → B u t → H.size ≤ H1.size → (∀ q : Nat, q < H.size → ¬ A1 q → H1[q]? = H[q]?) → va_S A0 H0 H1 locs1 → W p l e R s m args below meth c H1 locs1 (cells + mc) (slots + ms) Q (F0 m (pc + 3) ls (.double r :: rest))) : W p l e R s m args below meth c H locs cells slots Q (F0 m pc ls st0) := by
  intro T hT X
  rcases hr T hT X with ⟨v, st₀, t, T', L, h0, X', hL, e1, e2, ⟨⟨r, u, hv, hp, hb⟩, hF⟩, st⟩ | ⟨q, st₀, t, T', L, E, ce, h0, X', hL, e1, e2, ⟨u, hp, hb, hF⟩, hce, hcv, hcl, st⟩
  · cases hv
    obtain ⟨k1, k2, k3⟩ := vx_keep h0 e1 hS hA hf hL hF
    obtain ⟨t2, a1, b1⟩ := kk r u t T'.heap (locs ++ L) e1.symm (by rw [← e2]; exact X'.warmed.alike) hp hb k1 k2 k3 T' rfl X'
    exact ⟨t2, st t2 a1, b1⟩
  · obtain ⟨k1, k2, k3⟩ := vx_keep h0 e1 hS hAX hf hL hF
    obtain ⟨t2, a1, b1⟩ := kx E ce q u t T'.heap (locs ++ L) e1.symm (by rw [← e2]; exact X'.warmed.alike) hp hb k1 k2 k3 (by rw [e1]; exact hce) hcv hcl T' rfl X'
    exact ⟨t2, st.trans a1, b1⟩
theorem vx_callv {S SX : Type} {post : S → Prop} {px : SX → Prop} {B : S → State → Prop} {BX : String → SX → State → Prop} {AX : Nat → Prop} (hr : vx_Run p l e R s m args below meth c H locs cells slots mc ms (F0 m pc ls st0) rest (va_Qv post B A1 a) (vx_X px BX AX) free) (hS : va_S A0 H0 H locs) (hA : ∀ q, q < H.size → A1 q → A0 q) (hf : ∀ q, free q → A0 q) (hAX : ∀ q, q < H.size → AX q → A0 q)
    (kx : ∀ (E : String) (ce : Cell) (q9 : Addr) (u : SX) (t : State) (H1 : Heap) (locs1 : List Loc), t.heap = H1 → s.vm.Alike t.vm → px u → BX E u t → H.size ≤ H1.size → (∀ q : Nat, q < H.size → ¬ AX q → H1[q]? = H[q]?) → va_S A0 H0 H1 locs1 → H1[q9]? = some ce → ce.vm = .none → s.vm.findClass E = some ce.cls → vx_W p l e R s m args below meth c H1 locs1 (cells + mc) (slots + ms) Q (F0 m pc ls rest) q9)
    (kk : ∀ (u : S) (t : State) (H1 : Heap) (locs1 : List Loc), t.heap = H1 → s.vm.Alike t.vm → post u → B u t → H.size ≤ H1.size → (∀ q : Nat, q < H.size → ¬ A1 q → H1[q]? = H[q]?) → va_S A0 H0 H1 locs1 → W p l e R s m args below meth c H1 locs1 (cells + mc) (slots + ms) Q (F0 m (pc + 3) ls (rest))) : W p l e R s m args below meth c H locs cells slots Q (F0 m pc ls st0) := by
  intro T hT X
  rcases hr T hT X with ⟨v, st₀, t, T', L, h0, X', hL, e1, e2, ⟨⟨u, hv, hp, hb⟩, hF⟩, st⟩ | ⟨q, st₀, t, T', L, E, ce, h0, X', hL, e1, e2, ⟨u, hp, hb, hF⟩, hce, hcv, hcl, st⟩
  · cases hv
    obtain ⟨k1, k2, k3⟩ := vx_keep h0 e1 hS hA hf hL hF
    obtain ⟨t2, a1, b1⟩ := kk u t T'.heap (locs ++ L) e1.symm (by rw [← e2]; exact X'.warmed.alike) hp hb k1 k2 k3 T' rfl X'
    exact ⟨t2, st t2 a1, b1⟩
  · obtain ⟨k1, k2, k3⟩ := vx_keep h0 e1 hS hAX hf hL hF
    obtain ⟨t2, a1, b1⟩ := kx E ce q u t T'.heap (locs ++ L) e1.symm (by rw [← e2]; exact X'.warmed.alike) hp hb k1 k2 k3 (by rw [e1]; exact hce) hcv hcl T' rfl X'
    exact ⟨t2, st.trans a1, b1⟩
/-- caught by the row x of this method's table; the rows ahead don't take it -/
theorem vx_catch {own name : String} {E : String} {ce : Cell} {q : Addr} (hown : s.vm.findClass own = some m.cls) (pre : List ExceptionTableEntry) (x : ExceptionTableEntry) (suf : List ExceptionTableEntry) (hsplit : c.exceptionTable.toList = pre ++ x :: suf)
    (hpass : ∀ z ∈ pre, covers z pc = false ∨ (z.catchType ≠ 0 ∧ ∃ nm : String, (Cond.classLink own z.catchType nm).before args s = true ∧ va_Nc E nm s)) (hx : covers x pc = true) (h0 : x.catchType ≠ 0)
    (hlink : (Cond.classLink own x.catchType name).before args s = true) (hcast : (Cond.castable E name).before args s = true) (hcell : H[q]? = some ce) (hv : ce.vm = .none) (hcl : s.vm.findClass E = some ce.cls)
    (kk : W p l e R s m args below meth c H locs cells slots Q (F0 m x.handlerPc ls [.ref q])) : vx_W p l e R s m args below meth c H locs cells slots Q (F0 m pc ls rest) q := by
  intro T hT X
  have hpl : e.platform.magicAccessors = ({} : Platform).magicAccessors := by rw [X.admits.platform]
  obtain ⟨c3, c4, hc3, hc4, hasg⟩ := Cond.castable_spec hcast
  cases Option.some.inj (hc3.symm.trans hcl)
  obtain ⟨c5, hc5, hcl5⟩ := Cond.classLink_spec hown hlink e.platform hpl
  cases Option.some.inj (hc4.symm.trans hc5)
  obtain ⟨vm', X', st⟩ := X.thenCaughtThrough q (g := F0 m pc ls rest) rfl (Steps.refl _) (by rw [hT]; exact hcell) (by rw [hv]; rfl) (by obtain ⟨k9, h9, -⟩ := Vm.findClass_spec hcl; exact ⟨k9, h9⟩) pre x suf hsplit
    (fun z hz => by
      rcases hpass z hz with h | ⟨hz0, nm, hl1, hn1⟩
      · exact Or.inl h
      · obtain ⟨c6, hc6, hcl6⟩ := Cond.classLink_spec hown hl1 e.platform hpl
        obtain ⟨a8, b8, h1, h2, h3⟩ := hn1
        cases Option.some.inj (h1.symm.trans hcl)
        cases Option.some.inj (h2.symm.trans hc6)
        exact Or.inr ⟨hz0, _, hcl6, h3⟩) hx (Or.inr ⟨h0, c4, hcl5, hasg⟩)
  obtain ⟨t, a1, b1⟩ := kk (T.setVm vm') hT X'
  exact ⟨t, st.trans a1, b1⟩
end Rows
section Ends
variable {p : Program} {l : Launch} {e : Env} {R : Room} {s : State} {m : MethodId} {args : Array Value} {below : List Frame} {meth : Method} {c : Code} {H : Heap} {locs : List Loc} {cells slots : Nat} {Q : State → Prop}
variable {mc ms : Nat} {free : Addr → Prop} {A0 A1 : Nat → Prop} {H0 : Heap} {a : Array Value} {ls : Array Slot} {st0 rest : List Value}
variable {Qc : Array Value → State → Outcome → State → Prop} {XC : String → State → State → Prop}
/-- what a body that may throw owes at its end -/
def vx_MQ (below : List Frame) (Qc : Array Value → State → Outcome → State → Prop) (XC : String → State → State → Prop) (a : Array Value) (s : State) (mc ms : Nat) (free : Addr → Prop) : State → Prop := fun t =>
  ∃ o, t.status = .running ∧ Ended t below o ∧ vx_Q Qc XC mc ms free a s o t
theorem vx_ret {g : JFrame} {mc ms : Nat} (k : W p l e R s m args below meth c H locs cells slots (MQ below Qc args s mc ms free) g) : W p l e R s m args below meth c H locs cells slots (vx_MQ below Qc XC args s mc ms free) g := by
  intro T hT X
  obtain ⟨t, a1, o, b1, b2, b3, b4⟩ := k T hT X
  exact ⟨t, a1, o, b1, b2, Or.inl ⟨b3, b4⟩⟩
/-- not caught here: it goes on to the caller -/
theorem vx_widen {g : JFrame} {q : Addr} {k n : Nat} (h1 : cells ≤ k) (h2 : slots ≤ n) (kk : vx_W p l e R s m args below meth c H locs k n Q g q) : vx_W p l e R s m args below meth c H locs cells slots Q g q := fun T hT X => kk T hT (stand_widen X h1 h2)
theorem vx_out {pc : Nat} {E : String} {ce : Cell} {q : Addr} {mc ms : Nat} (hout : ∀ x ∈ c.exceptionTable.toList, covers x pc = false) (hlocks : meth.locks = false) (hcell : H[q]? = some ce) (hv : ce.vm = .none) (hcl : s.vm.findClass E = some ce.cls)
    (hx : ∀ t : State, t.heap = H → s.vm.Alike t.vm → XC E s t) (hf : ∀ z ∈ locs, free z.base) (hc : cells ≤ mc) (hs : slots ≤ ms) :
    vx_W p l e R s m args below meth c H locs cells slots (vx_MQ below Qc XC args s mc ms free) (F0 m pc ls rest) q := by
  intro T hT X
  obtain ⟨st1, hrun, hend, hW, hsm⟩ := X.leaveThrown q (g := F0 m pc ls rest) rfl rfl rfl hout hlocks
  have hcell9 : (T.setFrames (.throwing q :: below)).heap[q]? = some ce := by
    show T.heap[q]? = some ce
    rw [hT]; exact hcell
  exact ⟨_, st1, .threw q, hrun, hend, Or.inr ⟨q, rfl, E, ce, locs, hx _ hT hW.alike, hcell9, hv, hcl, hW, hsm.mono hc hs, hf⟩⟩
theorem vx_frame {U : State} {k n : Nat} (h : s.sameButNew ({ U with vm := s.vm } : State) locs k n) : s.heap.size ≤ U.heap.size ∧ ∀ q : Nat, q < s.heap.size → (∀ z ∈ locs, z.base ≠ q) → U.heap[q]? = s.heap[q]? := by
  obtain ⟨-, h2, -, -, -, h6⟩ := h
  refine ⟨h2, fun q hq hz => ?_⟩
  obtain ⟨c9, e1, e2, e3, e4⟩ := h6 q _ (Array.getElem?_eq_getElem hq)
  have hs : c9.slots = (s.heap[q]).slots := Array.ext_getElem? fun i => e4 i fun hm => hz _ hm rfl
  have h9 : c9 = s.heap[q] := by
    rw [hs] at e2
    exact e2
  have e5 : U.heap[q]? = some c9 := e1
  rw [e5, h9, Array.getElem?_eq_getElem hq]
/-- the words of a throw but the four that speak of the heap -/
def vx_no (w : Cond) : Bool := decide (w ≠ .isRef (.static Bundle.tN "UNASSIGNED_STACK" Bundle.steD)) && decide (w ≠ .isRef (.static Bundle.tN "SUPPRESSED_SENTINEL" Bundle.listD)) && decide (w ≠ .laysStatic Bundle.tN "UNASSIGNED_STACK" Bundle.steD) && decide (w ≠ .laysStatic Bundle.tN "SUPPRESSED_SENTINEL" Bundle.listD)
def vx_at0 (own : String) (ic : Nat) (X : String) (names : List String) : List Cond := (Bundle.ownAtoms0 own ic X names).filter vx_no
def vx_atS (own : String) (ic : Nat) (X : String) (names : List String) : List Cond := (Bundle.ownAtoms own ic X names).filter vx_no
/-- a word that the tables alone decide, or a good one -/
def vx_ot (w : Cond) : Bool := w.onTables || goodWord w
theorem vx_ot_at {args a' : Array Value} {s U : State} {w : Cond} (hW : s.WarmedH U.vm) (hvm : s.vm = U.vm) (hg : vx_ot w = true) (h : w.before args s = true) : w.before a' U = true := by
  simp only [vx_ot, Bool.or_eq_true] at hg
  rcases hg with hg | hg
  · exact va_tabs hg hvm h
  · exact word_at hW (good_of_word hg) h
/-- a list's words: the good ones out of the method's own list, the others by premises of their own -/
theorem vx_hat {args : Array Value} {s : State} {L B : List Cond} (h1 : ∀ w ∈ L.filter goodWord, w.before args s = true) (h2 : ∀ w ∈ L.filter (fun w => !goodWord w), w ∈ B) (h3 : ∀ w ∈ B, w.before args s = true) : ∀ w ∈ L, w.before args s = true := by
  intro w hw
  by_cases g : goodWord w = true
  · exact h1 w (List.mem_filter.mpr ⟨hw, g⟩)
  · refine h3 w (h2 w (List.mem_filter.mpr ⟨hw, ?_⟩))
    show (!goodWord w) = true
    cases hgw : goodWord w
    · rfl
    · exact absurd hgw g
theorem vx_c {args : Array Value} {s : State} {w : Cond} {B : List Cond} (h : w.before args s = true) (t : ∀ w ∈ B, w.before args s = true) : ∀ w' ∈ w :: B, w'.before args s = true := fun w' h' => (List.mem_cons.mp h').elim (fun e => by rw [e]; exact h) (t w')
theorem vx_n {args : Array Value} {s : State} : ∀ w ∈ ([] : List Cond), w.before args s = true := fun _ h => nomatch h
theorem vx_own {args : Array Value} {s : State} {L : List Cond} (h1 : ∀ w ∈ L.filter vx_no, w.before args s = true)
    (hU : (Cond.isRef (.static Bundle.tN "UNASSIGNED_STACK" Bundle.steD)).before args s = true) (hN : (Cond.isRef (.static Bundle.tN "SUPPRESSED_SENTINEL" Bundle.listD)).before args s = true)
    (lU : (Cond.laysStatic Bundle.tN "UNASSIGNED_STACK" Bundle.steD).before args s = true) (lN : (Cond.laysStatic Bundle.tN "SUPPRESSED_SENTINEL" Bundle.listD).before args s = true) : ∀ w ∈ L, w.before args s = true := by
  intro w hw
  by_cases e1 : w = .isRef (.static Bundle.tN "UNASSIGNED_STACK" Bundle.steD)
  · rw [e1]; exact hU
  · by_cases e2 : w = .isRef (.static Bundle.tN "SUPPRESSED_SENTINEL" Bundle.listD)
    · rw [e2]; exact hN
    · by_cases e3 : w = .laysStatic Bundle.tN "UNASSIGNED_STACK" Bundle.steD
      · rw [e3]; exact lU
      · by_cases e4 : w = .laysStatic Bundle.tN "SUPPRESSED_SENTINEL" Bundle.listD
        · rw [e4]; exact lN
        · exact h1 w (List.mem_filter.mpr ⟨hw, by unfold vx_no; rw [decide_eq_true e1, decide_eq_true e2, decide_eq_true e3, decide_eq_true e4]; rfl⟩)
/-- where a static field lies, its class's statics cell in H -/
def vx_L (C n d : String) (A : Nat → Prop) (U : State) (H : Heap) : Prop := ∃ (c : ClassId) (k : Class) (i : Nat) (f : Field) (a : Nat) (cell : Cell), U.vm.findClass C = some c ∧ U.fieldFound? C n d = some (c, k, i, f) ∧ f.isStatic = true ∧ k.statics = some a ∧ H[a]? = some cell ∧ cell.vm.isStatics = true ∧ cell.cls = c ∧ f.slot < cell.slots.size ∧ k.staticTypes[f.slot]? = some f.type ∧ ¬ A a
theorem vx_L.moved {C n d : String} {A : Nat → Prop} {u U : State} {H : Heap} (hvm : u.vm.Alike U.vm) (h : vx_L C n d A u H) : vx_L C n d A U H := by
  obtain ⟨c, k, i, f, a, cell, h1, h2, h3, h4, h5, h6, h7, h8, h9, h10⟩ := h
  obtain ⟨k', hi', he⟩ := State.fieldFound?_setVm hvm h2
  exact ⟨c, k', i, f, a, cell, by rw [hvm.findClass]; exact h1, hi', h3, by rw [he]; exact h4, h5, h6, h7, h8, by rw [he]; exact h9, h10⟩
theorem vx_L.kept {C n d : String} {A : Nat → Prop} {U : State} {H H1 : Heap} (h : vx_L C n d A U H) (hq : ∀ a : Nat, a < H.size → ¬ A a → H1[a]? = H[a]?) : vx_L C n d A U H1 := by
  obtain ⟨c, k, i, f, a, cell, h1, h2, h3, h4, h5, h6, h7, h8, h9, h10⟩ := h
  exact ⟨c, k, i, f, a, cell, h1, h2, h3, h4, by rw [hq a (Array.getElem?_eq_some_iff.mp h5).1 h10]; exact h5, h6, h7, h8, h9, h10⟩
theorem vx_L.narrow {C n d : String} {A B : Nat → Prop} {U : State} {H : Heap} (h : vx_L C n d A U H) (hAB : ∀ q, B q → A q) : vx_L C n d B U H := by
  obtain ⟨c, k, i, f, a, cell, h1, h2, h3, h4, h5, h6, h7, h8, h9, h10⟩ := h
  exact ⟨c, k, i, f, a, cell, h1, h2, h3, h4, h5, h6, h7, h8, h9, fun z => h10 (hAB _ z)⟩
theorem vx_L.word {C n d : String} {A : Nat → Prop} {s : State} {args : Array Value} (h : vx_L C n d A s s.heap) : (Cond.laysStatic C n d).before args s = true := by
  obtain ⟨c, k, i, f, a, cell, h1, h2, h3, h4, h5, h6, h7, h8, h9, -⟩ := h
  show (Cond.laysStatic C n d).holds args s none s [] = true
  exact Cond.laysStatic_of h1 h2 h3 h4 h5 h6 h7 h8 h9
/-- .. and what it holds: null or some reference -/
def vx_Zq (C n d : String) (A : Nat → Prop) (U : State) (H : Heap) : Prop := va_Zq C n d A U H ∧ vx_L C n d A U H
theorem vx_Zq.moved {C n d : String} {A : Nat → Prop} {u U : State} {H : Heap} (hvm : u.vm.Alike U.vm) (h : vx_Zq C n d A u H) : vx_Zq C n d A U H := ⟨va_Zq.moved hvm h.1, vx_L.moved hvm h.2⟩
theorem vx_Zq.kept {C n d : String} {A : Nat → Prop} {U : State} {H H1 : Heap} (h : vx_Zq C n d A U H) (hq : ∀ a : Nat, a < H.size → ¬ A a → H1[a]? = H[a]?) : vx_Zq C n d A U H1 := ⟨va_Zq.kept h.1 hq, vx_L.kept h.2 hq⟩
theorem vx_Zq.narrow {C n d : String} {A B : Nat → Prop} {U : State} {H : Heap} (h : vx_Zq C n d A U H) (hAB : ∀ q, B q → A q) : vx_Zq C n d B U H := ⟨va_Zq.narrow h.1 hAB, vx_L.narrow h.2 hAB⟩
theorem vx_Zqof {args : Array Value} {s : State} {C n d : String} {A : Nat → Prop} (hl : (Cond.laysStatic C n d).before args s = true) (hini : (Cond.initialized C).before args s = true) (h : (Cond.isRef (.static C n d)).before args s = true) (hA : ∀ a : Nat, a < s.heap.size → ¬ A a) : vx_Zq C n d A s s.heap := by
  refine ⟨va_Zqof hl hini h hA, ?_⟩
  obtain ⟨c, k, i, f, a, cell, h1, h2, h3, h4, h5, h6, h7, h8, h9⟩ := Cond.laysStatic_spec hl
  exact ⟨c, k, i, f, a, cell, h1, h2, h3, h4, h5, h6, h7, h8, h9, hA a (Array.getElem?_eq_some_iff.mp h5).1⟩
theorem vx_isRef {C n d : String} {v : Value} {A : Nat → Prop} {s : State} {args : Array Value} (h : va_Z C n d v A s s.heap) (hv : v.isRef = true) : (Cond.isRef (.static C n d)).before args s = true := by
  obtain ⟨cf, kf, fi, f, a, cell, h1, h2, h3, h4, h5, h6, h7, -⟩ := h
  have he : (Term.static C n d).eval args s none [] s = some v := by
    simp [Term.eval, State.fieldNamed?, h1, h2, h4, h5, h6, h7]
  simp only [Cond.before, Cond.holds, Cond.value, he]
  cases v <;> simp_all [Value.isRef]
theorem vx_isRefq {C n d : String} {A : Nat → Prop} {s : State} {args : Array Value} (h : va_Zq C n d A s s.heap) : (Cond.isRef (.static C n d)).before args s = true := by
  rcases h with h | ⟨t, h⟩
  · exact vx_isRef h rfl
  · exact vx_isRef h rfl
/-- the same frame, seen from here: as if the method were called anew in this heap -/
theorem vx_rebase {T : State} (X : Stand p l e R s m args below meth c T locs cells slots) {R' : Room} (hf : R'.frames ≤ R.frames) (hl : R'.locals ≤ R.locals) (hc : cells + R'.cells ≤ R.cells) (hs : slots + R'.slots ≤ R.slots) :
    Stand p l e R' ((T.setVm s.vm).setFrames (.invoking m args :: below)) m args below meth c T [] 0 0 := by
  have htop : (T.setVm s.vm).topJava?.isSome := X.here.top
  have hF : ((T.setVm s.vm).setFrames (.invoking m args :: below)).frames = .invoking m args :: below := State.frames_setFrames _ (State.cur_lt_of_top htop)
  obtain ⟨g₀, hg0⟩ := Option.isSome_iff_exists.mp htop
  obtain ⟨r, hr⟩ := State.topJava?_eq_some.mp hg0
  have hl9 : e.platform.stackLimits (T.setVm s.vm).me = e.platform.stackLimits s.me := X.limits
  have hb9 : (T.setVm s.vm).me.stackBytes = s.me.stackBytes := X.bytes
  refine ⟨X.admits, X.cas, X.clock, hF, ?_, X.hears, X.method, X.code, X.here, X.tail, X.warmed, ?_, ?_, ?_⟩
  · have h := X.room
    have hU : ((T.setVm s.vm).setFrames (.invoking m args :: below)).localsInUse = s.localsInUse := by
      rw [State.localsInUse_invoking hF (meth := meth) (c := c) X.method X.code, State.localsInUse_invoking X.frames X.method X.code]
    simp only [State.hasRoom, Bool.and_eq_true, decide_eq_true_eq] at h ⊢
    obtain ⟨⟨⟨⟨h1, h2, h3, h4, h5, h6⟩, h7⟩, h8⟩, h9⟩ := h
    rw [X.frames, List.length_cons] at h2 h3
    have q1 := X.heapSize
    have q2 := X.used
    simp only [hF, hU, List.length_cons, State.stackLimits_setFrames, State.stackBytes_setFrames, hl9, hb9]
    refine ⟨⟨⟨⟨by omega, by omega, by omega, by omega, by omega, h6⟩, ?_⟩, ?_⟩, X.book⟩
    · show T.heap.size + R'.cells ≤ e.platform.maxCells
      omega
    · show T.slotsUsed + R'.slots ≤ e.platform.maxSlots
      omega
  · rw [State.stackLimits_setFrames]; rfl
  · rw [State.stackBytes_setFrames]; rfl
  · refine ⟨?_, Nat.le_refl _, Nat.le_refl _, ?_, ?_, fun a c9 h9 => ⟨c9, h9, rfl, rfl, fun _ _ => rfl⟩⟩
    · obtain ⟨t, ht, -⟩ := State.frames_cons hr
      show T.setVm s.vm = { ((T.setVm s.vm).setFrames (.invoking m args :: below)).setFrames (T.setVm s.vm).frames with heap := T.heap, slotsUsed := T.slotsUsed }
      rw [State.setFrames_setFrames, State.setFrames_self ht]
      rfl
    · show T.slotsUsed = T.slotsUsed + ((T.heap.toList.drop T.heap.size).map (·.slots.size)).sum
      rw [List.drop_eq_nil_of_le (Nat.le_of_eq Array.length_toList)]
      rfl
    · show ((T.heap.toList.drop T.heap.size).map (·.slots.size)).sum ≤ 0
      rw [List.drop_eq_nil_of_le (Nat.le_of_eq Array.length_toList)]
      exact Nat.le_refl _
/-- 'throw new E()': new; dup; invokespecial; athrow -/
theorem vx_throw0 {cc : ByteArray} {pc : Nat} (hexec : p.tables.exec = Jvm.exec) (hb : c.code = cc) (hl : l.stackTraces = false) {own cls : String} {names : List String} {ik ic mc ms : Nat} {A : Nat → Prop}
    (hown : s.vm.findClass own = some m.cls) (hcls : Bundle.fit cls = true) (hnames : ∀ n ∈ names, Bundle.fit n = true)
    (hk : (Cond.classLink own ik cls).before args s = true) (hini : (Cond.initialized cls).before args s = true) (hat : ∀ w ∈ vx_at0 own ic cls names, w.before args s = true)
    (hgood : ∀ w ∈ Cond.classLink own ik cls :: Cond.initialized cls :: vx_at0 own ic cls names, vx_ot w = true)
    (hU : vx_Zq Bundle.tN "UNASSIGNED_STACK" Bundle.steD A s s.heap) (hN : vx_Zq Bundle.tN "SUPPRESSED_SENTINEL" Bundle.listD A s s.heap) (hS : va_S A s.heap H locs) (hsize : ls.size = c.maxLocals)
    (d0 : decode cc pc = .ok (.new ik, 3)) (d3 : decode cc (pc + 3) = .ok (.dup, 1)) (d4 : decode cc (pc + 4) = .ok (.invokespecial ic, 3)) (d7 : decode cc (pc + 7) = .ok (.athrow, 1))
    (hout : ∀ x ∈ c.exceptionTable.toList, covers x (pc + 7) = false)
    (hRframes : names.length + 3 < R.frames) (hRlocals : (rest.map fun v => v.category).sum + (13 * (names.length + 1) + 42) ≤ R.locals) (hRcells : cells + 1 ≤ R.cells) (hRslots : slots + 6 ≤ R.slots) (hlocks : meth.locks = false)
    (hx : ∀ t : State, s.vm.Alike t.vm → H.size ≤ t.heap.size → (∀ q : Nat, q < H.size → t.heap[q]? = H[q]?) → XC cls s t)
    (hf : ∀ z ∈ locs, free z.base) (hc : cells + 1 ≤ mc) (hs : slots + 6 ≤ ms) :
    W p l e R s m args below meth c H locs cells slots (vx_MQ below Qc XC args s mc ms free) (F0 m pc ls rest) := by
  intro T hT X
  have htr : e.platform.stackTraces = false := (show e.platform.stackTraces = l.stackTraces by rw [X.admits.platform]).trans hl
  have Y := vx_rebase X (R' := { frames := R.frames, locals := R.locals, cells := 1, slots := 6 }) (Nat.le_refl _) (Nat.le_refl _) hRcells hRslots
  obtain ⟨s', hA⟩ : ∃ z, z = (T.setVm s.vm).setFrames (.invoking m args :: below) := ⟨_, rfl⟩
  rw [← hA] at Y
  have hvm : s'.vm = s.vm := by rw [hA]; rfl
  have hhp : s'.heap = H := by rw [hA]; exact hT
  have hW0 : s.WarmedH s'.vm := by rw [hvm]; exact State.WarmedH.refl s
  have hat' : ∀ w ∈ vx_at0 own ic cls names, w.before args s' = true := fun w hw => vx_ot_at hW0 hvm.symm (hgood w (List.mem_cons_of_mem _ (List.mem_cons_of_mem _ hw))) (hat w hw)
  have hk' : (Cond.classLink own ik cls).before args s' = true := vx_ot_at hW0 hvm.symm (hgood _ List.mem_cons_self) hk
  have hini' : (Cond.initialized cls).before args s' = true := vx_ot_at hW0 hvm.symm (hgood _ (List.mem_cons_of_mem _ List.mem_cons_self)) hini
  have hU' : vx_Zq Bundle.tN "UNASSIGNED_STACK" Bundle.steD A s' s'.heap := by rw [hhp]; exact vx_Zq.moved hW0.alike (hU.kept hS.2.1)
  have hN' : vx_Zq Bundle.tN "SUPPRESSED_SENTINEL" Bundle.listD A s' s'.heap := by rw [hhp]; exact vx_Zq.moved hW0.alike (hN.kept hS.2.1)
  have h : ∀ w ∈ Bundle.ownAtoms0 own ic cls names, w.before args s' = true := vx_own hat' (vx_isRefq hU'.1) (vx_isRefq hN'.1) hU'.2.word hN'.2.word
  have hown' : s'.vm.findClass own = some m.cls := by rw [hvm]; exact hown
  have hins : (Cond.instantiable cls 6).before args s' = true := h _ (by simp [Bundle.ownAtoms0])
  obtain ⟨vm₁, cX, kX, hfX, hkX, -, -, X₁, st1⟩ := Y.newCold hexec (own := own) (C := cls) (index := ik) (n := 6) hown' hk' hins hini'
    (g := F0 m pc ls rest) rfl (by rw [hb]; exact d0) (Nat.le_refl _) (Nat.le_refl _)
  generalize hT1 : (T.setVm vm₁).pushCell { cls := cX, slots := kX.instanceTypes.map defaultValue, vm := .none } = T1 at X₁ st1
  have hcat : (Value.ref T.heap.size).category = 1 := rfl
  have hcellA : T1.heap[T.heap.size]? = some (freshCell cX kX) := by rw [← hT1]; exact State.heap_pushCell_size _ _
  have d3' : decode c.code (pc + 3) = .ok (.dup, 1) := by rw [hb]; exact d3
  obtain ⟨U, hsteps, hrun, hend, hW, hsame, ce, hce, hO⟩ := X₁.ctorThrow0 hexec htr (own := own) (cls := cls) (names := names) (ic := ic) hown' hcls hnames h (fun x hx => nomatch hx) hfX hkX hcellA (by rw [hhp, hT]; exact Nat.le_refl _)
    (g := { method := m, pc := pc + 4, locals := ls, stack := .ref T.heap.size :: .ref T.heap.size :: rest, locked := none }) rfl hsize rfl rfl (rest := rest) rfl
    (by rw [hb]; exact d4) (by rw [hb]; exact d7) hout hRframes (by simp only [List.map_cons, List.sum_cons, hcat]; omega) hlocks
  obtain ⟨f1, f2⟩ := vx_frame hsame
  rw [hhp] at f1 f2
  have hWs : s.WarmedH U.vm := State.WarmedH.trans hW0 hW
  have hcl : s.vm.findClass cls = some ce.cls := by
    have h9 := hO.cls
    rw [hvm] at h9
    exact h9
  have hall : s.sameButNew ({ U with vm := s.vm } : State) locs mc ms := by
    subst hA
    obtain ⟨e1, e2⟩ := hsame
    rw [State.setFrames_setFrames] at e1
    have h2 : (T.setVm s.vm).sameButNew ({ U with vm := s.vm } : State) [] (0 + 1) (0 + 6) := ⟨e1, e2⟩
    have h3 := X.same.trans h2
    rw [List.append_nil] at h3
    exact h3.mono hc hs
  refine ⟨U, ?_, .threw T.heap.size, hrun, hend, Or.inr ⟨T.heap.size, rfl, cls, ce, locs, hx U hWs.alike f1 (fun q hq => f2 q hq (fun z hz => nomatch hz)), hce, hO.vm, hcl, hWs, hall, hf⟩⟩
  refine st1 _ ?_
  show Steps p.tables e below (T1.setTop { method := m, pc := pc + 3, locals := ls, stack := .ref T.heap.size :: rest, locked := none }) _
  jvm_step X₁.here [X₁.here.top, hexec, d3', Value.category]
  exact hsteps
/-- 'throw new E("text")': new; dup; ldc; invokespecial; athrow -/
theorem vx_throwS {cc : ByteArray} {pc : Nat} (hexec : p.tables.exec = Jvm.exec) (hb : c.code = cc) (hl : l.stackTraces = false) {own cls text : String} {names : List String} {ik is ic mc ms sa : Nat} {A : Nat → Prop}
    (hown : s.vm.findClass own = some m.cls) (hcls : Bundle.fit cls = true) (hnames : ∀ n ∈ names, Bundle.fit n = true)
    (hk : (Cond.classLink own ik cls).before args s = true) (hini : (Cond.initialized cls).before args s = true) (hstr : vk_R own is text sa s) (hat : ∀ w ∈ vx_atS own ic cls names, w.before args s = true)
    (hgood : ∀ w ∈ Cond.classLink own ik cls :: Cond.initialized cls :: vx_atS own ic cls names, vx_ot w = true)
    (hU : vx_Zq Bundle.tN "UNASSIGNED_STACK" Bundle.steD A s s.heap) (hN : vx_Zq Bundle.tN "SUPPRESSED_SENTINEL" Bundle.listD A s s.heap) (hS : va_S A s.heap H locs) (hsize : ls.size = c.maxLocals)
    (d0 : decode cc pc = .ok (.new ik, 3)) (d3 : decode cc (pc + 3) = .ok (.dup, 1)) (d4 : decode cc (pc + 4) = .ok (.ldc is, 2)) (d6 : decode cc (pc + 6) = .ok (.invokespecial ic, 3)) (d9 : decode cc (pc + 9) = .ok (.athrow, 1))
    (hout : ∀ x ∈ c.exceptionTable.toList, covers x (pc + 9) = false)
    (hRframes : names.length + 3 < R.frames) (hRlocals : (rest.map fun v => v.category).sum + (13 * (names.length + 1) + 43) ≤ R.locals) (hRcells : cells + 1 ≤ R.cells) (hRslots : slots + 6 ≤ R.slots) (hlocks : meth.locks = false)
    (hx : ∀ t : State, s.vm.Alike t.vm → H.size ≤ t.heap.size → (∀ q : Nat, q < H.size → t.heap[q]? = H[q]?) → XC cls s t)
    (hf : ∀ z ∈ locs, free z.base) (hc : cells + 1 ≤ mc) (hs : slots + 6 ≤ ms) :
    W p l e R s m args below meth c H locs cells slots (vx_MQ below Qc XC args s mc ms free) (F0 m pc ls rest) := by
  intro T hT X
  have htr : e.platform.stackTraces = false := (show e.platform.stackTraces = l.stackTraces by rw [X.admits.platform]).trans hl
  have Y := vx_rebase X (R' := { frames := R.frames, locals := R.locals, cells := 1, slots := 6 }) (Nat.le_refl _) (Nat.le_refl _) hRcells hRslots
  obtain ⟨s', hA⟩ : ∃ z, z = (T.setVm s.vm).setFrames (.invoking m args :: below) := ⟨_, rfl⟩
  rw [← hA] at Y
  have hvm : s'.vm = s.vm := by rw [hA]; rfl
  have hhp : s'.heap = H := by rw [hA]; exact hT
  have hW0 : s.WarmedH s'.vm := by rw [hvm]; exact State.WarmedH.refl s
  have hat' : ∀ w ∈ vx_atS own ic cls names, w.before args s' = true := fun w hw => vx_ot_at hW0 hvm.symm (hgood w (List.mem_cons_of_mem _ (List.mem_cons_of_mem _ hw))) (hat w hw)
  have hk' : (Cond.classLink own ik cls).before args s' = true := vx_ot_at hW0 hvm.symm (hgood _ List.mem_cons_self) hk
  have hini' : (Cond.initialized cls).before args s' = true := vx_ot_at hW0 hvm.symm (hgood _ (List.mem_cons_of_mem _ List.mem_cons_self)) hini
  have hU' : vx_Zq Bundle.tN "UNASSIGNED_STACK" Bundle.steD A s' s'.heap := by rw [hhp]; exact vx_Zq.moved hW0.alike (hU.kept hS.2.1)
  have hN' : vx_Zq Bundle.tN "SUPPRESSED_SENTINEL" Bundle.listD A s' s'.heap := by rw [hhp]; exact vx_Zq.moved hW0.alike (hN.kept hS.2.1)
  have h : ∀ w ∈ Bundle.ownAtoms own ic cls names, w.before args s' = true := vx_own hat' (vx_isRefq hU'.1) (vx_isRefq hN'.1) hU'.2.word hN'.2.word
  have hown' : s'.vm.findClass own = some m.cls := by rw [hvm]; exact hown
  have hins : (Cond.instantiable cls 6).before args s' = true := h _ (by simp [Bundle.ownAtoms])
  obtain ⟨vm₁, cX, kX, hfX, hkX, -, -, X₁, st1⟩ := Y.newCold hexec (own := own) (C := cls) (index := ik) (n := 6) hown' hk' hins hini'
    (g := F0 m pc ls rest) rfl (by rw [hb]; exact d0) (Nat.le_refl _) (Nat.le_refl _)
  generalize hT1 : (T.setVm vm₁).pushCell { cls := cX, slots := kX.instanceTypes.map defaultValue, vm := .none } = T1 at X₁ st1
  have hcat : (Value.ref T.heap.size).category = 1 := rfl
  have hcellA : T1.heap[T.heap.size]? = some (freshCell cX kX) := by rw [← hT1]; exact State.heap_pushCell_size _ _
  have d3' : decode c.code (pc + 3) = .ok (.dup, 1) := by rw [hb]; exact d3
  have d4' : decode c.code (pc + 4) = .ok (.ldc is, 2) := by rw [hb]; exact d4
  have hstr' : vk_R own is text sa s' := vk_R.warm hW0 hstr
  obtain ⟨U, hsteps, hrun, hend, hW, hsame, ce, hce, hO⟩ := X₁.ctorThrowS hexec htr (own := own) (cls := cls) (names := names) (ic := ic) hown' hcls hnames h (fun x hx => nomatch hx) hfX hkX hcellA (by rw [hhp, hT]; exact Nat.le_refl _) (msg := .ref sa) rfl
    (g := { method := m, pc := pc + 6, locals := ls, stack := .ref sa :: .ref T.heap.size :: .ref T.heap.size :: rest, locked := none }) rfl hsize rfl rfl (rest := rest) rfl
    (by rw [hb]; exact d6) (by rw [hb]; exact d9) hout hRframes (by simp only [List.map_cons, List.sum_cons, hcat]; omega) hlocks
  obtain ⟨f1, f2⟩ := vx_frame hsame
  rw [hhp] at f1 f2
  have hWs : s.WarmedH U.vm := State.WarmedH.trans hW0 hW
  have hcl : s.vm.findClass cls = some ce.cls := by
    have h9 := hO.cls
    rw [hvm] at h9
    exact h9
  have hall : s.sameButNew ({ U with vm := s.vm } : State) locs mc ms := by
    subst hA
    obtain ⟨e1, e2⟩ := hsame
    rw [State.setFrames_setFrames] at e1
    have h2 : (T.setVm s.vm).sameButNew ({ U with vm := s.vm } : State) [] (0 + 1) (0 + 6) := ⟨e1, e2⟩
    have h3 := X.same.trans h2
    rw [List.append_nil] at h3
    exact h3.mono hc hs
  refine ⟨U, ?_, .threw T.heap.size, hrun, hend, Or.inr ⟨T.heap.size, rfl, cls, ce, locs, hx U hWs.alike f1 (fun q hq => f2 q hq (fun z hz => nomatch hz)), hce, hO.vm, hcl, hWs, hall, hf⟩⟩
  refine st1 _ ?_
  show Steps p.tables e below (T1.setTop { method := m, pc := pc + 3, locals := ls, stack := .ref T.heap.size :: rest, locked := none }) _
  jvm_step X₁.here [X₁.here.top, hexec, d3', Value.category]
  exact X₁.ldcString hexec (own := own) (text := text) (index := is) (a := sa) hown' hstr'.1 hstr'.2
    (g := { method := m, pc := pc + 4, locals := ls, stack := .ref T.heap.size :: .ref T.heap.size :: rest, locked := none }) rfl d4' _ hsteps
/-- 'throw new E("text")', the text by a wide index -/
theorem vx_throwSW {cc : ByteArray} {pc : Nat} (hexec : p.tables.exec = Jvm.exec) (hb : c.code = cc) (hl : l.stackTraces = false) {own cls text : String} {names : List String} {ik is ic mc ms sa : Nat} {A : Nat → Prop}
    (hown : s.vm.findClass own = some m.cls) (hcls : Bundle.fit cls = true) (hnames : ∀ n ∈ names, Bundle.fit n = true)
    (hk : (Cond.classLink own ik cls).before args s = true) (hini : (Cond.initialized cls).before args s = true) (hstr : vk_R own is text sa s) (hat : ∀ w ∈ vx_atS own ic cls names, w.before args s = true)
    (hgood : ∀ w ∈ Cond.classLink own ik cls :: Cond.initialized cls :: vx_atS own ic cls names, vx_ot w = true)
    (hU : vx_Zq Bundle.tN "UNASSIGNED_STACK" Bundle.steD A s s.heap) (hN : vx_Zq Bundle.tN "SUPPRESSED_SENTINEL" Bundle.listD A s s.heap) (hS : va_S A s.heap H locs) (hsize : ls.size = c.maxLocals)
    (d0 : decode cc pc = .ok (.new ik, 3)) (d3 : decode cc (pc + 3) = .ok (.dup, 1)) (d4 : decode cc (pc + 4) = .ok (.ldc_w is, 3)) (d7 : decode cc (pc + 7) = .ok (.invokespecial ic, 3)) (d10 : decode cc (pc + 10) = .ok (.athrow, 1))
    (hout : ∀ x ∈ c.exceptionTable.toList, covers x (pc + 10) = false)
    (hRframes : names.length + 3 < R.frames) (hRlocals : (rest.map fun v => v.category).sum + (13 * (names.length + 1) + 43) ≤ R.locals) (hRcells : cells + 1 ≤ R.cells) (hRslots : slots + 6 ≤ R.slots) (hlocks : meth.locks = false)
    (hx : ∀ t : State, s.vm.Alike t.vm → H.size ≤ t.heap.size → (∀ q : Nat, q < H.size → t.heap[q]? = H[q]?) → XC cls s t)
    (hf : ∀ z ∈ locs, free z.base) (hc : cells + 1 ≤ mc) (hs : slots + 6 ≤ ms) :
    W p l e R s m args below meth c H locs cells slots (vx_MQ below Qc XC args s mc ms free) (F0 m pc ls rest) := by
  intro T hT X
  have htr : e.platform.stackTraces = false := (show e.platform.stackTraces = l.stackTraces by rw [X.admits.platform]).trans hl
  have Y := vx_rebase X (R' := { frames := R.frames, locals := R.locals, cells := 1, slots := 6 }) (Nat.le_refl _) (Nat.le_refl _) hRcells hRslots
  obtain ⟨s', hA⟩ : ∃ z, z = (T.setVm s.vm).setFrames (.invoking m args :: below) := ⟨_, rfl⟩
  rw [← hA] at Y
  have hvm : s'.vm = s.vm := by rw [hA]; rfl
  have hhp : s'.heap = H := by rw [hA]; exact hT
  have hW0 : s.WarmedH s'.vm := by rw [hvm]; exact State.WarmedH.refl s
  have hat' : ∀ w ∈ vx_atS own ic cls names, w.before args s' = true := fun w hw => vx_ot_at hW0 hvm.symm (hgood w (List.mem_cons_of_mem _ (List.mem_cons_of_mem _ hw))) (hat w hw)
  have hk' : (Cond.classLink own ik cls).before args s' = true := vx_ot_at hW0 hvm.symm (hgood _ List.mem_cons_self) hk
  have hini' : (Cond.initialized cls).before args s' = true := vx_ot_at hW0 hvm.symm (hgood _ (List.mem_cons_of_mem _ List.mem_cons_self)) hini
  have hU' : vx_Zq Bundle.tN "UNASSIGNED_STACK" Bundle.steD A s' s'.heap := by rw [hhp]; exact vx_Zq.moved hW0.alike (hU.kept hS.2.1)
  have hN' : vx_Zq Bundle.tN "SUPPRESSED_SENTINEL" Bundle.listD A s' s'.heap := by rw [hhp]; exact vx_Zq.moved hW0.alike (hN.kept hS.2.1)
  have h : ∀ w ∈ Bundle.ownAtoms own ic cls names, w.before args s' = true := vx_own hat' (vx_isRefq hU'.1) (vx_isRefq hN'.1) hU'.2.word hN'.2.word
  have hown' : s'.vm.findClass own = some m.cls := by rw [hvm]; exact hown
  have hins : (Cond.instantiable cls 6).before args s' = true := h _ (by simp [Bundle.ownAtoms])
  obtain ⟨vm₁, cX, kX, hfX, hkX, -, -, X₁, st1⟩ := Y.newCold hexec (own := own) (C := cls) (index := ik) (n := 6) hown' hk' hins hini'
    (g := F0 m pc ls rest) rfl (by rw [hb]; exact d0) (Nat.le_refl _) (Nat.le_refl _)
  generalize hT1 : (T.setVm vm₁).pushCell { cls := cX, slots := kX.instanceTypes.map defaultValue, vm := .none } = T1 at X₁ st1
  have hcat : (Value.ref T.heap.size).category = 1 := rfl
  have hcellA : T1.heap[T.heap.size]? = some (freshCell cX kX) := by rw [← hT1]; exact State.heap_pushCell_size _ _
  have d3' : decode c.code (pc + 3) = .ok (.dup, 1) := by rw [hb]; exact d3
  have d4' : decode c.code (pc + 4) = .ok (.ldc_w is, 3) := by rw [hb]; exact d4
  have hstr' : vk_R own is text sa s' := vk_R.warm hW0 hstr
  obtain ⟨U, hsteps, hrun, hend, hW, hsame, ce, hce, hO⟩ := X₁.ctorThrowS hexec htr (own := own) (cls := cls) (names := names) (ic := ic) hown' hcls hnames h (fun x hx => nomatch hx) hfX hkX hcellA (by rw [hhp, hT]; exact Nat.le_refl _) (msg := .ref sa) rfl
    (g := { method := m, pc := pc + 7, locals := ls, stack := .ref sa :: .ref T.heap.size :: .ref T.heap.size :: rest, locked := none }) rfl hsize rfl rfl (rest := rest) rfl
    (by rw [hb]; exact d7) (by rw [hb]; exact d10) hout hRframes (by simp only [List.map_cons, List.sum_cons, hcat]; omega) hlocks
  obtain ⟨f1, f2⟩ := vx_frame hsame
  rw [hhp] at f1 f2
  have hWs : s.WarmedH U.vm := State.WarmedH.trans hW0 hW
  have hcl : s.vm.findClass cls = some ce.cls := by
    have h9 := hO.cls
    rw [hvm] at h9
    exact h9
  have hall : s.sameButNew ({ U with vm := s.vm } : State) locs mc ms := by
    subst hA
    obtain ⟨e1, e2⟩ := hsame
    rw [State.setFrames_setFrames] at e1
    have h2 : (T.setVm s.vm).sameButNew ({ U with vm := s.vm } : State) [] (0 + 1) (0 + 6) := ⟨e1, e2⟩
    have h3 := X.same.trans h2
    rw [List.append_nil] at h3
    exact h3.mono hc hs
  refine ⟨U, ?_, .threw T.heap.size, hrun, hend, Or.inr ⟨T.heap.size, rfl, cls, ce, locs, hx U hWs.alike f1 (fun q hq => f2 q hq (fun z hz => nomatch hz)), hce, hO.vm, hcl, hWs, hall, hf⟩⟩
  refine st1 _ ?_
  show Steps p.tables e below (T1.setTop { method := m, pc := pc + 3, locals := ls, stack := .ref T.heap.size :: rest, locked := none }) _
  jvm_step X₁.here [X₁.here.top, hexec, d3', Value.category]
  exact X₁.ldcStringW hexec (own := own) (text := text) (index := is) (a := sa) hown' hstr'.1 hstr'.2
    (g := { method := m, pc := pc + 4, locals := ls, stack := .ref T.heap.size :: .ref T.heap.size :: rest, locked := none }) rfl d4' _ hsteps
end Ends
section Bodies
variable {l : Launch}
theorem vx_ofW {y : MethodName} {ws ws' : List Cond} {rm : Room} {Pc : Array Value → State → Prop} {Qc : Array Value → State → Outcome → State → Prop} {XC : String → State → State → Prop} {mc ms : Nat} {free : Addr → Prop} {cc : ByteArray} {maxL : Nat} {ret : Option FieldType}
    (hy : plainName y.cls = true) (hw : ws = Cond.code y cc maxL ret :: ws')
    (body : ∀ p e s m args below meth c s₁, BodyLoose p l y (headSpec ws rm) cc maxL ret e s m args below meth c s₁ → c.maxLocals = maxL → (∀ x ∈ c.exceptionTable.toList, False) → Pc args s →
      W p l e (headSpec ws rm).room s m args below meth c s.heap [] 0 0 (vx_MQ below Qc XC args s mc ms free) (entryFrame m args maxL)) : vx_Met l y ws rm Pc Qc XC mc ms free := by
  refine MetFree.of_bodyS (code := cc) (maxLocals := maxL) (ret := ret) hy ?_ ?_
  · intro args s m h hn
    obtain ⟨meth, c, h1, h2, h3, h4, h5, h6, -, -⟩ := Cond.code_spec hn (atoms_spec (ws := ws) h _ (by rw [hw]; exact List.mem_cons_self))
    exact ⟨meth, c, h1, h2, h3, h4, h5, h6⟩
  · intro p e s m args below meth c s₁ B hml hP _
    have hh0 : s₁.heap = s.heap := by rw [B.state]; rfl
    have ht : ∀ x ∈ c.exceptionTable.toList, False := by
      obtain ⟨meth9, c9, h1, h2, -, -, -, -, h7, -⟩ := Cond.code_spec B.named (atoms_spec (ws := ws) B.pre _ (by rw [hw]; exact List.mem_cons_self))
      cases Option.some.inj (h1.symm.trans B.method)
      cases Option.some.inj (h2.symm.trans (Stand.of_body B).code)
      intro x hx
      rw [Array.isEmpty_iff.mp h7] at hx
      cases hx
    obtain ⟨t, a1, o, b1, b2, b3⟩ := body p e s m args below meth c s₁ B hml ht hP s₁ hh0 (Stand.of_body B)
    exact ⟨t, o, a1, b1, b2, b3⟩
/-- the table of a body with handlers -/
theorem vx_table {p : Program} {x y : MethodName} {S : Spec} {cc bytes : ByteArray} {maxL maxL' : Nat} {ret ret' : Option FieldType} {e : Env} {s s₁ : State} {m : MethodId} {args : Array Value} {below : List Frame} {meth : Method} {c : Code} {hh : List (Nat × Nat × Nat × Nat)}
    (B : BodyLoose p l y S cc maxL ret e s m args below meth c s₁) (h : (Cond.codeWith y bytes maxL' ret' hh).before args s = true) : c.exceptionTable.toList = tableOf hh := by
  obtain ⟨m9, meth9, c9, hn9, h1, h2, -, -, h6, -⟩ := Cond.codeWith_spec h
  cases Option.some.inj (hn9.symm.trans B.named)
  cases Option.some.inj (h1.symm.trans B.method)
  cases Option.some.inj (h2.symm.trans (Stand.of_body B).code)
  rw [← h6, table_eq]
end Bodies
end VXA
/-! ===== END ===== -/
/-! ===== BEGIN a static call of a method with an exception table ===== -/
section VXS
variable {p : Program} {l : Launch} {e : Env} {R : Room} {s : State} {m : MethodId} {args : Array Value} {below : List Frame} {meth : Method} {c : Code} {T : State} {H : Heap} {locs : List Loc} {cells slots : Nat}
abbrev vx_CSW (R : Room) (s : State) (args : Array Value) (own : String) (index : Nat) (y : MethodName) (bytes : ByteArray) (maxL : Nat) (ret : Option FieldType) (hh : List (Nat × Nat × Nat × Nat)) (ws : List Cond) (rm : Room) (mc ms n : Nat) : Prop :=
  (rm.cells = mc ∧ rm.slots = ms ∧ rm.frames + 1 ≤ R.frames ∧ 8 + (maxL + 11) + rm.locals ≤ R.locals ∧ (∀ w ∈ ws, ∀ (a' : Array Value) (U : State), s.WarmedH U.vm → w.before a' U = true) ∧ Cond.codeWith y bytes maxL ret hh ∈ ws) ∧
  (Cond.codeWith y bytes maxL ret hh).before args s = true ∧ (Cond.initialized y.cls).before args s = true ∧ (y.cls ≠ "java/lang/invoke/MethodHandle" ∧ y.cls ≠ "java/lang/invoke/VarHandle") ∧
  (∀ sig, parseMethodDescriptor y.desc = some sig → n = sig.parameters.length) ∧ (Cond.methodLink own index y).before args s = true ∧ (Cond.static y).before args s = true
theorem vx_cwSW {own : String} {index maxL mc ms : Nat} {y : MethodName} {bytes : ByteArray} {ret : Option FieldType} {hh : List (Nat × Nat × Nat × Nat)} {Ts ws ws' : List Cond} {rm : Room} (n : Nat) (ht : ∀ w ∈ Ts, w.before args s = true) (hT : GoodIn Ts (va_wsS own index y ws)) (hw : ws = Cond.codeWith y bytes maxL ret hh :: ws') (hrc : rm.cells = mc) (hrs : rm.slots = ms)
    (hd : y.cls ≠ "java/lang/invoke/MethodHandle" ∧ y.cls ≠ "java/lang/invoke/VarHandle" ∧ (parseMethodDescriptor y.desc).map (fun d => d.parameters.length) = some n) (hR : rm.frames + 1 ≤ R.frames ∧ 8 + (maxL + 11) + rm.locals ≤ R.locals) :
    vx_CSW R s args own index y bytes maxL ret hh ws rm mc ms n := by
  have ok : ∀ w ∈ va_wsS own index y ws, w.before args s = true := fun w h => ht w (hT w h).1
  have hG : GoodIn Ts ws := fun w h => hT w (by unfold va_wsS; exact List.mem_append_right _ h)
  have hc : Cond.codeWith y bytes maxL ret hh ∈ ws := by rw [hw]; exact List.mem_cons_self
  refine ⟨⟨hrc, hrs, hR.1, hR.2, pay_in ht hG, hc⟩, ht _ (hG _ hc).1, ok _ (by simp [va_wsS]), ⟨hd.1, hd.2.1⟩, fun sig h => ?_, ok _ (by simp [va_wsS]), ok _ (by simp [va_wsS])⟩
  have h2 := hd.2.2
  rw [h] at h2
  exact (Option.some.inj h2).symm
theorem vx_callSW (X : Stand p l e R s m args below meth c T locs cells slots) (hexec : p.tables.exec = Jvm.exec) {own : String} {index : Nat} {y : MethodName} {bytes : ByteArray} {maxL : Nat} {ret : Option FieldType} {hh : List (Nat × Nat × Nat × Nat)}
    (hown : s.vm.findClass own = some m.cls) (hlink : (Cond.methodLink own index y).before args s = true) (hstat : (Cond.static y).before args s = true) (hinit : (Cond.initialized y.cls).before args s = true)
    (hcode : (Cond.codeWith y bytes maxL ret hh).before args s = true) (hy : y.cls ≠ "java/lang/invoke/MethodHandle" ∧ y.cls ≠ "java/lang/invoke/VarHandle")
    {W9 : Nat} {Pre : Pt → Array Value → Prop} {Post : Pt → Array Value → Option Value → Pt → Prop} (hK : Back l R p e below s args y 3 W9 Pre Post)
    {g : JFrame} (hg : g.method = m) (hsize : g.locals.size = c.maxLocals) {argsL rest : List Value} (hlen : ∀ sig, parseMethodDescriptor y.desc = some sig → argsL.length = sig.parameters.length)
    (hstack : g.stack = argsL.reverse ++ rest) (hW : 2 * g.monitorRoom + (rest.map fun v => v.category).sum ≤ W9) (hdg : decode c.code g.pc = .ok (.invokestatic index, 3))
    (hpre : ∀ vm₁, s.WarmedH vm₁ → Pre ⟨T.setVm vm₁, locs, cells, slots⟩ argsL.toArray) :
    ∃ (v : Option Value) (vm₁ : Vm) (B : Pt), s.WarmedH vm₁ ∧ Stand p l e R s m args below meth c B.U B.locs B.cells B.slots ∧ Post ⟨T.setVm vm₁, locs, cells, slots⟩ argsL.toArray v B ∧
      ∀ target, Steps p.tables e below (B.U.setTop { g with pc := g.pc + 3, stack := v.toList ++ rest }) target → Steps p.tables e below (T.setTop g) target := by
  obtain ⟨mk, methM, cM, hnamed, hmethM, -, -, -, -, -, -, hsigM⟩ := Cond.codeWith_spec hcode
  have hstatic : methM.isStatic = true := Cond.static_spec hnamed hmethM hstat
  obtain ⟨kP, hkP, -⟩ := className_of_methodNamed hnamed
  have hinitP : kP.init = .initialized := Cond.initialized_spec (findClass_of_methodNamed hnamed) hkP hinit
  obtain ⟨vm₁, X₁, hstep₁⟩ := X.invokestatic hexec hown hlink hnamed hmethM hstatic hkP hinitP hy (g := g) hg (argsL := argsL) (rest := rest) (hlen _ hsigM) hstack hdg
  obtain ⟨v, B, X', hpost, hsteps⟩ := hK m meth c ⟨T.setVm vm₁, locs, cells, slots⟩ { g with stack := rest } (.invokestatic index) mk argsL.toArray X₁ hg hsize hdg hW (X₁.named hnamed) (hpre vm₁ X₁.warmed)
  exact ⟨v, vm₁, B, X₁.warmed, X', hpost, fun target h => hstep₁ _ fun acts => by rw [doInvoke_state]; exact hsteps.trans h⟩
theorem vx_runSW {y : MethodName} {bytes cc : ByteArray} {maxL nL mc ms n index : Nat} {ret : Option FieldType} {hh : List (Nat × Nat × Nat × Nat)} {ws : List Cond} {rm : Room} {Pc : Array Value → State → Prop} {Qc : Array Value → State → Outcome → State → Prop} {free : Addr → Prop} {Ts : List Cond} {own : String} {As rest : List Value} {g : JFrame}
    (S : CallFix p m c cc nL s args Ts own) (hM : Met l y ws rm Pc Qc mc ms free) (cw : vx_CSW R s args own index y bytes maxL ret hh ws rm mc ms n) (hp : PreS s H Pc As)
    (hg : g.method = m) (hn : As.length = n) (hsize : g.locals.size = nL) (hstack : g.stack = As.reverse ++ rest) (hW : 2 * g.monitorRoom + (rest.map fun v => v.category).sum ≤ 8) (hdg : decode cc g.pc = .ok (.invokestatic index, 3)) (hf : cells + mc ≤ R.cells ∧ slots + ms ≤ R.slots) :
    va_Run p l e R s m args below meth c H locs cells slots mc ms g rest (Qc As.toArray) (free) := by
  obtain ⟨⟨hrc, hrs, hfr, hlo, hws, hcw⟩, hcode, hini, hy, hlen, hl, hstt⟩ := cw
  have hK : Back l R p e below s args y 3 8 (PreOf R mc ms Pc) (PostOf Qc mc ms free) := va_backW (hh := hh) (bytes := bytes) (maxL := maxL) (ret := ret) hM hp.1 hrc hrs hfr hlo hws hcw (fun a' U hW => word_at hW (Or.inl (by first | rfl | simp [Cond.onTables, Cond.keeps, Cond.steady])) hini)
  obtain ⟨hx, hb, hml, ho, -⟩ := S
  intro T hT X
  obtain ⟨v, vm₁, ⟨U', l2, c2, s2⟩, hW₁, X', ⟨g', mk, t, L, e1, e2, hq, h1, hL, h2, h3⟩, st⟩ := vx_callSW X hx (hh := hh) (bytes := bytes) (maxL := maxL) (ret := ret) ho hl hstt hini hcode hy hK hg (hsize.trans hml.symm) (argsL := As) (rest := rest) (fun sig h => hn.trans (hlen sig h)) hstack hW (by rw [hb]; exact hdg)
    (fun vm₁ hW₁ => ⟨hf.1, hf.2, hp.2 (T.setVm vm₁) hT hW₁⟩)
  dsimp only [Pt.U, Pt.locs, Pt.cells, Pt.slots] at X' e1 e2 h1 h2 h3 st
  subst h1; subst h2; subst h3
  exact ⟨v, (T.setVm vm₁).calling g' mk As.toArray, t, U', L, hT, X', hL, e1, e2, hq, st⟩
/-- not caught here, past rows that name other classes: it goes on to the caller -/
theorem vx_outP {p : Program} {l : Launch} {e : Env} {R : Room} {s : State} {m : MethodId} {args : Array Value} {below : List Frame} {meth : Method} {c : Code} {H : Heap} {locs : List Loc} {cells slots : Nat} {free : Addr → Prop} {ls : Array Slot} {rest : List Value} {Qc : Array Value → State → Outcome → State → Prop} {XC : String → State → State → Prop}
    {pc : Nat} {own E : String} {ce : Cell} {q : Addr} {mc ms : Nat} (hown : s.vm.findClass own = some m.cls) (hlocks : meth.locks = false)
    (hpass : ∀ z ∈ c.exceptionTable.toList, covers z pc = false ∨ (z.catchType ≠ 0 ∧ ∃ nm : String, (Cond.classLink own z.catchType nm).before args s = true ∧ va_Nc E nm s)) (hcell : H[q]? = some ce) (hv : ce.vm = .none) (hcl : s.vm.findClass E = some ce.cls)
    (hx : ∀ t : State, t.heap = H → s.vm.Alike t.vm → XC E s t) (hf : ∀ z ∈ locs, free z.base) (hc : cells ≤ mc) (hs : slots ≤ ms) :
    vx_W p l e R s m args below meth c H locs cells slots (vx_MQ below Qc XC args s mc ms free) (F0 m pc ls rest) q := by
  intro T hT X
  have hpl : e.platform.magicAccessors = ({} : Platform).magicAccessors := by rw [X.admits.platform]
  obtain ⟨vm', hW', X', st⟩ := X.outThrough hlocks q (g := F0 m pc ls rest) rfl rfl rfl (cell := ce) (by rw [hT]; exact hcell) (by rw [hv]; rfl)
    (by obtain ⟨k9, h9, -⟩ := Vm.findClass_spec hcl; exact ⟨k9, h9⟩) (fun z hz => by
      rcases hpass z hz with h | ⟨hz0, nm, hl1, hn1⟩
      · exact Or.inl h
      · obtain ⟨c6, hc6, hcl6⟩ := Cond.classLink_spec hown hl1 e.platform hpl
        obtain ⟨a8, b8, h1, h2, h3⟩ := hn1
        cases Option.some.inj (h1.symm.trans hcl)
        cases Option.some.inj (h2.symm.trans hc6)
        exact Or.inr ⟨hz0, _, hcl6, h3⟩)
  obtain ⟨g₀, hfr⟩ := X'.frames_eq
  have hcell9 : ((T.setVm vm').setFrames (.throwing q :: below)).heap[q]? = some ce := by
    show T.heap[q]? = some ce
    rw [hT]; exact hcell
  have hend : Ended ((T.setVm vm').setFrames (.throwing q :: below)) below (.threw q) := State.frames_setFrames _ (State.cur_lt_of_frames hfr)
  refine ⟨(T.setVm vm').setFrames (.throwing q :: below), ?_, .threw q, X'.here.running, hend, Or.inr ⟨q, rfl, E, ce, locs, hx _ hT (X'.ends _).1.alike, hcell9, hv, hcl, (X'.ends _).1, (X'.ends _).2.mono hc hs, hf⟩⟩
  rw [X.pushThrowing_eq]
  exact st
/-- a thing of a world lies in the heap -/
theorem vx_lt {D : va_G} {cl : List vw_C} {ws : va_W} {H1 : Heap} (h : va_P D cl ws H1) {k : Nat} {q : Nat × va_E} (hk : ws[k]? = some q) : q.1 < H1.size := (h k q hk).lt
end VXS
/-! ===== END ===== -/
/-! ===== BEGIN methods with a table of their own: called by a name, returning or throwing ===== -/
section VXH
/-! vx_backW, vx_callVX, vx_callSX, vx_callVW, vx_runVW, vx_runVX, vx_runSX, vx_ofWH follow the same proofs as their sisters above (Free/Laws.lean, Shelf42/LK1.lean); vx_outP calls Shelf42/NT130.lean (outThrough). -/
section
variable {l : Launch} {R : Room} {p : Program} {e : Env} {below : List Frame} {s : State} {sargs : Array Value} {y : MethodName} {len W9 : Nat}
theorem vx_backW {ws : List Cond} {rm : Room} {Pc : Array Value → State → Prop} {Qc : Array Value → State → Outcome → State → Prop} {XC : String → State → State → Prop} {mc ms : Nat} {free : Addr → Prop} {bytes : ByteArray} {maxL : Nat} {ret : Option FieldType} {hh : List (Nat × Nat × Nat × Nat)}
    (hM : vx_Met l y ws rm Pc Qc XC mc ms free) (hblind : FrameBlind Pc) (hrc : rm.cells = mc) (hrs : rm.slots = ms)
    (hframes : rm.frames + 1 ≤ R.frames) (hlocals : W9 + (maxL + 11) + rm.locals ≤ R.locals)
    (hws : ∀ w ∈ ws, ∀ a' U, s.WarmedH U.vm → w.before a' U = true) (hcode : Cond.codeWith y bytes maxL ret hh ∈ ws) (hinit : ∀ a' U, s.WarmedH U.vm → (Cond.initialized y.cls).before a' U = true) :
    vx_Back l R p e below s sargs y len W9 (PreOf R mc ms Pc) (PostOf Qc mc ms free) (vx_Post XC mc ms free) := by
  intro m meth c A g ig mk a X hg hsize hdg hW hn hp
  have h1 : (headSpec ws rm).pre.before a A.U = true := atoms_intro fun w hw => hws w hw _ _ X.warmed
  have h2 : (Cond.codeWith y bytes maxL ret hh).before a A.U = true := hws _ hcode _ _ X.warmed
  have h3 : (Cond.initialized y.cls).before a A.U = true := hinit _ _ X.warmed
  have h4 : A.cells + (headSpec ws rm).room.cells ≤ R.cells := by rw [show (headSpec ws rm).room.cells = mc from hrc]; exact hp.1
  have h5 : A.slots + (headSpec ws rm).room.slots ≤ R.slots := by rw [show (headSpec ws rm).room.slots = ms from hrs]; exact hp.2.1
  have hPc : Pc a (A.U.calling g mk a) := hblind _ _ _ _ hp.2.2
  obtain ⟨U, Ls, c0, s0⟩ := A
  dsimp only [Pt.U, Pt.locs, Pt.cells, Pt.slots] at h1 h2 h3 h4 h5 X hn hPc ⊢
  obtain ⟨m9, methY, cY, hn9, hmY, hcY, -, hlY, -⟩ := Cond.codeWith_spec h2
  cases Option.some.inj (hn9.symm.trans hn)
  obtain ⟨kY, hkY, -⟩ := className_of_methodNamed hn
  have hinitY : kY.init = .initialized := Cond.initialized_spec (findClass_of_methodNamed hn) hkY h3
  have h : At U g.method c below := by rw [hg]; exact X.here
  have hlocals9 : W9 + (maxL + 11) + (headSpec ws rm).room.locals ≤ R.locals := hlocals
  have happ : (headSpec ws rm).appliesLoose y e.platform (U.calling g mk a) = true :=
    Spec.appliesLoose_calling (g := g) h hdg hn hkY hinitY
      (X.room_calling (g := g) (R' := (headSpec ws rm).room) hsize hmY hcY hframes (by rw [hlY]; omega) h4 h5) h1
  obtain ⟨mid, hmid⟩ := h.above
  have hfr : (U.setTop g).frames = (.java g :: mid) ++ below := by rw [State.frames_setTop' g h.top, hmid]; rfl
  obtain ⟨o, s₂, hsteps, -, hend, hq⟩ := Steps.callFree hM p X.admits X.cas X.clock (acts := []) hfr happ hPc trivial
  have hq' : vx_Q Qc XC mc ms free a (U.calling g mk a) o s₂ := hq
  rw [State.frames_setTop' g h.top] at hend
  obtain ⟨g₀, hg0⟩ := Option.isSome_iff_exists.mp h.top
  obtain ⟨r, hr⟩ := State.topJava?_eq_some.mp hg0
  have hr' : (({ U with heap := s₂.heap, slotsUsed := s₂.slotsUsed } : State).setVm s₂.vm).frames = .java g₀ :: r := hr
  rcases hq' with ⟨hqc, L, hfe, hL⟩ | ⟨q, rfl, E, ce, L, hx, hce, hcv, hcl, hW₂, hsm, hL⟩
  · obtain ⟨⟨v, rfl⟩, hW₂, e2, q2, q3, q4, q5, q6⟩ := id hfe
    have e3 : s₂ = ({ (U.calling g mk a).setFrames s₂.frames with heap := s₂.heap, slotsUsed := s₂.slotsUsed } : State).setVm s₂.vm := by
      have : s₂ = ({ s₂ with vm := (U.calling g mk a).vm } : State).setVm s₂.vm := rfl
      rw [e2] at this
      exact this
    obtain ⟨c₂, i₂, len₂, hc₂, hd₂, hf₂⟩ := hend
    have hW' : U.WarmedH s₂.vm := hW₂
    have hcc : c₂ = c := by
      have h1 : s₂.code? g.method = U.code? g.method := by
        rw [State.code?_eq, State.code?_eq, hW'.alike.method?]
      exact Option.some.inj (hc₂.symm.trans (h1.trans h.code))
    subst hcc
    have hlen : len₂ = len := by rw [hdg] at hd₂; cases hd₂; rfl
    subst hlen
    have hs₂ : s₂ = (({ U with heap := s₂.heap, slotsUsed := s₂.slotsUsed } : State).setVm s₂.vm).setTop { g with pc := g.pc + len₂, stack := v.toList ++ g.stack } := by
      refine e3.trans ?_
      rw [hf₂, State.calling_eq h.top, State.setFrames_setFrames, State.setTop_of_frames _ hr', hr]
      rfl
    have hsame : U.sameButNew ({ U with heap := s₂.heap, slotsUsed := s₂.slotsUsed } : State) L mc ms := by
      refine ⟨?_, q2, q3, q4, q5, q6⟩
      obtain ⟨t, ht, -⟩ := State.frames_cons hr
      show ({ U with heap := s₂.heap, slotsUsed := s₂.slotsUsed } : State) = { U.setFrames U.frames with heap := s₂.heap, slotsUsed := s₂.slotsUsed }
      rw [State.setFrames_self ht]
    subst hg
    refine Or.inl ⟨v, ⟨(({ U with heap := s₂.heap, slotsUsed := s₂.slotsUsed } : State).setVm s₂.vm), Ls ++ L, c0 + mc, s0 + ms⟩,
      ⟨X.admits, X.cas, X.clock, X.frames, X.room, X.hears, X.method, X.code, (X.here.setHeapUsed s₂.heap s₂.slotsUsed).setVm hW'.alike, X.tail, State.WarmedH.trans X.warmed hW', X.limits, X.bytes, X.same.trans (hsame.setVm s.vm)⟩,
      ⟨g, mk, s₂, L, rfl, rfl, hqc, rfl, hL, rfl, rfl⟩, ?_⟩
    show Steps p.tables e below _ ((({ U with heap := s₂.heap, slotsUsed := s₂.slotsUsed } : State).setVm s₂.vm).setTop { g with pc := g.pc + len₂, stack := v.toList ++ g.stack })
    rw [← hs₂]
    exact hsteps
  · obtain ⟨e2, q2, q3, q4, q5, q6⟩ := id hsm
    have e3 : s₂ = ({ (U.calling g mk a).setFrames s₂.frames with heap := s₂.heap, slotsUsed := s₂.slotsUsed } : State).setVm s₂.vm := by
      have : s₂ = ({ s₂ with vm := (U.calling g mk a).vm } : State).setVm s₂.vm := rfl
      rw [e2] at this
      exact this
    have hf₂ : s₂.frames = .throwing q :: .java g :: U.frames.tail := hend
    have hW' : U.WarmedH s₂.vm := hW₂
    have hs₂ : s₂ = ((({ U with heap := s₂.heap, slotsUsed := s₂.slotsUsed } : State).setVm s₂.vm).setTop g).pushFrame (.throwing q) := by
      refine e3.trans ?_
      rw [hf₂, State.calling_eq h.top, State.setFrames_setFrames, State.pushFrame, State.frames_setTop _ hr', State.setTop_of_frames _ hr', State.setFrames_setFrames, hr]
      rfl
    have hsame : U.sameButNew ({ U with heap := s₂.heap, slotsUsed := s₂.slotsUsed } : State) L mc ms := by
      refine ⟨?_, q2, q3, q4, q5, q6⟩
      obtain ⟨t, ht, -⟩ := State.frames_cons hr
      show ({ U with heap := s₂.heap, slotsUsed := s₂.slotsUsed } : State) = { U.setFrames U.frames with heap := s₂.heap, slotsUsed := s₂.slotsUsed }
      rw [State.setFrames_self ht]
    subst hg
    refine Or.inr ⟨q, ⟨(({ U with heap := s₂.heap, slotsUsed := s₂.slotsUsed } : State).setVm s₂.vm), Ls ++ L, c0 + mc, s0 + ms⟩,
      ⟨X.admits, X.cas, X.clock, X.frames, X.room, X.hears, X.method, X.code, (X.here.setHeapUsed s₂.heap s₂.slotsUsed).setVm hW'.alike, X.tail, State.WarmedH.trans X.warmed hW', X.limits, X.bytes, X.same.trans (hsame.setVm s.vm)⟩,
      ⟨g, mk, s₂, L, E, ce, rfl, rfl, hx, hce, hcv, hcl, rfl, hL, rfl, rfl⟩, ?_⟩
    show Steps p.tables e below _ (((({ U with heap := s₂.heap, slotsUsed := s₂.slotsUsed } : State).setVm s₂.vm).setTop g).pushFrame (.throwing q))
    rw [← hs₂]
    exact hsteps
end
variable {p : Program} {l : Launch} {e : Env} {R : Room} {s : State} {m : MethodId} {args : Array Value} {below : List Frame} {meth : Method} {c : Code} {T : State} {H : Heap} {locs : List Loc} {cells slots : Nat}
theorem vx_callVX (X : Stand p l e R s m args below meth c T locs cells slots) (hexec : p.tables.exec = Jvm.exec) {own C : String} {index : Nat} {y : MethodName} {bytes : ByteArray} {maxL : Nat} {ret : Option FieldType} {hh : List (Nat × Nat × Nat × Nat)}
    (hown : s.vm.findClass own = some m.cls) (hlink : (Cond.methodLink own index y).before args s = true) (hinst : (Cond.instanceMethod y).before args s = true) (hsel : (Cond.selects C y y).before args s = true)
    (hcode : (Cond.codeWith y bytes maxL ret hh).before args s = true) (hy : y.cls ≠ "java/lang/invoke/MethodHandle" ∧ y.cls ≠ "java/lang/invoke/VarHandle")
    {W9 : Nat} {Pre : Pt → Array Value → Prop} {Post : Pt → Array Value → Option Value → Pt → Prop} {PostX : Pt → Array Value → Addr → Pt → Prop} (hK : vx_Back l R p e below s args y 3 W9 Pre Post PostX)
    {b : Addr} {cellB : Cell} (hcell : T.heap[b]? = some cellB) (hobj : cellB.vm.isStatics = false) (hcls : s.vm.findClass C = some cellB.cls)
    {g : JFrame} (hg : g.method = m) (hsize : g.locals.size = c.maxLocals) {argsL rest : List Value} (hlen : ∀ sig, parseMethodDescriptor y.desc = some sig → argsL.length = sig.parameters.length)
    (hstack : g.stack = argsL.reverse ++ .ref b :: rest) (hW : 2 * g.monitorRoom + (rest.map fun v => v.category).sum ≤ W9) (hdg : decode c.code g.pc = .ok (.invokevirtual index, 3))
    (hpre : ∀ vm₁, s.WarmedH vm₁ → Pre ⟨T.setVm vm₁, locs, cells, slots⟩ (Value.ref b :: argsL).toArray) :
    (∃ (v : Option Value) (vm₁ : Vm) (B : Pt), s.WarmedH vm₁ ∧ Stand p l e R s m args below meth c B.U B.locs B.cells B.slots ∧ Post ⟨T.setVm vm₁, locs, cells, slots⟩ (Value.ref b :: argsL).toArray v B ∧
      ∀ target, Steps p.tables e below (B.U.setTop { g with pc := g.pc + 3, stack := v.toList ++ rest }) target → Steps p.tables e below (T.setTop g) target) ∨
    (∃ (q : Addr) (vm₁ : Vm) (B : Pt), s.WarmedH vm₁ ∧ Stand p l e R s m args below meth c B.U B.locs B.cells B.slots ∧ PostX ⟨T.setVm vm₁, locs, cells, slots⟩ (Value.ref b :: argsL).toArray q B ∧
      Steps p.tables e below (T.setTop g) ((B.U.setTop { g with stack := rest }).pushFrame (.throwing q))) := by
  obtain ⟨mk, methM, hnamed, hmethM, hstM, habM⟩ := Cond.instanceMethod_spec hinst
  obtain ⟨m8, methM', cM, hn8, hmethM', -, -, -, -, -, -, hsigM⟩ := Cond.codeWith_spec hcode
  cases Option.some.inj (hn8.symm.trans hnamed)
  cases hmethM.symm.trans hmethM'
  obtain ⟨c2, r2, m2, q1, q2, q3, q4, kP, hkP, hkPi⟩ := Cond.selects_spec hsel
  cases hcls.symm.trans q1
  cases (State.methodFound?_of_named hnamed hy).symm.trans q2
  cases hnamed.symm.trans q3
  have hselP : selectMethod e.platform s.vm cellB.cls mk = .method mk := by rw [Launch.admits_selectMethod X.admits]; exact q4
  obtain ⟨vm₁, X₁, hstep₁⟩ := X.invokevirtual hexec hown hlink hnamed hmethM hstM hkP hkPi hy (a := b) (cell := cellB) hcell
    (fun z h => by rw [h] at hobj; cases hobj) hselP hmethM habM hkP hkPi (g := g) hg (argsL := argsL) (rest := rest) (hlen _ hsigM) hstack hdg
  rcases hK m meth c ⟨T.setVm vm₁, locs, cells, slots⟩ { g with stack := rest } (.invokevirtual index) mk (Value.ref b :: argsL).toArray X₁ hg hsize hdg hW (X₁.named hnamed) (hpre vm₁ X₁.warmed) with ⟨v, B, X', hpost, hsteps⟩ | ⟨q, B, X', hpost, hsteps⟩
  · exact Or.inl ⟨v, vm₁, B, X₁.warmed, X', hpost, fun target h => hstep₁ _ fun acts => by rw [doInvoke_state]; exact hsteps.trans h⟩
  · exact Or.inr ⟨q, vm₁, B, X₁.warmed, X', hpost, hstep₁ _ fun acts => by rw [doInvoke_state]; exact hsteps⟩
theorem vx_callSX (X : Stand p l e R s m args below meth c T locs cells slots) (hexec : p.tables.exec = Jvm.exec) {own : String} {index : Nat} {y : MethodName} {bytes : ByteArray} {maxL : Nat} {ret : Option FieldType} {hh : List (Nat × Nat × Nat × Nat)}
    (hown : s.vm.findClass own = some m.cls) (hlink : (Cond.methodLink own index y).before args s = true) (hstat : (Cond.static y).before args s = true) (hinit : (Cond.initialized y.cls).before args s = true)
    (hcode : (Cond.codeWith y bytes maxL ret hh).before args s = true) (hy : y.cls ≠ "java/lang/invoke/MethodHandle" ∧ y.cls ≠ "java/lang/invoke/VarHandle")
    {W9 : Nat} {Pre : Pt → Array Value → Prop} {Post : Pt → Array Value → Option Value → Pt → Prop} {PostX : Pt → Array Value → Addr → Pt → Prop} (hK : vx_Back l R p e below s args y 3 W9 Pre Post PostX)
    {g : JFrame} (hg : g.method = m) (hsize : g.locals.size = c.maxLocals) {argsL rest : List Value} (hlen : ∀ sig, parseMethodDescriptor y.desc = some sig → argsL.length = sig.parameters.length)
    (hstack : g.stack = argsL.reverse ++ rest) (hW : 2 * g.monitorRoom + (rest.map fun v => v.category).sum ≤ W9) (hdg : decode c.code g.pc = .ok (.invokestatic index, 3))
    (hpre : ∀ vm₁, s.WarmedH vm₁ → Pre ⟨T.setVm vm₁, locs, cells, slots⟩ argsL.toArray) :
    (∃ (v : Option Value) (vm₁ : Vm) (B : Pt), s.WarmedH vm₁ ∧ Stand p l e R s m args below meth c B.U B.locs B.cells B.slots ∧ Post ⟨T.setVm vm₁, locs, cells, slots⟩ argsL.toArray v B ∧
      ∀ target, Steps p.tables e below (B.U.setTop { g with pc := g.pc + 3, stack := v.toList ++ rest }) target → Steps p.tables e below (T.setTop g) target) ∨
    (∃ (q : Addr) (vm₁ : Vm) (B : Pt), s.WarmedH vm₁ ∧ Stand p l e R s m args below meth c B.U B.locs B.cells B.slots ∧ PostX ⟨T.setVm vm₁, locs, cells, slots⟩ argsL.toArray q B ∧
      Steps p.tables e below (T.setTop g) ((B.U.setTop { g with stack := rest }).pushFrame (.throwing q))) := by
  obtain ⟨mk, methM, cM, hnamed, hmethM, -, -, -, -, -, -, hsigM⟩ := Cond.codeWith_spec hcode
  have hstatic : methM.isStatic = true := Cond.static_spec hnamed hmethM hstat
  obtain ⟨kP, hkP, -⟩ := className_of_methodNamed hnamed
  have hinitP : kP.init = .initialized := Cond.initialized_spec (findClass_of_methodNamed hnamed) hkP hinit
  obtain ⟨vm₁, X₁, hstep₁⟩ := X.invokestatic hexec hown hlink hnamed hmethM hstatic hkP hinitP hy (g := g) hg (argsL := argsL) (rest := rest) (hlen _ hsigM) hstack hdg
  rcases hK m meth c ⟨T.setVm vm₁, locs, cells, slots⟩ { g with stack := rest } (.invokestatic index) mk argsL.toArray X₁ hg hsize hdg hW (X₁.named hnamed) (hpre vm₁ X₁.warmed) with ⟨v, B, X', hpost, hsteps⟩ | ⟨q, B, X', hpost, hsteps⟩
  · exact Or.inl ⟨v, vm₁, B, X₁.warmed, X', hpost, fun target h => hstep₁ _ fun acts => by rw [doInvoke_state]; exact hsteps.trans h⟩
  · exact Or.inr ⟨q, vm₁, B, X₁.warmed, X', hpost, hstep₁ _ fun acts => by rw [doInvoke_state]; exact hsteps⟩
theorem vx_callVW (X : Stand p l e R s m args below meth c T locs cells slots) (hexec : p.tables.exec = Jvm.exec) {own C : String} {index : Nat} {y : MethodName} {bytes : ByteArray} {maxL : Nat} {ret : Option FieldType} {hh : List (Nat × Nat × Nat × Nat)}
    (hown : s.vm.findClass own = some m.cls) (hlink : (Cond.methodLink own index y).before args s = true) (hinst : (Cond.instanceMethod y).before args s = true) (hsel : (Cond.selects C y y).before args s = true)
    (hcode : (Cond.codeWith y bytes maxL ret hh).before args s = true) (hy : y.cls ≠ "java/lang/invoke/MethodHandle" ∧ y.cls ≠ "java/lang/invoke/VarHandle")
    {W9 : Nat} {Pre : Pt → Array Value → Prop} {Post : Pt → Array Value → Option Value → Pt → Prop} (hK : Back l R p e below s args y 3 W9 Pre Post)
    {b : Addr} {cellB : Cell} (hcell : T.heap[b]? = some cellB) (hobj : cellB.vm.isStatics = false) (hcls : s.vm.findClass C = some cellB.cls)
    {g : JFrame} (hg : g.method = m) (hsize : g.locals.size = c.maxLocals) {argsL rest : List Value} (hlen : ∀ sig, parseMethodDescriptor y.desc = some sig → argsL.length = sig.parameters.length)
    (hstack : g.stack = argsL.reverse ++ .ref b :: rest) (hW : 2 * g.monitorRoom + (rest.map fun v => v.category).sum ≤ W9) (hdg : decode c.code g.pc = .ok (.invokevirtual index, 3))
    (hpre : ∀ vm₁, s.WarmedH vm₁ → Pre ⟨T.setVm vm₁, locs, cells, slots⟩ (Value.ref b :: argsL).toArray) :
    ∃ (v : Option Value) (vm₁ : Vm) (B : Pt), s.WarmedH vm₁ ∧ Stand p l e R s m args below meth c B.U B.locs B.cells B.slots ∧ Post ⟨T.setVm vm₁, locs, cells, slots⟩ (Value.ref b :: argsL).toArray v B ∧
      ∀ target, Steps p.tables e below (B.U.setTop { g with pc := g.pc + 3, stack := v.toList ++ rest }) target → Steps p.tables e below (T.setTop g) target := by
  obtain ⟨mk, methM, hnamed, hmethM, hstM, habM⟩ := Cond.instanceMethod_spec hinst
  obtain ⟨m8, methM', cM, hn8, hmethM', -, -, -, -, -, -, hsigM⟩ := Cond.codeWith_spec hcode
  cases Option.some.inj (hn8.symm.trans hnamed)
  cases hmethM.symm.trans hmethM'
  obtain ⟨c2, r2, m2, q1, q2, q3, q4, kP, hkP, hkPi⟩ := Cond.selects_spec hsel
  cases hcls.symm.trans q1
  cases (State.methodFound?_of_named hnamed hy).symm.trans q2
  cases hnamed.symm.trans q3
  have hselP : selectMethod e.platform s.vm cellB.cls mk = .method mk := by rw [Launch.admits_selectMethod X.admits]; exact q4
  obtain ⟨vm₁, X₁, hstep₁⟩ := X.invokevirtual hexec hown hlink hnamed hmethM hstM hkP hkPi hy (a := b) (cell := cellB) hcell
    (fun z h => by rw [h] at hobj; cases hobj) hselP hmethM habM hkP hkPi (g := g) hg (argsL := argsL) (rest := rest) (hlen _ hsigM) hstack hdg
  obtain ⟨v, B, X', hpost, hsteps⟩ := hK m meth c ⟨T.setVm vm₁, locs, cells, slots⟩ { g with stack := rest } (.invokevirtual index) mk (Value.ref b :: argsL).toArray X₁ hg hsize hdg hW (X₁.named hnamed) (hpre vm₁ X₁.warmed)
  exact ⟨v, vm₁, B, X₁.warmed, X', hpost, fun target h => hstep₁ _ fun acts => by rw [doInvoke_state]; exact hsteps.trans h⟩
abbrev vx_CVW (R : Room) (s : State) (args : Array Value) (own C : String) (index : Nat) (y : MethodName) (bytes : ByteArray) (maxL : Nat) (ret : Option FieldType) (hh : List (Nat × Nat × Nat × Nat)) (ws : List Cond) (rm : Room) (mc ms n : Nat) : Prop :=
  (rm.cells = mc ∧ rm.slots = ms ∧ rm.frames + 1 ≤ R.frames ∧ 8 + (maxL + 11) + rm.locals ≤ R.locals ∧ (∀ w ∈ ws, ∀ (a' : Array Value) (U : State), s.WarmedH U.vm → w.before a' U = true) ∧ Cond.codeWith y bytes maxL ret hh ∈ ws) ∧
  (Cond.codeWith y bytes maxL ret hh).before args s = true ∧ (Cond.initialized y.cls).before args s = true ∧ (y.cls ≠ "java/lang/invoke/MethodHandle" ∧ y.cls ≠ "java/lang/invoke/VarHandle") ∧
  (∀ sig, parseMethodDescriptor y.desc = some sig → n = sig.parameters.length) ∧ (Cond.methodLink own index y).before args s = true ∧ (Cond.instanceMethod y).before args s = true ∧ (Cond.selects C y y).before args s = true
theorem vx_cwVW {own C : String} {index maxL mc ms : Nat} {y : MethodName} {bytes : ByteArray} {ret : Option FieldType} {hh : List (Nat × Nat × Nat × Nat)} {Ts ws ws' : List Cond} {rm : Room} (n : Nat) (ht : ∀ w ∈ Ts, w.before args s = true) (hT : GoodIn Ts (wsV own index C y ws)) (hw : ws = Cond.codeWith y bytes maxL ret hh :: ws') (hrc : rm.cells = mc) (hrs : rm.slots = ms)
    (hd : y.cls = C ∧ y.cls ≠ "java/lang/invoke/MethodHandle" ∧ y.cls ≠ "java/lang/invoke/VarHandle" ∧ (parseMethodDescriptor y.desc).map (fun d => d.parameters.length) = some n) (hR : rm.frames + 1 ≤ R.frames ∧ 8 + (maxL + 11) + rm.locals ≤ R.locals) :
    vx_CVW R s args own C index y bytes maxL ret hh ws rm mc ms n := by
  obtain ⟨hC, hd⟩ := hd
  subst hC
  have ok : ∀ w ∈ wsV own index y.cls y ws, w.before args s = true := fun w h => ht w (hT w h).1
  have hG : GoodIn Ts ws := fun w h => hT w (by unfold wsV; exact List.mem_append_right _ h)
  have hc : Cond.codeWith y bytes maxL ret hh ∈ ws := by rw [hw]; exact List.mem_cons_self
  refine ⟨⟨hrc, hrs, hR.1, hR.2, pay_in ht hG, hc⟩, ht _ (hG _ hc).1, ok _ (by simp [wsV]), ⟨hd.1, hd.2.1⟩, fun sig h => ?_, ok _ (by simp [wsV]), ok _ (by simp [wsV]), ok _ (by simp [wsV])⟩
  have h2 := hd.2.2
  rw [h] at h2
  exact (Option.some.inj h2).symm
theorem vx_runVW {y : MethodName} {bytes cc : ByteArray} {maxL nL mc ms n index : Nat} {ret : Option FieldType} {hh : List (Nat × Nat × Nat × Nat)} {ws : List Cond} {rm : Room} {Pc : Array Value → State → Prop} {Qc : Array Value → State → Outcome → State → Prop} {free : Addr → Prop} {Ts : List Cond} {own C : String} {b : Addr} {As rest : List Value} {g : JFrame}
    (S : CallFix p m c cc nL s args Ts own) (hM : Met l y ws rm Pc Qc mc ms free) (cw : vx_CVW R s args own C index y bytes maxL ret hh ws rm mc ms n) (hp : PreV s H C b Pc As)
    (hg : g.method = m) (hn : As.length = n) (hsize : g.locals.size = nL) (hstack : g.stack = As.reverse ++ .ref b :: rest) (hW : 2 * g.monitorRoom + (rest.map fun v => v.category).sum ≤ 8) (hdg : decode cc g.pc = .ok (.invokevirtual index, 3)) (hf : cells + mc ≤ R.cells ∧ slots + ms ≤ R.slots) :
    va_Run p l e R s m args below meth c H locs cells slots mc ms g rest (Qc (Value.ref b :: As).toArray) free := by
  obtain ⟨⟨hrc, hrs, hfr, hlo, hws, hcw⟩, hcode, hini, hy, hlen, hl, hin, hse⟩ := cw
  have hK : Back l R p e below s args y 3 8 (PreOf R mc ms Pc) (PostOf Qc mc ms free) := va_backW (hh := hh) (bytes := bytes) (maxL := maxL) (ret := ret) hM hp.1 hrc hrs hfr hlo hws hcw (fun a' U hW => word_at hW (Or.inl (by first | rfl | simp [Cond.onTables, Cond.keeps, Cond.steady])) hini)
  obtain ⟨hx, hb, hml, ho, -⟩ := S
  obtain ⟨-, ⟨cellB, hcB, hoB, hclB⟩, hPc⟩ := hp
  intro T hT X
  obtain ⟨v, vm₁, ⟨U', l2, c2, s2⟩, hW₁, X', ⟨g', mk, t, L, e1, e2, hq, h1, hL, h2, h3⟩, st⟩ := vx_callVW X hx (C := C) (hh := hh) (bytes := bytes) (maxL := maxL) (ret := ret) ho hl hin hse hcode hy hK (by rw [hT]; exact hcB) hoB hclB hg (hsize.trans hml.symm) (argsL := As) (rest := rest) (fun sig h => hn.trans (hlen sig h)) hstack hW (by rw [hb]; exact hdg)
    (fun vm₁ hW₁ => ⟨hf.1, hf.2, hPc (T.setVm vm₁) hT hW₁⟩)
  dsimp only [Pt.U, Pt.locs, Pt.cells, Pt.slots] at X' e1 e2 h1 h2 h3 st
  subst h1; subst h2; subst h3
  exact ⟨v, (T.setVm vm₁).calling g' mk (Value.ref b :: As).toArray, t, U', L, hT, X', hL, e1, e2, hq, st⟩
section
variable {y : MethodName} {bytes cc : ByteArray} {maxL nL mc ms n index : Nat} {ret : Option FieldType} {ws : List Cond} {rm : Room} {Pc : Array Value → State → Prop} {Qc : Array Value → State → Outcome → State → Prop} {XC : String → State → State → Prop} {free : Addr → Prop} {Ts : List Cond} {own C : String} {b : Addr} {As rest : List Value} {g : JFrame}
theorem vx_runVX {hh : List (Nat × Nat × Nat × Nat)} (S : CallFix p m c cc nL s args Ts own) (hM : vx_Met l y ws rm Pc Qc XC mc ms free) (cw : vx_CVW R s args own C index y bytes maxL ret hh ws rm mc ms n) (hp : PreV s H C b Pc As)
    (hg : g.method = m) (hn : As.length = n) (hsize : g.locals.size = nL) (hstack : g.stack = As.reverse ++ .ref b :: rest) (hW : 2 * g.monitorRoom + (rest.map fun v => v.category).sum ≤ 8) (hdg : decode cc g.pc = .ok (.invokevirtual index, 3)) (hf : cells + mc ≤ R.cells ∧ slots + ms ≤ R.slots) :
    vx_Run p l e R s m args below meth c H locs cells slots mc ms g rest (Qc (Value.ref b :: As).toArray) XC free := by
  obtain ⟨⟨hrc, hrs, hfr, hlo, hws, hcw⟩, hcode, hini, hy, hlen, hl, hin, hse⟩ := cw
  have hK : vx_Back l R p e below s args y 3 8 (PreOf R mc ms Pc) (PostOf Qc mc ms free) (vx_Post XC mc ms free) := vx_backW (hh := hh) (bytes := bytes) (maxL := maxL) (ret := ret) hM hp.1 hrc hrs hfr hlo hws hcw (fun a' U hW => word_at hW (Or.inl (by first | rfl | simp [Cond.onTables, Cond.keeps, Cond.steady])) hini)
  obtain ⟨hx, hb, hml, ho, -⟩ := S
  obtain ⟨-, ⟨cellB, hcB, hoB, hclB⟩, hPc⟩ := hp
  intro T hT X
  rcases vx_callVX X hx (C := C) (hh := hh) (bytes := bytes) (maxL := maxL) (ret := ret) ho hl hin hse hcode hy hK (by rw [hT]; exact hcB) hoB hclB hg (hsize.trans hml.symm) (argsL := As) (rest := rest) (fun sig h => hn.trans (hlen sig h)) hstack hW (by rw [hb]; exact hdg)
    (fun vm₁ hW₁ => ⟨hf.1, hf.2, hPc (T.setVm vm₁) hT hW₁⟩) with ⟨v, vm₁, ⟨U', l2, c2, s2⟩, hW₁, X', ⟨g', mk, t, L, e1, e2, hq, h1, hL, h2, h3⟩, st⟩ | ⟨q, vm₁, ⟨U', l2, c2, s2⟩, hW₁, X', ⟨g', mk, t, L, E, ce, e1, e2, hq, hce, hcv, hcl, h1, hL, h2, h3⟩, st⟩
  · dsimp only [Pt.U, Pt.locs, Pt.cells, Pt.slots] at X' e1 e2 h1 h2 h3 st
    subst h1; subst h2; subst h3
    exact Or.inl ⟨v, (T.setVm vm₁).calling g' mk (Value.ref b :: As).toArray, t, U', L, hT, X', hL, e1, e2, hq, st⟩
  · dsimp only [Pt.U, Pt.locs, Pt.cells, Pt.slots] at X' e1 e2 h1 h2 h3 st hcl
    subst h1; subst h2; subst h3
    exact Or.inr ⟨q, (T.setVm vm₁).calling g' mk (Value.ref b :: As).toArray, t, U', L, E, ce, hT, X', hL, e1, e2, hq, hce, hcv, vx_cls hW₁ hcl, st⟩
theorem vx_runSX {hh : List (Nat × Nat × Nat × Nat)} (S : CallFix p m c cc nL s args Ts own) (hM : vx_Met l y ws rm Pc Qc XC mc ms free) (cw : vx_CSW R s args own index y bytes maxL ret hh ws rm mc ms n) (hp : PreS s H Pc As)
    (hg : g.method = m) (hn : As.length = n) (hsize : g.locals.size = nL) (hstack : g.stack = As.reverse ++ rest) (hW : 2 * g.monitorRoom + (rest.map fun v => v.category).sum ≤ 8) (hdg : decode cc g.pc = .ok (.invokestatic index, 3)) (hf : cells + mc ≤ R.cells ∧ slots + ms ≤ R.slots) :
    vx_Run p l e R s m args below meth c H locs cells slots mc ms g rest (Qc As.toArray) XC free := by
  obtain ⟨⟨hrc, hrs, hfr, hlo, hws, hcw⟩, hcode, hini, hy, hlen, hl, hstt⟩ := cw
  have hK : vx_Back l R p e below s args y 3 8 (PreOf R mc ms Pc) (PostOf Qc mc ms free) (vx_Post XC mc ms free) := vx_backW (hh := hh) (bytes := bytes) (maxL := maxL) (ret := ret) hM hp.1 hrc hrs hfr hlo hws hcw (fun a' U hW => word_at hW (Or.inl (by first | rfl | simp [Cond.onTables, Cond.keeps, Cond.steady])) hini)
  obtain ⟨hx, hb, hml, ho, -⟩ := S
  intro T hT X
  rcases vx_callSX X hx (hh := hh) (bytes := bytes) (maxL := maxL) (ret := ret) ho hl hstt hini hcode hy hK hg (hsize.trans hml.symm) (argsL := As) (rest := rest) (fun sig h => hn.trans (hlen sig h)) hstack hW (by rw [hb]; exact hdg)
    (fun vm₁ hW₁ => ⟨hf.1, hf.2, hp.2 (T.setVm vm₁) hT hW₁⟩) with ⟨v, vm₁, ⟨U', l2, c2, s2⟩, hW₁, X', ⟨g', mk, t, L, e1, e2, hq, h1, hL, h2, h3⟩, st⟩ | ⟨q, vm₁, ⟨U', l2, c2, s2⟩, hW₁, X', ⟨g', mk, t, L, E, ce, e1, e2, hq, hce, hcv, hcl, h1, hL, h2, h3⟩, st⟩
  · dsimp only [Pt.U, Pt.locs, Pt.cells, Pt.slots] at X' e1 e2 h1 h2 h3 st
    subst h1; subst h2; subst h3
    exact Or.inl ⟨v, (T.setVm vm₁).calling g' mk As.toArray, t, U', L, hT, X', hL, e1, e2, hq, st⟩
  · dsimp only [Pt.U, Pt.locs, Pt.cells, Pt.slots] at X' e1 e2 h1 h2 h3 st hcl
    subst h1; subst h2; subst h3
    exact Or.inr ⟨q, (T.setVm vm₁).calling g' mk As.toArray, t, U', L, E, ce, hT, X', hL, e1, e2, hq, hce, hcv, vx_cls hW₁ hcl, st⟩
end
end VXH
theorem vx_ofWH {l : Launch} {y : MethodName} {ws ws' : List Cond} {rm : Room} {Pc : Array Value → State → Prop} {Qc : Array Value → State → Outcome → State → Prop} {XC : String → State → State → Prop} {mc ms : Nat} {free : Addr → Prop} {cc : ByteArray} {maxL : Nat} {ret : Option FieldType} {hh : List (Nat × Nat × Nat × Nat)}
    (hy : plainName y.cls = true) (hw : ws = Cond.codeWith y cc maxL ret hh :: ws')
    (body : ∀ p e s m args below meth c s₁, BodyLoose p l y (headSpec ws rm) cc maxL ret e s m args below meth c s₁ → c.maxLocals = maxL → Pc args s →
      W p l e (headSpec ws rm).room s m args below meth c s.heap [] 0 0 (vx_MQ below Qc XC args s mc ms free) (entryFrame m args maxL)) : vx_Met l y ws rm Pc Qc XC mc ms free := by
  refine MetFree.of_bodyS (code := cc) (maxLocals := maxL) (ret := ret) hy ?_ ?_
  · intro args s m h hn
    obtain ⟨m9, meth, c, hn9, h1, h2, h3, h4, -, h5, h6, -⟩ := Cond.codeWith_spec (atoms_spec (ws := ws) h _ (by rw [hw]; exact List.mem_cons_self))
    cases hn.symm.trans hn9
    exact ⟨meth, c, h1, h2, h3, h4, h5, h6⟩
  · intro p e s m args below meth c s₁ B hml hP _
    have hh0 : s₁.heap = s.heap := by rw [B.state]; rfl
    obtain ⟨t, a1, o, b1, b2, b3⟩ := body p e s m args below meth c s₁ B hml hP s₁ hh0 (Stand.of_body B)
    exact ⟨t, o, a1, b1, b2, b3⟩
/-! ===== END ===== -/
end
section
def RX0 : String := "PartitionedCache$CommandText"
def TX0 : u_T := fun k => match k with
  | 0 => ("PartitionedCache$CommandText", "signs", "[C", true)
  | _ => ("PartitionedCache$CommandText", "length", "I", false)
def tyX0 : Nat → FieldType := fun k => match k with
  | 0 => .array .char
  | _ => .int
abbrev wsX00 : List Cond := u_ws RX0 TX0 2
theorem nmX0 : ∀ a, a < 2 → ∀ b, b < 2 → a ≠ b → (TX0 a).2.1 ≠ (TX0 b).2.1 := by decide +kernel
theorem tyX0_ok : ∀ k, k < 2 → parseFieldDescriptor (TX0 k).2.2.1 = some (tyX0 k) := by decide +kernel
abbrev cX0_init : ByteArray := prog_2_method_1_code
def yX0_init : MethodName := ⟨RX0, "<init>", "()V"⟩
def RX1 : String := "PartitionedCache$History"
def TX1 : u_T := fun k => match k with
  | 0 => ("PartitionedCache$History", "ring", "[LPartitionedCache$State;", true)
  | 1 => ("PartitionedCache$History", "oldest", "I", false)
  | _ => ("PartitionedCache$History", "size", "I", false)
def tyX1 : Nat → FieldType := fun k => match k with
  | 0 => .array (.object "PartitionedCache$State")
  | 1 => .int
  | _ => .int
abbrev wsX10 : List Cond := u_ws RX1 TX1 3
theorem nmX1 : ∀ a, a < 3 → ∀ b, b < 3 → a ≠ b → (TX1 a).2.1 ≠ (TX1 b).2.1 := by decide +kernel
theorem tyX1_ok : ∀ k, k < 3 → parseFieldDescriptor (TX1 k).2.2.1 = some (tyX1 k) := by decide +kernel
abbrev cX1_init : ByteArray := prog_3_method_1_code
def yX1_init : MethodName := ⟨RX1, "<init>", "()V"⟩
abbrev cX1_push : ByteArray := prog_3_method_2_code
def yX1_push : MethodName := ⟨RX1, "push", "(LPartitionedCache$State;)V"⟩
def RX2 : String := "PartitionedCache$Monitors"
def TX2 : u_T := fun k => match k with
  | 0 => ("PartitionedCache$Monitors", "addresses", "[I", true)
  | _ => ("PartitionedCache$Monitors", "gains", "[I", true)
def tyX2 : Nat → FieldType := fun k => match k with
  | 0 => .array .int
  | _ => .array .int
abbrev wsX20 : List Cond := u_ws RX2 TX2 2
theorem nmX2 : ∀ a, a < 2 → ∀ b, b < 2 → a ≠ b → (TX2 a).2.1 ≠ (TX2 b).2.1 := by decide +kernel
theorem tyX2_ok : ∀ k, k < 2 → parseFieldDescriptor (TX2 k).2.2.1 = some (tyX2 k) := by decide +kernel
abbrev cX2_init : ByteArray := prog_4_method_1_code
def yX2_init : MethodName := ⟨RX2, "<init>", "()V"⟩
abbrev cX2_copyFrom : ByteArray := prog_4_method_2_code
def yX2_copyFrom : MethodName := ⟨RX2, "copyFrom", "(LPartitionedCache$Monitors;)V"⟩
abbrev cX2_note : ByteArray := prog_4_method_3_code
def yX2_note : MethodName := ⟨RX2, "note", "(II)V"⟩
abbrev cX2_utilityOf : ByteArray := prog_4_method_4_code
def yX2_utilityOf : MethodName := ⟨RX2, "utilityOf", "(II)I"⟩
abbrev cX2_sumOfGains : ByteArray := prog_4_method_5_code
def yX2_sumOfGains : MethodName := ⟨RX2, "sumOfGains", "()I"⟩
abbrev cX2_halve : ByteArray := prog_4_method_6_code
def yX2_halve : MethodName := ⟨RX2, "halve", "()V"⟩
def RX3 : String := "PartitionedCache$Places"
def TX3 : u_T := fun k => match k with
  | 0 => ("PartitionedCache$Places", "owners", "[I", true)
  | 1 => ("PartitionedCache$Places", "held", "[I", true)
  | _ => ("PartitionedCache$Places", "stamps", "[I", true)
def tyX3 : Nat → FieldType := fun k => match k with
  | 0 => .array .int
  | 1 => .array .int
  | _ => .array .int
abbrev wsX30 : List Cond := u_ws RX3 TX3 3
theorem nmX3 : ∀ a, a < 3 → ∀ b, b < 3 → a ≠ b → (TX3 a).2.1 ≠ (TX3 b).2.1 := by decide +kernel
theorem tyX3_ok : ∀ k, k < 3 → parseFieldDescriptor (TX3 k).2.2.1 = some (tyX3 k) := by decide +kernel
abbrev cX3_init : ByteArray := prog_5_method_1_code
def yX3_init : MethodName := ⟨RX3, "<init>", "()V"⟩
abbrev cX3_copyFrom : ByteArray := prog_5_method_2_code
def yX3_copyFrom : MethodName := ⟨RX3, "copyFrom", "(LPartitionedCache$Places;)V"⟩
abbrev cX3_ownedWays : ByteArray := prog_5_method_3_code
def yX3_ownedWays : MethodName := ⟨RX3, "ownedWays", "(I)I"⟩
abbrev cX3_resultOf : ByteArray := prog_5_method_4_code
def yX3_resultOf : MethodName := ⟨RX3, "resultOf", "(II)I"⟩
abbrev cX3_placeOf : ByteArray := prog_5_method_5_code
def yX3_placeOf : MethodName := ⟨RX3, "placeOf", "(II)I"⟩
abbrev cX3_renew : ByteArray := prog_5_method_6_code
def yX3_renew : MethodName := ⟨RX3, "renew", "(III)V"⟩
abbrev cX3_placeToFill : ByteArray := prog_5_method_7_code
def yX3_placeToFill : MethodName := ⟨RX3, "placeToFill", "(II)I"⟩
abbrev cX3_holdsLineOf : ByteArray := prog_5_method_8_code
def yX3_holdsLineOf : MethodName := ⟨RX3, "holdsLineOf", "(II)Z"⟩
abbrev cX3_linesInWay : ByteArray := prog_5_method_9_code
def yX3_linesInWay : MethodName := ⟨RX3, "linesInWay", "(II)I"⟩
abbrev cX3_linesOf : ByteArray := prog_5_method_10_code
def yX3_linesOf : MethodName := ⟨RX3, "linesOf", "(I)I"⟩
abbrev cX3_linesInOwnWays : ByteArray := prog_5_method_11_code
def yX3_linesInOwnWays : MethodName := ⟨RX3, "linesInOwnWays", "(I)I"⟩
abbrev cX3_removeLinesOf : ByteArray := prog_5_method_13_code
def yX3_removeLinesOf : MethodName := ⟨RX3, "removeLinesOf", "(I)I"⟩
abbrev cX3_wayWithFewestLines : ByteArray := prog_5_method_14_code
def yX3_wayWithFewestLines : MethodName := ⟨RX3, "wayWithFewestLines", "(I)I"⟩
def RX4 : String := "PartitionedCache$State"
def TX4 : u_T := fun k => match k with
  | 0 => ("PartitionedCache$State", "places", "LPartitionedCache$Places;", true)
  | 1 => ("PartitionedCache$State", "monitors", "LPartitionedCache$Monitors;", true)
  | 2 => ("PartitionedCache$State", "leasts", "[I", true)
  | 3 => ("PartitionedCache$State", "counts", "[I", true)
  | 4 => ("PartitionedCache$State", "epoch", "I", false)
  | _ => ("PartitionedCache$State", "accesses", "I", false)
def tyX4 : Nat → FieldType := fun k => match k with
  | 0 => .object "PartitionedCache$Places"
  | 1 => .object "PartitionedCache$Monitors"
  | 2 => .array .int
  | 3 => .array .int
  | 4 => .int
  | _ => .int
abbrev wsX40 : List Cond := u_ws RX4 TX4 6
theorem nmX4 : ∀ a, a < 6 → ∀ b, b < 6 → a ≠ b → (TX4 a).2.1 ≠ (TX4 b).2.1 := by decide +kernel
theorem tyX4_ok : ∀ k, k < 6 → parseFieldDescriptor (TX4 k).2.2.1 = some (tyX4 k) := by decide +kernel
abbrev cX4_init : ByteArray := prog_6_method_1_code
def yX4_init : MethodName := ⟨RX4, "<init>", "()V"⟩
abbrev cX4_copyFrom : ByteArray := prog_6_method_2_code
def yX4_copyFrom : MethodName := ⟨RX4, "copyFrom", "(LPartitionedCache$State;)V"⟩
def RX5 : String := "PartitionedCache$Targets"
def TX5 : u_T := fun k => match k with
  | _ => ("PartitionedCache$Targets", "ways", "[I", true)
def tyX5 : Nat → FieldType := fun k => match k with
  | _ => .array .int
abbrev wsX50 : List Cond := u_ws RX5 TX5 1
theorem nmX5 : ∀ a, a < 1 → ∀ b, b < 1 → a ≠ b → (TX5 a).2.1 ≠ (TX5 b).2.1 := by decide +kernel
theorem tyX5_ok : ∀ k, k < 1 → parseFieldDescriptor (TX5 k).2.2.1 = some (tyX5 k) := by decide +kernel
abbrev cX5_init : ByteArray := prog_7_method_1_code
def yX5_init : MethodName := ⟨RX5, "<init>", "()V"⟩
abbrev cX5_compute : ByteArray := prog_7_method_2_code
def yX5_compute : MethodName := ⟨RX5, "compute", "(LPartitionedCache$State;)V"⟩
abbrev cX5_growOne : ByteArray := prog_7_method_3_code
def yX5_growOne : MethodName := ⟨RX5, "growOne", "(LPartitionedCache$Monitors;I)I"⟩
abbrev cX5_lowest : ByteArray := prog_7_method_4_code
def yX5_lowest : MethodName := ⟨RX5, "lowest", "()I"⟩
def RX6 : String := "PartitionedCache"
def TX6 : u_T := fun k => match k with
  | 0 => ("PartitionedCache", "now", "LPartitionedCache$State;", true)
  | 1 => ("PartitionedCache", "targets", "LPartitionedCache$Targets;", true)
  | 2 => ("PartitionedCache", "history", "LPartitionedCache$History;", true)
  | 3 => ("PartitionedCache", "text", "LPartitionedCache$CommandText;", true)
  | 4 => ("PartitionedCache", "slots", "[LPartitionedCache$State;", true)
  | _ => ("PartitionedCache", "slotFilled", "[Z", true)
def tyX6 : Nat → FieldType := fun k => match k with
  | 0 => .object "PartitionedCache$State"
  | 1 => .object "PartitionedCache$Targets"
  | 2 => .object "PartitionedCache$History"
  | 3 => .object "PartitionedCache$CommandText"
  | 4 => .array (.object "PartitionedCache$State")
  | _ => .array .boolean
abbrev wsX60 : List Cond := u_ws RX6 TX6 6
theorem nmX6 : ∀ a, a < 6 → ∀ b, b < 6 → a ≠ b → (TX6 a).2.1 ≠ (TX6 b).2.1 := by decide +kernel
theorem tyX6_ok : ∀ k, k < 6 → parseFieldDescriptor (TX6 k).2.2.1 = some (tyX6 k) := by decide +kernel
abbrev cX6_init : ByteArray := prog_1_method_1_code
def yX6_init : MethodName := ⟨RX6, "<init>", "()V"⟩
abbrev cX6_access : ByteArray := prog_1_method_2_code
def yX6_access : MethodName := ⟨RX6, "access", "(II)I"⟩
abbrev cX6_stream : ByteArray := prog_1_method_3_code
def yX6_stream : MethodName := ⟨RX6, "stream", "(IIII)I"⟩
abbrev cX6_flush : ByteArray := prog_1_method_4_code
def yX6_flush : MethodName := ⟨RX6, "flush", "(I)I"⟩
abbrev cX6_moveWay : ByteArray := prog_1_method_5_code
def yX6_moveWay : MethodName := ⟨RX6, "moveWay", "()I"⟩
abbrev cX6_giveWay : ByteArray := prog_1_method_6_code
def yX6_giveWay : MethodName := ⟨RX6, "giveWay", "(II)I"⟩
abbrev cX6_setLeast : ByteArray := prog_1_method_7_code
def yX6_setLeast : MethodName := ⟨RX6, "setLeast", "(II)I"⟩
abbrev cX6_halveGains : ByteArray := prog_1_method_9_code
def yX6_halveGains : MethodName := ⟨RX6, "halveGains", "()I"⟩
abbrev cX6_owner : ByteArray := prog_1_method_17_code
def yX6_owner : MethodName := ⟨RX6, "owner", "(I)I"⟩
abbrev cX6_waysOf : ByteArray := prog_1_method_18_code
def yX6_waysOf : MethodName := ⟨RX6, "waysOf", "(I)I"⟩
abbrev cX6_line : ByteArray := prog_1_method_19_code
def yX6_line : MethodName := ⟨RX6, "line", "(II)I"⟩
abbrev cX6_lines : ByteArray := prog_1_method_20_code
def yX6_lines : MethodName := ⟨RX6, "lines", "(IZ)I"⟩
abbrev cX6_ifAccessed : ByteArray := prog_1_method_21_code
def yX6_ifAccessed : MethodName := ⟨RX6, "ifAccessed", "(II)I"⟩
abbrev cX6_victim : ByteArray := prog_1_method_22_code
def yX6_victim : MethodName := ⟨RX6, "victim", "(II)I"⟩
abbrev cX6_gain : ByteArray := prog_1_method_23_code
def yX6_gain : MethodName := ⟨RX6, "gain", "(II)I"⟩
abbrev cX6_utility : ByteArray := prog_1_method_24_code
def yX6_utility : MethodName := ⟨RX6, "utility", "(II)I"⟩
abbrev cX6_monitored : ByteArray := prog_1_method_25_code
def yX6_monitored : MethodName := ⟨RX6, "monitored", "(III)I"⟩
abbrev cX6_target : ByteArray := prog_1_method_26_code
def yX6_target : MethodName := ⟨RX6, "target", "(I)I"⟩
abbrev cX6_movesLeft : ByteArray := prog_1_method_27_code
def yX6_movesLeft : MethodName := ⟨RX6, "movesLeft", "()I"⟩
abbrev cX6_count : ByteArray := prog_1_method_29_code
def yX6_count : MethodName := ⟨RX6, "count", "(II)I"⟩
abbrev cX6_accesses : ByteArray := prog_1_method_30_code
def yX6_accesses : MethodName := ⟨RX6, "accesses", "()I"⟩
abbrev cX6_savedStates : ByteArray := prog_1_method_32_code
def yX6_savedStates : MethodName := ⟨RX6, "savedStates", "()I"⟩
abbrev cX6_requireTenant : ByteArray := prog_1_method_34_code
def yX6_requireTenant : MethodName := ⟨RX6, "requireTenant", "(I)V"⟩
abbrev cX6_requireIndex : ByteArray := prog_1_method_35_code
def yX6_requireIndex : MethodName := ⟨RX6, "requireIndex", "(II)V"⟩
abbrev cX6_requireArgument : ByteArray := prog_1_method_36_code
def yX6_requireArgument : MethodName := ⟨RX6, "requireArgument", "(III)V"⟩
abbrev cX6_isSampled : ByteArray := prog_1_method_37_code
def yX6_isSampled : MethodName := ⟨RX6, "isSampled", "(I)Z"⟩
abbrev cX6_listStart : ByteArray := prog_1_method_38_code
def yX6_listStart : MethodName := ⟨RX6, "listStart", "(II)I"⟩
abbrev cX6_makeAccess : ByteArray := prog_1_method_39_code
def yX6_makeAccess : MethodName := ⟨RX6, "makeAccess", "(II)I"⟩
abbrev cX6_bringIn : ByteArray := prog_1_method_40_code
def yX6_bringIn : MethodName := ⟨RX6, "bringIn", "(II)V"⟩
abbrev cX6_moveOneWay : ByteArray := prog_1_method_41_code
def yX6_moveOneWay : MethodName := ⟨RX6, "moveOneWay", "()I"⟩
abbrev cX6_deficitOf : ByteArray := prog_1_method_42_code
def yX6_deficitOf : MethodName := ⟨RX6, "deficitOf", "(I)I"⟩
def RX7 : String := "PartitionedCacheModel"
def TX7 : u_T := fun k => match k with
  | _ => ("", "", "", false)
def tyX7 : Nat → FieldType := fun k => match k with
  | _ => .int
abbrev wsX70 : List Cond := u_ws RX7 TX7 0
theorem nmX7 : ∀ a, a < 0 → ∀ b, b < 0 → a ≠ b → (TX7 a).2.1 ≠ (TX7 b).2.1 := by decide +kernel
theorem tyX7_ok : ∀ k, k < 0 → parseFieldDescriptor (TX7 k).2.2.1 = some (tyX7 k) := by decide +kernel
def RJ9 : String := "java/lang/Math"
def TJ9 : u_T := fun k => match k with
  | _ => ("", "", "", false)
def tyJ9 : Nat → FieldType := fun k => match k with
  | _ => .int
abbrev wsJ90 : List Cond := u_ws RJ9 TJ9 0
theorem nmJ9 : ∀ a, a < 0 → ∀ b, b < 0 → a ≠ b → (TJ9 a).2.1 ≠ (TJ9 b).2.1 := by decide +kernel
theorem tyJ9_ok : ∀ k, k < 0 → parseFieldDescriptor (TJ9 k).2.2.1 = some (tyJ9 k) := by decide +kernel
abbrev cJ9_max_7cf53 : ByteArray := prog_13_method_65_code
def yJ9_max_7cf53 : MethodName := ⟨RJ9, "max", "(II)I"⟩
def RJ0 : String := "java/lang/String"
def TJ0 : u_T := fun k => match k with
  | _ => ("", "", "", false)
def tyJ0 : Nat → FieldType := fun k => match k with
  | _ => .int
abbrev wsJ00 : List Cond := u_ws RJ0 TJ0 0
theorem nmJ0 : ∀ a, a < 0 → ∀ b, b < 0 → a ≠ b → (TJ0 a).2.1 ≠ (TJ0 b).2.1 := by decide +kernel
theorem tyJ0_ok : ∀ k, k < 0 → parseFieldDescriptor (TJ0 k).2.2.1 = some (tyJ0 k) := by decide +kernel
def RJ10 : String := "java/lang/System"
def TJ10 : u_T := fun k => match k with
  | _ => ("", "", "", false)
def tyJ10 : Nat → FieldType := fun k => match k with
  | _ => .int
abbrev wsJ100 : List Cond := u_ws RJ10 TJ10 0
theorem nmJ10 : ∀ a, a < 0 → ∀ b, b < 0 → a ≠ b → (TJ10 a).2.1 ≠ (TJ10 b).2.1 := by decide +kernel
theorem tyJ10_ok : ∀ k, k < 0 → parseFieldDescriptor (TJ10 k).2.2.1 = some (tyJ10 k) := by decide +kernel
def RL : String := "PartitionedCacheLaw"
abbrev cL_cell : ByteArray := method_2_code
def yL_cell : MethodName := ⟨RL, "cell", "([II)I"⟩
abbrev cL_low : ByteArray := method_3_code
def yL_low : MethodName := ⟨RL, "low", "(II)I"⟩
abbrev cL_find : ByteArray := method_4_code
def yL_find : MethodName := ⟨RL, "find", "(LPartitionedCache;II)I"⟩
abbrev cL_all : ByteArray := method_5_code
def yL_all : MethodName := ⟨RL, "all", "(LPartitionedCache;)I"⟩
abbrev cL_fits : ByteArray := method_6_code
def yL_fits : MethodName := ⟨RL, "fits", "(LPartitionedCache;)Z"⟩
abbrev cL_gains : ByteArray := method_7_code
def yL_gains : MethodName := ⟨RL, "gains", "(LPartitionedCache;I)I"⟩
abbrev cL_position : ByteArray := method_8_code
def yL_position : MethodName := ⟨RL, "position", "(LPartitionedCache;II)I"⟩
abbrev cL_accesses : ByteArray := method_9_code
def yL_accesses : MethodName := ⟨RL, "accesses", "(LPartitionedCache;II)Z"⟩
abbrev cL_moves : ByteArray := method_10_code
def yL_moves : MethodName := ⟨RL, "moves", "(LPartitionedCache;)Z"⟩
abbrev cL_law : ByteArray := code
def yL_law : MethodName := ⟨RL, "law", "([I)Z"⟩
def wsX0_init : List Cond := .code yX0_init cX0_init 1 none :: ([.methodLink RX0 3 objectInit, .instanceMethod objectInit, .code objectInit ⟨#[0xb1]⟩ 1 none, .arrayClass .char, .fieldLink RX0 9 "PartitionedCache$CommandText" "signs" "[C", .fieldLink RX0 15 "PartitionedCache$CommandText" "length" "I"] ++ wsX00)
def wsX3_init : List Cond := .code yX3_init cX3_init 2 none :: ([.methodLink RX3 3 objectInit, .instanceMethod objectInit, .code objectInit ⟨#[0xb1]⟩ 1 none, .arrayClass .int, .fieldLink RX3 9 "PartitionedCache$Places" "owners" "[I", .fieldLink RX3 15 "PartitionedCache$Places" "held" "[I", .fieldLink RX3 18 "PartitionedCache$Places" "stamps" "[I"] ++ wsX30)
def wsX2_init : List Cond := .code yX2_init cX2_init 2 none :: ([.methodLink RX2 3 objectInit, .instanceMethod objectInit, .code objectInit ⟨#[0xb1]⟩ 1 none, .arrayClass .int, .fieldLink RX2 9 "PartitionedCache$Monitors" "addresses" "[I", .fieldLink RX2 15 "PartitionedCache$Monitors" "gains" "[I"] ++ wsX20)
def wsX4_init_r1 : List Cond := [Cond.methodLink RX4 3 objectInit, Cond.instanceMethod objectInit, Cond.code objectInit ⟨#[0xb1]⟩ 1 none, Cond.classLink RX4 9 RX3, Cond.instantiable RX3 3, Cond.initialized RX3, Cond.fieldLink RX4 12 "PartitionedCache$State" "places" "LPartitionedCache$Places;", Cond.classLink RX4 18 RX2, Cond.instantiable RX2 2, Cond.initialized RX2, Cond.fieldLink RX4 21 "PartitionedCache$State" "monitors" "LPartitionedCache$Monitors;", Cond.arrayClass .int, Cond.fieldLink RX4 25 "PartitionedCache$State" "leasts" "[I", Cond.fieldLink RX4 29 "PartitionedCache$State" "counts" "[I", Cond.fieldLink RX4 32 "PartitionedCache$State" "epoch" "I", Cond.fieldLink RX4 36 "PartitionedCache$State" "accesses" "I", Cond.methodLink RX4 11 yX3_init, Cond.instanceMethod yX3_init, Cond.code yX3_init cX3_init 2 none, Cond.methodLink RX3 3 objectInit, Cond.fieldLink RX3 9 "PartitionedCache$Places" "owners" "[I", Cond.fieldLink RX3 15 "PartitionedCache$Places" "held" "[I", Cond.fieldLink RX3 18 "PartitionedCache$Places" "stamps" "[I", Cond.methodLink RX4 20 yX2_init]
def wsX4_init_r2 : List Cond := [Cond.instanceMethod yX2_init, Cond.code yX2_init cX2_init 2 none, Cond.methodLink RX2 3 objectInit, Cond.fieldLink RX2 9 "PartitionedCache$Monitors" "addresses" "[I", Cond.fieldLink RX2 15 "PartitionedCache$Monitors" "gains" "[I"]
def wsX4_init : List Cond := .code yX4_init cX4_init 2 none :: ((wsX4_init_r1 ++ wsX4_init_r2) ++ wsX30 ++ wsX40 ++ wsX20)
def wsX1_init_r1 : List Cond := [Cond.methodLink RX1 3 objectInit, Cond.instanceMethod objectInit, Cond.code objectInit ⟨#[0xb1]⟩ 1 none, Cond.classLink RX1 9 RX4, Cond.fieldLink RX1 11 "PartitionedCache$History" "ring" "[LPartitionedCache$State;", Cond.fieldLink RX1 17 "PartitionedCache$History" "oldest" "I", Cond.fieldLink RX1 21 "PartitionedCache$History" "size" "I", Cond.instantiable RX4 6, Cond.initialized RX4, Cond.methodLink RX1 24 yX4_init, Cond.instanceMethod yX4_init, Cond.code yX4_init cX4_init 2 none, Cond.methodLink RX4 3 objectInit, Cond.classLink RX4 9 RX3, Cond.instantiable RX3 3, Cond.initialized RX3, Cond.fieldLink RX4 12 "PartitionedCache$State" "places" "LPartitionedCache$Places;", Cond.classLink RX4 18 RX2, Cond.instantiable RX2 2, Cond.initialized RX2, Cond.fieldLink RX4 21 "PartitionedCache$State" "monitors" "LPartitionedCache$Monitors;", Cond.arrayClass .int, Cond.fieldLink RX4 25 "PartitionedCache$State" "leasts" "[I", Cond.fieldLink RX4 29 "PartitionedCache$State" "counts" "[I"]
def wsX1_init_r2 : List Cond := [Cond.fieldLink RX4 32 "PartitionedCache$State" "epoch" "I", Cond.fieldLink RX4 36 "PartitionedCache$State" "accesses" "I", Cond.methodLink RX4 11 yX3_init, Cond.instanceMethod yX3_init, Cond.code yX3_init cX3_init 2 none, Cond.methodLink RX3 3 objectInit, Cond.fieldLink RX3 9 "PartitionedCache$Places" "owners" "[I", Cond.fieldLink RX3 15 "PartitionedCache$Places" "held" "[I", Cond.fieldLink RX3 18 "PartitionedCache$Places" "stamps" "[I", Cond.methodLink RX4 20 yX2_init, Cond.instanceMethod yX2_init, Cond.code yX2_init cX2_init 2 none, Cond.methodLink RX2 3 objectInit, Cond.fieldLink RX2 9 "PartitionedCache$Monitors" "addresses" "[I", Cond.fieldLink RX2 15 "PartitionedCache$Monitors" "gains" "[I"]
def wsX1_init : List Cond := .code yX1_init cX1_init 2 none :: ((wsX1_init_r1 ++ wsX1_init_r2) ++ wsX10 ++ wsX40 ++ wsX30 ++ wsX20)
def wsX3_copyFrom : List Cond := .code yX3_copyFrom cX3_copyFrom 2 none :: ([.fieldLink RX3 9 "PartitionedCache$Places" "owners" "[I", .methodLink RX3 21 arraycopyName, .native arraycopyName, .static arraycopyName, .initialized "java/lang/System", .fieldLink RX3 15 "PartitionedCache$Places" "held" "[I", .fieldLink RX3 18 "PartitionedCache$Places" "stamps" "[I"] ++ wsX30)
def wsX2_copyFrom : List Cond := .code yX2_copyFrom cX2_copyFrom 2 none :: ([.fieldLink RX2 9 "PartitionedCache$Monitors" "addresses" "[I", .methodLink RX2 18 arraycopyName, .native arraycopyName, .static arraycopyName, .initialized "java/lang/System", .fieldLink RX2 15 "PartitionedCache$Monitors" "gains" "[I"] ++ wsX20)
def wsX4_copyFrom_r1 : List Cond := [Cond.fieldLink RX4 12 "PartitionedCache$State" "places" "LPartitionedCache$Places;", Cond.fieldLink RX4 21 "PartitionedCache$State" "monitors" "LPartitionedCache$Monitors;", Cond.fieldLink RX4 25 "PartitionedCache$State" "leasts" "[I", Cond.methodLink RX4 46 arraycopyName, Cond.native arraycopyName, Cond.static arraycopyName, Cond.initialized "java/lang/System", Cond.fieldLink RX4 29 "PartitionedCache$State" "counts" "[I", Cond.fieldLink RX4 32 "PartitionedCache$State" "epoch" "I", Cond.fieldLink RX4 36 "PartitionedCache$State" "accesses" "I", Cond.methodLink RX4 39 yX3_copyFrom, Cond.instanceMethod yX3_copyFrom, Cond.selects RX3 yX3_copyFrom yX3_copyFrom, Cond.initialized RX3, Cond.code yX3_copyFrom cX3_copyFrom 2 none, Cond.fieldLink RX3 9 "PartitionedCache$Places" "owners" "[I", Cond.methodLink RX3 21 arraycopyName, Cond.fieldLink RX3 15 "PartitionedCache$Places" "held" "[I", Cond.fieldLink RX3 18 "PartitionedCache$Places" "stamps" "[I", Cond.methodLink RX4 43 yX2_copyFrom, Cond.instanceMethod yX2_copyFrom, Cond.selects RX2 yX2_copyFrom yX2_copyFrom, Cond.initialized RX2, Cond.code yX2_copyFrom cX2_copyFrom 2 none]
def wsX4_copyFrom_r2 : List Cond := [Cond.fieldLink RX2 9 "PartitionedCache$Monitors" "addresses" "[I", Cond.methodLink RX2 18 arraycopyName, Cond.fieldLink RX2 15 "PartitionedCache$Monitors" "gains" "[I"]
def wsX4_copyFrom : List Cond := .code yX4_copyFrom cX4_copyFrom 2 none :: ((wsX4_copyFrom_r1 ++ wsX4_copyFrom_r2) ++ wsX40 ++ wsX30 ++ wsX20)
def wsX1_push_r1 : List Cond := [Cond.fieldLink RX1 11 "PartitionedCache$History" "ring" "[LPartitionedCache$State;", Cond.fieldLink RX1 17 "PartitionedCache$History" "oldest" "I", Cond.fieldLink RX1 21 "PartitionedCache$History" "size" "I", Cond.methodLink RX1 25 yX4_copyFrom, Cond.instanceMethod yX4_copyFrom, Cond.selects RX4 yX4_copyFrom yX4_copyFrom, Cond.initialized RX4, Cond.code yX4_copyFrom cX4_copyFrom 2 none, Cond.fieldLink RX4 12 "PartitionedCache$State" "places" "LPartitionedCache$Places;", Cond.fieldLink RX4 21 "PartitionedCache$State" "monitors" "LPartitionedCache$Monitors;", Cond.fieldLink RX4 25 "PartitionedCache$State" "leasts" "[I", Cond.methodLink RX4 46 arraycopyName, Cond.native arraycopyName, Cond.static arraycopyName, Cond.initialized "java/lang/System", Cond.fieldLink RX4 29 "PartitionedCache$State" "counts" "[I", Cond.fieldLink RX4 32 "PartitionedCache$State" "epoch" "I", Cond.fieldLink RX4 36 "PartitionedCache$State" "accesses" "I", Cond.methodLink RX4 39 yX3_copyFrom, Cond.instanceMethod yX3_copyFrom, Cond.selects RX3 yX3_copyFrom yX3_copyFrom, Cond.initialized RX3, Cond.code yX3_copyFrom cX3_copyFrom 2 none, Cond.fieldLink RX3 9 "PartitionedCache$Places" "owners" "[I"]
def wsX1_push_r2 : List Cond := [Cond.methodLink RX3 21 arraycopyName, Cond.fieldLink RX3 15 "PartitionedCache$Places" "held" "[I", Cond.fieldLink RX3 18 "PartitionedCache$Places" "stamps" "[I", Cond.methodLink RX4 43 yX2_copyFrom, Cond.instanceMethod yX2_copyFrom, Cond.selects RX2 yX2_copyFrom yX2_copyFrom, Cond.initialized RX2, Cond.code yX2_copyFrom cX2_copyFrom 2 none, Cond.fieldLink RX2 9 "PartitionedCache$Monitors" "addresses" "[I", Cond.methodLink RX2 18 arraycopyName, Cond.fieldLink RX2 15 "PartitionedCache$Monitors" "gains" "[I"]
def wsX1_push : List Cond := .code yX1_push cX1_push 2 none :: ((wsX1_push_r1 ++ wsX1_push_r2) ++ wsX10 ++ wsX40 ++ wsX30 ++ wsX20)
def wsX6_isSampled : List Cond := .code yX6_isSampled cX6_isSampled 1 (some .boolean) :: ([])
def wsX6_listStart : List Cond := .code yX6_listStart cX6_listStart 2 (some .int) :: ([])
def wsX2_note : List Cond := .code yX2_note cX2_note 7 none :: ([.fieldLink RX2 9 "PartitionedCache$Monitors" "addresses" "[I", .fieldLink RX2 15 "PartitionedCache$Monitors" "gains" "[I", .static yX6_isSampled, .initialized RX6, .code yX6_isSampled cX6_isSampled 1 (some .boolean), .static yX6_listStart, .code yX6_listStart cX6_listStart 2 (some .int)] ++ wsX20)
def wsX2_utilityOf : List Cond := .code yX2_utilityOf cX2_utilityOf 5 (some .int) :: ([.fieldLink RX2 15 "PartitionedCache$Monitors" "gains" "[I"] ++ wsX20)
def wsX2_sumOfGains : List Cond := .code yX2_sumOfGains cX2_sumOfGains 3 (some .int) :: ([.fieldLink RX2 15 "PartitionedCache$Monitors" "gains" "[I"] ++ wsX20)
def wsX2_halve : List Cond := .code yX2_halve cX2_halve 2 none :: ([.fieldLink RX2 15 "PartitionedCache$Monitors" "gains" "[I"] ++ wsX20)
def wsX3_ownedWays : List Cond := .code yX3_ownedWays cX3_ownedWays 4 (some .int) :: ([.fieldLink RX3 9 "PartitionedCache$Places" "owners" "[I"] ++ wsX30)
def wsX3_placeOf : List Cond := .code yX3_placeOf cX3_placeOf 5 (some .int) :: ([.fieldLink RX3 15 "PartitionedCache$Places" "held" "[I"] ++ wsX30)
def wsX3_resultOf : List Cond := .code yX3_resultOf cX3_resultOf 3 (some .int) :: ([.methodLink RX3 27 yX3_placeOf, .instanceMethod yX3_placeOf, .selects RX3 yX3_placeOf yX3_placeOf, .initialized RX3, .code yX3_placeOf cX3_placeOf 5 (some .int), .fieldLink RX3 15 "PartitionedCache$Places" "held" "[I", .methodLink RX3 31 yX3_ownedWays, .instanceMethod yX3_ownedWays, .selects RX3 yX3_ownedWays yX3_ownedWays, .code yX3_ownedWays cX3_ownedWays 4 (some .int), .fieldLink RX3 9 "PartitionedCache$Places" "owners" "[I"] ++ wsX30)
def wsX3_renew : List Cond := .code yX3_renew cX3_renew 5 none :: ([.fieldLink RX3 18 "PartitionedCache$Places" "stamps" "[I", .methodLink RX3 27 yX3_placeOf, .instanceMethod yX3_placeOf, .selects RX3 yX3_placeOf yX3_placeOf, .initialized RX3, .code yX3_placeOf cX3_placeOf 5 (some .int), .fieldLink RX3 15 "PartitionedCache$Places" "held" "[I"] ++ wsX30)
def wsX3_placeToFill : List Cond := .code yX3_placeToFill cX3_placeToFill 7 (some .int) :: ([.fieldLink RX3 9 "PartitionedCache$Places" "owners" "[I", .fieldLink RX3 15 "PartitionedCache$Places" "held" "[I", .fieldLink RX3 18 "PartitionedCache$Places" "stamps" "[I"] ++ wsX30)
def wsX3_holdsLineOf : List Cond := .code yX3_holdsLineOf cX3_holdsLineOf 3 (some .boolean) :: ([.fieldLink RX3 15 "PartitionedCache$Places" "held" "[I"] ++ wsX30)
def wsX3_linesInWay : List Cond := .code yX3_linesInWay cX3_linesInWay 5 (some .int) :: ([.methodLink RX3 35 yX3_holdsLineOf, .instanceMethod yX3_holdsLineOf, .selects RX3 yX3_holdsLineOf yX3_holdsLineOf, .initialized RX3, .code yX3_holdsLineOf cX3_holdsLineOf 3 (some .boolean), .fieldLink RX3 15 "PartitionedCache$Places" "held" "[I"] ++ wsX30)
def wsX3_linesOf : List Cond := .code yX3_linesOf cX3_linesOf 4 (some .int) :: ([.methodLink RX3 39 yX3_linesInWay, .instanceMethod yX3_linesInWay, .selects RX3 yX3_linesInWay yX3_linesInWay, .initialized RX3, .code yX3_linesInWay cX3_linesInWay 5 (some .int), .methodLink RX3 35 yX3_holdsLineOf, .instanceMethod yX3_holdsLineOf, .selects RX3 yX3_holdsLineOf yX3_holdsLineOf, .code yX3_holdsLineOf cX3_holdsLineOf 3 (some .boolean), .fieldLink RX3 15 "PartitionedCache$Places" "held" "[I"] ++ wsX30)
def wsX3_linesInOwnWays : List Cond := .code yX3_linesInOwnWays cX3_linesInOwnWays 4 (some .int) :: ([.fieldLink RX3 9 "PartitionedCache$Places" "owners" "[I", .methodLink RX3 39 yX3_linesInWay, .instanceMethod yX3_linesInWay, .selects RX3 yX3_linesInWay yX3_linesInWay, .initialized RX3, .code yX3_linesInWay cX3_linesInWay 5 (some .int), .methodLink RX3 35 yX3_holdsLineOf, .instanceMethod yX3_holdsLineOf, .selects RX3 yX3_holdsLineOf yX3_holdsLineOf, .code yX3_holdsLineOf cX3_holdsLineOf 3 (some .boolean), .fieldLink RX3 15 "PartitionedCache$Places" "held" "[I"] ++ wsX30)
def wsX3_removeLinesOf : List Cond := .code yX3_removeLinesOf cX3_removeLinesOf 4 (some .int) :: ([.fieldLink RX3 15 "PartitionedCache$Places" "held" "[I", .methodLink RX3 35 yX3_holdsLineOf, .instanceMethod yX3_holdsLineOf, .selects RX3 yX3_holdsLineOf yX3_holdsLineOf, .initialized RX3, .code yX3_holdsLineOf cX3_holdsLineOf 3 (some .boolean)] ++ wsX30)
def wsX3_wayWithFewestLines : List Cond := .code yX3_wayWithFewestLines cX3_wayWithFewestLines 5 (some .int) :: ([.fieldLink RX3 9 "PartitionedCache$Places" "owners" "[I", .methodLink RX3 39 yX3_linesInWay, .instanceMethod yX3_linesInWay, .selects RX3 yX3_linesInWay yX3_linesInWay, .initialized RX3, .code yX3_linesInWay cX3_linesInWay 5 (some .int), .methodLink RX3 35 yX3_holdsLineOf, .instanceMethod yX3_holdsLineOf, .selects RX3 yX3_holdsLineOf yX3_holdsLineOf, .code yX3_holdsLineOf cX3_holdsLineOf 3 (some .boolean), .fieldLink RX3 15 "PartitionedCache$Places" "held" "[I"] ++ wsX30)
def wsX5_init : List Cond := .code yX5_init cX5_init 1 none :: ([.methodLink RX5 3 objectInit, .instanceMethod objectInit, .code objectInit ⟨#[0xb1]⟩ 1 none, .arrayClass .int, .fieldLink RX5 9 "PartitionedCache$Targets" "ways" "[I"] ++ wsX50)
def wsX5_lowest : List Cond := .code yX5_lowest cX5_lowest 3 (some .int) :: ([.fieldLink RX5 9 "PartitionedCache$Targets" "ways" "[I"] ++ wsX50)
def wsX5_growOne : List Cond := .code yX5_growOne cX5_growOne 9 (some .int) :: ([.fieldLink RX5 9 "PartitionedCache$Targets" "ways" "[I", .fieldLink RX5 28 "PartitionedCache$Monitors" "gains" "[I", .methodLink RX5 33 yX5_lowest, .instanceMethod yX5_lowest, .selects RX5 yX5_lowest yX5_lowest, .initialized RX5, .code yX5_lowest cX5_lowest 3 (some .int)] ++ wsX50 ++ wsX20)
def wsX5_compute : List Cond := .code yX5_compute cX5_compute 4 none :: ([.fieldLink RX5 9 "PartitionedCache$Targets" "ways" "[I", .fieldLink RX5 15 "PartitionedCache$State" "leasts" "[I", .fieldLink RX5 20 "PartitionedCache$State" "monitors" "LPartitionedCache$Monitors;", .methodLink RX5 24 yX5_growOne, .instanceMethod yX5_growOne, .selects RX5 yX5_growOne yX5_growOne, .initialized RX5, .code yX5_growOne cX5_growOne 9 (some .int), .fieldLink RX5 28 "PartitionedCache$Monitors" "gains" "[I", .methodLink RX5 33 yX5_lowest, .instanceMethod yX5_lowest, .selects RX5 yX5_lowest yX5_lowest, .code yX5_lowest cX5_lowest 3 (some .int)] ++ wsX50 ++ wsX40 ++ wsX20)
def wsX6_init_r1 : List Cond := [Cond.methodLink RX6 3 objectInit, Cond.instanceMethod objectInit, Cond.code objectInit ⟨#[0xb1]⟩ 1 none, Cond.classLink RX6 9 RX4, Cond.instantiable RX4 6, Cond.initialized RX4, Cond.fieldLink RX6 12 "PartitionedCache" "now" "LPartitionedCache$State;", Cond.classLink RX6 16 RX5, Cond.instantiable RX5 1, Cond.initialized RX5, Cond.fieldLink RX6 19 "PartitionedCache" "targets" "LPartitionedCache$Targets;", Cond.classLink RX6 23 RX1, Cond.instantiable RX1 3, Cond.initialized RX1, Cond.fieldLink RX6 26 "PartitionedCache" "history" "LPartitionedCache$History;", Cond.classLink RX6 30 RX0, Cond.instantiable RX0 2, Cond.initialized RX0, Cond.fieldLink RX6 33 "PartitionedCache" "text" "LPartitionedCache$CommandText;", Cond.fieldLink RX6 37 "PartitionedCache" "slots" "[LPartitionedCache$State;", Cond.arrayClass .boolean, Cond.fieldLink RX6 41 "PartitionedCache" "slotFilled" "[Z", Cond.methodLink RX6 11 yX4_init, Cond.instanceMethod yX4_init]
def wsX6_init_r2 : List Cond := [Cond.code yX4_init cX4_init 2 none, Cond.methodLink RX4 3 objectInit, Cond.classLink RX4 9 RX3, Cond.instantiable RX3 3, Cond.initialized RX3, Cond.fieldLink RX4 12 "PartitionedCache$State" "places" "LPartitionedCache$Places;", Cond.classLink RX4 18 RX2, Cond.instantiable RX2 2, Cond.initialized RX2, Cond.fieldLink RX4 21 "PartitionedCache$State" "monitors" "LPartitionedCache$Monitors;", Cond.arrayClass .int, Cond.fieldLink RX4 25 "PartitionedCache$State" "leasts" "[I", Cond.fieldLink RX4 29 "PartitionedCache$State" "counts" "[I", Cond.fieldLink RX4 32 "PartitionedCache$State" "epoch" "I", Cond.fieldLink RX4 36 "PartitionedCache$State" "accesses" "I", Cond.methodLink RX4 11 yX3_init, Cond.instanceMethod yX3_init, Cond.code yX3_init cX3_init 2 none, Cond.methodLink RX3 3 objectInit, Cond.fieldLink RX3 9 "PartitionedCache$Places" "owners" "[I", Cond.fieldLink RX3 15 "PartitionedCache$Places" "held" "[I", Cond.fieldLink RX3 18 "PartitionedCache$Places" "stamps" "[I", Cond.methodLink RX4 20 yX2_init, Cond.instanceMethod yX2_init]
def wsX6_init_r3 : List Cond := [Cond.code yX2_init cX2_init 2 none, Cond.methodLink RX2 3 objectInit, Cond.fieldLink RX2 9 "PartitionedCache$Monitors" "addresses" "[I", Cond.fieldLink RX2 15 "PartitionedCache$Monitors" "gains" "[I", Cond.instanceMethod yX5_init, Cond.code yX5_init cX5_init 1 none, Cond.methodLink RX5 3 objectInit, Cond.fieldLink RX5 9 "PartitionedCache$Targets" "ways" "[I", Cond.methodLink RX6 25 yX1_init, Cond.instanceMethod yX1_init, Cond.code yX1_init cX1_init 2 none, Cond.methodLink RX1 3 objectInit, Cond.classLink RX1 9 RX4, Cond.fieldLink RX1 11 "PartitionedCache$History" "ring" "[LPartitionedCache$State;", Cond.fieldLink RX1 17 "PartitionedCache$History" "oldest" "I", Cond.fieldLink RX1 21 "PartitionedCache$History" "size" "I", Cond.methodLink RX1 24 yX4_init, Cond.instanceMethod yX0_init, Cond.code yX0_init cX0_init 1 none, Cond.methodLink RX0 3 objectInit, Cond.arrayClass .char, Cond.fieldLink RX0 9 "PartitionedCache$CommandText" "signs" "[C", Cond.fieldLink RX0 15 "PartitionedCache$CommandText" "length" "I"]
def wsX6_init : List Cond := .code yX6_init cX6_init 2 none :: ((wsX6_init_r1 ++ (wsX6_init_r2 ++ wsX6_init_r3)) ++ wsX40 ++ wsX60 ++ wsX50 ++ wsX10 ++ wsX00 ++ wsX30 ++ wsX20)
def wsX6_requireIndex : List Cond := .code yX6_requireIndex cX6_requireIndex 2 none :: ([.classLink RX6 171 "java/lang/IndexOutOfBoundsException", .initialized "java/lang/IndexOutOfBoundsException"] ++ (vx_atS RX6 175 "java/lang/IndexOutOfBoundsException" ["java/lang/RuntimeException", "java/lang/Exception"]).filter goodWord)
def wsX6_requireTenant : List Cond := .code yX6_requireTenant cX6_requireTenant 1 none :: ([.methodLink RX6 75 yX6_requireIndex, .static yX6_requireIndex, .initialized RX6, .code yX6_requireIndex cX6_requireIndex 2 none, .classLink RX6 171 "java/lang/IndexOutOfBoundsException", .initialized "java/lang/IndexOutOfBoundsException"] ++ (vx_atS RX6 175 "java/lang/IndexOutOfBoundsException" ["java/lang/RuntimeException", "java/lang/Exception"]).filter goodWord)
def wsX6_requireArgument : List Cond := .code yX6_requireArgument cX6_requireArgument 3 none :: ([.classLink RX6 204 "java/lang/IllegalArgumentException", .initialized "java/lang/IllegalArgumentException"] ++ (vx_atS RX6 208 "java/lang/IllegalArgumentException" ["java/lang/RuntimeException", "java/lang/Exception"]).filter goodWord)
def wsX6_bringIn : List Cond := .code yX6_bringIn cX6_bringIn 5 none :: ([.fieldLink RX6 12 "PartitionedCache" "now" "LPartitionedCache$State;", .fieldLink RX6 61 "PartitionedCache$State" "places" "LPartitionedCache$Places;", .fieldLink RX6 196 "PartitionedCache$State" "counts" "[I", .fieldLink RX6 147 "PartitionedCache$Places" "held" "[I", .fieldLink RX6 222 "PartitionedCache$Places" "stamps" "[I", .fieldLink RX6 199 "PartitionedCache$State" "accesses" "I", .methodLink RX6 159 yX3_placeToFill, .instanceMethod yX3_placeToFill, .selects RX3 yX3_placeToFill yX3_placeToFill, .initialized RX3, .code yX3_placeToFill cX3_placeToFill 7 (some .int), .fieldLink RX3 9 "PartitionedCache$Places" "owners" "[I", .fieldLink RX3 15 "PartitionedCache$Places" "held" "[I", .fieldLink RX3 18 "PartitionedCache$Places" "stamps" "[I", .methodLink RX6 218 yX3_holdsLineOf, .instanceMethod yX3_holdsLineOf, .selects RX3 yX3_holdsLineOf yX3_holdsLineOf, .code yX3_holdsLineOf cX3_holdsLineOf 3 (some .boolean)] ++ wsX60 ++ wsX40 ++ wsX30)
def wsX6_deficitOf : List Cond := .code yX6_deficitOf cX6_deficitOf 2 (some .int) :: ([.fieldLink RX6 19 "PartitionedCache" "targets" "LPartitionedCache$Targets;", .fieldLink RX6 185 "PartitionedCache$Targets" "ways" "[I", .fieldLink RX6 12 "PartitionedCache" "now" "LPartitionedCache$State;", .fieldLink RX6 61 "PartitionedCache$State" "places" "LPartitionedCache$Places;", .methodLink RX6 144 yX3_ownedWays, .instanceMethod yX3_ownedWays, .selects RX3 yX3_ownedWays yX3_ownedWays, .initialized RX3, .code yX3_ownedWays cX3_ownedWays 4 (some .int), .fieldLink RX3 9 "PartitionedCache$Places" "owners" "[I"] ++ wsX60 ++ wsX50 ++ wsX40 ++ wsX30)
def wsX6_moveOneWay_r1 : List Cond := [Cond.fieldLink RX6 19 "PartitionedCache" "targets" "LPartitionedCache$Targets;", Cond.fieldLink RX6 12 "PartitionedCache" "now" "LPartitionedCache$State;", Cond.fieldLink RX6 61 "PartitionedCache$State" "places" "LPartitionedCache$Places;", Cond.fieldLink RX6 79 "PartitionedCache$Places" "owners" "[I", Cond.methodLink RX6 182 yX5_compute, Cond.instanceMethod yX5_compute, Cond.selects RX5 yX5_compute yX5_compute, Cond.initialized RX5, Cond.code yX5_compute cX5_compute 4 none, Cond.fieldLink RX5 9 "PartitionedCache$Targets" "ways" "[I", Cond.fieldLink RX5 15 "PartitionedCache$State" "leasts" "[I", Cond.fieldLink RX5 20 "PartitionedCache$State" "monitors" "LPartitionedCache$Monitors;", Cond.methodLink RX5 24 yX5_growOne, Cond.instanceMethod yX5_growOne, Cond.selects RX5 yX5_growOne yX5_growOne, Cond.code yX5_growOne cX5_growOne 9 (some .int), Cond.fieldLink RX5 28 "PartitionedCache$Monitors" "gains" "[I", Cond.methodLink RX5 33 yX5_lowest, Cond.instanceMethod yX5_lowest, Cond.selects RX5 yX5_lowest yX5_lowest, Cond.code yX5_lowest cX5_lowest 3 (some .int), Cond.methodLink RX6 188 yX6_deficitOf, Cond.instanceMethod yX6_deficitOf, Cond.selects RX6 yX6_deficitOf yX6_deficitOf]
def wsX6_moveOneWay_r2 : List Cond := [Cond.initialized RX6, Cond.code yX6_deficitOf cX6_deficitOf 2 (some .int), Cond.fieldLink RX6 185 "PartitionedCache$Targets" "ways" "[I", Cond.methodLink RX6 144 yX3_ownedWays, Cond.instanceMethod yX3_ownedWays, Cond.selects RX3 yX3_ownedWays yX3_ownedWays, Cond.initialized RX3, Cond.code yX3_ownedWays cX3_ownedWays 4 (some .int), Cond.fieldLink RX3 9 "PartitionedCache$Places" "owners" "[I", Cond.methodLink RX6 225 yX3_wayWithFewestLines, Cond.instanceMethod yX3_wayWithFewestLines, Cond.selects RX3 yX3_wayWithFewestLines yX3_wayWithFewestLines, Cond.code yX3_wayWithFewestLines cX3_wayWithFewestLines 5 (some .int), Cond.methodLink RX3 39 yX3_linesInWay, Cond.instanceMethod yX3_linesInWay, Cond.selects RX3 yX3_linesInWay yX3_linesInWay, Cond.code yX3_linesInWay cX3_linesInWay 5 (some .int), Cond.methodLink RX3 35 yX3_holdsLineOf, Cond.instanceMethod yX3_holdsLineOf, Cond.selects RX3 yX3_holdsLineOf yX3_holdsLineOf, Cond.code yX3_holdsLineOf cX3_holdsLineOf 3 (some .boolean), Cond.fieldLink RX3 15 "PartitionedCache$Places" "held" "[I"]
def wsX6_moveOneWay : List Cond := .code yX6_moveOneWay cX6_moveOneWay 4 (some .int) :: ((wsX6_moveOneWay_r1 ++ wsX6_moveOneWay_r2) ++ wsX60 ++ wsX40 ++ wsX30 ++ wsX50 ++ wsX20)
def wsX6_makeAccess_r1 : List Cond := [Cond.fieldLink RX6 12 "PartitionedCache" "now" "LPartitionedCache$State;", Cond.fieldLink RX6 90 "PartitionedCache$State" "monitors" "LPartitionedCache$Monitors;", Cond.fieldLink RX6 199 "PartitionedCache$State" "accesses" "I", Cond.fieldLink RX6 61 "PartitionedCache$State" "places" "LPartitionedCache$Places;", Cond.fieldLink RX6 196 "PartitionedCache$State" "counts" "[I", Cond.fieldLink RX6 86 "PartitionedCache$State" "epoch" "I", Cond.methodLink RX6 209 yX2_note, Cond.instanceMethod yX2_note, Cond.selects RX2 yX2_note yX2_note, Cond.initialized RX2, Cond.code yX2_note cX2_note 7 none, Cond.fieldLink RX2 9 "PartitionedCache$Monitors" "addresses" "[I", Cond.fieldLink RX2 15 "PartitionedCache$Monitors" "gains" "[I", Cond.static yX6_isSampled, Cond.initialized RX6, Cond.code yX6_isSampled cX6_isSampled 1 (some .boolean), Cond.static yX6_listStart, Cond.code yX6_listStart cX6_listStart 2 (some .int), Cond.methodLink RX6 156 yX3_resultOf, Cond.instanceMethod yX3_resultOf, Cond.selects RX3 yX3_resultOf yX3_resultOf, Cond.initialized RX3, Cond.code yX3_resultOf cX3_resultOf 3 (some .int), Cond.methodLink RX3 27 yX3_placeOf]
def wsX6_makeAccess_r2 : List Cond := [Cond.instanceMethod yX3_placeOf, Cond.selects RX3 yX3_placeOf yX3_placeOf, Cond.code yX3_placeOf cX3_placeOf 5 (some .int), Cond.fieldLink RX3 15 "PartitionedCache$Places" "held" "[I", Cond.methodLink RX3 31 yX3_ownedWays, Cond.instanceMethod yX3_ownedWays, Cond.selects RX3 yX3_ownedWays yX3_ownedWays, Cond.code yX3_ownedWays cX3_ownedWays 4 (some .int), Cond.fieldLink RX3 9 "PartitionedCache$Places" "owners" "[I", Cond.methodLink RX6 212 yX3_renew, Cond.instanceMethod yX3_renew, Cond.selects RX3 yX3_renew yX3_renew, Cond.code yX3_renew cX3_renew 5 none, Cond.fieldLink RX3 18 "PartitionedCache$Places" "stamps" "[I", Cond.methodLink RX6 215 yX6_bringIn, Cond.instanceMethod yX6_bringIn, Cond.selects RX6 yX6_bringIn yX6_bringIn, Cond.code yX6_bringIn cX6_bringIn 5 none, Cond.fieldLink RX6 147 "PartitionedCache$Places" "held" "[I", Cond.fieldLink RX6 222 "PartitionedCache$Places" "stamps" "[I", Cond.methodLink RX6 159 yX3_placeToFill, Cond.instanceMethod yX3_placeToFill, Cond.selects RX3 yX3_placeToFill yX3_placeToFill, Cond.code yX3_placeToFill cX3_placeToFill 7 (some .int)]
def wsX6_makeAccess_r3 : List Cond := [Cond.methodLink RX6 218 yX3_holdsLineOf, Cond.instanceMethod yX3_holdsLineOf, Cond.selects RX3 yX3_holdsLineOf yX3_holdsLineOf, Cond.code yX3_holdsLineOf cX3_holdsLineOf 3 (some .boolean), Cond.methodLink RX6 71 yX6_moveOneWay, Cond.instanceMethod yX6_moveOneWay, Cond.selects RX6 yX6_moveOneWay yX6_moveOneWay, Cond.code yX6_moveOneWay cX6_moveOneWay 4 (some .int), Cond.fieldLink RX6 19 "PartitionedCache" "targets" "LPartitionedCache$Targets;", Cond.fieldLink RX6 79 "PartitionedCache$Places" "owners" "[I", Cond.methodLink RX6 182 yX5_compute, Cond.instanceMethod yX5_compute, Cond.selects RX5 yX5_compute yX5_compute, Cond.initialized RX5, Cond.code yX5_compute cX5_compute 4 none, Cond.fieldLink RX5 9 "PartitionedCache$Targets" "ways" "[I", Cond.fieldLink RX5 15 "PartitionedCache$State" "leasts" "[I", Cond.fieldLink RX5 20 "PartitionedCache$State" "monitors" "LPartitionedCache$Monitors;", Cond.methodLink RX5 24 yX5_growOne, Cond.instanceMethod yX5_growOne, Cond.selects RX5 yX5_growOne yX5_growOne, Cond.code yX5_growOne cX5_growOne 9 (some .int), Cond.fieldLink RX5 28 "PartitionedCache$Monitors" "gains" "[I", Cond.methodLink RX5 33 yX5_lowest]
def wsX6_makeAccess_r4 : List Cond := [Cond.instanceMethod yX5_lowest, Cond.selects RX5 yX5_lowest yX5_lowest, Cond.code yX5_lowest cX5_lowest 3 (some .int), Cond.methodLink RX6 188 yX6_deficitOf, Cond.instanceMethod yX6_deficitOf, Cond.selects RX6 yX6_deficitOf yX6_deficitOf, Cond.code yX6_deficitOf cX6_deficitOf 2 (some .int), Cond.fieldLink RX6 185 "PartitionedCache$Targets" "ways" "[I", Cond.methodLink RX6 144 yX3_ownedWays, Cond.methodLink RX6 225 yX3_wayWithFewestLines, Cond.instanceMethod yX3_wayWithFewestLines, Cond.selects RX3 yX3_wayWithFewestLines yX3_wayWithFewestLines, Cond.code yX3_wayWithFewestLines cX3_wayWithFewestLines 5 (some .int), Cond.methodLink RX3 39 yX3_linesInWay, Cond.instanceMethod yX3_linesInWay, Cond.selects RX3 yX3_linesInWay yX3_linesInWay, Cond.code yX3_linesInWay cX3_linesInWay 5 (some .int), Cond.methodLink RX3 35 yX3_holdsLineOf, Cond.methodLink RX6 94 yX2_halve, Cond.instanceMethod yX2_halve, Cond.selects RX2 yX2_halve yX2_halve, Cond.code yX2_halve cX2_halve 2 none]
def wsX6_makeAccess : List Cond := .code yX6_makeAccess cX6_makeAccess 4 (some .int) :: ((wsX6_makeAccess_r1 ++ (wsX6_makeAccess_r2 ++ (wsX6_makeAccess_r3 ++ wsX6_makeAccess_r4))) ++ wsX60 ++ wsX40 ++ wsX20 ++ wsX30 ++ wsX50)
def wsX6_access_r1 : List Cond := [Cond.fieldLink RX6 26 "PartitionedCache" "history" "LPartitionedCache$History;", Cond.fieldLink RX6 12 "PartitionedCache" "now" "LPartitionedCache$State;", Cond.methodLink RX6 45 yX6_requireTenant, Cond.static yX6_requireTenant, Cond.initialized RX6, Cond.code yX6_requireTenant cX6_requireTenant 1 none, Cond.methodLink RX6 75 yX6_requireIndex, Cond.static yX6_requireIndex, Cond.code yX6_requireIndex cX6_requireIndex 2 none, Cond.classLink RX6 171 "java/lang/IndexOutOfBoundsException", Cond.initialized "java/lang/IndexOutOfBoundsException", Cond.methodLink RX6 49 yX6_requireArgument, Cond.static yX6_requireArgument, Cond.code yX6_requireArgument cX6_requireArgument 3 none, Cond.classLink RX6 204 "java/lang/IllegalArgumentException", Cond.initialized "java/lang/IllegalArgumentException", Cond.methodLink RX6 53 yX1_push, Cond.instanceMethod yX1_push, Cond.selects RX1 yX1_push yX1_push, Cond.initialized RX1, Cond.code yX1_push cX1_push 2 none, Cond.fieldLink RX1 11 "PartitionedCache$History" "ring" "[LPartitionedCache$State;", Cond.fieldLink RX1 17 "PartitionedCache$History" "oldest" "I", Cond.fieldLink RX1 21 "PartitionedCache$History" "size" "I"]
def wsX6_access_r2 : List Cond := [Cond.methodLink RX1 25 yX4_copyFrom, Cond.instanceMethod yX4_copyFrom, Cond.selects RX4 yX4_copyFrom yX4_copyFrom, Cond.initialized RX4, Cond.code yX4_copyFrom cX4_copyFrom 2 none, Cond.fieldLink RX4 12 "PartitionedCache$State" "places" "LPartitionedCache$Places;", Cond.fieldLink RX4 21 "PartitionedCache$State" "monitors" "LPartitionedCache$Monitors;", Cond.fieldLink RX4 25 "PartitionedCache$State" "leasts" "[I", Cond.methodLink RX4 46 arraycopyName, Cond.native arraycopyName, Cond.static arraycopyName, Cond.initialized "java/lang/System", Cond.fieldLink RX4 29 "PartitionedCache$State" "counts" "[I", Cond.fieldLink RX4 32 "PartitionedCache$State" "epoch" "I", Cond.fieldLink RX4 36 "PartitionedCache$State" "accesses" "I", Cond.methodLink RX4 39 yX3_copyFrom, Cond.instanceMethod yX3_copyFrom, Cond.selects RX3 yX3_copyFrom yX3_copyFrom, Cond.initialized RX3, Cond.code yX3_copyFrom cX3_copyFrom 2 none, Cond.fieldLink RX3 9 "PartitionedCache$Places" "owners" "[I", Cond.methodLink RX3 21 arraycopyName, Cond.fieldLink RX3 15 "PartitionedCache$Places" "held" "[I", Cond.fieldLink RX3 18 "PartitionedCache$Places" "stamps" "[I"]
def wsX6_access_r3 : List Cond := [Cond.methodLink RX4 43 yX2_copyFrom, Cond.instanceMethod yX2_copyFrom, Cond.selects RX2 yX2_copyFrom yX2_copyFrom, Cond.initialized RX2, Cond.code yX2_copyFrom cX2_copyFrom 2 none, Cond.fieldLink RX2 9 "PartitionedCache$Monitors" "addresses" "[I", Cond.methodLink RX2 18 arraycopyName, Cond.fieldLink RX2 15 "PartitionedCache$Monitors" "gains" "[I", Cond.methodLink RX6 57 yX6_makeAccess, Cond.instanceMethod yX6_makeAccess, Cond.selects RX6 yX6_makeAccess yX6_makeAccess, Cond.code yX6_makeAccess cX6_makeAccess 4 (some .int), Cond.fieldLink RX6 90 "PartitionedCache$State" "monitors" "LPartitionedCache$Monitors;", Cond.fieldLink RX6 199 "PartitionedCache$State" "accesses" "I", Cond.fieldLink RX6 61 "PartitionedCache$State" "places" "LPartitionedCache$Places;", Cond.fieldLink RX6 196 "PartitionedCache$State" "counts" "[I", Cond.fieldLink RX6 86 "PartitionedCache$State" "epoch" "I", Cond.methodLink RX6 209 yX2_note, Cond.instanceMethod yX2_note, Cond.selects RX2 yX2_note yX2_note, Cond.code yX2_note cX2_note 7 none, Cond.static yX6_isSampled, Cond.code yX6_isSampled cX6_isSampled 1 (some .boolean), Cond.static yX6_listStart]
def wsX6_access_r4 : List Cond := [Cond.code yX6_listStart cX6_listStart 2 (some .int), Cond.methodLink RX6 156 yX3_resultOf, Cond.instanceMethod yX3_resultOf, Cond.selects RX3 yX3_resultOf yX3_resultOf, Cond.code yX3_resultOf cX3_resultOf 3 (some .int), Cond.methodLink RX3 27 yX3_placeOf, Cond.instanceMethod yX3_placeOf, Cond.selects RX3 yX3_placeOf yX3_placeOf, Cond.code yX3_placeOf cX3_placeOf 5 (some .int), Cond.methodLink RX3 31 yX3_ownedWays, Cond.instanceMethod yX3_ownedWays, Cond.selects RX3 yX3_ownedWays yX3_ownedWays, Cond.code yX3_ownedWays cX3_ownedWays 4 (some .int), Cond.methodLink RX6 212 yX3_renew, Cond.instanceMethod yX3_renew, Cond.selects RX3 yX3_renew yX3_renew, Cond.code yX3_renew cX3_renew 5 none, Cond.methodLink RX6 215 yX6_bringIn, Cond.instanceMethod yX6_bringIn, Cond.selects RX6 yX6_bringIn yX6_bringIn, Cond.code yX6_bringIn cX6_bringIn 5 none, Cond.fieldLink RX6 147 "PartitionedCache$Places" "held" "[I", Cond.fieldLink RX6 222 "PartitionedCache$Places" "stamps" "[I", Cond.methodLink RX6 159 yX3_placeToFill]
def wsX6_access_r5 : List Cond := [Cond.instanceMethod yX3_placeToFill, Cond.selects RX3 yX3_placeToFill yX3_placeToFill, Cond.code yX3_placeToFill cX3_placeToFill 7 (some .int), Cond.methodLink RX6 218 yX3_holdsLineOf, Cond.instanceMethod yX3_holdsLineOf, Cond.selects RX3 yX3_holdsLineOf yX3_holdsLineOf, Cond.code yX3_holdsLineOf cX3_holdsLineOf 3 (some .boolean), Cond.methodLink RX6 71 yX6_moveOneWay, Cond.instanceMethod yX6_moveOneWay, Cond.selects RX6 yX6_moveOneWay yX6_moveOneWay, Cond.code yX6_moveOneWay cX6_moveOneWay 4 (some .int), Cond.fieldLink RX6 19 "PartitionedCache" "targets" "LPartitionedCache$Targets;", Cond.fieldLink RX6 79 "PartitionedCache$Places" "owners" "[I", Cond.methodLink RX6 182 yX5_compute, Cond.instanceMethod yX5_compute, Cond.selects RX5 yX5_compute yX5_compute, Cond.initialized RX5, Cond.code yX5_compute cX5_compute 4 none, Cond.fieldLink RX5 9 "PartitionedCache$Targets" "ways" "[I", Cond.fieldLink RX5 15 "PartitionedCache$State" "leasts" "[I", Cond.fieldLink RX5 20 "PartitionedCache$State" "monitors" "LPartitionedCache$Monitors;", Cond.methodLink RX5 24 yX5_growOne, Cond.instanceMethod yX5_growOne, Cond.selects RX5 yX5_growOne yX5_growOne]
def wsX6_access_r6 : List Cond := [Cond.code yX5_growOne cX5_growOne 9 (some .int), Cond.fieldLink RX5 28 "PartitionedCache$Monitors" "gains" "[I", Cond.methodLink RX5 33 yX5_lowest, Cond.instanceMethod yX5_lowest, Cond.selects RX5 yX5_lowest yX5_lowest, Cond.code yX5_lowest cX5_lowest 3 (some .int), Cond.methodLink RX6 188 yX6_deficitOf, Cond.instanceMethod yX6_deficitOf, Cond.selects RX6 yX6_deficitOf yX6_deficitOf, Cond.code yX6_deficitOf cX6_deficitOf 2 (some .int), Cond.fieldLink RX6 185 "PartitionedCache$Targets" "ways" "[I", Cond.methodLink RX6 144 yX3_ownedWays, Cond.methodLink RX6 225 yX3_wayWithFewestLines, Cond.instanceMethod yX3_wayWithFewestLines, Cond.selects RX3 yX3_wayWithFewestLines yX3_wayWithFewestLines, Cond.code yX3_wayWithFewestLines cX3_wayWithFewestLines 5 (some .int), Cond.methodLink RX3 39 yX3_linesInWay, Cond.instanceMethod yX3_linesInWay, Cond.selects RX3 yX3_linesInWay yX3_linesInWay, Cond.code yX3_linesInWay cX3_linesInWay 5 (some .int), Cond.methodLink RX3 35 yX3_holdsLineOf, Cond.methodLink RX6 94 yX2_halve, Cond.instanceMethod yX2_halve, Cond.selects RX2 yX2_halve yX2_halve]
def wsX6_access_r7 : List Cond := [Cond.code yX2_halve cX2_halve 2 none]
def wsX6_access : List Cond := .code yX6_access cX6_access 3 (some .int) :: ((wsX6_access_r1 ++ (wsX6_access_r2 ++ (wsX6_access_r3 ++ (wsX6_access_r4 ++ (wsX6_access_r5 ++ (wsX6_access_r6 ++ wsX6_access_r7)))))) ++ wsX60 ++ wsX10 ++ wsX40 ++ wsX30 ++ wsX20 ++ wsX50 ++ (vx_atS RX6 175 "java/lang/IndexOutOfBoundsException" ["java/lang/RuntimeException", "java/lang/Exception"]).filter goodWord ++ (vx_atS RX6 208 "java/lang/IllegalArgumentException" ["java/lang/RuntimeException", "java/lang/Exception"]).filter goodWord)
def wsX6_stream_r1 : List Cond := [Cond.fieldLink RX6 26 "PartitionedCache" "history" "LPartitionedCache$History;", Cond.fieldLink RX6 12 "PartitionedCache" "now" "LPartitionedCache$State;", Cond.methodLink RX6 45 yX6_requireTenant, Cond.static yX6_requireTenant, Cond.initialized RX6, Cond.code yX6_requireTenant cX6_requireTenant 1 none, Cond.methodLink RX6 75 yX6_requireIndex, Cond.static yX6_requireIndex, Cond.code yX6_requireIndex cX6_requireIndex 2 none, Cond.classLink RX6 171 "java/lang/IndexOutOfBoundsException", Cond.initialized "java/lang/IndexOutOfBoundsException", Cond.methodLink RX6 49 yX6_requireArgument, Cond.static yX6_requireArgument, Cond.code yX6_requireArgument cX6_requireArgument 3 none, Cond.classLink RX6 204 "java/lang/IllegalArgumentException", Cond.initialized "java/lang/IllegalArgumentException", Cond.methodLink RX6 53 yX1_push, Cond.instanceMethod yX1_push, Cond.selects RX1 yX1_push yX1_push, Cond.initialized RX1, Cond.code yX1_push cX1_push 2 none, Cond.fieldLink RX1 11 "PartitionedCache$History" "ring" "[LPartitionedCache$State;", Cond.fieldLink RX1 17 "PartitionedCache$History" "oldest" "I", Cond.fieldLink RX1 21 "PartitionedCache$History" "size" "I"]
def wsX6_stream_r2 : List Cond := [Cond.methodLink RX1 25 yX4_copyFrom, Cond.instanceMethod yX4_copyFrom, Cond.selects RX4 yX4_copyFrom yX4_copyFrom, Cond.initialized RX4, Cond.code yX4_copyFrom cX4_copyFrom 2 none, Cond.fieldLink RX4 12 "PartitionedCache$State" "places" "LPartitionedCache$Places;", Cond.fieldLink RX4 21 "PartitionedCache$State" "monitors" "LPartitionedCache$Monitors;", Cond.fieldLink RX4 25 "PartitionedCache$State" "leasts" "[I", Cond.methodLink RX4 46 arraycopyName, Cond.native arraycopyName, Cond.static arraycopyName, Cond.initialized "java/lang/System", Cond.fieldLink RX4 29 "PartitionedCache$State" "counts" "[I", Cond.fieldLink RX4 32 "PartitionedCache$State" "epoch" "I", Cond.fieldLink RX4 36 "PartitionedCache$State" "accesses" "I", Cond.methodLink RX4 39 yX3_copyFrom, Cond.instanceMethod yX3_copyFrom, Cond.selects RX3 yX3_copyFrom yX3_copyFrom, Cond.initialized RX3, Cond.code yX3_copyFrom cX3_copyFrom 2 none, Cond.fieldLink RX3 9 "PartitionedCache$Places" "owners" "[I", Cond.methodLink RX3 21 arraycopyName, Cond.fieldLink RX3 15 "PartitionedCache$Places" "held" "[I", Cond.fieldLink RX3 18 "PartitionedCache$Places" "stamps" "[I"]
def wsX6_stream_r3 : List Cond := [Cond.methodLink RX4 43 yX2_copyFrom, Cond.instanceMethod yX2_copyFrom, Cond.selects RX2 yX2_copyFrom yX2_copyFrom, Cond.initialized RX2, Cond.code yX2_copyFrom cX2_copyFrom 2 none, Cond.fieldLink RX2 9 "PartitionedCache$Monitors" "addresses" "[I", Cond.methodLink RX2 18 arraycopyName, Cond.fieldLink RX2 15 "PartitionedCache$Monitors" "gains" "[I", Cond.methodLink RX6 57 yX6_makeAccess, Cond.instanceMethod yX6_makeAccess, Cond.selects RX6 yX6_makeAccess yX6_makeAccess, Cond.code yX6_makeAccess cX6_makeAccess 4 (some .int), Cond.fieldLink RX6 90 "PartitionedCache$State" "monitors" "LPartitionedCache$Monitors;", Cond.fieldLink RX6 199 "PartitionedCache$State" "accesses" "I", Cond.fieldLink RX6 61 "PartitionedCache$State" "places" "LPartitionedCache$Places;", Cond.fieldLink RX6 196 "PartitionedCache$State" "counts" "[I", Cond.fieldLink RX6 86 "PartitionedCache$State" "epoch" "I", Cond.methodLink RX6 209 yX2_note, Cond.instanceMethod yX2_note, Cond.selects RX2 yX2_note yX2_note, Cond.code yX2_note cX2_note 7 none, Cond.static yX6_isSampled, Cond.code yX6_isSampled cX6_isSampled 1 (some .boolean), Cond.static yX6_listStart]
def wsX6_stream_r4 : List Cond := [Cond.code yX6_listStart cX6_listStart 2 (some .int), Cond.methodLink RX6 156 yX3_resultOf, Cond.instanceMethod yX3_resultOf, Cond.selects RX3 yX3_resultOf yX3_resultOf, Cond.code yX3_resultOf cX3_resultOf 3 (some .int), Cond.methodLink RX3 27 yX3_placeOf, Cond.instanceMethod yX3_placeOf, Cond.selects RX3 yX3_placeOf yX3_placeOf, Cond.code yX3_placeOf cX3_placeOf 5 (some .int), Cond.methodLink RX3 31 yX3_ownedWays, Cond.instanceMethod yX3_ownedWays, Cond.selects RX3 yX3_ownedWays yX3_ownedWays, Cond.code yX3_ownedWays cX3_ownedWays 4 (some .int), Cond.methodLink RX6 212 yX3_renew, Cond.instanceMethod yX3_renew, Cond.selects RX3 yX3_renew yX3_renew, Cond.code yX3_renew cX3_renew 5 none, Cond.methodLink RX6 215 yX6_bringIn, Cond.instanceMethod yX6_bringIn, Cond.selects RX6 yX6_bringIn yX6_bringIn, Cond.code yX6_bringIn cX6_bringIn 5 none, Cond.fieldLink RX6 147 "PartitionedCache$Places" "held" "[I", Cond.fieldLink RX6 222 "PartitionedCache$Places" "stamps" "[I", Cond.methodLink RX6 159 yX3_placeToFill]
def wsX6_stream_r5 : List Cond := [Cond.instanceMethod yX3_placeToFill, Cond.selects RX3 yX3_placeToFill yX3_placeToFill, Cond.code yX3_placeToFill cX3_placeToFill 7 (some .int), Cond.methodLink RX6 218 yX3_holdsLineOf, Cond.instanceMethod yX3_holdsLineOf, Cond.selects RX3 yX3_holdsLineOf yX3_holdsLineOf, Cond.code yX3_holdsLineOf cX3_holdsLineOf 3 (some .boolean), Cond.methodLink RX6 71 yX6_moveOneWay, Cond.instanceMethod yX6_moveOneWay, Cond.selects RX6 yX6_moveOneWay yX6_moveOneWay, Cond.code yX6_moveOneWay cX6_moveOneWay 4 (some .int), Cond.fieldLink RX6 19 "PartitionedCache" "targets" "LPartitionedCache$Targets;", Cond.fieldLink RX6 79 "PartitionedCache$Places" "owners" "[I", Cond.methodLink RX6 182 yX5_compute, Cond.instanceMethod yX5_compute, Cond.selects RX5 yX5_compute yX5_compute, Cond.initialized RX5, Cond.code yX5_compute cX5_compute 4 none, Cond.fieldLink RX5 9 "PartitionedCache$Targets" "ways" "[I", Cond.fieldLink RX5 15 "PartitionedCache$State" "leasts" "[I", Cond.fieldLink RX5 20 "PartitionedCache$State" "monitors" "LPartitionedCache$Monitors;", Cond.methodLink RX5 24 yX5_growOne, Cond.instanceMethod yX5_growOne, Cond.selects RX5 yX5_growOne yX5_growOne]
def wsX6_stream_r6 : List Cond := [Cond.code yX5_growOne cX5_growOne 9 (some .int), Cond.fieldLink RX5 28 "PartitionedCache$Monitors" "gains" "[I", Cond.methodLink RX5 33 yX5_lowest, Cond.instanceMethod yX5_lowest, Cond.selects RX5 yX5_lowest yX5_lowest, Cond.code yX5_lowest cX5_lowest 3 (some .int), Cond.methodLink RX6 188 yX6_deficitOf, Cond.instanceMethod yX6_deficitOf, Cond.selects RX6 yX6_deficitOf yX6_deficitOf, Cond.code yX6_deficitOf cX6_deficitOf 2 (some .int), Cond.fieldLink RX6 185 "PartitionedCache$Targets" "ways" "[I", Cond.methodLink RX6 144 yX3_ownedWays, Cond.methodLink RX6 225 yX3_wayWithFewestLines, Cond.instanceMethod yX3_wayWithFewestLines, Cond.selects RX3 yX3_wayWithFewestLines yX3_wayWithFewestLines, Cond.code yX3_wayWithFewestLines cX3_wayWithFewestLines 5 (some .int), Cond.methodLink RX3 39 yX3_linesInWay, Cond.instanceMethod yX3_linesInWay, Cond.selects RX3 yX3_linesInWay yX3_linesInWay, Cond.code yX3_linesInWay cX3_linesInWay 5 (some .int), Cond.methodLink RX3 35 yX3_holdsLineOf, Cond.methodLink RX6 94 yX2_halve, Cond.instanceMethod yX2_halve, Cond.selects RX2 yX2_halve yX2_halve]
def wsX6_stream_r7 : List Cond := [Cond.code yX2_halve cX2_halve 2 none]
def wsX6_stream : List Cond := .code yX6_stream cX6_stream 7 (some .int) :: ((wsX6_stream_r1 ++ (wsX6_stream_r2 ++ (wsX6_stream_r3 ++ (wsX6_stream_r4 ++ (wsX6_stream_r5 ++ (wsX6_stream_r6 ++ wsX6_stream_r7)))))) ++ wsX60 ++ wsX10 ++ wsX40 ++ wsX30 ++ wsX20 ++ wsX50 ++ (vx_atS RX6 175 "java/lang/IndexOutOfBoundsException" ["java/lang/RuntimeException", "java/lang/Exception"]).filter goodWord ++ (vx_atS RX6 208 "java/lang/IllegalArgumentException" ["java/lang/RuntimeException", "java/lang/Exception"]).filter goodWord)
def wsX6_flush_r1 : List Cond := [Cond.fieldLink RX6 26 "PartitionedCache" "history" "LPartitionedCache$History;", Cond.fieldLink RX6 12 "PartitionedCache" "now" "LPartitionedCache$State;", Cond.fieldLink RX6 61 "PartitionedCache$State" "places" "LPartitionedCache$Places;", Cond.methodLink RX6 45 yX6_requireTenant, Cond.static yX6_requireTenant, Cond.initialized RX6, Cond.code yX6_requireTenant cX6_requireTenant 1 none, Cond.methodLink RX6 75 yX6_requireIndex, Cond.static yX6_requireIndex, Cond.code yX6_requireIndex cX6_requireIndex 2 none, Cond.classLink RX6 171 "java/lang/IndexOutOfBoundsException", Cond.initialized "java/lang/IndexOutOfBoundsException", Cond.methodLink RX6 53 yX1_push, Cond.instanceMethod yX1_push, Cond.selects RX1 yX1_push yX1_push, Cond.initialized RX1, Cond.code yX1_push cX1_push 2 none, Cond.fieldLink RX1 11 "PartitionedCache$History" "ring" "[LPartitionedCache$State;", Cond.fieldLink RX1 17 "PartitionedCache$History" "oldest" "I", Cond.fieldLink RX1 21 "PartitionedCache$History" "size" "I", Cond.methodLink RX1 25 yX4_copyFrom, Cond.instanceMethod yX4_copyFrom, Cond.selects RX4 yX4_copyFrom yX4_copyFrom, Cond.initialized RX4]
def wsX6_flush_r2 : List Cond := [Cond.code yX4_copyFrom cX4_copyFrom 2 none, Cond.fieldLink RX4 12 "PartitionedCache$State" "places" "LPartitionedCache$Places;", Cond.fieldLink RX4 21 "PartitionedCache$State" "monitors" "LPartitionedCache$Monitors;", Cond.fieldLink RX4 25 "PartitionedCache$State" "leasts" "[I", Cond.methodLink RX4 46 arraycopyName, Cond.native arraycopyName, Cond.static arraycopyName, Cond.initialized "java/lang/System", Cond.fieldLink RX4 29 "PartitionedCache$State" "counts" "[I", Cond.fieldLink RX4 32 "PartitionedCache$State" "epoch" "I", Cond.fieldLink RX4 36 "PartitionedCache$State" "accesses" "I", Cond.methodLink RX4 39 yX3_copyFrom, Cond.instanceMethod yX3_copyFrom, Cond.selects RX3 yX3_copyFrom yX3_copyFrom, Cond.initialized RX3, Cond.code yX3_copyFrom cX3_copyFrom 2 none, Cond.fieldLink RX3 9 "PartitionedCache$Places" "owners" "[I", Cond.methodLink RX3 21 arraycopyName, Cond.fieldLink RX3 15 "PartitionedCache$Places" "held" "[I", Cond.fieldLink RX3 18 "PartitionedCache$Places" "stamps" "[I", Cond.methodLink RX4 43 yX2_copyFrom, Cond.instanceMethod yX2_copyFrom, Cond.selects RX2 yX2_copyFrom yX2_copyFrom, Cond.initialized RX2]
def wsX6_flush_r3 : List Cond := [Cond.code yX2_copyFrom cX2_copyFrom 2 none, Cond.fieldLink RX2 9 "PartitionedCache$Monitors" "addresses" "[I", Cond.methodLink RX2 18 arraycopyName, Cond.fieldLink RX2 15 "PartitionedCache$Monitors" "gains" "[I", Cond.methodLink RX6 65 yX3_removeLinesOf, Cond.instanceMethod yX3_removeLinesOf, Cond.selects RX3 yX3_removeLinesOf yX3_removeLinesOf, Cond.code yX3_removeLinesOf cX3_removeLinesOf 4 (some .int), Cond.methodLink RX3 35 yX3_holdsLineOf, Cond.instanceMethod yX3_holdsLineOf, Cond.selects RX3 yX3_holdsLineOf yX3_holdsLineOf, Cond.code yX3_holdsLineOf cX3_holdsLineOf 3 (some .boolean)]
def wsX6_flush : List Cond := .code yX6_flush cX6_flush 2 (some .int) :: ((wsX6_flush_r1 ++ (wsX6_flush_r2 ++ wsX6_flush_r3)) ++ wsX60 ++ wsX40 ++ wsX10 ++ wsX30 ++ wsX20 ++ (vx_atS RX6 175 "java/lang/IndexOutOfBoundsException" ["java/lang/RuntimeException", "java/lang/Exception"]).filter goodWord)
def wsX6_moveWay_r1 : List Cond := [Cond.fieldLink RX6 26 "PartitionedCache" "history" "LPartitionedCache$History;", Cond.fieldLink RX6 12 "PartitionedCache" "now" "LPartitionedCache$State;", Cond.methodLink RX6 53 yX1_push, Cond.instanceMethod yX1_push, Cond.selects RX1 yX1_push yX1_push, Cond.initialized RX1, Cond.code yX1_push cX1_push 2 none, Cond.fieldLink RX1 11 "PartitionedCache$History" "ring" "[LPartitionedCache$State;", Cond.fieldLink RX1 17 "PartitionedCache$History" "oldest" "I", Cond.fieldLink RX1 21 "PartitionedCache$History" "size" "I", Cond.methodLink RX1 25 yX4_copyFrom, Cond.instanceMethod yX4_copyFrom, Cond.selects RX4 yX4_copyFrom yX4_copyFrom, Cond.initialized RX4, Cond.code yX4_copyFrom cX4_copyFrom 2 none, Cond.fieldLink RX4 12 "PartitionedCache$State" "places" "LPartitionedCache$Places;", Cond.fieldLink RX4 21 "PartitionedCache$State" "monitors" "LPartitionedCache$Monitors;", Cond.fieldLink RX4 25 "PartitionedCache$State" "leasts" "[I", Cond.methodLink RX4 46 arraycopyName, Cond.native arraycopyName, Cond.static arraycopyName, Cond.initialized "java/lang/System", Cond.fieldLink RX4 29 "PartitionedCache$State" "counts" "[I", Cond.fieldLink RX4 32 "PartitionedCache$State" "epoch" "I"]
def wsX6_moveWay_r2 : List Cond := [Cond.fieldLink RX4 36 "PartitionedCache$State" "accesses" "I", Cond.methodLink RX4 39 yX3_copyFrom, Cond.instanceMethod yX3_copyFrom, Cond.selects RX3 yX3_copyFrom yX3_copyFrom, Cond.initialized RX3, Cond.code yX3_copyFrom cX3_copyFrom 2 none, Cond.fieldLink RX3 9 "PartitionedCache$Places" "owners" "[I", Cond.methodLink RX3 21 arraycopyName, Cond.fieldLink RX3 15 "PartitionedCache$Places" "held" "[I", Cond.fieldLink RX3 18 "PartitionedCache$Places" "stamps" "[I", Cond.methodLink RX4 43 yX2_copyFrom, Cond.instanceMethod yX2_copyFrom, Cond.selects RX2 yX2_copyFrom yX2_copyFrom, Cond.initialized RX2, Cond.code yX2_copyFrom cX2_copyFrom 2 none, Cond.fieldLink RX2 9 "PartitionedCache$Monitors" "addresses" "[I", Cond.methodLink RX2 18 arraycopyName, Cond.fieldLink RX2 15 "PartitionedCache$Monitors" "gains" "[I", Cond.methodLink RX6 71 yX6_moveOneWay, Cond.instanceMethod yX6_moveOneWay, Cond.selects RX6 yX6_moveOneWay yX6_moveOneWay, Cond.initialized RX6, Cond.code yX6_moveOneWay cX6_moveOneWay 4 (some .int), Cond.fieldLink RX6 19 "PartitionedCache" "targets" "LPartitionedCache$Targets;"]
def wsX6_moveWay_r3 : List Cond := [Cond.fieldLink RX6 61 "PartitionedCache$State" "places" "LPartitionedCache$Places;", Cond.fieldLink RX6 79 "PartitionedCache$Places" "owners" "[I", Cond.methodLink RX6 182 yX5_compute, Cond.instanceMethod yX5_compute, Cond.selects RX5 yX5_compute yX5_compute, Cond.initialized RX5, Cond.code yX5_compute cX5_compute 4 none, Cond.fieldLink RX5 9 "PartitionedCache$Targets" "ways" "[I", Cond.fieldLink RX5 15 "PartitionedCache$State" "leasts" "[I", Cond.fieldLink RX5 20 "PartitionedCache$State" "monitors" "LPartitionedCache$Monitors;", Cond.methodLink RX5 24 yX5_growOne, Cond.instanceMethod yX5_growOne, Cond.selects RX5 yX5_growOne yX5_growOne, Cond.code yX5_growOne cX5_growOne 9 (some .int), Cond.fieldLink RX5 28 "PartitionedCache$Monitors" "gains" "[I", Cond.methodLink RX5 33 yX5_lowest, Cond.instanceMethod yX5_lowest, Cond.selects RX5 yX5_lowest yX5_lowest, Cond.code yX5_lowest cX5_lowest 3 (some .int), Cond.methodLink RX6 188 yX6_deficitOf, Cond.instanceMethod yX6_deficitOf, Cond.selects RX6 yX6_deficitOf yX6_deficitOf, Cond.code yX6_deficitOf cX6_deficitOf 2 (some .int), Cond.fieldLink RX6 185 "PartitionedCache$Targets" "ways" "[I"]
def wsX6_moveWay_r4 : List Cond := [Cond.methodLink RX6 144 yX3_ownedWays, Cond.instanceMethod yX3_ownedWays, Cond.selects RX3 yX3_ownedWays yX3_ownedWays, Cond.code yX3_ownedWays cX3_ownedWays 4 (some .int), Cond.methodLink RX6 225 yX3_wayWithFewestLines, Cond.instanceMethod yX3_wayWithFewestLines, Cond.selects RX3 yX3_wayWithFewestLines yX3_wayWithFewestLines, Cond.code yX3_wayWithFewestLines cX3_wayWithFewestLines 5 (some .int), Cond.methodLink RX3 39 yX3_linesInWay, Cond.instanceMethod yX3_linesInWay, Cond.selects RX3 yX3_linesInWay yX3_linesInWay, Cond.code yX3_linesInWay cX3_linesInWay 5 (some .int), Cond.methodLink RX3 35 yX3_holdsLineOf, Cond.instanceMethod yX3_holdsLineOf, Cond.selects RX3 yX3_holdsLineOf yX3_holdsLineOf, Cond.code yX3_holdsLineOf cX3_holdsLineOf 3 (some .boolean)]
def wsX6_moveWay : List Cond := .code yX6_moveWay cX6_moveWay 1 (some .int) :: ((wsX6_moveWay_r1 ++ (wsX6_moveWay_r2 ++ (wsX6_moveWay_r3 ++ wsX6_moveWay_r4))) ++ wsX60 ++ wsX10 ++ wsX40 ++ wsX30 ++ wsX20 ++ wsX50)
def wsX6_giveWay_r1 : List Cond := [Cond.fieldLink RX6 26 "PartitionedCache" "history" "LPartitionedCache$History;", Cond.fieldLink RX6 12 "PartitionedCache" "now" "LPartitionedCache$State;", Cond.fieldLink RX6 61 "PartitionedCache$State" "places" "LPartitionedCache$Places;", Cond.fieldLink RX6 79 "PartitionedCache$Places" "owners" "[I", Cond.methodLink RX6 75 yX6_requireIndex, Cond.static yX6_requireIndex, Cond.initialized RX6, Cond.code yX6_requireIndex cX6_requireIndex 2 none, Cond.classLink RX6 171 "java/lang/IndexOutOfBoundsException", Cond.initialized "java/lang/IndexOutOfBoundsException", Cond.methodLink RX6 45 yX6_requireTenant, Cond.static yX6_requireTenant, Cond.code yX6_requireTenant cX6_requireTenant 1 none, Cond.methodLink RX6 53 yX1_push, Cond.instanceMethod yX1_push, Cond.selects RX1 yX1_push yX1_push, Cond.initialized RX1, Cond.code yX1_push cX1_push 2 none, Cond.fieldLink RX1 11 "PartitionedCache$History" "ring" "[LPartitionedCache$State;", Cond.fieldLink RX1 17 "PartitionedCache$History" "oldest" "I", Cond.fieldLink RX1 21 "PartitionedCache$History" "size" "I", Cond.methodLink RX1 25 yX4_copyFrom, Cond.instanceMethod yX4_copyFrom, Cond.selects RX4 yX4_copyFrom yX4_copyFrom]
def wsX6_giveWay_r2 : List Cond := [Cond.initialized RX4, Cond.code yX4_copyFrom cX4_copyFrom 2 none, Cond.fieldLink RX4 12 "PartitionedCache$State" "places" "LPartitionedCache$Places;", Cond.fieldLink RX4 21 "PartitionedCache$State" "monitors" "LPartitionedCache$Monitors;", Cond.fieldLink RX4 25 "PartitionedCache$State" "leasts" "[I", Cond.methodLink RX4 46 arraycopyName, Cond.native arraycopyName, Cond.static arraycopyName, Cond.initialized "java/lang/System", Cond.fieldLink RX4 29 "PartitionedCache$State" "counts" "[I", Cond.fieldLink RX4 32 "PartitionedCache$State" "epoch" "I", Cond.fieldLink RX4 36 "PartitionedCache$State" "accesses" "I", Cond.methodLink RX4 39 yX3_copyFrom, Cond.instanceMethod yX3_copyFrom, Cond.selects RX3 yX3_copyFrom yX3_copyFrom, Cond.initialized RX3, Cond.code yX3_copyFrom cX3_copyFrom 2 none, Cond.fieldLink RX3 9 "PartitionedCache$Places" "owners" "[I", Cond.methodLink RX3 21 arraycopyName, Cond.fieldLink RX3 15 "PartitionedCache$Places" "held" "[I", Cond.fieldLink RX3 18 "PartitionedCache$Places" "stamps" "[I", Cond.methodLink RX4 43 yX2_copyFrom, Cond.instanceMethod yX2_copyFrom, Cond.selects RX2 yX2_copyFrom yX2_copyFrom]
def wsX6_giveWay_r3 : List Cond := [Cond.initialized RX2, Cond.code yX2_copyFrom cX2_copyFrom 2 none, Cond.fieldLink RX2 9 "PartitionedCache$Monitors" "addresses" "[I", Cond.methodLink RX2 18 arraycopyName, Cond.fieldLink RX2 15 "PartitionedCache$Monitors" "gains" "[I"]
def wsX6_giveWay : List Cond := .code yX6_giveWay cX6_giveWay 4 (some .int) :: ((wsX6_giveWay_r1 ++ (wsX6_giveWay_r2 ++ wsX6_giveWay_r3)) ++ wsX60 ++ wsX40 ++ wsX30 ++ wsX10 ++ wsX20 ++ (vx_atS RX6 175 "java/lang/IndexOutOfBoundsException" ["java/lang/RuntimeException", "java/lang/Exception"]).filter goodWord)
def wsX6_setLeast_r1 : List Cond := [Cond.fieldLink RX6 26 "PartitionedCache" "history" "LPartitionedCache$History;", Cond.fieldLink RX6 12 "PartitionedCache" "now" "LPartitionedCache$State;", Cond.fieldLink RX6 83 "PartitionedCache$State" "leasts" "[I", Cond.methodLink RX6 45 yX6_requireTenant, Cond.static yX6_requireTenant, Cond.initialized RX6, Cond.code yX6_requireTenant cX6_requireTenant 1 none, Cond.methodLink RX6 75 yX6_requireIndex, Cond.static yX6_requireIndex, Cond.code yX6_requireIndex cX6_requireIndex 2 none, Cond.classLink RX6 171 "java/lang/IndexOutOfBoundsException", Cond.initialized "java/lang/IndexOutOfBoundsException", Cond.methodLink RX6 49 yX6_requireArgument, Cond.static yX6_requireArgument, Cond.code yX6_requireArgument cX6_requireArgument 3 none, Cond.classLink RX6 204 "java/lang/IllegalArgumentException", Cond.initialized "java/lang/IllegalArgumentException", Cond.methodLink RX6 53 yX1_push, Cond.instanceMethod yX1_push, Cond.selects RX1 yX1_push yX1_push, Cond.initialized RX1, Cond.code yX1_push cX1_push 2 none, Cond.fieldLink RX1 11 "PartitionedCache$History" "ring" "[LPartitionedCache$State;", Cond.fieldLink RX1 17 "PartitionedCache$History" "oldest" "I"]
def wsX6_setLeast_r2 : List Cond := [Cond.fieldLink RX1 21 "PartitionedCache$History" "size" "I", Cond.methodLink RX1 25 yX4_copyFrom, Cond.instanceMethod yX4_copyFrom, Cond.selects RX4 yX4_copyFrom yX4_copyFrom, Cond.initialized RX4, Cond.code yX4_copyFrom cX4_copyFrom 2 none, Cond.fieldLink RX4 12 "PartitionedCache$State" "places" "LPartitionedCache$Places;", Cond.fieldLink RX4 21 "PartitionedCache$State" "monitors" "LPartitionedCache$Monitors;", Cond.fieldLink RX4 25 "PartitionedCache$State" "leasts" "[I", Cond.methodLink RX4 46 arraycopyName, Cond.native arraycopyName, Cond.static arraycopyName, Cond.initialized "java/lang/System", Cond.fieldLink RX4 29 "PartitionedCache$State" "counts" "[I", Cond.fieldLink RX4 32 "PartitionedCache$State" "epoch" "I", Cond.fieldLink RX4 36 "PartitionedCache$State" "accesses" "I", Cond.methodLink RX4 39 yX3_copyFrom, Cond.instanceMethod yX3_copyFrom, Cond.selects RX3 yX3_copyFrom yX3_copyFrom, Cond.initialized RX3, Cond.code yX3_copyFrom cX3_copyFrom 2 none, Cond.fieldLink RX3 9 "PartitionedCache$Places" "owners" "[I", Cond.methodLink RX3 21 arraycopyName, Cond.fieldLink RX3 15 "PartitionedCache$Places" "held" "[I"]
def wsX6_setLeast_r3 : List Cond := [Cond.fieldLink RX3 18 "PartitionedCache$Places" "stamps" "[I", Cond.methodLink RX4 43 yX2_copyFrom, Cond.instanceMethod yX2_copyFrom, Cond.selects RX2 yX2_copyFrom yX2_copyFrom, Cond.initialized RX2, Cond.code yX2_copyFrom cX2_copyFrom 2 none, Cond.fieldLink RX2 9 "PartitionedCache$Monitors" "addresses" "[I", Cond.methodLink RX2 18 arraycopyName, Cond.fieldLink RX2 15 "PartitionedCache$Monitors" "gains" "[I"]
def wsX6_setLeast : List Cond := .code yX6_setLeast cX6_setLeast 4 (some .int) :: ((wsX6_setLeast_r1 ++ (wsX6_setLeast_r2 ++ wsX6_setLeast_r3)) ++ wsX60 ++ wsX40 ++ wsX10 ++ wsX30 ++ wsX20 ++ (vx_atS RX6 175 "java/lang/IndexOutOfBoundsException" ["java/lang/RuntimeException", "java/lang/Exception"]).filter goodWord ++ (vx_atS RX6 208 "java/lang/IllegalArgumentException" ["java/lang/RuntimeException", "java/lang/Exception"]).filter goodWord)
def wsX6_halveGains_r1 : List Cond := [Cond.fieldLink RX6 26 "PartitionedCache" "history" "LPartitionedCache$History;", Cond.fieldLink RX6 12 "PartitionedCache" "now" "LPartitionedCache$State;", Cond.fieldLink RX6 90 "PartitionedCache$State" "monitors" "LPartitionedCache$Monitors;", Cond.methodLink RX6 53 yX1_push, Cond.instanceMethod yX1_push, Cond.selects RX1 yX1_push yX1_push, Cond.initialized RX1, Cond.code yX1_push cX1_push 2 none, Cond.fieldLink RX1 11 "PartitionedCache$History" "ring" "[LPartitionedCache$State;", Cond.fieldLink RX1 17 "PartitionedCache$History" "oldest" "I", Cond.fieldLink RX1 21 "PartitionedCache$History" "size" "I", Cond.methodLink RX1 25 yX4_copyFrom, Cond.instanceMethod yX4_copyFrom, Cond.selects RX4 yX4_copyFrom yX4_copyFrom, Cond.initialized RX4, Cond.code yX4_copyFrom cX4_copyFrom 2 none, Cond.fieldLink RX4 12 "PartitionedCache$State" "places" "LPartitionedCache$Places;", Cond.fieldLink RX4 21 "PartitionedCache$State" "monitors" "LPartitionedCache$Monitors;", Cond.fieldLink RX4 25 "PartitionedCache$State" "leasts" "[I", Cond.methodLink RX4 46 arraycopyName, Cond.native arraycopyName, Cond.static arraycopyName, Cond.initialized "java/lang/System", Cond.fieldLink RX4 29 "PartitionedCache$State" "counts" "[I"]
def wsX6_halveGains_r2 : List Cond := [Cond.fieldLink RX4 32 "PartitionedCache$State" "epoch" "I", Cond.fieldLink RX4 36 "PartitionedCache$State" "accesses" "I", Cond.methodLink RX4 39 yX3_copyFrom, Cond.instanceMethod yX3_copyFrom, Cond.selects RX3 yX3_copyFrom yX3_copyFrom, Cond.initialized RX3, Cond.code yX3_copyFrom cX3_copyFrom 2 none, Cond.fieldLink RX3 9 "PartitionedCache$Places" "owners" "[I", Cond.methodLink RX3 21 arraycopyName, Cond.fieldLink RX3 15 "PartitionedCache$Places" "held" "[I", Cond.fieldLink RX3 18 "PartitionedCache$Places" "stamps" "[I", Cond.methodLink RX4 43 yX2_copyFrom, Cond.instanceMethod yX2_copyFrom, Cond.selects RX2 yX2_copyFrom yX2_copyFrom, Cond.initialized RX2, Cond.code yX2_copyFrom cX2_copyFrom 2 none, Cond.fieldLink RX2 9 "PartitionedCache$Monitors" "addresses" "[I", Cond.methodLink RX2 18 arraycopyName, Cond.fieldLink RX2 15 "PartitionedCache$Monitors" "gains" "[I", Cond.methodLink RX6 94 yX2_halve, Cond.instanceMethod yX2_halve, Cond.selects RX2 yX2_halve yX2_halve, Cond.code yX2_halve cX2_halve 2 none, Cond.methodLink RX6 99 yX2_sumOfGains]
def wsX6_halveGains_r3 : List Cond := [Cond.instanceMethod yX2_sumOfGains, Cond.selects RX2 yX2_sumOfGains yX2_sumOfGains, Cond.code yX2_sumOfGains cX2_sumOfGains 3 (some .int)]
def wsX6_halveGains : List Cond := .code yX6_halveGains cX6_halveGains 1 (some .int) :: ((wsX6_halveGains_r1 ++ (wsX6_halveGains_r2 ++ wsX6_halveGains_r3)) ++ wsX60 ++ wsX40 ++ wsX10 ++ wsX30 ++ wsX20)
def wsX6_owner : List Cond := .code yX6_owner cX6_owner 2 (some .int) :: ([.fieldLink RX6 12 "PartitionedCache" "now" "LPartitionedCache$State;", .fieldLink RX6 61 "PartitionedCache$State" "places" "LPartitionedCache$Places;", .fieldLink RX6 79 "PartitionedCache$Places" "owners" "[I", .methodLink RX6 75 yX6_requireIndex, .static yX6_requireIndex, .initialized RX6, .code yX6_requireIndex cX6_requireIndex 2 none, .classLink RX6 171 "java/lang/IndexOutOfBoundsException", .initialized "java/lang/IndexOutOfBoundsException"] ++ wsX60 ++ wsX40 ++ wsX30 ++ (vx_atS RX6 175 "java/lang/IndexOutOfBoundsException" ["java/lang/RuntimeException", "java/lang/Exception"]).filter goodWord)
def wsX6_waysOf : List Cond := .code yX6_waysOf cX6_waysOf 2 (some .int) :: ([.fieldLink RX6 12 "PartitionedCache" "now" "LPartitionedCache$State;", .fieldLink RX6 61 "PartitionedCache$State" "places" "LPartitionedCache$Places;", .methodLink RX6 45 yX6_requireTenant, .static yX6_requireTenant, .initialized RX6, .code yX6_requireTenant cX6_requireTenant 1 none, .methodLink RX6 75 yX6_requireIndex, .static yX6_requireIndex, .code yX6_requireIndex cX6_requireIndex 2 none, .classLink RX6 171 "java/lang/IndexOutOfBoundsException", .initialized "java/lang/IndexOutOfBoundsException", .methodLink RX6 144 yX3_ownedWays, .instanceMethod yX3_ownedWays, .selects RX3 yX3_ownedWays yX3_ownedWays, .initialized RX3, .code yX3_ownedWays cX3_ownedWays 4 (some .int), .fieldLink RX3 9 "PartitionedCache$Places" "owners" "[I"] ++ wsX60 ++ wsX40 ++ wsX30 ++ (vx_atS RX6 175 "java/lang/IndexOutOfBoundsException" ["java/lang/RuntimeException", "java/lang/Exception"]).filter goodWord)
def wsX6_line : List Cond := .code yX6_line cX6_line 3 (some .int) :: ([.fieldLink RX6 12 "PartitionedCache" "now" "LPartitionedCache$State;", .fieldLink RX6 61 "PartitionedCache$State" "places" "LPartitionedCache$Places;", .fieldLink RX6 147 "PartitionedCache$Places" "held" "[I", .methodLink RX6 75 yX6_requireIndex, .static yX6_requireIndex, .initialized RX6, .code yX6_requireIndex cX6_requireIndex 2 none, .classLink RX6 171 "java/lang/IndexOutOfBoundsException", .initialized "java/lang/IndexOutOfBoundsException"] ++ wsX60 ++ wsX40 ++ wsX30 ++ (vx_atS RX6 175 "java/lang/IndexOutOfBoundsException" ["java/lang/RuntimeException", "java/lang/Exception"]).filter goodWord)
def wsX6_lines_r1 : List Cond := [Cond.fieldLink RX6 12 "PartitionedCache" "now" "LPartitionedCache$State;", Cond.fieldLink RX6 61 "PartitionedCache$State" "places" "LPartitionedCache$Places;", Cond.methodLink RX6 45 yX6_requireTenant, Cond.static yX6_requireTenant, Cond.initialized RX6, Cond.code yX6_requireTenant cX6_requireTenant 1 none, Cond.methodLink RX6 75 yX6_requireIndex, Cond.static yX6_requireIndex, Cond.code yX6_requireIndex cX6_requireIndex 2 none, Cond.classLink RX6 171 "java/lang/IndexOutOfBoundsException", Cond.initialized "java/lang/IndexOutOfBoundsException", Cond.methodLink RX6 150 yX3_linesInOwnWays, Cond.instanceMethod yX3_linesInOwnWays, Cond.selects RX3 yX3_linesInOwnWays yX3_linesInOwnWays, Cond.initialized RX3, Cond.code yX3_linesInOwnWays cX3_linesInOwnWays 4 (some .int), Cond.fieldLink RX3 9 "PartitionedCache$Places" "owners" "[I", Cond.methodLink RX3 39 yX3_linesInWay, Cond.instanceMethod yX3_linesInWay, Cond.selects RX3 yX3_linesInWay yX3_linesInWay, Cond.code yX3_linesInWay cX3_linesInWay 5 (some .int), Cond.methodLink RX3 35 yX3_holdsLineOf, Cond.instanceMethod yX3_holdsLineOf, Cond.selects RX3 yX3_holdsLineOf yX3_holdsLineOf]
def wsX6_lines_r2 : List Cond := [Cond.code yX3_holdsLineOf cX3_holdsLineOf 3 (some .boolean), Cond.fieldLink RX3 15 "PartitionedCache$Places" "held" "[I", Cond.methodLink RX6 153 yX3_linesOf, Cond.instanceMethod yX3_linesOf, Cond.selects RX3 yX3_linesOf yX3_linesOf, Cond.code yX3_linesOf cX3_linesOf 4 (some .int)]
def wsX6_lines : List Cond := .code yX6_lines cX6_lines 4 (some .int) :: ((wsX6_lines_r1 ++ wsX6_lines_r2) ++ wsX60 ++ wsX40 ++ wsX30 ++ (vx_atS RX6 175 "java/lang/IndexOutOfBoundsException" ["java/lang/RuntimeException", "java/lang/Exception"]).filter goodWord)
def wsX6_ifAccessed_r1 : List Cond := [Cond.fieldLink RX6 12 "PartitionedCache" "now" "LPartitionedCache$State;", Cond.fieldLink RX6 61 "PartitionedCache$State" "places" "LPartitionedCache$Places;", Cond.methodLink RX6 45 yX6_requireTenant, Cond.static yX6_requireTenant, Cond.initialized RX6, Cond.code yX6_requireTenant cX6_requireTenant 1 none, Cond.methodLink RX6 75 yX6_requireIndex, Cond.static yX6_requireIndex, Cond.code yX6_requireIndex cX6_requireIndex 2 none, Cond.classLink RX6 171 "java/lang/IndexOutOfBoundsException", Cond.initialized "java/lang/IndexOutOfBoundsException", Cond.methodLink RX6 49 yX6_requireArgument, Cond.static yX6_requireArgument, Cond.code yX6_requireArgument cX6_requireArgument 3 none, Cond.classLink RX6 204 "java/lang/IllegalArgumentException", Cond.initialized "java/lang/IllegalArgumentException", Cond.methodLink RX6 156 yX3_resultOf, Cond.instanceMethod yX3_resultOf, Cond.selects RX3 yX3_resultOf yX3_resultOf, Cond.initialized RX3, Cond.code yX3_resultOf cX3_resultOf 3 (some .int), Cond.methodLink RX3 27 yX3_placeOf, Cond.instanceMethod yX3_placeOf, Cond.selects RX3 yX3_placeOf yX3_placeOf]
def wsX6_ifAccessed_r2 : List Cond := [Cond.code yX3_placeOf cX3_placeOf 5 (some .int), Cond.fieldLink RX3 15 "PartitionedCache$Places" "held" "[I", Cond.methodLink RX3 31 yX3_ownedWays, Cond.instanceMethod yX3_ownedWays, Cond.selects RX3 yX3_ownedWays yX3_ownedWays, Cond.code yX3_ownedWays cX3_ownedWays 4 (some .int), Cond.fieldLink RX3 9 "PartitionedCache$Places" "owners" "[I"]
def wsX6_ifAccessed : List Cond := .code yX6_ifAccessed cX6_ifAccessed 3 (some .int) :: ((wsX6_ifAccessed_r1 ++ wsX6_ifAccessed_r2) ++ wsX60 ++ wsX40 ++ wsX30 ++ (vx_atS RX6 175 "java/lang/IndexOutOfBoundsException" ["java/lang/RuntimeException", "java/lang/Exception"]).filter goodWord ++ (vx_atS RX6 208 "java/lang/IllegalArgumentException" ["java/lang/RuntimeException", "java/lang/Exception"]).filter goodWord)
def wsX6_victim_r1 : List Cond := [Cond.fieldLink RX6 12 "PartitionedCache" "now" "LPartitionedCache$State;", Cond.fieldLink RX6 61 "PartitionedCache$State" "places" "LPartitionedCache$Places;", Cond.fieldLink RX6 147 "PartitionedCache$Places" "held" "[I", Cond.methodLink RX6 45 yX6_requireTenant, Cond.static yX6_requireTenant, Cond.initialized RX6, Cond.code yX6_requireTenant cX6_requireTenant 1 none, Cond.methodLink RX6 75 yX6_requireIndex, Cond.static yX6_requireIndex, Cond.code yX6_requireIndex cX6_requireIndex 2 none, Cond.classLink RX6 171 "java/lang/IndexOutOfBoundsException", Cond.initialized "java/lang/IndexOutOfBoundsException", Cond.methodLink RX6 49 yX6_requireArgument, Cond.static yX6_requireArgument, Cond.code yX6_requireArgument cX6_requireArgument 3 none, Cond.classLink RX6 204 "java/lang/IllegalArgumentException", Cond.initialized "java/lang/IllegalArgumentException", Cond.methodLink RX6 156 yX3_resultOf, Cond.instanceMethod yX3_resultOf, Cond.selects RX3 yX3_resultOf yX3_resultOf, Cond.initialized RX3, Cond.code yX3_resultOf cX3_resultOf 3 (some .int), Cond.methodLink RX3 27 yX3_placeOf, Cond.instanceMethod yX3_placeOf]
def wsX6_victim_r2 : List Cond := [Cond.selects RX3 yX3_placeOf yX3_placeOf, Cond.code yX3_placeOf cX3_placeOf 5 (some .int), Cond.fieldLink RX3 15 "PartitionedCache$Places" "held" "[I", Cond.methodLink RX3 31 yX3_ownedWays, Cond.instanceMethod yX3_ownedWays, Cond.selects RX3 yX3_ownedWays yX3_ownedWays, Cond.code yX3_ownedWays cX3_ownedWays 4 (some .int), Cond.fieldLink RX3 9 "PartitionedCache$Places" "owners" "[I", Cond.methodLink RX6 159 yX3_placeToFill, Cond.instanceMethod yX3_placeToFill, Cond.selects RX3 yX3_placeToFill yX3_placeToFill, Cond.code yX3_placeToFill cX3_placeToFill 7 (some .int), Cond.fieldLink RX3 18 "PartitionedCache$Places" "stamps" "[I"]
def wsX6_victim : List Cond := .code yX6_victim cX6_victim 4 (some .int) :: ((wsX6_victim_r1 ++ wsX6_victim_r2) ++ wsX60 ++ wsX40 ++ wsX30 ++ (vx_atS RX6 175 "java/lang/IndexOutOfBoundsException" ["java/lang/RuntimeException", "java/lang/Exception"]).filter goodWord ++ (vx_atS RX6 208 "java/lang/IllegalArgumentException" ["java/lang/RuntimeException", "java/lang/Exception"]).filter goodWord)
def wsX6_gain : List Cond := .code yX6_gain cX6_gain 3 (some .int) :: ([.fieldLink RX6 12 "PartitionedCache" "now" "LPartitionedCache$State;", .fieldLink RX6 90 "PartitionedCache$State" "monitors" "LPartitionedCache$Monitors;", .fieldLink RX6 162 "PartitionedCache$Monitors" "gains" "[I", .methodLink RX6 45 yX6_requireTenant, .static yX6_requireTenant, .initialized RX6, .code yX6_requireTenant cX6_requireTenant 1 none, .methodLink RX6 75 yX6_requireIndex, .static yX6_requireIndex, .code yX6_requireIndex cX6_requireIndex 2 none, .classLink RX6 171 "java/lang/IndexOutOfBoundsException", .initialized "java/lang/IndexOutOfBoundsException"] ++ wsX60 ++ wsX40 ++ wsX20 ++ (vx_atS RX6 175 "java/lang/IndexOutOfBoundsException" ["java/lang/RuntimeException", "java/lang/Exception"]).filter goodWord)
def wsX6_utility : List Cond := .code yX6_utility cX6_utility 3 (some .int) :: ([.fieldLink RX6 12 "PartitionedCache" "now" "LPartitionedCache$State;", .fieldLink RX6 90 "PartitionedCache$State" "monitors" "LPartitionedCache$Monitors;", .methodLink RX6 45 yX6_requireTenant, .static yX6_requireTenant, .initialized RX6, .code yX6_requireTenant cX6_requireTenant 1 none, .methodLink RX6 75 yX6_requireIndex, .static yX6_requireIndex, .code yX6_requireIndex cX6_requireIndex 2 none, .classLink RX6 171 "java/lang/IndexOutOfBoundsException", .initialized "java/lang/IndexOutOfBoundsException", .methodLink RX6 49 yX6_requireArgument, .static yX6_requireArgument, .code yX6_requireArgument cX6_requireArgument 3 none, .classLink RX6 204 "java/lang/IllegalArgumentException", .initialized "java/lang/IllegalArgumentException", .methodLink RX6 165 yX2_utilityOf, .instanceMethod yX2_utilityOf, .selects RX2 yX2_utilityOf yX2_utilityOf, .initialized RX2, .code yX2_utilityOf cX2_utilityOf 5 (some .int), .fieldLink RX2 15 "PartitionedCache$Monitors" "gains" "[I"] ++ wsX60 ++ wsX40 ++ wsX20 ++ (vx_atS RX6 175 "java/lang/IndexOutOfBoundsException" ["java/lang/RuntimeException", "java/lang/Exception"]).filter goodWord ++ (vx_atS RX6 208 "java/lang/IllegalArgumentException" ["java/lang/RuntimeException", "java/lang/Exception"]).filter goodWord)
def wsX6_monitored : List Cond := .code yX6_monitored cX6_monitored 4 (some .int) :: ([.classLink RX6 171 "java/lang/IndexOutOfBoundsException", .initialized "java/lang/IndexOutOfBoundsException", .fieldLink RX6 12 "PartitionedCache" "now" "LPartitionedCache$State;", .fieldLink RX6 90 "PartitionedCache$State" "monitors" "LPartitionedCache$Monitors;", .fieldLink RX6 176 "PartitionedCache$Monitors" "addresses" "[I", .methodLink RX6 45 yX6_requireTenant, .static yX6_requireTenant, .initialized RX6, .code yX6_requireTenant cX6_requireTenant 1 none, .methodLink RX6 75 yX6_requireIndex, .static yX6_requireIndex, .code yX6_requireIndex cX6_requireIndex 2 none, .methodLink RX6 168 yX6_isSampled, .static yX6_isSampled, .code yX6_isSampled cX6_isSampled 1 (some .boolean), .methodLink RX6 179 yX6_listStart, .static yX6_listStart, .code yX6_listStart cX6_listStart 2 (some .int)] ++ wsX60 ++ wsX40 ++ wsX20 ++ (vx_atS RX6 175 "java/lang/IndexOutOfBoundsException" ["java/lang/RuntimeException", "java/lang/Exception"]).filter goodWord)
def wsX6_target_r1 : List Cond := [Cond.fieldLink RX6 19 "PartitionedCache" "targets" "LPartitionedCache$Targets;", Cond.fieldLink RX6 12 "PartitionedCache" "now" "LPartitionedCache$State;", Cond.fieldLink RX6 185 "PartitionedCache$Targets" "ways" "[I", Cond.methodLink RX6 45 yX6_requireTenant, Cond.static yX6_requireTenant, Cond.initialized RX6, Cond.code yX6_requireTenant cX6_requireTenant 1 none, Cond.methodLink RX6 75 yX6_requireIndex, Cond.static yX6_requireIndex, Cond.code yX6_requireIndex cX6_requireIndex 2 none, Cond.classLink RX6 171 "java/lang/IndexOutOfBoundsException", Cond.initialized "java/lang/IndexOutOfBoundsException", Cond.methodLink RX6 182 yX5_compute, Cond.instanceMethod yX5_compute, Cond.selects RX5 yX5_compute yX5_compute, Cond.initialized RX5, Cond.code yX5_compute cX5_compute 4 none, Cond.fieldLink RX5 9 "PartitionedCache$Targets" "ways" "[I", Cond.fieldLink RX5 15 "PartitionedCache$State" "leasts" "[I", Cond.fieldLink RX5 20 "PartitionedCache$State" "monitors" "LPartitionedCache$Monitors;", Cond.methodLink RX5 24 yX5_growOne, Cond.instanceMethod yX5_growOne, Cond.selects RX5 yX5_growOne yX5_growOne, Cond.code yX5_growOne cX5_growOne 9 (some .int)]
def wsX6_target_r2 : List Cond := [Cond.fieldLink RX5 28 "PartitionedCache$Monitors" "gains" "[I", Cond.methodLink RX5 33 yX5_lowest, Cond.instanceMethod yX5_lowest, Cond.selects RX5 yX5_lowest yX5_lowest, Cond.code yX5_lowest cX5_lowest 3 (some .int)]
def wsX6_target : List Cond := .code yX6_target cX6_target 2 (some .int) :: ((wsX6_target_r1 ++ wsX6_target_r2) ++ wsX60 ++ wsX50 ++ wsX40 ++ wsX20 ++ (vx_atS RX6 175 "java/lang/IndexOutOfBoundsException" ["java/lang/RuntimeException", "java/lang/Exception"]).filter goodWord)
def wsX6_movesLeft_r1 : List Cond := [Cond.fieldLink RX6 19 "PartitionedCache" "targets" "LPartitionedCache$Targets;", Cond.fieldLink RX6 12 "PartitionedCache" "now" "LPartitionedCache$State;", Cond.methodLink RX6 191 Lib.Math.max.name, Cond.static Lib.Math.max.name, Cond.initialized "java/lang/Math", Cond.code Lib.Math.max.name Lib.Math.max.code 2 (some .int), Cond.methodLink RX6 182 yX5_compute, Cond.instanceMethod yX5_compute, Cond.selects RX5 yX5_compute yX5_compute, Cond.initialized RX5, Cond.code yX5_compute cX5_compute 4 none, Cond.fieldLink RX5 9 "PartitionedCache$Targets" "ways" "[I", Cond.fieldLink RX5 15 "PartitionedCache$State" "leasts" "[I", Cond.fieldLink RX5 20 "PartitionedCache$State" "monitors" "LPartitionedCache$Monitors;", Cond.methodLink RX5 24 yX5_growOne, Cond.instanceMethod yX5_growOne, Cond.selects RX5 yX5_growOne yX5_growOne, Cond.code yX5_growOne cX5_growOne 9 (some .int), Cond.fieldLink RX5 28 "PartitionedCache$Monitors" "gains" "[I", Cond.methodLink RX5 33 yX5_lowest, Cond.instanceMethod yX5_lowest, Cond.selects RX5 yX5_lowest yX5_lowest, Cond.code yX5_lowest cX5_lowest 3 (some .int), Cond.methodLink RX6 188 yX6_deficitOf]
def wsX6_movesLeft_r2 : List Cond := [Cond.instanceMethod yX6_deficitOf, Cond.selects RX6 yX6_deficitOf yX6_deficitOf, Cond.initialized RX6, Cond.code yX6_deficitOf cX6_deficitOf 2 (some .int), Cond.fieldLink RX6 185 "PartitionedCache$Targets" "ways" "[I", Cond.fieldLink RX6 61 "PartitionedCache$State" "places" "LPartitionedCache$Places;", Cond.methodLink RX6 144 yX3_ownedWays, Cond.instanceMethod yX3_ownedWays, Cond.selects RX3 yX3_ownedWays yX3_ownedWays, Cond.initialized RX3, Cond.code yX3_ownedWays cX3_ownedWays 4 (some .int), Cond.fieldLink RX3 9 "PartitionedCache$Places" "owners" "[I"]
def wsX6_movesLeft : List Cond := .code yX6_movesLeft cX6_movesLeft 3 (some .int) :: ((wsX6_movesLeft_r1 ++ wsX6_movesLeft_r2) ++ wsX60 ++ wsX50 ++ wsX40 ++ wsX20 ++ wsX30)
def wsX6_count : List Cond := .code yX6_count cX6_count 3 (some .int) :: ([.fieldLink RX6 12 "PartitionedCache" "now" "LPartitionedCache$State;", .fieldLink RX6 196 "PartitionedCache$State" "counts" "[I", .methodLink RX6 45 yX6_requireTenant, .static yX6_requireTenant, .initialized RX6, .code yX6_requireTenant cX6_requireTenant 1 none, .methodLink RX6 75 yX6_requireIndex, .static yX6_requireIndex, .code yX6_requireIndex cX6_requireIndex 2 none, .classLink RX6 171 "java/lang/IndexOutOfBoundsException", .initialized "java/lang/IndexOutOfBoundsException", .methodLink RX6 49 yX6_requireArgument, .static yX6_requireArgument, .code yX6_requireArgument cX6_requireArgument 3 none, .classLink RX6 204 "java/lang/IllegalArgumentException", .initialized "java/lang/IllegalArgumentException"] ++ wsX60 ++ wsX40 ++ (vx_atS RX6 175 "java/lang/IndexOutOfBoundsException" ["java/lang/RuntimeException", "java/lang/Exception"]).filter goodWord ++ (vx_atS RX6 208 "java/lang/IllegalArgumentException" ["java/lang/RuntimeException", "java/lang/Exception"]).filter goodWord)
def wsX6_accesses : List Cond := .code yX6_accesses cX6_accesses 1 (some .int) :: ([.fieldLink RX6 12 "PartitionedCache" "now" "LPartitionedCache$State;", .fieldLink RX6 199 "PartitionedCache$State" "accesses" "I"] ++ wsX60 ++ wsX40)
def wsX6_savedStates : List Cond := .code yX6_savedStates cX6_savedStates 1 (some .int) :: ([.fieldLink RX6 26 "PartitionedCache" "history" "LPartitionedCache$History;", .fieldLink RX6 128 "PartitionedCache$History" "size" "I"] ++ wsX60 ++ wsX10)
def wsJ9_max_7cf53 : List Cond := .code yJ9_max_7cf53 cJ9_max_7cf53 2 (some .int) :: ([])
def wsL_cell : List Cond := .code yL_cell cL_cell 2 (some .int) :: ([.constant RL 7 (22910021)])
def wsL_low : List Cond := .code yL_low cL_low 2 (some .int) :: ([.constant RL 8 (2147483647)])
def wsL_find : List Cond := .code yL_find cL_find 7 (some .int) :: ([.methodLink RL 9 yX6_line, .instanceMethod yX6_line, .selects RX6 yX6_line yX6_line, .initialized RX6, .code yX6_line cX6_line 3 (some .int), .fieldLink RX6 12 "PartitionedCache" "now" "LPartitionedCache$State;", .fieldLink RX6 61 "PartitionedCache$State" "places" "LPartitionedCache$Places;", .fieldLink RX6 147 "PartitionedCache$Places" "held" "[I", .methodLink RX6 75 yX6_requireIndex, .static yX6_requireIndex, .code yX6_requireIndex cX6_requireIndex 2 none, .classLink RX6 171 "java/lang/IndexOutOfBoundsException", .initialized "java/lang/IndexOutOfBoundsException"] ++ wsX60 ++ wsX40 ++ wsX30 ++ (vx_atS RX6 175 "java/lang/IndexOutOfBoundsException" ["java/lang/RuntimeException", "java/lang/Exception"]).filter goodWord)
def wsL_all_r1 : List Cond := [Cond.methodLink RL 15 yX6_lines, Cond.instanceMethod yX6_lines, Cond.selects RX6 yX6_lines yX6_lines, Cond.initialized RX6, Cond.code yX6_lines cX6_lines 4 (some .int), Cond.fieldLink RX6 12 "PartitionedCache" "now" "LPartitionedCache$State;", Cond.fieldLink RX6 61 "PartitionedCache$State" "places" "LPartitionedCache$Places;", Cond.methodLink RX6 45 yX6_requireTenant, Cond.static yX6_requireTenant, Cond.code yX6_requireTenant cX6_requireTenant 1 none, Cond.methodLink RX6 75 yX6_requireIndex, Cond.static yX6_requireIndex, Cond.code yX6_requireIndex cX6_requireIndex 2 none, Cond.classLink RX6 171 "java/lang/IndexOutOfBoundsException", Cond.initialized "java/lang/IndexOutOfBoundsException", Cond.methodLink RX6 150 yX3_linesInOwnWays, Cond.instanceMethod yX3_linesInOwnWays, Cond.selects RX3 yX3_linesInOwnWays yX3_linesInOwnWays, Cond.initialized RX3, Cond.code yX3_linesInOwnWays cX3_linesInOwnWays 4 (some .int), Cond.fieldLink RX3 9 "PartitionedCache$Places" "owners" "[I", Cond.methodLink RX3 39 yX3_linesInWay, Cond.instanceMethod yX3_linesInWay, Cond.selects RX3 yX3_linesInWay yX3_linesInWay]
def wsL_all_r2 : List Cond := [Cond.code yX3_linesInWay cX3_linesInWay 5 (some .int), Cond.methodLink RX3 35 yX3_holdsLineOf, Cond.instanceMethod yX3_holdsLineOf, Cond.selects RX3 yX3_holdsLineOf yX3_holdsLineOf, Cond.code yX3_holdsLineOf cX3_holdsLineOf 3 (some .boolean), Cond.fieldLink RX3 15 "PartitionedCache$Places" "held" "[I", Cond.methodLink RX6 153 yX3_linesOf, Cond.instanceMethod yX3_linesOf, Cond.selects RX3 yX3_linesOf yX3_linesOf, Cond.code yX3_linesOf cX3_linesOf 4 (some .int)]
def wsL_all : List Cond := .code yL_all cL_all 1 (some .int) :: ((wsL_all_r1 ++ wsL_all_r2) ++ wsX60 ++ wsX40 ++ wsX30 ++ (vx_atS RX6 175 "java/lang/IndexOutOfBoundsException" ["java/lang/RuntimeException", "java/lang/Exception"]).filter goodWord)
def wsL_gains : List Cond := .code yL_gains cL_gains 4 (some .int) :: ([.methodLink RL 55 yX6_gain, .instanceMethod yX6_gain, .selects RX6 yX6_gain yX6_gain, .initialized RX6, .code yX6_gain cX6_gain 3 (some .int), .fieldLink RX6 12 "PartitionedCache" "now" "LPartitionedCache$State;", .fieldLink RX6 90 "PartitionedCache$State" "monitors" "LPartitionedCache$Monitors;", .fieldLink RX6 162 "PartitionedCache$Monitors" "gains" "[I", .methodLink RX6 45 yX6_requireTenant, .static yX6_requireTenant, .code yX6_requireTenant cX6_requireTenant 1 none, .methodLink RX6 75 yX6_requireIndex, .static yX6_requireIndex, .code yX6_requireIndex cX6_requireIndex 2 none, .classLink RX6 171 "java/lang/IndexOutOfBoundsException", .initialized "java/lang/IndexOutOfBoundsException"] ++ wsX60 ++ wsX40 ++ wsX20 ++ (vx_atS RX6 175 "java/lang/IndexOutOfBoundsException" ["java/lang/RuntimeException", "java/lang/Exception"]).filter goodWord)
def wsL_fits_r1 : List Cond := [Cond.arrayClass .int, Cond.methodLink RL 19 yX6_owner, Cond.instanceMethod yX6_owner, Cond.selects RX6 yX6_owner yX6_owner, Cond.initialized RX6, Cond.code yX6_owner cX6_owner 2 (some .int), Cond.fieldLink RX6 12 "PartitionedCache" "now" "LPartitionedCache$State;", Cond.fieldLink RX6 61 "PartitionedCache$State" "places" "LPartitionedCache$Places;", Cond.fieldLink RX6 79 "PartitionedCache$Places" "owners" "[I", Cond.methodLink RX6 75 yX6_requireIndex, Cond.static yX6_requireIndex, Cond.code yX6_requireIndex cX6_requireIndex 2 none, Cond.classLink RX6 171 "java/lang/IndexOutOfBoundsException", Cond.initialized "java/lang/IndexOutOfBoundsException", Cond.methodLink RL 9 yX6_line, Cond.instanceMethod yX6_line, Cond.selects RX6 yX6_line yX6_line, Cond.code yX6_line cX6_line 3 (some .int), Cond.fieldLink RX6 147 "PartitionedCache$Places" "held" "[I", Cond.methodLink RL 23 yL_find, Cond.static yL_find, Cond.initialized RL, Cond.code yL_find cL_find 7 (some .int), Cond.methodLink RL 29 yX6_ifAccessed]
def wsL_fits_r2 : List Cond := [Cond.instanceMethod yX6_ifAccessed, Cond.selects RX6 yX6_ifAccessed yX6_ifAccessed, Cond.code yX6_ifAccessed cX6_ifAccessed 3 (some .int), Cond.methodLink RX6 45 yX6_requireTenant, Cond.static yX6_requireTenant, Cond.code yX6_requireTenant cX6_requireTenant 1 none, Cond.methodLink RX6 49 yX6_requireArgument, Cond.static yX6_requireArgument, Cond.code yX6_requireArgument cX6_requireArgument 3 none, Cond.classLink RX6 204 "java/lang/IllegalArgumentException", Cond.initialized "java/lang/IllegalArgumentException", Cond.methodLink RX6 156 yX3_resultOf, Cond.instanceMethod yX3_resultOf, Cond.selects RX3 yX3_resultOf yX3_resultOf, Cond.initialized RX3, Cond.code yX3_resultOf cX3_resultOf 3 (some .int), Cond.methodLink RX3 27 yX3_placeOf, Cond.instanceMethod yX3_placeOf, Cond.selects RX3 yX3_placeOf yX3_placeOf, Cond.code yX3_placeOf cX3_placeOf 5 (some .int), Cond.fieldLink RX3 15 "PartitionedCache$Places" "held" "[I", Cond.methodLink RX3 31 yX3_ownedWays, Cond.instanceMethod yX3_ownedWays, Cond.selects RX3 yX3_ownedWays yX3_ownedWays]
def wsL_fits_r3 : List Cond := [Cond.code yX3_ownedWays cX3_ownedWays 4 (some .int), Cond.fieldLink RX3 9 "PartitionedCache$Places" "owners" "[I", Cond.methodLink RL 32 yX6_target, Cond.instanceMethod yX6_target, Cond.selects RX6 yX6_target yX6_target, Cond.code yX6_target cX6_target 2 (some .int), Cond.fieldLink RX6 19 "PartitionedCache" "targets" "LPartitionedCache$Targets;", Cond.fieldLink RX6 185 "PartitionedCache$Targets" "ways" "[I", Cond.methodLink RX6 182 yX5_compute, Cond.instanceMethod yX5_compute, Cond.selects RX5 yX5_compute yX5_compute, Cond.initialized RX5, Cond.code yX5_compute cX5_compute 4 none, Cond.fieldLink RX5 9 "PartitionedCache$Targets" "ways" "[I", Cond.fieldLink RX5 15 "PartitionedCache$State" "leasts" "[I", Cond.fieldLink RX5 20 "PartitionedCache$State" "monitors" "LPartitionedCache$Monitors;", Cond.methodLink RX5 24 yX5_growOne, Cond.instanceMethod yX5_growOne, Cond.selects RX5 yX5_growOne yX5_growOne, Cond.code yX5_growOne cX5_growOne 9 (some .int), Cond.fieldLink RX5 28 "PartitionedCache$Monitors" "gains" "[I", Cond.methodLink RX5 33 yX5_lowest, Cond.instanceMethod yX5_lowest, Cond.selects RX5 yX5_lowest yX5_lowest]
def wsL_fits_r4 : List Cond := [Cond.code yX5_lowest cX5_lowest 3 (some .int), Cond.methodLink RL 35 yX6_count, Cond.instanceMethod yX6_count, Cond.selects RX6 yX6_count yX6_count, Cond.code yX6_count cX6_count 3 (some .int), Cond.fieldLink RX6 196 "PartitionedCache$State" "counts" "[I", Cond.methodLink RL 38 yX6_waysOf, Cond.instanceMethod yX6_waysOf, Cond.selects RX6 yX6_waysOf yX6_waysOf, Cond.code yX6_waysOf cX6_waysOf 2 (some .int), Cond.methodLink RX6 144 yX3_ownedWays, Cond.methodLink RL 15 yX6_lines, Cond.instanceMethod yX6_lines, Cond.selects RX6 yX6_lines yX6_lines, Cond.code yX6_lines cX6_lines 4 (some .int), Cond.methodLink RX6 150 yX3_linesInOwnWays, Cond.instanceMethod yX3_linesInOwnWays, Cond.selects RX3 yX3_linesInOwnWays yX3_linesInOwnWays, Cond.code yX3_linesInOwnWays cX3_linesInOwnWays 4 (some .int), Cond.methodLink RX3 39 yX3_linesInWay, Cond.instanceMethod yX3_linesInWay, Cond.selects RX3 yX3_linesInWay yX3_linesInWay, Cond.code yX3_linesInWay cX3_linesInWay 5 (some .int), Cond.methodLink RX3 35 yX3_holdsLineOf]
def wsL_fits_r5 : List Cond := [Cond.instanceMethod yX3_holdsLineOf, Cond.selects RX3 yX3_holdsLineOf yX3_holdsLineOf, Cond.code yX3_holdsLineOf cX3_holdsLineOf 3 (some .boolean), Cond.methodLink RX6 153 yX3_linesOf, Cond.instanceMethod yX3_linesOf, Cond.selects RX3 yX3_linesOf yX3_linesOf, Cond.code yX3_linesOf cX3_linesOf 4 (some .int), Cond.methodLink RL 41 yX6_utility, Cond.instanceMethod yX6_utility, Cond.selects RX6 yX6_utility yX6_utility, Cond.code yX6_utility cX6_utility 3 (some .int), Cond.fieldLink RX6 90 "PartitionedCache$State" "monitors" "LPartitionedCache$Monitors;", Cond.methodLink RX6 165 yX2_utilityOf, Cond.instanceMethod yX2_utilityOf, Cond.selects RX2 yX2_utilityOf yX2_utilityOf, Cond.initialized RX2, Cond.code yX2_utilityOf cX2_utilityOf 5 (some .int), Cond.fieldLink RX2 15 "PartitionedCache$Monitors" "gains" "[I", Cond.methodLink RL 44 yL_gains, Cond.static yL_gains, Cond.code yL_gains cL_gains 4 (some .int), Cond.methodLink RL 55 yX6_gain, Cond.instanceMethod yX6_gain, Cond.selects RX6 yX6_gain yX6_gain]
def wsL_fits_r6 : List Cond := [Cond.code yX6_gain cX6_gain 3 (some .int), Cond.fieldLink RX6 162 "PartitionedCache$Monitors" "gains" "[I", Cond.methodLink RL 48 yX6_movesLeft, Cond.instanceMethod yX6_movesLeft, Cond.selects RX6 yX6_movesLeft yX6_movesLeft, Cond.code yX6_movesLeft cX6_movesLeft 3 (some .int), Cond.methodLink RX6 191 Lib.Math.max.name, Cond.static Lib.Math.max.name, Cond.initialized "java/lang/Math", Cond.code Lib.Math.max.name Lib.Math.max.code 2 (some .int), Cond.methodLink RX6 188 yX6_deficitOf, Cond.instanceMethod yX6_deficitOf, Cond.selects RX6 yX6_deficitOf yX6_deficitOf, Cond.code yX6_deficitOf cX6_deficitOf 2 (some .int), Cond.methodLink RL 52 yX6_accesses, Cond.instanceMethod yX6_accesses, Cond.selects RX6 yX6_accesses yX6_accesses, Cond.code yX6_accesses cX6_accesses 1 (some .int), Cond.fieldLink RX6 199 "PartitionedCache$State" "accesses" "I"]
def wsL_fits : List Cond := .code yL_fits cL_fits 7 (some .boolean) :: ((wsL_fits_r1 ++ (wsL_fits_r2 ++ (wsL_fits_r3 ++ (wsL_fits_r4 ++ (wsL_fits_r5 ++ wsL_fits_r6))))) ++ wsX60 ++ wsX40 ++ wsX30 ++ wsX50 ++ wsX20 ++ (vx_atS RX6 175 "java/lang/IndexOutOfBoundsException" ["java/lang/RuntimeException", "java/lang/Exception"]).filter goodWord ++ (vx_atS RX6 208 "java/lang/IllegalArgumentException" ["java/lang/RuntimeException", "java/lang/Exception"]).filter goodWord)
def wsL_position : List Cond := .code yL_position cL_position 4 (some .int) :: ([.methodLink RL 58 yX6_monitored, .instanceMethod yX6_monitored, .selects RX6 yX6_monitored yX6_monitored, .initialized RX6, .code yX6_monitored cX6_monitored 4 (some .int), .classLink RX6 171 "java/lang/IndexOutOfBoundsException", .initialized "java/lang/IndexOutOfBoundsException", .fieldLink RX6 12 "PartitionedCache" "now" "LPartitionedCache$State;", .fieldLink RX6 90 "PartitionedCache$State" "monitors" "LPartitionedCache$Monitors;", .fieldLink RX6 176 "PartitionedCache$Monitors" "addresses" "[I", .methodLink RX6 45 yX6_requireTenant, .static yX6_requireTenant, .code yX6_requireTenant cX6_requireTenant 1 none, .methodLink RX6 75 yX6_requireIndex, .static yX6_requireIndex, .code yX6_requireIndex cX6_requireIndex 2 none, .methodLink RX6 168 yX6_isSampled, .static yX6_isSampled, .code yX6_isSampled cX6_isSampled 1 (some .boolean), .methodLink RX6 179 yX6_listStart, .static yX6_listStart, .code yX6_listStart cX6_listStart 2 (some .int)] ++ wsX60 ++ wsX40 ++ wsX20 ++ (vx_atS RX6 175 "java/lang/IndexOutOfBoundsException" ["java/lang/RuntimeException", "java/lang/Exception"]).filter goodWord)
def wsL_accesses_r1 : List Cond := [Cond.methodLink RL 29 yX6_ifAccessed, Cond.instanceMethod yX6_ifAccessed, Cond.selects RX6 yX6_ifAccessed yX6_ifAccessed, Cond.initialized RX6, Cond.code yX6_ifAccessed cX6_ifAccessed 3 (some .int), Cond.fieldLink RX6 12 "PartitionedCache" "now" "LPartitionedCache$State;", Cond.fieldLink RX6 61 "PartitionedCache$State" "places" "LPartitionedCache$Places;", Cond.methodLink RX6 45 yX6_requireTenant, Cond.static yX6_requireTenant, Cond.code yX6_requireTenant cX6_requireTenant 1 none, Cond.methodLink RX6 75 yX6_requireIndex, Cond.static yX6_requireIndex, Cond.code yX6_requireIndex cX6_requireIndex 2 none, Cond.classLink RX6 171 "java/lang/IndexOutOfBoundsException", Cond.initialized "java/lang/IndexOutOfBoundsException", Cond.methodLink RX6 49 yX6_requireArgument, Cond.static yX6_requireArgument, Cond.code yX6_requireArgument cX6_requireArgument 3 none, Cond.classLink RX6 204 "java/lang/IllegalArgumentException", Cond.initialized "java/lang/IllegalArgumentException", Cond.methodLink RX6 156 yX3_resultOf, Cond.instanceMethod yX3_resultOf, Cond.selects RX3 yX3_resultOf yX3_resultOf, Cond.initialized RX3]
def wsL_accesses_r2 : List Cond := [Cond.code yX3_resultOf cX3_resultOf 3 (some .int), Cond.methodLink RX3 27 yX3_placeOf, Cond.instanceMethod yX3_placeOf, Cond.selects RX3 yX3_placeOf yX3_placeOf, Cond.code yX3_placeOf cX3_placeOf 5 (some .int), Cond.fieldLink RX3 15 "PartitionedCache$Places" "held" "[I", Cond.methodLink RX3 31 yX3_ownedWays, Cond.instanceMethod yX3_ownedWays, Cond.selects RX3 yX3_ownedWays yX3_ownedWays, Cond.code yX3_ownedWays cX3_ownedWays 4 (some .int), Cond.fieldLink RX3 9 "PartitionedCache$Places" "owners" "[I", Cond.methodLink RL 62 yX6_victim, Cond.instanceMethod yX6_victim, Cond.selects RX6 yX6_victim yX6_victim, Cond.code yX6_victim cX6_victim 4 (some .int), Cond.fieldLink RX6 147 "PartitionedCache$Places" "held" "[I", Cond.methodLink RX6 159 yX3_placeToFill, Cond.instanceMethod yX3_placeToFill, Cond.selects RX3 yX3_placeToFill yX3_placeToFill, Cond.code yX3_placeToFill cX3_placeToFill 7 (some .int), Cond.fieldLink RX3 18 "PartitionedCache$Places" "stamps" "[I", Cond.methodLink RL 23 yL_find, Cond.static yL_find, Cond.initialized RL]
def wsL_accesses_r3 : List Cond := [Cond.code yL_find cL_find 7 (some .int), Cond.methodLink RL 9 yX6_line, Cond.instanceMethod yX6_line, Cond.selects RX6 yX6_line yX6_line, Cond.code yX6_line cX6_line 3 (some .int), Cond.methodLink RL 65 yL_position, Cond.static yL_position, Cond.code yL_position cL_position 4 (some .int), Cond.methodLink RL 58 yX6_monitored, Cond.instanceMethod yX6_monitored, Cond.selects RX6 yX6_monitored yX6_monitored, Cond.code yX6_monitored cX6_monitored 4 (some .int), Cond.fieldLink RX6 90 "PartitionedCache$State" "monitors" "LPartitionedCache$Monitors;", Cond.fieldLink RX6 176 "PartitionedCache$Monitors" "addresses" "[I", Cond.methodLink RX6 168 yX6_isSampled, Cond.static yX6_isSampled, Cond.code yX6_isSampled cX6_isSampled 1 (some .boolean), Cond.methodLink RX6 179 yX6_listStart, Cond.static yX6_listStart, Cond.code yX6_listStart cX6_listStart 2 (some .int), Cond.methodLink RL 55 yX6_gain, Cond.instanceMethod yX6_gain, Cond.selects RX6 yX6_gain yX6_gain, Cond.code yX6_gain cX6_gain 3 (some .int)]
def wsL_accesses_r4 : List Cond := [Cond.fieldLink RX6 162 "PartitionedCache$Monitors" "gains" "[I", Cond.methodLink RL 44 yL_gains, Cond.static yL_gains, Cond.code yL_gains cL_gains 4 (some .int), Cond.methodLink RL 68 yL_all, Cond.static yL_all, Cond.code yL_all cL_all 1 (some .int), Cond.methodLink RL 15 yX6_lines, Cond.instanceMethod yX6_lines, Cond.selects RX6 yX6_lines yX6_lines, Cond.code yX6_lines cX6_lines 4 (some .int), Cond.methodLink RX6 150 yX3_linesInOwnWays, Cond.instanceMethod yX3_linesInOwnWays, Cond.selects RX3 yX3_linesInOwnWays yX3_linesInOwnWays, Cond.code yX3_linesInOwnWays cX3_linesInOwnWays 4 (some .int), Cond.methodLink RX3 39 yX3_linesInWay, Cond.instanceMethod yX3_linesInWay, Cond.selects RX3 yX3_linesInWay yX3_linesInWay, Cond.code yX3_linesInWay cX3_linesInWay 5 (some .int), Cond.methodLink RX3 35 yX3_holdsLineOf, Cond.instanceMethod yX3_holdsLineOf, Cond.selects RX3 yX3_holdsLineOf yX3_holdsLineOf, Cond.code yX3_holdsLineOf cX3_holdsLineOf 3 (some .boolean), Cond.methodLink RX6 153 yX3_linesOf]
def wsL_accesses_r5 : List Cond := [Cond.instanceMethod yX3_linesOf, Cond.selects RX3 yX3_linesOf yX3_linesOf, Cond.code yX3_linesOf cX3_linesOf 4 (some .int), Cond.methodLink RL 52 yX6_accesses, Cond.instanceMethod yX6_accesses, Cond.selects RX6 yX6_accesses yX6_accesses, Cond.code yX6_accesses cX6_accesses 1 (some .int), Cond.fieldLink RX6 199 "PartitionedCache$State" "accesses" "I", Cond.methodLink RL 35 yX6_count, Cond.instanceMethod yX6_count, Cond.selects RX6 yX6_count yX6_count, Cond.code yX6_count cX6_count 3 (some .int), Cond.fieldLink RX6 196 "PartitionedCache$State" "counts" "[I", Cond.methodLink RL 72 yX6_access, Cond.instanceMethod yX6_access, Cond.selects RX6 yX6_access yX6_access, Cond.code yX6_access cX6_access 3 (some .int), Cond.fieldLink RX6 26 "PartitionedCache" "history" "LPartitionedCache$History;", Cond.methodLink RX6 53 yX1_push, Cond.instanceMethod yX1_push, Cond.selects RX1 yX1_push yX1_push, Cond.initialized RX1, Cond.code yX1_push cX1_push 2 none, Cond.fieldLink RX1 11 "PartitionedCache$History" "ring" "[LPartitionedCache$State;"]
def wsL_accesses_r6 : List Cond := [Cond.fieldLink RX1 17 "PartitionedCache$History" "oldest" "I", Cond.fieldLink RX1 21 "PartitionedCache$History" "size" "I", Cond.methodLink RX1 25 yX4_copyFrom, Cond.instanceMethod yX4_copyFrom, Cond.selects RX4 yX4_copyFrom yX4_copyFrom, Cond.initialized RX4, Cond.code yX4_copyFrom cX4_copyFrom 2 none, Cond.fieldLink RX4 12 "PartitionedCache$State" "places" "LPartitionedCache$Places;", Cond.fieldLink RX4 21 "PartitionedCache$State" "monitors" "LPartitionedCache$Monitors;", Cond.fieldLink RX4 25 "PartitionedCache$State" "leasts" "[I", Cond.methodLink RX4 46 arraycopyName, Cond.native arraycopyName, Cond.static arraycopyName, Cond.initialized "java/lang/System", Cond.fieldLink RX4 29 "PartitionedCache$State" "counts" "[I", Cond.fieldLink RX4 32 "PartitionedCache$State" "epoch" "I", Cond.fieldLink RX4 36 "PartitionedCache$State" "accesses" "I", Cond.methodLink RX4 39 yX3_copyFrom, Cond.instanceMethod yX3_copyFrom, Cond.selects RX3 yX3_copyFrom yX3_copyFrom, Cond.code yX3_copyFrom cX3_copyFrom 2 none, Cond.methodLink RX3 21 arraycopyName, Cond.methodLink RX4 43 yX2_copyFrom, Cond.instanceMethod yX2_copyFrom]
def wsL_accesses_r7 : List Cond := [Cond.selects RX2 yX2_copyFrom yX2_copyFrom, Cond.initialized RX2, Cond.code yX2_copyFrom cX2_copyFrom 2 none, Cond.fieldLink RX2 9 "PartitionedCache$Monitors" "addresses" "[I", Cond.methodLink RX2 18 arraycopyName, Cond.fieldLink RX2 15 "PartitionedCache$Monitors" "gains" "[I", Cond.methodLink RX6 57 yX6_makeAccess, Cond.instanceMethod yX6_makeAccess, Cond.selects RX6 yX6_makeAccess yX6_makeAccess, Cond.code yX6_makeAccess cX6_makeAccess 4 (some .int), Cond.fieldLink RX6 86 "PartitionedCache$State" "epoch" "I", Cond.methodLink RX6 209 yX2_note, Cond.instanceMethod yX2_note, Cond.selects RX2 yX2_note yX2_note, Cond.code yX2_note cX2_note 7 none, Cond.methodLink RX6 212 yX3_renew, Cond.instanceMethod yX3_renew, Cond.selects RX3 yX3_renew yX3_renew, Cond.code yX3_renew cX3_renew 5 none, Cond.methodLink RX6 215 yX6_bringIn, Cond.instanceMethod yX6_bringIn, Cond.selects RX6 yX6_bringIn yX6_bringIn, Cond.code yX6_bringIn cX6_bringIn 5 none, Cond.fieldLink RX6 222 "PartitionedCache$Places" "stamps" "[I"]
def wsL_accesses_r8 : List Cond := [Cond.methodLink RX6 218 yX3_holdsLineOf, Cond.methodLink RX6 71 yX6_moveOneWay, Cond.instanceMethod yX6_moveOneWay, Cond.selects RX6 yX6_moveOneWay yX6_moveOneWay, Cond.code yX6_moveOneWay cX6_moveOneWay 4 (some .int), Cond.fieldLink RX6 19 "PartitionedCache" "targets" "LPartitionedCache$Targets;", Cond.fieldLink RX6 79 "PartitionedCache$Places" "owners" "[I", Cond.methodLink RX6 182 yX5_compute, Cond.instanceMethod yX5_compute, Cond.selects RX5 yX5_compute yX5_compute, Cond.initialized RX5, Cond.code yX5_compute cX5_compute 4 none, Cond.fieldLink RX5 9 "PartitionedCache$Targets" "ways" "[I", Cond.fieldLink RX5 15 "PartitionedCache$State" "leasts" "[I", Cond.fieldLink RX5 20 "PartitionedCache$State" "monitors" "LPartitionedCache$Monitors;", Cond.methodLink RX5 24 yX5_growOne, Cond.instanceMethod yX5_growOne, Cond.selects RX5 yX5_growOne yX5_growOne, Cond.code yX5_growOne cX5_growOne 9 (some .int), Cond.fieldLink RX5 28 "PartitionedCache$Monitors" "gains" "[I", Cond.methodLink RX5 33 yX5_lowest, Cond.instanceMethod yX5_lowest, Cond.selects RX5 yX5_lowest yX5_lowest, Cond.code yX5_lowest cX5_lowest 3 (some .int)]
def wsL_accesses_r9 : List Cond := [Cond.methodLink RX6 188 yX6_deficitOf, Cond.instanceMethod yX6_deficitOf, Cond.selects RX6 yX6_deficitOf yX6_deficitOf, Cond.code yX6_deficitOf cX6_deficitOf 2 (some .int), Cond.fieldLink RX6 185 "PartitionedCache$Targets" "ways" "[I", Cond.methodLink RX6 144 yX3_ownedWays, Cond.methodLink RX6 225 yX3_wayWithFewestLines, Cond.instanceMethod yX3_wayWithFewestLines, Cond.selects RX3 yX3_wayWithFewestLines yX3_wayWithFewestLines, Cond.code yX3_wayWithFewestLines cX3_wayWithFewestLines 5 (some .int), Cond.methodLink RX6 94 yX2_halve, Cond.instanceMethod yX2_halve, Cond.selects RX2 yX2_halve yX2_halve, Cond.code yX2_halve cX2_halve 2 none, Cond.methodLink RL 38 yX6_waysOf, Cond.instanceMethod yX6_waysOf, Cond.selects RX6 yX6_waysOf yX6_waysOf, Cond.code yX6_waysOf cX6_waysOf 2 (some .int), Cond.methodLink RL 19 yX6_owner, Cond.instanceMethod yX6_owner, Cond.selects RX6 yX6_owner yX6_owner, Cond.code yX6_owner cX6_owner 2 (some .int)]
def wsL_accesses : List Cond := .code yL_accesses cL_accesses 17 (some .boolean) :: ((wsL_accesses_r1 ++ (wsL_accesses_r2 ++ (wsL_accesses_r3 ++ (wsL_accesses_r4 ++ (wsL_accesses_r5 ++ (wsL_accesses_r6 ++ (wsL_accesses_r7 ++ (wsL_accesses_r8 ++ wsL_accesses_r9)))))))) ++ wsX60 ++ wsX40 ++ wsX30 ++ wsX20 ++ wsX10 ++ wsX50 ++ (vx_atS RX6 175 "java/lang/IndexOutOfBoundsException" ["java/lang/RuntimeException", "java/lang/Exception"]).filter goodWord ++ (vx_atS RX6 208 "java/lang/IllegalArgumentException" ["java/lang/RuntimeException", "java/lang/Exception"]).filter goodWord)
def wsL_moves_r1 : List Cond := [Cond.arrayClass .int, Cond.methodLink RL 48 yX6_movesLeft, Cond.instanceMethod yX6_movesLeft, Cond.selects RX6 yX6_movesLeft yX6_movesLeft, Cond.initialized RX6, Cond.code yX6_movesLeft cX6_movesLeft 3 (some .int), Cond.fieldLink RX6 19 "PartitionedCache" "targets" "LPartitionedCache$Targets;", Cond.fieldLink RX6 12 "PartitionedCache" "now" "LPartitionedCache$State;", Cond.methodLink RX6 191 Lib.Math.max.name, Cond.static Lib.Math.max.name, Cond.initialized "java/lang/Math", Cond.code Lib.Math.max.name Lib.Math.max.code 2 (some .int), Cond.methodLink RX6 182 yX5_compute, Cond.instanceMethod yX5_compute, Cond.selects RX5 yX5_compute yX5_compute, Cond.initialized RX5, Cond.code yX5_compute cX5_compute 4 none, Cond.fieldLink RX5 9 "PartitionedCache$Targets" "ways" "[I", Cond.fieldLink RX5 15 "PartitionedCache$State" "leasts" "[I", Cond.fieldLink RX5 20 "PartitionedCache$State" "monitors" "LPartitionedCache$Monitors;", Cond.methodLink RX5 24 yX5_growOne, Cond.instanceMethod yX5_growOne, Cond.selects RX5 yX5_growOne yX5_growOne, Cond.code yX5_growOne cX5_growOne 9 (some .int)]
def wsL_moves_r2 : List Cond := [Cond.fieldLink RX5 28 "PartitionedCache$Monitors" "gains" "[I", Cond.methodLink RX5 33 yX5_lowest, Cond.instanceMethod yX5_lowest, Cond.selects RX5 yX5_lowest yX5_lowest, Cond.code yX5_lowest cX5_lowest 3 (some .int), Cond.methodLink RX6 188 yX6_deficitOf, Cond.instanceMethod yX6_deficitOf, Cond.selects RX6 yX6_deficitOf yX6_deficitOf, Cond.code yX6_deficitOf cX6_deficitOf 2 (some .int), Cond.fieldLink RX6 185 "PartitionedCache$Targets" "ways" "[I", Cond.fieldLink RX6 61 "PartitionedCache$State" "places" "LPartitionedCache$Places;", Cond.methodLink RX6 144 yX3_ownedWays, Cond.instanceMethod yX3_ownedWays, Cond.selects RX3 yX3_ownedWays yX3_ownedWays, Cond.initialized RX3, Cond.code yX3_ownedWays cX3_ownedWays 4 (some .int), Cond.fieldLink RX3 9 "PartitionedCache$Places" "owners" "[I", Cond.methodLink RL 68 yL_all, Cond.static yL_all, Cond.initialized RL, Cond.code yL_all cL_all 1 (some .int), Cond.methodLink RL 15 yX6_lines, Cond.instanceMethod yX6_lines, Cond.selects RX6 yX6_lines yX6_lines]
def wsL_moves_r3 : List Cond := [Cond.code yX6_lines cX6_lines 4 (some .int), Cond.methodLink RX6 45 yX6_requireTenant, Cond.static yX6_requireTenant, Cond.code yX6_requireTenant cX6_requireTenant 1 none, Cond.methodLink RX6 75 yX6_requireIndex, Cond.static yX6_requireIndex, Cond.code yX6_requireIndex cX6_requireIndex 2 none, Cond.classLink RX6 171 "java/lang/IndexOutOfBoundsException", Cond.initialized "java/lang/IndexOutOfBoundsException", Cond.methodLink RX6 150 yX3_linesInOwnWays, Cond.instanceMethod yX3_linesInOwnWays, Cond.selects RX3 yX3_linesInOwnWays yX3_linesInOwnWays, Cond.code yX3_linesInOwnWays cX3_linesInOwnWays 4 (some .int), Cond.methodLink RX3 39 yX3_linesInWay, Cond.instanceMethod yX3_linesInWay, Cond.selects RX3 yX3_linesInWay yX3_linesInWay, Cond.code yX3_linesInWay cX3_linesInWay 5 (some .int), Cond.methodLink RX3 35 yX3_holdsLineOf, Cond.instanceMethod yX3_holdsLineOf, Cond.selects RX3 yX3_holdsLineOf yX3_holdsLineOf, Cond.code yX3_holdsLineOf cX3_holdsLineOf 3 (some .boolean), Cond.fieldLink RX3 15 "PartitionedCache$Places" "held" "[I", Cond.methodLink RX6 153 yX3_linesOf, Cond.instanceMethod yX3_linesOf]
def wsL_moves_r4 : List Cond := [Cond.selects RX3 yX3_linesOf yX3_linesOf, Cond.code yX3_linesOf cX3_linesOf 4 (some .int), Cond.methodLink RL 19 yX6_owner, Cond.instanceMethod yX6_owner, Cond.selects RX6 yX6_owner yX6_owner, Cond.code yX6_owner cX6_owner 2 (some .int), Cond.fieldLink RX6 79 "PartitionedCache$Places" "owners" "[I", Cond.methodLink RL 75 yX6_moveWay, Cond.instanceMethod yX6_moveWay, Cond.selects RX6 yX6_moveWay yX6_moveWay, Cond.code yX6_moveWay cX6_moveWay 1 (some .int), Cond.fieldLink RX6 26 "PartitionedCache" "history" "LPartitionedCache$History;", Cond.methodLink RX6 53 yX1_push, Cond.instanceMethod yX1_push, Cond.selects RX1 yX1_push yX1_push, Cond.initialized RX1, Cond.code yX1_push cX1_push 2 none, Cond.fieldLink RX1 11 "PartitionedCache$History" "ring" "[LPartitionedCache$State;", Cond.fieldLink RX1 17 "PartitionedCache$History" "oldest" "I", Cond.fieldLink RX1 21 "PartitionedCache$History" "size" "I", Cond.methodLink RX1 25 yX4_copyFrom, Cond.instanceMethod yX4_copyFrom, Cond.selects RX4 yX4_copyFrom yX4_copyFrom, Cond.initialized RX4]
def wsL_moves_r5 : List Cond := [Cond.code yX4_copyFrom cX4_copyFrom 2 none, Cond.fieldLink RX4 12 "PartitionedCache$State" "places" "LPartitionedCache$Places;", Cond.fieldLink RX4 21 "PartitionedCache$State" "monitors" "LPartitionedCache$Monitors;", Cond.fieldLink RX4 25 "PartitionedCache$State" "leasts" "[I", Cond.methodLink RX4 46 arraycopyName, Cond.native arraycopyName, Cond.static arraycopyName, Cond.initialized "java/lang/System", Cond.fieldLink RX4 29 "PartitionedCache$State" "counts" "[I", Cond.fieldLink RX4 32 "PartitionedCache$State" "epoch" "I", Cond.fieldLink RX4 36 "PartitionedCache$State" "accesses" "I", Cond.methodLink RX4 39 yX3_copyFrom, Cond.instanceMethod yX3_copyFrom, Cond.selects RX3 yX3_copyFrom yX3_copyFrom, Cond.code yX3_copyFrom cX3_copyFrom 2 none, Cond.methodLink RX3 21 arraycopyName, Cond.fieldLink RX3 18 "PartitionedCache$Places" "stamps" "[I", Cond.methodLink RX4 43 yX2_copyFrom, Cond.instanceMethod yX2_copyFrom, Cond.selects RX2 yX2_copyFrom yX2_copyFrom, Cond.initialized RX2, Cond.code yX2_copyFrom cX2_copyFrom 2 none, Cond.fieldLink RX2 9 "PartitionedCache$Monitors" "addresses" "[I", Cond.methodLink RX2 18 arraycopyName]
def wsL_moves_r6 : List Cond := [Cond.fieldLink RX2 15 "PartitionedCache$Monitors" "gains" "[I", Cond.methodLink RX6 71 yX6_moveOneWay, Cond.instanceMethod yX6_moveOneWay, Cond.selects RX6 yX6_moveOneWay yX6_moveOneWay, Cond.code yX6_moveOneWay cX6_moveOneWay 4 (some .int), Cond.methodLink RX6 225 yX3_wayWithFewestLines, Cond.instanceMethod yX3_wayWithFewestLines, Cond.selects RX3 yX3_wayWithFewestLines yX3_wayWithFewestLines, Cond.code yX3_wayWithFewestLines cX3_wayWithFewestLines 5 (some .int), Cond.methodLink RL 38 yX6_waysOf, Cond.instanceMethod yX6_waysOf, Cond.selects RX6 yX6_waysOf yX6_waysOf, Cond.code yX6_waysOf cX6_waysOf 2 (some .int), Cond.methodLink RL 32 yX6_target, Cond.instanceMethod yX6_target, Cond.selects RX6 yX6_target yX6_target, Cond.code yX6_target cX6_target 2 (some .int)]
def wsL_moves : List Cond := .code yL_moves cL_moves 7 (some .boolean) :: ((wsL_moves_r1 ++ (wsL_moves_r2 ++ (wsL_moves_r3 ++ (wsL_moves_r4 ++ (wsL_moves_r5 ++ wsL_moves_r6))))) ++ wsX60 ++ wsX50 ++ wsX40 ++ wsX20 ++ wsX30 ++ wsX10 ++ (vx_atS RX6 175 "java/lang/IndexOutOfBoundsException" ["java/lang/RuntimeException", "java/lang/Exception"]).filter goodWord)
abbrev vwCl : List vw_C := [(RX0, TX0, 2), (RX1, TX1, 3), (RX2, TX2, 2), (RX3, TX3, 3), (RX4, TX4, 6), (RX5, TX5, 1), (RX6, TX6, 6)]
end
section
/-! A calculus of abstract states: a method's code is a list of steps; a step takes what holds behind it to what must hold ahead of it; the cells of a world are numbered, a reference is a number, and one function gives the addresses. -/
section GE
abbrev gD : Type := (Nat → Int32) ⊕ (Nat → Int64) ⊕ (Nat → UInt64) ⊕ List (Option Nat)
abbrev gE : Type := (Nat × Nat × gD) ⊕ (Nat × List Value)
abbrev gP : Type := List (Nat × Value) → List Value → List gE → Nat → Nat → Prop
abbrev gO : Type := (Nat → gP) → gP → gP
abbrev gK : Type := Option Value → List gE → Prop
abbrev gI (f : Nat → Int32) : gD := .inl f
def gv (ad : Nat → Nat) : Value → Value
  | .ref k => .ref (ad k)
  | v => v
def ge (cA : Nat → ClassId) (ad : Nat → Nat) : gE → va_E
  | .inr (c, fs) => .inr (c, fs.map (gv ad))
  | .inl (t, n, .inl f) => .inl (cA t, n, .inl f)
  | .inl (t, n, .inr (.inl f)) => .inl (cA t, n, .inr (.inl f))
  | .inl (t, n, .inr (.inr (.inl f))) => .inl (cA t, n, .inr (.inr (.inr (.inl f))))
  | .inl (t, n, .inr (.inr (.inr r))) => .inl (cA t, n, .inr (.inr (.inr (.inr (fun j => (r.getD j none).map ad)))))
def gw (cA : Nat → ClassId) (ad : Nat → Nat) (es : List gE) : va_W := es.mapIdx (fun k e => (ad k, ge cA ad e))
def gT (cA : Nat → ClassId) : List (ClassId × FieldType) := [(cA 0, .int), (cA 1, .char), (cA 2, .boolean), (cA 0, .int), (cA 0, .int), (cA 5, .object RX4)]
theorem gv_cat (ad : Nat → Nat) (v : Value) : (gv ad v).category = v.category := by cases v <;> rfl
theorem gw_len {cA : Nat → ClassId} {ad : Nat → Nat} {es : List gE} : (gw cA ad es).length = es.length := by simp [gw]
theorem gw_at (cA : Nat → ClassId) (ad : Nat → Nat) (es : List gE) (k : Nat) : (gw cA ad es)[k]? = (es[k]?).map (fun e => (ad k, ge cA ad e)) := by
  simp [gw, List.getElem?_mapIdx]
theorem gw_get {cA : Nat → ClassId} {ad : Nat → Nat} {es : List gE} {k : Nat} {e : gE} (h : es[k]? = some e) : (gw cA ad es)[k]? = some (ad k, ge cA ad e) := by
  rw [gw_at, h]; rfl
theorem gw_set (cA : Nat → ClassId) (ad : Nat → Nat) (es : List gE) (k : Nat) (e : gE) : (gw cA ad es).set k (ad k, ge cA ad e) = gw cA ad (es.set k e) := by
  apply List.ext_getElem?
  intro i
  rw [gw_at, List.getElem?_set, List.getElem?_set, gw_at, gw_len]
  by_cases h : k = i
  · subst h
    by_cases h2 : k < es.length
    · simp [h2]
    · simp [h2]
  · simp [h]
theorem gw_push (cA : Nat → ClassId) (ad : Nat → Nat) (es : List gE) (e : gE) : gw cA ad es ++ [(ad es.length, ge cA ad e)] = gw cA ad (es ++ [e]) := by
  simp [gw, List.mapIdx_append]
-- lists by literal numbers
def gnth : List gE → Nat → Option gE
  | [], _ => none
  | e :: _, 0 => some e
  | _ :: es, k + 1 => gnth es k
def vnth : List Value → Nat → Option Value
  | [], _ => none
  | e :: _, 0 => some e
  | _ :: es, k + 1 => vnth es k
def rnth : List (Option Nat) → Nat → Option (Option Nat)
  | [], _ => none
  | e :: _, 0 => some e
  | _ :: es, k + 1 => rnth es k
theorem gnth_eq : ∀ (es : List gE) (k : Nat), gnth es k = es[k]?
  | [], k => by simp [gnth]
  | _ :: _, 0 => rfl
  | _ :: es, k + 1 => by simpa [gnth] using gnth_eq es k
theorem vnth_eq : ∀ (es : List Value) (k : Nat), vnth es k = es[k]?
  | [], k => by simp [vnth]
  | _ :: _, 0 => rfl
  | _ :: es, k + 1 => by simpa [vnth] using vnth_eq es k
theorem rnth_eq : ∀ (es : List (Option Nat)) (k : Nat), rnth es k = es[k]?
  | [], k => by simp [rnth]
  | _ :: _, 0 => rfl
  | _ :: es, k + 1 => by simpa [rnth] using rnth_eq es k
-- locals
def lget : List (Nat × Value) → Nat → Option Value
  | [], _ => none
  | (j, w) :: L, i => bif Nat.beq j i then some w else lget L i
def cat2 : Value → Bool
  | .long _ => true
  | .double _ => true
  | _ => false
def ldel : List (Nat × Value) → Nat → List (Nat × Value)
  | [], _ => []
  | (j, w) :: L, i => bif Nat.beq j i then ldel L i else bif Nat.beq (j + 1) i && cat2 w then ldel L i else (j, w) :: ldel L i
def lset (L : List (Nat × Value)) (i : Nat) (v : Value) : List (Nat × Value) := (i, v) :: ldel L i
def lpick (L : List (Nat × Value)) : List Nat → Option (List Value)
  | [] => some []
  | i :: is => match lget L i with
    | some v => match lpick L is with
      | some vs => some (v :: vs)
      | none => none
    | none => none
abbrev lmap (ad : Nat → Nat) (L : List (Nat × Value)) : List (Nat × Value) := L.map (fun q => (q.1, gv ad q.2))
theorem lget_mem : ∀ {L : List (Nat × Value)} {i : Nat} {v : Value}, lget L i = some v → (i, v) ∈ L
  | [], _, _, h => by cases h
  | (j, w) :: L, i, v, h => by
    unfold lget at h
    cases hb : Nat.beq j i with
    | true =>
      rw [hb] at h
      have := Nat.eq_of_beq_eq_true hb
      subst this
      cases h
      exact List.mem_cons_self
    | false =>
      rw [hb] at h
      exact List.mem_cons_of_mem _ (lget_mem h)
theorem lget_at {ls : Array Slot} {nL : Nat} {ad : Nat → Nat} {L : List (Nat × Value)} {i : Nat} {v : Value} (hl : lv_has ls nL (lmap ad L)) (h : lget L i = some v) : ls[i]? = some (.val (gv ad v)) :=
  hl.2.2 (i, gv ad v) (List.mem_map.mpr ⟨(i, v), lget_mem h, rfl⟩)
theorem lget_ix {ad : Nat → Nat} {L : List (Nat × Value)} {i : Nat} {v : Value} (h : lget L i = some v) : ∃ k : Nat, (lmap ad L)[k]? = some (i, gv ad v) := by
  have : (i, gv ad v) ∈ lmap ad L := List.mem_map.mpr ⟨(i, v), lget_mem h, rfl⟩
  exact List.getElem?_of_mem this
theorem cat2_eq (v : Value) : cat2 v = (v.category == 2) := by cases v <;> rfl
theorem ldel_mem : ∀ {L : List (Nat × Value)} {i : Nat} {q : Nat × Value}, q ∈ ldel L i → q ∈ L ∧ (!(q.1 == i) && !(q.1 + 1 == i && q.2.category == 2)) = true
  | [], _, _, h => by cases h
  | (j, w) :: L, i, q, h => by
    unfold ldel at h
    cases hb : Nat.beq j i with
    | true =>
      rw [hb] at h
      have := ldel_mem (L := L) h
      exact ⟨List.mem_cons_of_mem _ this.1, this.2⟩
    | false =>
      rw [hb] at h
      cases hc : (Nat.beq (j + 1) i && cat2 w) with
      | true =>
        rw [hc] at h
        have := ldel_mem (L := L) h
        exact ⟨List.mem_cons_of_mem _ this.1, this.2⟩
      | false =>
        rw [hc] at h
        rcases List.mem_cons.mp h with rfl | h
        · refine ⟨List.mem_cons_self, ?_⟩
          rw [cat2_eq] at hc
          have hb' : (j == i) = false := by simpa using Nat.ne_of_beq_eq_false hb
          have hc' : (j + 1 == i && w.category == 2) = false := by
            cases hx : Nat.beq (j + 1) i with
            | true =>
              rw [hx] at hc
              have h2 : (w.category == 2) = false := by simpa using hc
              simp only [h2, Bool.and_false]
            | false =>
              have h2 : (j + 1 == i) = false := by simpa using Nat.ne_of_beq_eq_false hx
              simp only [h2, Bool.false_and]
          simp only [hb', hc', Bool.not_false, Bool.and_self]
        · have := ldel_mem (L := L) h
          exact ⟨List.mem_cons_of_mem _ this.1, this.2⟩
theorem lv_mono {ls : Array Slot} {nL : Nat} {l l' : List (Nat × Value)} (h : lv_has ls nL l) (hs : ∀ q ∈ l', q ∈ l) : lv_has ls nL l' := ⟨h.1, h.2.1, fun q hq => h.2.2 q (hs q hq)⟩
theorem lset_ok {ls : Array Slot} {nL i : Nat} {ad : Nat → Nat} {v : Value} {L : List (Nat × Value)} (h : lv_has ls nL ((i, gv ad v) :: (lmap ad L).filter (fun q => !(q.1 == i) && !(q.1 + 1 == i && q.2.category == 2)))) : lv_has ls nL (lmap ad (lset L i v)) := by
  refine lv_mono h (fun q hq => ?_)
  obtain ⟨q0, hq0, rfl⟩ := List.mem_map.mp hq
  rcases List.mem_cons.mp hq0 with rfl | hq0
  · exact List.mem_cons_self
  · have := ldel_mem hq0
    refine List.mem_cons_of_mem _ (List.mem_filter.mpr ⟨List.mem_map.mpr ⟨q0, this.1, rfl⟩, ?_⟩)
    simpa [gv_cat] using this.2
theorem lpick_mem : ∀ {L : List (Nat × Value)} {is : List Nat} {vs : List Value}, lpick L is = some vs → ∀ q ∈ is.zip vs, q ∈ L
  | L, [], vs, h, q, hq => by simp at hq
  | L, i :: is, vs, h, q, hq => by
    unfold lpick at h
    split at h
    · rename_i v hv
      split at h
      · rename_i ws hw
        cases h
        rw [List.zip_cons_cons] at hq
        rcases List.mem_cons.mp hq with rfl | hq
        · exact lget_mem hv
        · exact lpick_mem hw q hq
      · cases h
    · cases h
-- what a start gives beside a world: links between nest mates, texts, two statics of Throwable
def gNest : List (String × Nat × MethodName) := [(RX6, 18, yX5_init), (RX6, 32, yX0_init), (RX2, 24, yX6_isSampled), (RX2, 28, yX6_listStart)]
def gStr : List (Nat × String) := [(202, "no such tenant, way, set, position or slot"), (206, "the number is out of range"), (173, "the set is not sampled")]
def gBad : List Cond := [.castable "java/lang/IndexOutOfBoundsException" "java/lang/IndexOutOfBoundsException", .castable "java/lang/IllegalArgumentException" "java/lang/IllegalArgumentException", .declares (Bundle.initS "java/lang/RuntimeException"), .declares (Bundle.initS "java/lang/Exception"), .declares (Bundle.initS Bundle.tN)]
theorem gBad_ot : ∀ w ∈ gBad, w.onTables = true := by
  intro w hw
  simp only [gBad, List.mem_cons, List.not_mem_nil, or_false] at hw
  rcases hw with rfl | rfl | rfl | rfl | rfl <;> rfl
def gN (U : State) : Prop := (∀ q ∈ gNest, va_Nw (.methodLinkNest q.1 q.2.1 q.2.2 RX6) U) ∧ (∀ q ∈ gStr, ∃ a : Nat, vk_R RX6 q.1 q.2 a U) ∧ (∀ w ∈ gBad, va_Nw w U) ∧ va_AO RX4 U
def gY (D : va_G) (cA : Nat → ClassId) (A : Nat → Prop) (U : State) (H : Heap) : Prop := va_K D vwCl (gT cA) U ∧ gN U ∧ vx_Zq Bundle.tN "UNASSIGNED_STACK" Bundle.steD A U H ∧ vx_Zq Bundle.tN "SUPPRESSED_SENTINEL" Bundle.listD A U H
theorem gN.warm {s U : State} (hW : s.WarmedH U.vm) (h : gN s) : gN U := ⟨fun q hq => va_Nw.warmM hW (h.1 q hq), fun q hq => (h.2.1 q hq).elim fun a ha => ⟨a, vk_R.warm hW ha⟩, fun w hw => by
  have h3 := h.2.2.1 w hw
  simp only [gBad, List.mem_cons, List.not_mem_nil, or_false] at hw
  rcases hw with rfl | rfl | rfl | rfl | rfl
  · exact va_Nw.warmC hW h3
  · exact va_Nw.warmC hW h3
  · exact va_Nw.warmD hW h3
  · exact va_Nw.warmD hW h3
  · exact va_Nw.warmD hW h3, va_AO.moved hW.alike h.2.2.2⟩
theorem gN.same {u U : State} (hv : u.vm = U.vm) (h : gN u) : gN U := ⟨fun q hq => va_Nw.same rfl hv (h.1 q hq), fun q hq => (h.2.1 q hq).elim fun a ha => ⟨a, vk_R.same hv.symm ha⟩, fun w hw => va_Nw.same (gBad_ot w hw) hv (h.2.2.1 w hw), va_AO.moved (by rw [hv]; exact Vm.Alike.refl U.vm) h.2.2.2⟩
theorem gY.same {D : va_G} {cA : Nat → ClassId} {A : Nat → Prop} {u U : State} {H : Heap} (hv : u.vm = U.vm) (h : gY D cA A u H) : gY D cA A U H := by
  have ha : u.vm.Alike U.vm := by rw [hv]; exact Vm.Alike.refl U.vm
  exact ⟨va_K.moved ha h.1, h.2.1.same hv, vx_Zq.moved ha h.2.2.1, vx_Zq.moved ha h.2.2.2⟩
theorem gY.call {D : va_G} {cA : Nat → ClassId} {A A1 : Nat → Prop} {s U : State} {H : Heap} {locs : List Loc} (h : gY D cA A s s.heap) (hS : va_S A s.heap H locs) (hF : ∀ q, A1 q → A q) (hW : s.WarmedH U.vm) (hU : U.heap = H) : gY D cA A1 U U.heap := by
  rw [hU]
  have k1 : ∀ a : Nat, a < s.heap.size → ¬ A a → H[a]? = s.heap[a]? := hS.2.1
  exact ⟨va_K.moved hW.alike h.1, h.2.1.warm hW, vx_Zq.moved hW.alike (vx_Zq.narrow (vx_Zq.kept h.2.2.1 k1) hF), vx_Zq.moved hW.alike (vx_Zq.narrow (vx_Zq.kept h.2.2.2 k1) hF)⟩
-- the context of a walk
abbrev gX : Type := Program × Launch × Env × Room × State × MethodId × Array Value × List Frame × Method × Code × va_G × (Nat → ClassId) × (Nat → Prop) × (Nat → Prop) × (Nat → Nat) × (State → Prop) × Nat
def G (X : gX) (pc : Nat) : gP := fun L S es k n => match X with
  | (p, l, e, R, s, m, args, below, meth, c, D, cA, A, ag, ad0, Q, nL) => ∀ (ad : Nat → Nat) (H : Heap) (locs : List Loc) (ls : Array Slot), (∀ i, ag i → ad i = ad0 i) → va_P D vwCl (gw cA ad es) H → va_D A (gw cA ad es) → va_S A s.heap H locs → lv_has ls nL (lmap ad L) →
    W p l e R s m args below meth c H locs k n Q (F0 m pc ls (S.map (gv ad)))
def gM (X : gX) (l0 : Launch) (cc : ByteArray) (own : String) (Ts : List Cond) (R0 : Room) : Prop := match X with
  | (p, l, _, R, s, m, args, _, meth, c, D, cA, A, _, _, _, nL) => p.tables.exec = Jvm.exec ∧ c.code = cc ∧ s.vm.findClass own = some m.cls ∧ (∀ w ∈ Ts, w.before args s = true) ∧ c.maxLocals = nL ∧ meth.locks = false ∧ gY D cA A s s.heap ∧ (∀ q, s.heap.size ≤ q → A q) ∧ R = R0 ∧ l = l0
def gQ (D : va_G) (cA : Nat → ClassId) (ad0 : Nat → Nat) (ag : Nat → Prop) (A : Nat → Prop) (K : gK) : Array Value → State → Outcome → State → Prop := fun _ st oc t =>
  (∃ (v : Option Value) (es : List gE) (ad : Nat → Nat), oc = .returned (v.map (gv ad)) ∧ K v es ∧ (∀ i, ag i → ad i = ad0 i) ∧ va_P D vwCl (gw cA ad es) t.heap ∧ va_D A (gw cA ad es)) ∧ va_F A st t
/-- the end of the walk is a method's end with K -/
def gR (X : gX) (K : gK) (mc ms : Nat) (ret : Option FieldType) : Prop := match X with
  | (p, l, e, R, s, m, args, below, meth, c, D, cA, A, ag, ad0, Q, _) => meth.sig.returnType = ret ∧ ∀ (H : Heap) (locs : List Loc) (g : JFrame), W p l e R s m args below meth c H locs mc ms (MQ below (gQ D cA ad0 ag A K) args s mc ms A) g → W p l e R s m args below meth c H locs mc ms Q g
/-- a step is right -/
def okO (X : gX) (pc nx : Nat) (o : gO) : Prop := ∀ (J : Nat → gP) (N : gP), (∀ t L S es k n, J t L S es k n → G X t L S es k n) → (∀ L S es k n, N L S es k n → G X nx L S es k n) → ∀ L S es k n, o J N L S es k n → G X pc L S es k n
def hpc : List (Nat × gO) → Nat
  | [] => 0
  | q :: _ => q.1
def okL (X : gX) : List (Nat × gO) → Prop
  | [] => True
  | q :: l => okO X q.1 (hpc l) q.2 ∧ okL X l
-- loops' heads, and the walk
abbrev gC : Type := Nat × List Nat × (List Value → List gE → Nat → Nat → Prop)
def gcut : List gC → Nat → Option gC
  | [], _ => none
  | c :: cs, t => bif Nat.beq c.1 t then some c else gcut cs t
def gcutP (c : gC) : gP := fun L S es k n => match S with
  | [] => match lpick L c.2.1 with
    | some vs => c.2.2 vs es k n
    | none => False
  | _ => False
def glook : List (Nat × gO) → Nat → List (Nat × gO)
  | [], _ => []
  | q :: l, t => bif Nat.beq q.1 t then q :: l else glook l t
def giscut (cs : List gC) (l : List (Nat × gO)) : Bool := match gcut cs (hpc l) with
  | some _ => true
  | none => false
def wl (J : Nat → gP) (cs : List gC) : List (Nat × gO) → gP
  | [] => fun _ _ _ _ _ => False
  | q :: l => q.2 J (bif giscut cs l then J (hpc l) else wl J cs l)
def wr (full : List (Nat × gO)) (cs : List gC) : Nat → Nat → gP
  | 0, _ => fun _ _ _ _ _ => False
  | f + 1, t => match gcut cs t with
    | some c => gcutP c
    | none => wl (wr full cs f) cs (glook full t)
def cutOK (X : gX) (cs : List gC) : Prop := ∀ c ∈ cs, ∀ vs es k n, c.2.2 vs es k n → G X c.1 (c.2.1.zip vs) [] es k n
theorem G_mono {X : gX} {pc : Nat} {L L' : List (Nat × Value)} {S : List Value} {es : List gE} {k n : Nat} (h : G X pc L S es k n) (hs : ∀ q ∈ L, q ∈ L') : G X pc L' S es k n := by
  obtain ⟨p, l, e, R, s, m, args, below, meth, c, D, cA, A, ag, ad0, Q, nL⟩ := X
  intro ad H locs ls ha hP hD hS hl
  refine h ad H locs ls ha hP hD hS (lv_mono hl (fun q hq => ?_))
  obtain ⟨q0, hq0, rfl⟩ := List.mem_map.mp hq
  exact List.mem_map.mpr ⟨q0, hs q0 hq0, rfl⟩
theorem gcut_ok : ∀ {cs : List gC} {t : Nat} {c : gC}, gcut cs t = some c → c ∈ cs ∧ c.1 = t
  | [], _, _, h => by cases h
  | d :: cs, t, c, h => by
    unfold gcut at h
    cases hb : Nat.beq d.1 t with
    | true =>
      rw [hb] at h
      cases h
      exact ⟨List.mem_cons_self, Nat.eq_of_beq_eq_true hb⟩
    | false =>
      rw [hb] at h
      have := gcut_ok (cs := cs) h
      exact ⟨List.mem_cons_of_mem _ this.1, this.2⟩
theorem gcutP_ok {X : gX} {cs : List gC} (hc : cutOK X cs) {t : Nat} {c : gC} (h : gcut cs t = some c) {L : List (Nat × Value)} {S : List Value} {es : List gE} {k n : Nat} (hp : gcutP c L S es k n) : G X t L S es k n := by
  obtain ⟨hm, rfl⟩ := gcut_ok h
  unfold gcutP at hp
  split at hp
  · split at hp
    · rename_i vs hv
      exact G_mono (hc c hm vs es k n hp) (lpick_mem hv)
    · exact hp.elim
  · exact hp.elim
theorem wl_ok {X : gX} {J : Nat → gP} {cs : List gC} (hJ : ∀ t L S es k n, J t L S es k n → G X t L S es k n) : ∀ {lst : List (Nat × gO)}, okL X lst → ∀ L S es k n, wl J cs lst L S es k n → G X (hpc lst) L S es k n
  | [], _, _, _, _, _, _, h => h.elim
  | q :: l, ho, L, S, es, k, n, h => by
    refine ho.1 J _ hJ (fun L S es k n h => ?_) L S es k n h
    revert h
    cases giscut cs l with
    | true => exact fun h => hJ _ _ _ _ _ _ h
    | false => exact fun h => wl_ok hJ ho.2 _ _ _ _ _ h
theorem glook_ok {X : gX} : ∀ {full : List (Nat × gO)} {t : Nat}, okL X full → okL X (glook full t) ∧ (glook full t = [] ∨ hpc (glook full t) = t)
  | [], _, _ => ⟨trivial, Or.inl rfl⟩
  | q :: l, t, h => by
    unfold glook
    cases hb : Nat.beq q.1 t with
    | true => exact ⟨h, Or.inr (Nat.eq_of_beq_eq_true hb)⟩
    | false => exact glook_ok h.2
theorem wl_at {X : gX} {J : Nat → gP} {cs : List gC} {full : List (Nat × gO)} (hf : okL X full) (hJ : ∀ t L S es k n, J t L S es k n → G X t L S es k n) {t : Nat} {L : List (Nat × Value)} {S : List Value} {es : List gE} {k n : Nat} (h : wl J cs (glook full t) L S es k n) : G X t L S es k n := by
  obtain ⟨h1, h2⟩ := glook_ok (t := t) hf
  rcases h2 with h2 | h2
  · rw [h2] at h
    exact h.elim
  · have := wl_ok hJ h1 L S es k n h
    rw [h2] at this
    exact this
theorem wr_ok {X : gX} {cs : List gC} {full : List (Nat × gO)} (hf : okL X full) (hc : cutOK X cs) : ∀ (f t : Nat) L S es k n, wr full cs f t L S es k n → G X t L S es k n
  | 0, _, _, _, _, _, _, h => h.elim
  | f + 1, t, L, S, es, k, n, h => by
    unfold wr at h
    cases hct : gcut cs t with
    | some c =>
      rw [hct] at h
      exact gcutP_ok hc hct h
    | none =>
      rw [hct] at h
      exact wl_at hf (wr_ok hf hc f) h
/-- from a head: the step at it first -/
theorem g_go {X : gX} {cs : List gC} {full : List (Nat × gO)} (hf : okL X full) (hc : cutOK X cs) (f : Nat) {t : Nat} {L : List (Nat × Value)} {S : List Value} {es : List gE} {k n : Nat} (h : wl (wr full cs f) cs (glook full t) L S es k n) : G X t L S es k n := wl_at hf (wr_ok hf hc f) h
theorem cut_nil {X : gX} : cutOK X [] := fun _ h => by cases h
/-- a loop: by a measure that falls -/
theorem g_loop {X : gX} {cs : List gC} (head : Nat) (keep : List Nat) (Inv : Nat → List Value → List gE → Nat → Nat → Prop) (hc : cutOK X cs)
    (step : ∀ μ : Nat, cutOK X ((head, keep, fun vs es k n => ∃ ν, ν < μ ∧ Inv ν vs es k n) :: cs) → ∀ vs es k n, Inv μ vs es k n → G X head (keep.zip vs) [] es k n) : cutOK X ((head, keep, fun vs es k n => ∃ ν, Inv ν vs es k n) :: cs) := by
  have key : ∀ μ : Nat, ∀ vs es k n, Inv μ vs es k n → G X head (keep.zip vs) [] es k n := by
    intro μ
    induction μ using Nat.strongRecOn with
    | ind μ ih =>
      refine step μ (fun c hm vs es k n h => ?_)
      rcases List.mem_cons.mp hm with rfl | hm
      · obtain ⟨ν, h1, h2⟩ := h
        exact ih ν h1 vs es k n h2
      · exact hc c hm vs es k n h
  intro c hm vs es k n h
  rcases List.mem_cons.mp hm with rfl | hm
  · obtain ⟨ν, h2⟩ := h
    exact key ν vs es k n h2
  · exact hc c hm vs es k n h
end GE
end
section
/-! Steps of single instructions. -/
section GS
def gif : Bool → Prop → Prop
  | true, P => P
  | false, _ => False
theorem bif_t {b : Bool} {P : Prop} (h : gif b P) : b = true ∧ P := by
  cases b
  · exact h.elim
  · exact ⟨rfl, h⟩
theorem and_t {a b : Bool} (h : (a && b) = true) : a = true ∧ b = true := by
  cases a
  · cases h
  · exact ⟨rfl, h⟩
variable {X : gX} {l0 : Launch} {cc : ByteArray} {own : String} {Ts : List Cond} {R0 : Room} {pc : Nat}
def oConst (v : Int32) : gO := fun J N L S es k n => N L (.int v :: S) es k n
theorem ok_iconst (hM : gM X l0 cc own Ts R0) {z : Int} {v : Int32} (hd : decode cc pc = .ok (.iconst z, 1)) (hv : Int32.ofInt z = v) : okO X pc (pc + 1) (oConst v) := by
  obtain ⟨p, l, e, R, s, m, args, below, meth, c, D, cA, A, ag, ad0, Q, nL⟩ := X
  obtain ⟨hx, hb, hown, hts, hml, hlk, hY, hA, hR, hL0⟩ := hM
  have hK := hY.1
  intro J N hJ hN L S es k n h ad H locs ls hag hP hD hS hl
  exact lv_iconst hx hb hd hv (hN _ _ _ _ _ h ad H locs ls hag hP hD hS hl)
theorem ok_bipush (hM : gM X l0 cc own Ts R0) {z : Int} {v : Int32} (hd : decode cc pc = .ok (.bipush z, 2)) (hv : (Int8.ofInt z).toInt32 = v) : okO X pc (pc + 2) (oConst v) := by
  obtain ⟨p, l, e, R, s, m, args, below, meth, c, D, cA, A, ag, ad0, Q, nL⟩ := X
  obtain ⟨hx, hb, hown, hts, hml, hlk, hY, hA, hR, hL0⟩ := hM
  have hK := hY.1
  intro J N hJ hN L S es k n h ad H locs ls hag hP hD hS hl
  exact lv_bipush hx hb hd hv (hN _ _ _ _ _ h ad H locs ls hag hP hD hS hl)
theorem ok_sipush (hM : gM X l0 cc own Ts R0) {z : Int} {v : Int32} (hd : decode cc pc = .ok (.sipush z, 3)) (hv : (Int16.ofInt z).toInt32 = v) : okO X pc (pc + 3) (oConst v) := by
  obtain ⟨p, l, e, R, s, m, args, below, meth, c, D, cA, A, ag, ad0, Q, nL⟩ := X
  obtain ⟨hx, hb, hown, hts, hml, hlk, hY, hA, hR, hL0⟩ := hM
  have hK := hY.1
  intro J N hJ hN L S es k n h ad H locs ls hag hP hD hS hl
  exact lv_sipush hx hb hd hv (hN _ _ _ _ _ h ad H locs ls hag hP hD hS hl)
def oILoad (i : Nat) : gO := fun J N L S es k n => match lget L i with | some (.int x) => N L (.int x :: S) es k n | _ => False
def oALoad (i : Nat) : gO := fun J N L S es k n => match lget L i with | some (.ref x) => N L (.ref x :: S) es k n | _ => False
def oDLoad (i : Nat) : gO := fun J N L S es k n => match lget L i with | some (.double x) => N L (.double x :: S) es k n | _ => False
theorem ok_iload_n (hM : gM X l0 cc own Ts R0) {kk : Fin 4} (i : Nat) (hd : decode cc pc = .ok (.iload_n kk, 1)) (hi : (kk : Nat) = i) : okO X pc (pc + 1) (oILoad i) := by
  obtain ⟨p, l, e, R, s, m, args, below, meth, c, D, cA, A, ag, ad0, Q, nL⟩ := X
  obtain ⟨hx, hb, hown, hts, hml, hlk, hY, hA, hR, hL0⟩ := hM
  have hK := hY.1
  intro J N hJ hN L S es k n h ad H locs ls hag hP hD hS hl
  unfold oILoad at h
  split at h
  · rename_i x hx'
    exact lv_iload_n hx hb hd hi (lget_at hl hx') (hN _ _ _ _ _ h ad H locs ls hag hP hD hS hl)
  · exact h.elim
theorem ok_aload_n (hM : gM X l0 cc own Ts R0) {kk : Fin 4} (i : Nat) (hd : decode cc pc = .ok (.aload_n kk, 1)) (hi : (kk : Nat) = i) : okO X pc (pc + 1) (oALoad i) := by
  obtain ⟨p, l, e, R, s, m, args, below, meth, c, D, cA, A, ag, ad0, Q, nL⟩ := X
  obtain ⟨hx, hb, hown, hts, hml, hlk, hY, hA, hR, hL0⟩ := hM
  have hK := hY.1
  intro J N hJ hN L S es k n h ad H locs ls hag hP hD hS hl
  unfold oALoad at h
  split at h
  · rename_i x hx'
    exact lv_aload_n hx hb hd hi (lget_at hl hx') (hN _ _ _ _ _ h ad H locs ls hag hP hD hS hl)
  · exact h.elim
theorem ok_iload (hM : gM X l0 cc own Ts R0) (i : Nat) (hd : decode cc pc = .ok (.iload i, 2)) : okO X pc (pc + 2) (oILoad i) := by
  obtain ⟨p, l, e, R, s, m, args, below, meth, c, D, cA, A, ag, ad0, Q, nL⟩ := X
  obtain ⟨hx, hb, hown, hts, hml, hlk, hY, hA, hR, hL0⟩ := hM
  have hK := hY.1
  intro J N hJ hN L S es k n h ad H locs ls hag hP hD hS hl
  unfold oILoad at h
  split at h
  · rename_i x hx'
    exact lv_iload hx hb hd (lget_at hl hx') (hN _ _ _ _ _ h ad H locs ls hag hP hD hS hl)
  · exact h.elim
theorem ok_aload (hM : gM X l0 cc own Ts R0) (i : Nat) (hd : decode cc pc = .ok (.aload i, 2)) : okO X pc (pc + 2) (oALoad i) := by
  obtain ⟨p, l, e, R, s, m, args, below, meth, c, D, cA, A, ag, ad0, Q, nL⟩ := X
  obtain ⟨hx, hb, hown, hts, hml, hlk, hY, hA, hR, hL0⟩ := hM
  have hK := hY.1
  intro J N hJ hN L S es k n h ad H locs ls hag hP hD hS hl
  unfold oALoad at h
  split at h
  · rename_i x hx'
    exact lv_aload hx hb hd (lget_at hl hx') (hN _ _ _ _ _ h ad H locs ls hag hP hD hS hl)
  · exact h.elim
theorem ok_dload (hM : gM X l0 cc own Ts R0) (i : Nat) (hd : decode cc pc = .ok (.dload i, 2)) : okO X pc (pc + 2) (oDLoad i) := by
  obtain ⟨p, l, e, R, s, m, args, below, meth, c, D, cA, A, ag, ad0, Q, nL⟩ := X
  obtain ⟨hx, hb, hown, hts, hml, hlk, hY, hA, hR, hL0⟩ := hM
  have hK := hY.1
  intro J N hJ hN L S es k n h ad H locs ls hag hP hD hS hl
  unfold oDLoad at h
  split at h
  · rename_i x hx'
    exact lv_dload hx hb hd (lget_at hl hx') (hN _ _ _ _ _ h ad H locs ls hag hP hD hS hl)
  · exact h.elim
def oIStore (nl i : Nat) : gO := fun J N L S es k n => match S with | .int x :: S' => gif (Nat.ble (i + 1) nl) (N (lset L i (.int x)) S' es k n) | _ => False
def oAStore (nl i : Nat) : gO := fun J N L S es k n => match S with | .ref x :: S' => gif (Nat.ble (i + 1) nl) (N (lset L i (.ref x)) S' es k n) | _ => False
theorem ok_istore_n (hM : gM X l0 cc own Ts R0) {kk : Fin 4} (i : Nat) (hd : decode cc pc = .ok (.istore_n kk, 1)) (hi : (kk : Nat) = i) : okO X pc (pc + 1) (oIStore X.2.2.2.2.2.2.2.2.2.2.2.2.2.2.2.2 i) := by
  obtain ⟨p, l, e, R, s, m, args, below, meth, c, D, cA, A, ag, ad0, Q, nL⟩ := X
  obtain ⟨hx, hb, hown, hts, hml, hlk, hY, hA, hR, hL0⟩ := hM
  have hK := hY.1
  intro J N hJ hN L S es k n h ad H locs ls hag hP hD hS hl
  unfold oIStore at h
  split at h
  · obtain ⟨hn, h⟩ := bif_t h
    exact lv_istore_n hx hb hd hi hl (Nat.le_of_ble_eq_true hn) rfl (fun ls' hl' => hN _ _ _ _ _ h ad H locs ls' hag hP hD hS (lset_ok hl'))
  · exact h.elim
theorem ok_istore (hM : gM X l0 cc own Ts R0) (i : Nat) (hd : decode cc pc = .ok (.istore i, 2))  : okO X pc (pc + 2) (oIStore X.2.2.2.2.2.2.2.2.2.2.2.2.2.2.2.2 i) := by
  obtain ⟨p, l, e, R, s, m, args, below, meth, c, D, cA, A, ag, ad0, Q, nL⟩ := X
  obtain ⟨hx, hb, hown, hts, hml, hlk, hY, hA, hR, hL0⟩ := hM
  have hK := hY.1
  intro J N hJ hN L S es k n h ad H locs ls hag hP hD hS hl
  unfold oIStore at h
  split at h
  · obtain ⟨hn, h⟩ := bif_t h
    exact lv_istore hx hb hd  hl (Nat.le_of_ble_eq_true hn) rfl (fun ls' hl' => hN _ _ _ _ _ h ad H locs ls' hag hP hD hS (lset_ok hl'))
  · exact h.elim
theorem ok_astore_n (hM : gM X l0 cc own Ts R0) {kk : Fin 4} (i : Nat) (hd : decode cc pc = .ok (.astore_n kk, 1)) (hi : (kk : Nat) = i) : okO X pc (pc + 1) (oAStore X.2.2.2.2.2.2.2.2.2.2.2.2.2.2.2.2 i) := by
  obtain ⟨p, l, e, R, s, m, args, below, meth, c, D, cA, A, ag, ad0, Q, nL⟩ := X
  obtain ⟨hx, hb, hown, hts, hml, hlk, hY, hA, hR, hL0⟩ := hM
  have hK := hY.1
  intro J N hJ hN L S es k n h ad H locs ls hag hP hD hS hl
  unfold oAStore at h
  split at h
  · obtain ⟨hn, h⟩ := bif_t h
    exact lv_astore_n hx hb hd hi hl (Nat.le_of_ble_eq_true hn) rfl (fun ls' hl' => hN _ _ _ _ _ h ad H locs ls' hag hP hD hS (lset_ok hl'))
  · exact h.elim
theorem ok_astore (hM : gM X l0 cc own Ts R0) (i : Nat) (hd : decode cc pc = .ok (.astore i, 2))  : okO X pc (pc + 2) (oAStore X.2.2.2.2.2.2.2.2.2.2.2.2.2.2.2.2 i) := by
  obtain ⟨p, l, e, R, s, m, args, below, meth, c, D, cA, A, ag, ad0, Q, nL⟩ := X
  obtain ⟨hx, hb, hown, hts, hml, hlk, hY, hA, hR, hL0⟩ := hM
  have hK := hY.1
  intro J N hJ hN L S es k n h ad H locs ls hag hP hD hS hl
  unfold oAStore at h
  split at h
  · obtain ⟨hn, h⟩ := bif_t h
    exact lv_astore hx hb hd  hl (Nat.le_of_ble_eq_true hn) rfl (fun ls' hl' => hN _ _ _ _ _ h ad H locs ls' hag hP hD hS (lset_ok hl'))
  · exact h.elim
def oIInc (nl i : Nat) (z : Int32) : gO := fun J N L S es k n => match lget L i with | some (.int x) => gif (Nat.ble (i + 1) nl) (N (lset L i (.int (x + z))) S es k n) | _ => False
theorem ok_iinc (hM : gM X l0 cc own Ts R0) (i : Nat) {zi : Int} {z : Int32} (hd : decode cc pc = .ok (.iinc i zi, 3)) (hz : Int32.ofInt zi = z) : okO X pc (pc + 3) (oIInc X.2.2.2.2.2.2.2.2.2.2.2.2.2.2.2.2 i z) := by
  obtain ⟨p, l, e, R, s, m, args, below, meth, c, D, cA, A, ag, ad0, Q, nL⟩ := X
  obtain ⟨hx, hb, hown, hts, hml, hlk, hY, hA, hR, hL0⟩ := hM
  have hK := hY.1
  intro J N hJ hN L S es k n h ad H locs ls hag hP hD hS hl
  unfold oIInc at h
  split at h
  · rename_i x hx'
    obtain ⟨hn, h⟩ := bif_t h
    obtain ⟨q, hq⟩ := lget_ix (ad := ad) hx'
    exact lv_iinc (v := x + z) hx hb hd hl hq (by rw [hz]) (Nat.le_of_ble_eq_true hn) rfl (fun ls' hl' => hN _ _ _ _ _ h ad H locs ls' hag hP hD hS (lset_ok (v := .int (x + z)) hl'))
  · exact h.elim
def oAdd : gO := fun J N L S es k n => match S with | .int y :: .int x :: S' => N L (.int (x + y) :: S') es k n | _ => False
theorem ok_iadd (hM : gM X l0 cc own Ts R0) (hd : decode cc pc = .ok (.iadd, 1)) : okO X pc (pc + 1) oAdd := by
  obtain ⟨p, l, e, R, s, m, args, below, meth, c, D, cA, A, ag, ad0, Q, nL⟩ := X
  obtain ⟨hx, hb, hown, hts, hml, hlk, hY, hA, hR, hL0⟩ := hM
  have hK := hY.1
  intro J N hJ hN L S es k n h ad H locs ls hag hP hD hS hl
  unfold oAdd at h
  split at h
  · exact lv_iadd hx hb hd (hN _ _ _ _ _ h ad H locs ls hag hP hD hS hl)
  · exact h.elim
def oSub : gO := fun J N L S es k n => match S with | .int y :: .int x :: S' => N L (.int (x - y) :: S') es k n | _ => False
theorem ok_isub (hM : gM X l0 cc own Ts R0) (hd : decode cc pc = .ok (.isub, 1)) : okO X pc (pc + 1) oSub := by
  obtain ⟨p, l, e, R, s, m, args, below, meth, c, D, cA, A, ag, ad0, Q, nL⟩ := X
  obtain ⟨hx, hb, hown, hts, hml, hlk, hY, hA, hR, hL0⟩ := hM
  have hK := hY.1
  intro J N hJ hN L S es k n h ad H locs ls hag hP hD hS hl
  unfold oSub at h
  split at h
  · exact lv_isub hx hb hd (hN _ _ _ _ _ h ad H locs ls hag hP hD hS hl)
  · exact h.elim
def oMul : gO := fun J N L S es k n => match S with | .int y :: .int x :: S' => N L (.int (x * y) :: S') es k n | _ => False
theorem ok_imul (hM : gM X l0 cc own Ts R0) (hd : decode cc pc = .ok (.imul, 1)) : okO X pc (pc + 1) oMul := by
  obtain ⟨p, l, e, R, s, m, args, below, meth, c, D, cA, A, ag, ad0, Q, nL⟩ := X
  obtain ⟨hx, hb, hown, hts, hml, hlk, hY, hA, hR, hL0⟩ := hM
  have hK := hY.1
  intro J N hJ hN L S es k n h ad H locs ls hag hP hD hS hl
  unfold oMul at h
  split at h
  · exact lv_imul hx hb hd (hN _ _ _ _ _ h ad H locs ls hag hP hD hS hl)
  · exact h.elim
def oAnd : gO := fun J N L S es k n => match S with | .int y :: .int x :: S' => N L (.int (x &&& y) :: S') es k n | _ => False
theorem ok_iand (hM : gM X l0 cc own Ts R0) (hd : decode cc pc = .ok (.iand, 1)) : okO X pc (pc + 1) oAnd := by
  obtain ⟨p, l, e, R, s, m, args, below, meth, c, D, cA, A, ag, ad0, Q, nL⟩ := X
  obtain ⟨hx, hb, hown, hts, hml, hlk, hY, hA, hR, hL0⟩ := hM
  have hK := hY.1
  intro J N hJ hN L S es k n h ad H locs ls hag hP hD hS hl
  unfold oAnd at h
  split at h
  · exact lv_iand hx hb hd (hN _ _ _ _ _ h ad H locs ls hag hP hD hS hl)
  · exact h.elim
def oDiv : gO := fun J N L S es k n => match S with | .int y :: .int x :: S' => ¬ y = 0 ∧ N L (.int (x / y) :: S') es k n | _ => False
theorem ok_idiv (hM : gM X l0 cc own Ts R0) (hd : decode cc pc = .ok (.idiv, 1)) : okO X pc (pc + 1) oDiv := by
  obtain ⟨p, l, e, R, s, m, args, below, meth, c, D, cA, A, ag, ad0, Q, nL⟩ := X
  obtain ⟨hx, hb, hown, hts, hml, hlk, hY, hA, hR, hL0⟩ := hM
  have hK := hY.1
  intro J N hJ hN L S es k n h ad H locs ls hag hP hD hS hl
  unfold oDiv at h
  split at h
  · obtain ⟨hz, h⟩ := h
    exact lv_idiv hx hb hd hz (hN _ _ _ _ _ h ad H locs ls hag hP hD hS hl)
  · exact h.elim
def oRem : gO := fun J N L S es k n => match S with | .int y :: .int x :: S' => ¬ y = 0 ∧ N L (.int (x - x / y * y) :: S') es k n | _ => False
theorem ok_irem (hM : gM X l0 cc own Ts R0) (hd : decode cc pc = .ok (.irem, 1)) : okO X pc (pc + 1) oRem := by
  obtain ⟨p, l, e, R, s, m, args, below, meth, c, D, cA, A, ag, ad0, Q, nL⟩ := X
  obtain ⟨hx, hb, hown, hts, hml, hlk, hY, hA, hR, hL0⟩ := hM
  have hK := hY.1
  intro J N hJ hN L S es k n h ad H locs ls hag hP hD hS hl
  unfold oRem at h
  split at h
  · obtain ⟨hz, h⟩ := h
    exact lv_irem hx hb hd hz (hN _ _ _ _ _ h ad H locs ls hag hP hD hS hl)
  · exact h.elim
def oI2L : gO := fun J N L S es k n => match S with | .int x :: S' => N L (.long x.toInt64 :: S') es k n | _ => False
theorem ok_i2l (hM : gM X l0 cc own Ts R0) (hd : decode cc pc = .ok (.i2l, 1)) : okO X pc (pc + 1) oI2L := by
  obtain ⟨p, l, e, R, s, m, args, below, meth, c, D, cA, A, ag, ad0, Q, nL⟩ := X
  obtain ⟨hx, hb, hown, hts, hml, hlk, hY, hA, hR, hL0⟩ := hM
  have hK := hY.1
  intro J N hJ hN L S es k n h ad H locs ls hag hP hD hS hl
  unfold oI2L at h
  split at h
  · exact lv_i2l hx hb hd rfl (hN _ _ _ _ _ h ad H locs ls hag hP hD hS hl)
  · exact h.elim
def oI2C : gO := fun J N L S es k n => match S with | .int x :: S' => N L (.int (x.toUInt32 % 65536).toInt32 :: S') es k n | _ => False
theorem ok_i2c (hM : gM X l0 cc own Ts R0) (hd : decode cc pc = .ok (.i2c, 1)) : okO X pc (pc + 1) oI2C := by
  obtain ⟨p, l, e, R, s, m, args, below, meth, c, D, cA, A, ag, ad0, Q, nL⟩ := X
  obtain ⟨hx, hb, hown, hts, hml, hlk, hY, hA, hR, hL0⟩ := hM
  have hK := hY.1
  intro J N hJ hN L S es k n h ad H locs ls hag hP hD hS hl
  unfold oI2C at h
  split at h
  · exact lv_i2c hx hb hd rfl (hN _ _ _ _ _ h ad H locs ls hag hP hD hS hl)
  · exact h.elim
def oI2D : gO := fun J N L S es k n => match S with | .int x :: S' => N L (.double (FP.i2d x) :: S') es k n | _ => False
theorem ok_i2d (hM : gM X l0 cc own Ts R0) (hd : decode cc pc = .ok (.i2d, 1)) : okO X pc (pc + 1) oI2D := by
  obtain ⟨p, l, e, R, s, m, args, below, meth, c, D, cA, A, ag, ad0, Q, nL⟩ := X
  obtain ⟨hx, hb, hown, hts, hml, hlk, hY, hA, hR, hL0⟩ := hM
  have hK := hY.1
  intro J N hJ hN L S es k n h ad H locs ls hag hP hD hS hl
  unfold oI2D at h
  split at h
  · exact lv_i2d hx hb hd (hN _ _ _ _ _ h ad H locs ls hag hP hD hS hl)
  · exact h.elim
def oDConst0 : gO := fun J N L S es k n => N L (.double FP.dconst0 :: S) es k n
theorem ok_dconst0 (hM : gM X l0 cc own Ts R0) (hd : decode cc pc = .ok (.dconst 0, 1)) : okO X pc (pc + 1) oDConst0 := by
  obtain ⟨p, l, e, R, s, m, args, below, meth, c, D, cA, A, ag, ad0, Q, nL⟩ := X
  obtain ⟨hx, hb, hown, hts, hml, hlk, hY, hA, hR, hL0⟩ := hM
  have hK := hY.1
  intro J N hJ hN L S es k n h ad H locs ls hag hP hD hS hl
  exact lv_dconst0 hx hb hd (hN _ _ _ _ _ h ad H locs ls hag hP hD hS hl)
def oLCmp : gO := fun J N L S es k n => match S with | .long y :: .long x :: S' => N L (.int (lg_cmp x y) :: S') es k n | _ => False
theorem ok_lcmp (hM : gM X l0 cc own Ts R0) (hd : decode cc pc = .ok (.lcmp, 1)) : okO X pc (pc + 1) oLCmp := by
  obtain ⟨p, l, e, R, s, m, args, below, meth, c, D, cA, A, ag, ad0, Q, nL⟩ := X
  obtain ⟨hx, hb, hown, hts, hml, hlk, hY, hA, hR, hL0⟩ := hM
  have hK := hY.1
  intro J N hJ hN L S es k n h ad H locs ls hag hP hD hS hl
  unfold oLCmp at h
  split at h
  · exact W.lcmp hx hb hd (hN _ _ _ _ _ h ad H locs ls hag hP hD hS hl)
  · exact h.elim
def oDCmp (op : CmpOp) : gO := fun J N L S es k n => match S with | .double y :: .double x :: S' => N L (.int (Op.cmpValue (FP.dcmp x y) op) :: S') es k n | _ => False
theorem ok_dcmp (hM : gM X l0 cc own Ts R0) {op : CmpOp} (hd : decode cc pc = .ok (.dcmp op, 1)) : okO X pc (pc + 1) (oDCmp op) := by
  obtain ⟨p, l, e, R, s, m, args, below, meth, c, D, cA, A, ag, ad0, Q, nL⟩ := X
  obtain ⟨hx, hb, hown, hts, hml, hlk, hY, hA, hR, hL0⟩ := hM
  have hK := hY.1
  intro J N hJ hN L S es k n h ad H locs ls hag hP hD hS hl
  unfold oDCmp at h
  split at h
  · exact lv_dcmp hx hb hd (hN _ _ _ _ _ h ad H locs ls hag hP hD hS hl)
  · exact h.elim
def oDDiv : gO := fun J N L S es k n => match S with | .double y :: .double x :: S' => vf_n64 (FP.ddiv x y) ∧ N L (.double (FP.ddiv x y) :: S') es k n | _ => False
theorem ok_ddiv (hM : gM X l0 cc own Ts R0) (hd : decode cc pc = .ok (.ddiv, 1)) : okO X pc (pc + 1) oDDiv := by
  obtain ⟨p, l, e, R, s, m, args, below, meth, c, D, cA, A, ag, ad0, Q, nL⟩ := X
  obtain ⟨hx, hb, hown, hts, hml, hlk, hY, hA, hR, hL0⟩ := hM
  have hK := hY.1
  intro J N hJ hN L S es k n h ad H locs ls hag hP hD hS hl
  unfold oDDiv at h
  split at h
  · obtain ⟨hz, h⟩ := h
    exact lv_ddiv hx hb hd hz (hN _ _ _ _ _ h ad H locs ls hag hP hD hS hl)
  · exact h.elim
def oDup : gO := fun J N L S es k n => match S with | v :: S' => gif (!(cat2 v)) (N L (v :: v :: S') es k n) | _ => False
theorem cat1_of {b : Bool} {P : Prop} (h : gif (!b) P) : b = false ∧ P := by
  cases b
  · exact ⟨rfl, h⟩
  · exact h.elim
theorem cat1 {v : Value} {ad : Nat → Nat} (h : cat2 v = false) : (gv ad v).category = 1 := by
  cases v <;> first | rfl | cases h
theorem ok_dup (hM : gM X l0 cc own Ts R0) (hd : decode cc pc = .ok (.dup, 1)) : okO X pc (pc + 1) oDup := by
  obtain ⟨p, l, e, R, s, m, args, below, meth, c, D, cA, A, ag, ad0, Q, nL⟩ := X
  obtain ⟨hx, hb, hown, hts, hml, hlk, hY, hA, hR, hL0⟩ := hM
  have hK := hY.1
  intro J N hJ hN L S es k n h ad H locs ls hag hP hD hS hl
  unfold oDup at h
  split at h
  · obtain ⟨hc, h⟩ := cat1_of h
    exact lv_dup hx hb hd (cat1 hc) (hN _ _ _ _ _ h ad H locs ls hag hP hD hS hl)
  · exact h.elim
def oPop : gO := fun J N L S es k n => match S with | v :: S' => gif (!(cat2 v)) (N L S' es k n) | _ => False
theorem ok_pop (hM : gM X l0 cc own Ts R0) (hd : decode cc pc = .ok (.pop, 1)) : okO X pc (pc + 1) oPop := by
  obtain ⟨p, l, e, R, s, m, args, below, meth, c, D, cA, A, ag, ad0, Q, nL⟩ := X
  obtain ⟨hx, hb, hown, hts, hml, hlk, hY, hA, hR, hL0⟩ := hM
  have hK := hY.1
  intro J N hJ hN L S es k n h ad H locs ls hag hP hD hS hl
  unfold oPop at h
  split at h
  · obtain ⟨hc, h⟩ := cat1_of h
    exact lv_pop hx hb hd (cat1 hc) (hN _ _ _ _ _ h ad H locs ls hag hP hD hS hl)
  · exact h.elim
def oDup2 : gO := fun J N L S es k n => match S with | v :: v' :: S' => gif (!(cat2 v)) (gif (!(cat2 v')) (N L (v :: v' :: v :: v' :: S') es k n)) | _ => False
theorem ok_dup2 (hM : gM X l0 cc own Ts R0) (hd : decode cc pc = .ok (.dup2, 1)) : okO X pc (pc + 1) oDup2 := by
  obtain ⟨p, l, e, R, s, m, args, below, meth, c, D, cA, A, ag, ad0, Q, nL⟩ := X
  obtain ⟨hx, hb, hown, hts, hml, hlk, hY, hA, hR, hL0⟩ := hM
  have hK := hY.1
  intro J N hJ hN L S es k n h ad H locs ls hag hP hD hS hl
  unfold oDup2 at h
  split at h
  · obtain ⟨hc, h⟩ := cat1_of h
    obtain ⟨hc', h⟩ := cat1_of h
    exact lv_dup2_11 hx hb hd (cat1 hc) (cat1 hc') (hN _ _ _ _ _ h ad H locs ls hag hP hD hS hl)
  · exact h.elim
def oICmp_eq (t : Nat) : gO := fun J N L S es k n => match S with | .int y :: .int x :: S' => (x = y → J t L S' es k n) ∧ (¬ x = y → N L S' es k n) | _ => False
theorem ok_icmp_eq (hM : gM X l0 cc own Ts R0) {off : Int} (t : Nat) (hd : decode cc pc = .ok (.if_icmp .eq off, 3)) (ht : (pc : Int) + off = (t : Int)) : okO X pc (pc + 3) (oICmp_eq t) := by
  obtain ⟨p, l, e, R, s, m, args, below, meth, c, D, cA, A, ag, ad0, Q, nL⟩ := X
  obtain ⟨hx, hb, hown, hts, hml, hlk, hY, hA, hR, hL0⟩ := hM
  have hK := hY.1
  intro J N hJ hN L S es k n h ad H locs ls hag hP hD hS hl
  unfold oICmp_eq at h
  split at h
  · exact lv_icmp_eq hx hb hd ht (fun hc => hJ _ _ _ _ _ _ (h.1 hc) ad H locs ls hag hP hD hS hl) (fun hc => hN _ _ _ _ _ (h.2 hc) ad H locs ls hag hP hD hS hl)
  · exact h.elim
def oIf_eq (t : Nat) : gO := fun J N L S es k n => match S with | .int x :: S' => (x = 0 → J t L S' es k n) ∧ (¬ x = 0 → N L S' es k n) | _ => False
theorem ok_if_eq (hM : gM X l0 cc own Ts R0) {off : Int} (t : Nat) (hd : decode cc pc = .ok (.ifCond .eq off, 3)) (ht : (pc : Int) + off = (t : Int)) : okO X pc (pc + 3) (oIf_eq t) := by
  obtain ⟨p, l, e, R, s, m, args, below, meth, c, D, cA, A, ag, ad0, Q, nL⟩ := X
  obtain ⟨hx, hb, hown, hts, hml, hlk, hY, hA, hR, hL0⟩ := hM
  have hK := hY.1
  intro J N hJ hN L S es k n h ad H locs ls hag hP hD hS hl
  unfold oIf_eq at h
  split at h
  · exact lv_if_eq hx hb hd ht (fun hc => hJ _ _ _ _ _ _ (h.1 hc) ad H locs ls hag hP hD hS hl) (fun hc => hN _ _ _ _ _ (h.2 hc) ad H locs ls hag hP hD hS hl)
  · exact h.elim
def oICmp_ne (t : Nat) : gO := fun J N L S es k n => match S with | .int y :: .int x :: S' => (¬ x = y → J t L S' es k n) ∧ (x = y → N L S' es k n) | _ => False
theorem ok_icmp_ne (hM : gM X l0 cc own Ts R0) {off : Int} (t : Nat) (hd : decode cc pc = .ok (.if_icmp .ne off, 3)) (ht : (pc : Int) + off = (t : Int)) : okO X pc (pc + 3) (oICmp_ne t) := by
  obtain ⟨p, l, e, R, s, m, args, below, meth, c, D, cA, A, ag, ad0, Q, nL⟩ := X
  obtain ⟨hx, hb, hown, hts, hml, hlk, hY, hA, hR, hL0⟩ := hM
  have hK := hY.1
  intro J N hJ hN L S es k n h ad H locs ls hag hP hD hS hl
  unfold oICmp_ne at h
  split at h
  · exact lv_icmp_ne hx hb hd ht (fun hc => hJ _ _ _ _ _ _ (h.1 hc) ad H locs ls hag hP hD hS hl) (fun hc => hN _ _ _ _ _ (h.2 hc) ad H locs ls hag hP hD hS hl)
  · exact h.elim
def oIf_ne (t : Nat) : gO := fun J N L S es k n => match S with | .int x :: S' => (¬ x = 0 → J t L S' es k n) ∧ (x = 0 → N L S' es k n) | _ => False
theorem ok_if_ne (hM : gM X l0 cc own Ts R0) {off : Int} (t : Nat) (hd : decode cc pc = .ok (.ifCond .ne off, 3)) (ht : (pc : Int) + off = (t : Int)) : okO X pc (pc + 3) (oIf_ne t) := by
  obtain ⟨p, l, e, R, s, m, args, below, meth, c, D, cA, A, ag, ad0, Q, nL⟩ := X
  obtain ⟨hx, hb, hown, hts, hml, hlk, hY, hA, hR, hL0⟩ := hM
  have hK := hY.1
  intro J N hJ hN L S es k n h ad H locs ls hag hP hD hS hl
  unfold oIf_ne at h
  split at h
  · exact lv_if_ne hx hb hd ht (fun hc => hJ _ _ _ _ _ _ (h.1 hc) ad H locs ls hag hP hD hS hl) (fun hc => hN _ _ _ _ _ (h.2 hc) ad H locs ls hag hP hD hS hl)
  · exact h.elim
def oICmp_lt (t : Nat) : gO := fun J N L S es k n => match S with | .int y :: .int x :: S' => (x < y → J t L S' es k n) ∧ (¬ x < y → N L S' es k n) | _ => False
theorem ok_icmp_lt (hM : gM X l0 cc own Ts R0) {off : Int} (t : Nat) (hd : decode cc pc = .ok (.if_icmp .lt off, 3)) (ht : (pc : Int) + off = (t : Int)) : okO X pc (pc + 3) (oICmp_lt t) := by
  obtain ⟨p, l, e, R, s, m, args, below, meth, c, D, cA, A, ag, ad0, Q, nL⟩ := X
  obtain ⟨hx, hb, hown, hts, hml, hlk, hY, hA, hR, hL0⟩ := hM
  have hK := hY.1
  intro J N hJ hN L S es k n h ad H locs ls hag hP hD hS hl
  unfold oICmp_lt at h
  split at h
  · exact lv_icmp_lt hx hb hd ht (fun hc => hJ _ _ _ _ _ _ (h.1 hc) ad H locs ls hag hP hD hS hl) (fun hc => hN _ _ _ _ _ (h.2 hc) ad H locs ls hag hP hD hS hl)
  · exact h.elim
def oIf_lt (t : Nat) : gO := fun J N L S es k n => match S with | .int x :: S' => (x < 0 → J t L S' es k n) ∧ (¬ x < 0 → N L S' es k n) | _ => False
theorem ok_if_lt (hM : gM X l0 cc own Ts R0) {off : Int} (t : Nat) (hd : decode cc pc = .ok (.ifCond .lt off, 3)) (ht : (pc : Int) + off = (t : Int)) : okO X pc (pc + 3) (oIf_lt t) := by
  obtain ⟨p, l, e, R, s, m, args, below, meth, c, D, cA, A, ag, ad0, Q, nL⟩ := X
  obtain ⟨hx, hb, hown, hts, hml, hlk, hY, hA, hR, hL0⟩ := hM
  have hK := hY.1
  intro J N hJ hN L S es k n h ad H locs ls hag hP hD hS hl
  unfold oIf_lt at h
  split at h
  · exact lv_if_lt hx hb hd ht (fun hc => hJ _ _ _ _ _ _ (h.1 hc) ad H locs ls hag hP hD hS hl) (fun hc => hN _ _ _ _ _ (h.2 hc) ad H locs ls hag hP hD hS hl)
  · exact h.elim
def oICmp_ge (t : Nat) : gO := fun J N L S es k n => match S with | .int y :: .int x :: S' => (y ≤ x → J t L S' es k n) ∧ (¬ y ≤ x → N L S' es k n) | _ => False
theorem ok_icmp_ge (hM : gM X l0 cc own Ts R0) {off : Int} (t : Nat) (hd : decode cc pc = .ok (.if_icmp .ge off, 3)) (ht : (pc : Int) + off = (t : Int)) : okO X pc (pc + 3) (oICmp_ge t) := by
  obtain ⟨p, l, e, R, s, m, args, below, meth, c, D, cA, A, ag, ad0, Q, nL⟩ := X
  obtain ⟨hx, hb, hown, hts, hml, hlk, hY, hA, hR, hL0⟩ := hM
  have hK := hY.1
  intro J N hJ hN L S es k n h ad H locs ls hag hP hD hS hl
  unfold oICmp_ge at h
  split at h
  · exact lv_icmp_ge hx hb hd ht (fun hc => hJ _ _ _ _ _ _ (h.1 hc) ad H locs ls hag hP hD hS hl) (fun hc => hN _ _ _ _ _ (h.2 hc) ad H locs ls hag hP hD hS hl)
  · exact h.elim
def oIf_ge (t : Nat) : gO := fun J N L S es k n => match S with | .int x :: S' => (0 ≤ x → J t L S' es k n) ∧ (¬ 0 ≤ x → N L S' es k n) | _ => False
theorem ok_if_ge (hM : gM X l0 cc own Ts R0) {off : Int} (t : Nat) (hd : decode cc pc = .ok (.ifCond .ge off, 3)) (ht : (pc : Int) + off = (t : Int)) : okO X pc (pc + 3) (oIf_ge t) := by
  obtain ⟨p, l, e, R, s, m, args, below, meth, c, D, cA, A, ag, ad0, Q, nL⟩ := X
  obtain ⟨hx, hb, hown, hts, hml, hlk, hY, hA, hR, hL0⟩ := hM
  have hK := hY.1
  intro J N hJ hN L S es k n h ad H locs ls hag hP hD hS hl
  unfold oIf_ge at h
  split at h
  · exact lv_if_ge hx hb hd ht (fun hc => hJ _ _ _ _ _ _ (h.1 hc) ad H locs ls hag hP hD hS hl) (fun hc => hN _ _ _ _ _ (h.2 hc) ad H locs ls hag hP hD hS hl)
  · exact h.elim
def oICmp_gt (t : Nat) : gO := fun J N L S es k n => match S with | .int y :: .int x :: S' => (y < x → J t L S' es k n) ∧ (¬ y < x → N L S' es k n) | _ => False
theorem ok_icmp_gt (hM : gM X l0 cc own Ts R0) {off : Int} (t : Nat) (hd : decode cc pc = .ok (.if_icmp .gt off, 3)) (ht : (pc : Int) + off = (t : Int)) : okO X pc (pc + 3) (oICmp_gt t) := by
  obtain ⟨p, l, e, R, s, m, args, below, meth, c, D, cA, A, ag, ad0, Q, nL⟩ := X
  obtain ⟨hx, hb, hown, hts, hml, hlk, hY, hA, hR, hL0⟩ := hM
  have hK := hY.1
  intro J N hJ hN L S es k n h ad H locs ls hag hP hD hS hl
  unfold oICmp_gt at h
  split at h
  · exact lv_icmp_gt hx hb hd ht (fun hc => hJ _ _ _ _ _ _ (h.1 hc) ad H locs ls hag hP hD hS hl) (fun hc => hN _ _ _ _ _ (h.2 hc) ad H locs ls hag hP hD hS hl)
  · exact h.elim
def oIf_gt (t : Nat) : gO := fun J N L S es k n => match S with | .int x :: S' => (0 < x → J t L S' es k n) ∧ (¬ 0 < x → N L S' es k n) | _ => False
theorem ok_if_gt (hM : gM X l0 cc own Ts R0) {off : Int} (t : Nat) (hd : decode cc pc = .ok (.ifCond .gt off, 3)) (ht : (pc : Int) + off = (t : Int)) : okO X pc (pc + 3) (oIf_gt t) := by
  obtain ⟨p, l, e, R, s, m, args, below, meth, c, D, cA, A, ag, ad0, Q, nL⟩ := X
  obtain ⟨hx, hb, hown, hts, hml, hlk, hY, hA, hR, hL0⟩ := hM
  have hK := hY.1
  intro J N hJ hN L S es k n h ad H locs ls hag hP hD hS hl
  unfold oIf_gt at h
  split at h
  · exact lv_if_gt hx hb hd ht (fun hc => hJ _ _ _ _ _ _ (h.1 hc) ad H locs ls hag hP hD hS hl) (fun hc => hN _ _ _ _ _ (h.2 hc) ad H locs ls hag hP hD hS hl)
  · exact h.elim
def oICmp_le (t : Nat) : gO := fun J N L S es k n => match S with | .int y :: .int x :: S' => (x ≤ y → J t L S' es k n) ∧ (¬ x ≤ y → N L S' es k n) | _ => False
theorem ok_icmp_le (hM : gM X l0 cc own Ts R0) {off : Int} (t : Nat) (hd : decode cc pc = .ok (.if_icmp .le off, 3)) (ht : (pc : Int) + off = (t : Int)) : okO X pc (pc + 3) (oICmp_le t) := by
  obtain ⟨p, l, e, R, s, m, args, below, meth, c, D, cA, A, ag, ad0, Q, nL⟩ := X
  obtain ⟨hx, hb, hown, hts, hml, hlk, hY, hA, hR, hL0⟩ := hM
  have hK := hY.1
  intro J N hJ hN L S es k n h ad H locs ls hag hP hD hS hl
  unfold oICmp_le at h
  split at h
  · exact lv_icmp_le hx hb hd ht (fun hc => hJ _ _ _ _ _ _ (h.1 hc) ad H locs ls hag hP hD hS hl) (fun hc => hN _ _ _ _ _ (h.2 hc) ad H locs ls hag hP hD hS hl)
  · exact h.elim
def oIf_le (t : Nat) : gO := fun J N L S es k n => match S with | .int x :: S' => (x ≤ 0 → J t L S' es k n) ∧ (¬ x ≤ 0 → N L S' es k n) | _ => False
theorem ok_if_le (hM : gM X l0 cc own Ts R0) {off : Int} (t : Nat) (hd : decode cc pc = .ok (.ifCond .le off, 3)) (ht : (pc : Int) + off = (t : Int)) : okO X pc (pc + 3) (oIf_le t) := by
  obtain ⟨p, l, e, R, s, m, args, below, meth, c, D, cA, A, ag, ad0, Q, nL⟩ := X
  obtain ⟨hx, hb, hown, hts, hml, hlk, hY, hA, hR, hL0⟩ := hM
  have hK := hY.1
  intro J N hJ hN L S es k n h ad H locs ls hag hP hD hS hl
  unfold oIf_le at h
  split at h
  · exact lv_if_le hx hb hd ht (fun hc => hJ _ _ _ _ _ _ (h.1 hc) ad H locs ls hag hP hD hS hl) (fun hc => hN _ _ _ _ _ (h.2 hc) ad H locs ls hag hP hD hS hl)
  · exact h.elim
def oGoto (t : Nat) : gO := fun J N L S es k n => J t L S es k n
theorem ok_goto (hM : gM X l0 cc own Ts R0) {nx : Nat} {off : Int} (t : Nat) (hd : decode cc pc = .ok (.goto off, 3)) (ht : (pc : Int) + off = (t : Int)) : okO X pc nx (oGoto t) := by
  obtain ⟨p, l, e, R, s, m, args, below, meth, c, D, cA, A, ag, ad0, Q, nL⟩ := X
  obtain ⟨hx, hb, hown, hts, hml, hlk, hY, hA, hR, hL0⟩ := hM
  have hK := hY.1
  intro J N hJ hN L S es k n h ad H locs ls hag hP hD hS hl
  exact lv_goto hx hb hd ht (hJ _ _ _ _ _ _ h ad H locs ls hag hP hD hS hl)
def eObj (es : List gE) (a ci : Nat) (F : List Value → Prop) : Prop := match gnth es a with | some (.inr (c, fs)) => gif (Nat.beq c ci) (F fs) | _ => False
def eInt (es : List gE) (a tg : Nat) (F : Nat → (Nat → Int32) → Prop) : Prop := match gnth es a with | some (.inl (t, sz, .inl f)) => gif (Nat.beq t tg && Nat.ble sz 100000) (F sz f) | _ => False
def eLng (es : List gE) (a tg : Nat) (F : Nat → (Nat → Int64) → Prop) : Prop := match gnth es a with | some (.inl (t, sz, .inr (.inl f))) => gif (Nat.beq t tg && Nat.ble sz 100000) (F sz f) | _ => False
def eDbl (es : List gE) (a tg : Nat) (F : Nat → (Nat → UInt64) → Prop) : Prop := match gnth es a with | some (.inl (t, sz, .inr (.inr (.inl f)))) => gif (Nat.beq t tg && Nat.ble sz 100000) (F sz f) | _ => False
def eRef (es : List gE) (a tg : Nat) (F : Nat → List (Option Nat) → Prop) : Prop := match gnth es a with | some (.inl (t, sz, .inr (.inr (.inr f)))) => gif (Nat.beq t tg && Nat.ble sz 100000) (F sz f) | _ => False
theorem sz_lt {sz : Nat} (h : Nat.ble sz 100000 = true) : sz < 2 ^ 31 := by
  have := Nat.le_of_ble_eq_true h
  omega
theorem eObj_ok {es : List gE} {a ci : Nat} {F : List Value → Prop} (h : eObj es a ci F) : ∃ fs, es[a]? = some (.inr (ci, fs)) ∧ F fs := by
  unfold eObj at h
  rw [← gnth_eq]
  cases hg : gnth es a with
  | none => rw [hg] at h; exact h.elim
  | some e =>
    rw [hg] at h
    rcases e with d | ⟨c, fs⟩
    · exact h.elim
    · obtain ⟨h1, h2⟩ := bif_t (b := Nat.beq c ci) (P := F fs) h
      have h1 := Nat.eq_of_beq_eq_true h1
      subst h1
      exact ⟨fs, rfl, h2⟩
theorem eInt_ok {es : List gE} {a tg : Nat} {F : Nat → (Nat → Int32) → Prop} (h : eInt es a tg F) : ∃ sz f, es[a]? = some (.inl (tg, sz, .inl f)) ∧ sz < 2 ^ 31 ∧ F sz f := by
  unfold eInt at h
  rw [← gnth_eq]
  cases hg : gnth es a with
  | none => rw [hg] at h; exact h.elim
  | some e =>
    rw [hg] at h
    rcases e with ⟨t, sz, f | d⟩ | ⟨c, fs⟩
    · obtain ⟨h1, h2⟩ := bif_t (b := Nat.beq t tg && Nat.ble sz 100000) (P := F sz f) h
      obtain ⟨h1, h3⟩ := and_t h1
      have h1 := Nat.eq_of_beq_eq_true h1
      subst h1
      exact ⟨sz, f, rfl, sz_lt h3, h2⟩
    · exact h.elim
    · exact h.elim
theorem eLng_ok {es : List gE} {a tg : Nat} {F : Nat → (Nat → Int64) → Prop} (h : eLng es a tg F) : ∃ sz f, es[a]? = some (.inl (tg, sz, .inr (.inl f))) ∧ sz < 2 ^ 31 ∧ F sz f := by
  unfold eLng at h
  rw [← gnth_eq]
  cases hg : gnth es a with
  | none => rw [hg] at h; exact h.elim
  | some e =>
    rw [hg] at h
    rcases e with ⟨t, sz, d | f | d⟩ | ⟨c, fs⟩
    · exact h.elim
    · obtain ⟨h1, h2⟩ := bif_t (b := Nat.beq t tg && Nat.ble sz 100000) (P := F sz f) h
      obtain ⟨h1, h3⟩ := and_t h1
      have h1 := Nat.eq_of_beq_eq_true h1
      subst h1
      exact ⟨sz, f, rfl, sz_lt h3, h2⟩
    · exact h.elim
    · exact h.elim
theorem eDbl_ok {es : List gE} {a tg : Nat} {F : Nat → (Nat → UInt64) → Prop} (h : eDbl es a tg F) : ∃ sz f, es[a]? = some (.inl (tg, sz, .inr (.inr (.inl f)))) ∧ sz < 2 ^ 31 ∧ F sz f := by
  unfold eDbl at h
  rw [← gnth_eq]
  cases hg : gnth es a with
  | none => rw [hg] at h; exact h.elim
  | some e =>
    rw [hg] at h
    rcases e with ⟨t, sz, d | d | f | d⟩ | ⟨c, fs⟩
    · exact h.elim
    · exact h.elim
    · obtain ⟨h1, h2⟩ := bif_t (b := Nat.beq t tg && Nat.ble sz 100000) (P := F sz f) h
      obtain ⟨h1, h3⟩ := and_t h1
      have h1 := Nat.eq_of_beq_eq_true h1
      subst h1
      exact ⟨sz, f, rfl, sz_lt h3, h2⟩
    · exact h.elim
    · exact h.elim
theorem eRef_ok {es : List gE} {a tg : Nat} {F : Nat → (List (Option Nat)) → Prop} (h : eRef es a tg F) : ∃ sz f, es[a]? = some (.inl (tg, sz, .inr (.inr (.inr f)))) ∧ sz < 2 ^ 31 ∧ F sz f := by
  unfold eRef at h
  rw [← gnth_eq]
  cases hg : gnth es a with
  | none => rw [hg] at h; exact h.elim
  | some e =>
    rw [hg] at h
    rcases e with ⟨t, sz, d | d | d | f⟩ | ⟨c, fs⟩
    · exact h.elim
    · exact h.elim
    · exact h.elim
    · obtain ⟨h1, h2⟩ := bif_t (b := Nat.beq t tg && Nat.ble sz 100000) (P := F sz f) h
      obtain ⟨h1, h3⟩ := and_t h1
      have h1 := Nat.eq_of_beq_eq_true h1
      subst h1
      exact ⟨sz, f, rfl, sz_lt h3, h2⟩
    · exact h.elim
def oGet (ci j : Nat) : gO := fun J N L S es k n => match S with | .ref a :: S' => eObj es a ci (fun fs => match vnth fs j with | some v => N L (v :: S') es k n | none => False) | _ => False
theorem ok_get (hM : gM X l0 cc own Ts R0) {ref C : String} {T : u_T} {Nf ci index : Nat} (hin : ∀ w ∈ u_ws C T Nf, w ∈ Ts) (hc : vwCl[ci]? = some (C, T, Nf)) (j : Nat) (hj : j < Nf) (hlink : (Cond.fieldLink own index ref (T j).2.1 (T j).2.2.1) ∈ Ts) (href : (T j).1 = ref) (hd : decode cc pc = .ok (.getfield index, 3)) : okO X pc (pc + 3) (oGet ci j) := by
  obtain ⟨p, l, e, R, s, m, args, below, meth, c, D, cA, A, ag, ad0, Q, nL⟩ := X
  obtain ⟨hx, hb, hown, hts, hml, hlk, hY, hA, hR, hL0⟩ := hM
  have hK := hY.1
  intro J N hJ hN L S es k n h ad H locs ls hag hP hD hS hl
  unfold oGet at h
  split at h
  · rename_i a S'
    obtain ⟨fs, hes, h⟩ := eObj_ok h
    split at h
    · rename_i v hv
      rw [vnth_eq] at hv
      exact va_get (fs := fs.map (gv ad)) hx hb hts hin hown hK hP a (gw_get hes) hc j hj (hts _ hlink) (fun x h9 => by rw [← href]; exact h9) (by rw [List.getElem?_map, hv]; rfl) hd (hN _ _ _ _ _ h ad H locs ls hag hP hD hS hl)
    · exact h.elim
  · exact h.elim
def oPutI (ci j : Nat) : gO := fun J N L S es k n => match S with | .int v :: .ref a :: S' => eObj es a ci (fun fs => gif (Nat.ble (j + 1) fs.length) (N L S' (es.set a (.inr (ci, fs.set j (.int v)))) k n)) | _ => False
theorem ok_putI (hM : gM X l0 cc own Ts R0) {ref C : String} {T : u_T} {Nf ci index : Nat} (hin : ∀ w ∈ u_ws C T Nf, w ∈ Ts) (ty0 : Nat → FieldType) (hty : ∀ k, k < Nf → parseFieldDescriptor (T k).2.2.1 = some (ty0 k)) (hnm : ∀ a, a < Nf → ∀ b, b < Nf → a ≠ b → (T a).2.1 ≠ (T b).2.1) (hc : vwCl[ci]? = some (C, T, Nf)) (j : Nat) (hj : j < Nf) (hlink : (Cond.fieldLink own index ref (T j).2.1 (T j).2.2.1) ∈ Ts) (href : (T j).1 = ref) (hfin : (T j).2.2.2 = false) (hty0 : parseFieldDescriptor (T j).2.2.1 = some .int) (hd : decode cc pc = .ok (.putfield index, 3)) : okO X pc (pc + 3) (oPutI ci j) := by
  obtain ⟨p, l, e, R, s, m, args, below, meth, c, D, cA, A, ag, ad0, Q, nL⟩ := X
  obtain ⟨hx, hb, hown, hts, hml, hlk, hY, hA, hR, hL0⟩ := hM
  have hK := hY.1
  intro J N hJ hN L S es k n h ad H locs ls hag hP hD hS hl
  unfold oPutI at h
  split at h
  · rename_i v a S'
    obtain ⟨fs, hes, h⟩ := eObj_ok h
    obtain ⟨hlen, h⟩ := bif_t h
    refine va_put (fs := fs.map (gv ad)) (v := gv ad (.int v)) (ty := .int) hx hb hts hin ty0 hty hnm hown hK hP hD hS a (gw_get hes) hc j hj (hts _ hlink) (fun x h9 => by rw [← href]; exact h9) hfin hty0 rfl rfl (by rw [List.length_map]; exact Nat.le_of_ble_eq_true hlen) hd (fun H1 locs1 hP1 hD1 hS1 => hN _ _ _ _ _ h ad H1 locs1 ls hag ?_ ?_ hS1 hl)
    · rw [← gw_set]; simp only [ge, List.map_set]; exact hP1
    · rw [← gw_set]; simp only [ge, List.map_set]; exact hD1
  · exact h.elim
def gInit (X : gX) : Prop := match X with | (_, _, _, _, _, _, _, _, meth, _) => meth.name = "<init>"
theorem ok_putIF (hM : gM X l0 cc own Ts R0) {ref C : String} {T : u_T} {Nf ci index : Nat} (hin : ∀ w ∈ u_ws C T Nf, w ∈ Ts) (ty0 : Nat → FieldType) (hty : ∀ k, k < Nf → parseFieldDescriptor (T k).2.2.1 = some (ty0 k)) (hnm : ∀ a, a < Nf → ∀ b, b < Nf → a ≠ b → (T a).2.1 ≠ (T b).2.1) (hc : vwCl[ci]? = some (C, T, Nf)) (j : Nat) (hj : j < Nf) (hlink : (Cond.fieldLink own index ref (T j).2.1 (T j).2.2.1) ∈ Ts) (href : (T j).1 = ref) (hfin : (T j).2.2.2 = true) (hin2 : gInit X) (hdecl : (T j).1 = own) (hty0 : parseFieldDescriptor (T j).2.2.1 = some .int) (hd : decode cc pc = .ok (.putfield index, 3)) : okO X pc (pc + 3) (oPutI ci j) := by
  obtain ⟨p, l, e, R, s, m, args, below, meth, c, D, cA, A, ag, ad0, Q, nL⟩ := X
  obtain ⟨hx, hb, hown, hts, hml, hlk, hY, hA, hR, hL0⟩ := hM
  have hK := hY.1
  intro J N hJ hN L S es k n h ad H locs ls hag hP hD hS hl
  unfold oPutI at h
  split at h
  · rename_i v a S'
    obtain ⟨fs, hes, h⟩ := eObj_ok h
    obtain ⟨hlen, h⟩ := bif_t h
    refine va_putF (fs := fs.map (gv ad)) (v := gv ad (.int v)) (ty := .int) hx hb hts hin ty0 hty hnm hown hK hP hD hS a (gw_get hes) hc j hj (hts _ hlink) (fun x h9 => by rw [← href]; exact h9) hfin hin2 hdecl hty0 rfl rfl (by rw [List.length_map]; exact Nat.le_of_ble_eq_true hlen) hd (fun H1 locs1 hP1 hD1 hS1 => hN _ _ _ _ _ h ad H1 locs1 ls hag ?_ ?_ hS1 hl)
    · rw [← gw_set]; simp only [ge, List.map_set]; exact hP1
    · rw [← gw_set]; simp only [ge, List.map_set]; exact hD1
  · exact h.elim
def oPutR (ci j : Nat) : gO := fun J N L S es k n => match S with | .ref v :: .ref a :: S' => eObj es a ci (fun fs => gif (Nat.ble (j + 1) fs.length) (N L S' (es.set a (.inr (ci, fs.set j (.ref v)))) k n)) | _ => False
theorem ok_putR (hM : gM X l0 cc own Ts R0) {ref C : String} {T : u_T} {Nf ci index : Nat} (hin : ∀ w ∈ u_ws C T Nf, w ∈ Ts) (ty0 : Nat → FieldType) (hty : ∀ k, k < Nf → parseFieldDescriptor (T k).2.2.1 = some (ty0 k)) (hnm : ∀ a, a < Nf → ∀ b, b < Nf → a ≠ b → (T a).2.1 ≠ (T b).2.1) (hc : vwCl[ci]? = some (C, T, Nf)) (j : Nat) (hj : j < Nf) (hlink : (Cond.fieldLink own index ref (T j).2.1 (T j).2.2.1) ∈ Ts) (href : (T j).1 = ref) (hfin : (T j).2.2.2 = false) {cn : String} (hty0 : parseFieldDescriptor (T j).2.2.1 = some (.object cn)) (hd : decode cc pc = .ok (.putfield index, 3)) : okO X pc (pc + 3) (oPutR ci j) := by
  obtain ⟨p, l, e, R, s, m, args, below, meth, c, D, cA, A, ag, ad0, Q, nL⟩ := X
  obtain ⟨hx, hb, hown, hts, hml, hlk, hY, hA, hR, hL0⟩ := hM
  have hK := hY.1
  intro J N hJ hN L S es k n h ad H locs ls hag hP hD hS hl
  unfold oPutR at h
  split at h
  · rename_i v a S'
    obtain ⟨fs, hes, h⟩ := eObj_ok h
    obtain ⟨hlen, h⟩ := bif_t h
    refine va_put (fs := fs.map (gv ad)) (v := gv ad (.ref v)) (ty := .object cn) hx hb hts hin ty0 hty hnm hown hK hP hD hS a (gw_get hes) hc j hj (hts _ hlink) (fun x h9 => by rw [← href]; exact h9) hfin hty0 rfl rfl (by rw [List.length_map]; exact Nat.le_of_ble_eq_true hlen) hd (fun H1 locs1 hP1 hD1 hS1 => hN _ _ _ _ _ h ad H1 locs1 ls hag ?_ ?_ hS1 hl)
    · rw [← gw_set]; simp only [ge, List.map_set]; exact hP1
    · rw [← gw_set]; simp only [ge, List.map_set]; exact hD1
  · exact h.elim
theorem ok_putRA (hM : gM X l0 cc own Ts R0) {ref C : String} {T : u_T} {Nf ci index : Nat} (hin : ∀ w ∈ u_ws C T Nf, w ∈ Ts) (ty0 : Nat → FieldType) (hty : ∀ k, k < Nf → parseFieldDescriptor (T k).2.2.1 = some (ty0 k)) (hnm : ∀ a, a < Nf → ∀ b, b < Nf → a ≠ b → (T a).2.1 ≠ (T b).2.1) (hc : vwCl[ci]? = some (C, T, Nf)) (j : Nat) (hj : j < Nf) (hlink : (Cond.fieldLink own index ref (T j).2.1 (T j).2.2.1) ∈ Ts) (href : (T j).1 = ref) (hfin : (T j).2.2.2 = false) {ct : FieldType} (hty0 : parseFieldDescriptor (T j).2.2.1 = some (.array ct)) (hd : decode cc pc = .ok (.putfield index, 3)) : okO X pc (pc + 3) (oPutR ci j) := by
  obtain ⟨p, l, e, R, s, m, args, below, meth, c, D, cA, A, ag, ad0, Q, nL⟩ := X
  obtain ⟨hx, hb, hown, hts, hml, hlk, hY, hA, hR, hL0⟩ := hM
  have hK := hY.1
  intro J N hJ hN L S es k n h ad H locs ls hag hP hD hS hl
  unfold oPutR at h
  split at h
  · rename_i v a S'
    obtain ⟨fs, hes, h⟩ := eObj_ok h
    obtain ⟨hlen, h⟩ := bif_t h
    refine va_put (fs := fs.map (gv ad)) (v := gv ad (.ref v)) (ty := .array ct) hx hb hts hin ty0 hty hnm hown hK hP hD hS a (gw_get hes) hc j hj (hts _ hlink) (fun x h9 => by rw [← href]; exact h9) hfin hty0 rfl rfl (by rw [List.length_map]; exact Nat.le_of_ble_eq_true hlen) hd (fun H1 locs1 hP1 hD1 hS1 => hN _ _ _ _ _ h ad H1 locs1 ls hag ?_ ?_ hS1 hl)
    · rw [← gw_set]; simp only [ge, List.map_set]; exact hP1
    · rw [← gw_set]; simp only [ge, List.map_set]; exact hD1
  · exact h.elim
theorem ok_putRF (hM : gM X l0 cc own Ts R0) {ref C : String} {T : u_T} {Nf ci index : Nat} (hin : ∀ w ∈ u_ws C T Nf, w ∈ Ts) (ty0 : Nat → FieldType) (hty : ∀ k, k < Nf → parseFieldDescriptor (T k).2.2.1 = some (ty0 k)) (hnm : ∀ a, a < Nf → ∀ b, b < Nf → a ≠ b → (T a).2.1 ≠ (T b).2.1) (hc : vwCl[ci]? = some (C, T, Nf)) (j : Nat) (hj : j < Nf) (hlink : (Cond.fieldLink own index ref (T j).2.1 (T j).2.2.1) ∈ Ts) (href : (T j).1 = ref) (hfin : (T j).2.2.2 = true) (hin2 : gInit X) (hdecl : (T j).1 = own) {cn : String} (hty0 : parseFieldDescriptor (T j).2.2.1 = some (.object cn)) (hd : decode cc pc = .ok (.putfield index, 3)) : okO X pc (pc + 3) (oPutR ci j) := by
  obtain ⟨p, l, e, R, s, m, args, below, meth, c, D, cA, A, ag, ad0, Q, nL⟩ := X
  obtain ⟨hx, hb, hown, hts, hml, hlk, hY, hA, hR, hL0⟩ := hM
  have hK := hY.1
  intro J N hJ hN L S es k n h ad H locs ls hag hP hD hS hl
  unfold oPutR at h
  split at h
  · rename_i v a S'
    obtain ⟨fs, hes, h⟩ := eObj_ok h
    obtain ⟨hlen, h⟩ := bif_t h
    refine va_putF (fs := fs.map (gv ad)) (v := gv ad (.ref v)) (ty := .object cn) hx hb hts hin ty0 hty hnm hown hK hP hD hS a (gw_get hes) hc j hj (hts _ hlink) (fun x h9 => by rw [← href]; exact h9) hfin hin2 hdecl hty0 rfl rfl (by rw [List.length_map]; exact Nat.le_of_ble_eq_true hlen) hd (fun H1 locs1 hP1 hD1 hS1 => hN _ _ _ _ _ h ad H1 locs1 ls hag ?_ ?_ hS1 hl)
    · rw [← gw_set]; simp only [ge, List.map_set]; exact hP1
    · rw [← gw_set]; simp only [ge, List.map_set]; exact hD1
  · exact h.elim
theorem ok_putRAF (hM : gM X l0 cc own Ts R0) {ref C : String} {T : u_T} {Nf ci index : Nat} (hin : ∀ w ∈ u_ws C T Nf, w ∈ Ts) (ty0 : Nat → FieldType) (hty : ∀ k, k < Nf → parseFieldDescriptor (T k).2.2.1 = some (ty0 k)) (hnm : ∀ a, a < Nf → ∀ b, b < Nf → a ≠ b → (T a).2.1 ≠ (T b).2.1) (hc : vwCl[ci]? = some (C, T, Nf)) (j : Nat) (hj : j < Nf) (hlink : (Cond.fieldLink own index ref (T j).2.1 (T j).2.2.1) ∈ Ts) (href : (T j).1 = ref) (hfin : (T j).2.2.2 = true) (hin2 : gInit X) (hdecl : (T j).1 = own) {ct : FieldType} (hty0 : parseFieldDescriptor (T j).2.2.1 = some (.array ct)) (hd : decode cc pc = .ok (.putfield index, 3)) : okO X pc (pc + 3) (oPutR ci j) := by
  obtain ⟨p, l, e, R, s, m, args, below, meth, c, D, cA, A, ag, ad0, Q, nL⟩ := X
  obtain ⟨hx, hb, hown, hts, hml, hlk, hY, hA, hR, hL0⟩ := hM
  have hK := hY.1
  intro J N hJ hN L S es k n h ad H locs ls hag hP hD hS hl
  unfold oPutR at h
  split at h
  · rename_i v a S'
    obtain ⟨fs, hes, h⟩ := eObj_ok h
    obtain ⟨hlen, h⟩ := bif_t h
    refine va_putF (fs := fs.map (gv ad)) (v := gv ad (.ref v)) (ty := .array ct) hx hb hts hin ty0 hty hnm hown hK hP hD hS a (gw_get hes) hc j hj (hts _ hlink) (fun x h9 => by rw [← href]; exact h9) hfin hin2 hdecl hty0 rfl rfl (by rw [List.length_map]; exact Nat.le_of_ble_eq_true hlen) hd (fun H1 locs1 hP1 hD1 hS1 => hN _ _ _ _ _ h ad H1 locs1 ls hag ?_ ?_ hS1 hl)
    · rw [← gw_set]; simp only [ge, List.map_set]; exact hP1
    · rw [← gw_set]; simp only [ge, List.map_set]; exact hD1
  · exact h.elim
def oIALd (tg : Nat) : gO := fun J N L S es k n => match S with | .int i :: .ref a :: S' => eInt es a tg (fun sz f => ∃ j : Nat, i = nI j ∧ j < sz ∧ N L (.int (f j) :: S') es k n) | _ => False
theorem ok_iald (hM : gM X l0 cc own Ts R0) (hd : decode cc pc = .ok (.iaload, 1)) : okO X pc (pc + 1) (oIALd 0) := by
  obtain ⟨p, l, e, R, s, m, args, below, meth, c, D, cA, A, ag, ad0, Q, nL⟩ := X
  obtain ⟨hx, hb, hown, hts, hml, hlk, hY, hA, hR, hL0⟩ := hM
  have hK := hY.1
  intro J N hJ hN L S es k n h ad H locs ls hag hP hD hS hl
  unfold oIALd at h
  split at h
  · rename_i i a S'
    obtain ⟨sz, f, hes, hsz, j, rfl, hj, h⟩ := eInt_ok h
    have hc9 : (nI j).toNatClampNeg = j := nI_clamp (Nat.lt_trans hj hsz)
    exact va_iald hx hb hK hP a 0 (gw_get hes) rfl (vp_in_nI hj hsz) hd (by rw [hc9]; exact hN _ _ _ _ _ h ad H locs ls hag hP hD hS hl)
  · exact h.elim
theorem ok_cald (hM : gM X l0 cc own Ts R0) (hd : decode cc pc = .ok (.caload, 1)) : okO X pc (pc + 1) (oIALd 1) := by
  obtain ⟨p, l, e, R, s, m, args, below, meth, c, D, cA, A, ag, ad0, Q, nL⟩ := X
  obtain ⟨hx, hb, hown, hts, hml, hlk, hY, hA, hR, hL0⟩ := hM
  have hK := hY.1
  intro J N hJ hN L S es k n h ad H locs ls hag hP hD hS hl
  unfold oIALd at h
  split at h
  · rename_i i a S'
    obtain ⟨sz, f, hes, hsz, j, rfl, hj, h⟩ := eInt_ok h
    have hc9 : (nI j).toNatClampNeg = j := nI_clamp (Nat.lt_trans hj hsz)
    exact va_cald hx hb hK hP a 1 (gw_get hes) rfl (vp_in_nI hj hsz) hd (by rw [hc9]; exact hN _ _ _ _ _ h ad H locs ls hag hP hD hS hl)
  · exact h.elim
theorem ok_zald (hM : gM X l0 cc own Ts R0) (hd : decode cc pc = .ok (.baload, 1)) : okO X pc (pc + 1) (oIALd 2) := by
  obtain ⟨p, l, e, R, s, m, args, below, meth, c, D, cA, A, ag, ad0, Q, nL⟩ := X
  obtain ⟨hx, hb, hown, hts, hml, hlk, hY, hA, hR, hL0⟩ := hM
  have hK := hY.1
  intro J N hJ hN L S es k n h ad H locs ls hag hP hD hS hl
  unfold oIALd at h
  split at h
  · rename_i i a S'
    obtain ⟨sz, f, hes, hsz, j, rfl, hj, h⟩ := eInt_ok h
    have hc9 : (nI j).toNatClampNeg = j := nI_clamp (Nat.lt_trans hj hsz)
    exact va_zald hx hb hK hP a 2 (gw_get hes) rfl (vp_in_nI hj hsz) hd (by rw [hc9]; exact hN _ _ _ _ _ h ad H locs ls hag hP hD hS hl)
  · exact h.elim
def oIASt : gO := fun J N L S es k n => match S with | .int x :: .int i :: .ref a :: S' => eInt es a 0 (fun sz f => ∃ j : Nat, i = nI j ∧ j < sz ∧ N L S' (es.set a (.inl (0, sz, .inl (upd f j x)))) k n) | _ => False
theorem ok_iast (hM : gM X l0 cc own Ts R0) (hd : decode cc pc = .ok (.iastore, 1)) : okO X pc (pc + 1) oIASt := by
  obtain ⟨p, l, e, R, s, m, args, below, meth, c, D, cA, A, ag, ad0, Q, nL⟩ := X
  obtain ⟨hx, hb, hown, hts, hml, hlk, hY, hA, hR, hL0⟩ := hM
  have hK := hY.1
  intro J N hJ hN L S es k n h ad H locs ls hag hP hD hS hl
  unfold oIASt at h
  split at h
  · rename_i x i a S'
    obtain ⟨sz, f, hes, hsz, j, rfl, hj, h⟩ := eInt_ok h
    have hc9 : (nI j).toNatClampNeg = j := nI_clamp (Nat.lt_trans hj hsz)
    refine va_iast hx hb hK hP hD hS a 0 (gw_get hes) rfl (vp_in_nI hj hsz) hd (fun H1 locs1 hP1 hD1 hS1 => hN _ _ _ _ _ h ad H1 locs1 ls hag ?_ ?_ hS1 hl)
    · rw [hc9] at hP1
      rw [← gw_set]
      exact hP1
    · rw [hc9] at hD1
      rw [← gw_set]
      exact hD1
  · exact h.elim
def oCASt : gO := fun J N L S es k n => match S with | .int x :: .int i :: .ref a :: S' => eInt es a 1 (fun sz f => ∃ j : Nat, i = nI j ∧ j < sz ∧ vp_nar .char x = x ∧ N L S' (es.set a (.inl (1, sz, .inl (upd f j x)))) k n) | _ => False
theorem ok_cast (hM : gM X l0 cc own Ts R0) (hd : decode cc pc = .ok (.castore, 1)) : okO X pc (pc + 1) oCASt := by
  obtain ⟨p, l, e, R, s, m, args, below, meth, c, D, cA, A, ag, ad0, Q, nL⟩ := X
  obtain ⟨hx, hb, hown, hts, hml, hlk, hY, hA, hR, hL0⟩ := hM
  have hK := hY.1
  intro J N hJ hN L S es k n h ad H locs ls hag hP hD hS hl
  unfold oCASt at h
  split at h
  · rename_i x i a S'
    obtain ⟨sz, f, hes, hsz, j, rfl, hj, hnr, h⟩ := eInt_ok h
    have hc9 : (nI j).toNatClampNeg = j := nI_clamp (Nat.lt_trans hj hsz)
    refine va_cast hx hb hK hP hD hS a 1 (gw_get hes) rfl (vp_in_nI hj hsz) hd (fun H1 locs1 hP1 hD1 hS1 => hN _ _ _ _ _ h ad H1 locs1 ls hag ?_ ?_ hS1 hl)
    · rw [hc9, hnr] at hP1
      rw [← gw_set]
      exact hP1
    · rw [hc9, hnr] at hD1
      rw [← gw_set]
      exact hD1
  · exact h.elim
def oZASt : gO := fun J N L S es k n => match S with | .int x :: .int i :: .ref a :: S' => eInt es a 2 (fun sz f => ∃ j : Nat, i = nI j ∧ j < sz ∧ vp_nar .boolean x = x ∧ N L S' (es.set a (.inl (2, sz, .inl (upd f j x)))) k n) | _ => False
theorem ok_zast (hM : gM X l0 cc own Ts R0) (hd : decode cc pc = .ok (.bastore, 1)) : okO X pc (pc + 1) oZASt := by
  obtain ⟨p, l, e, R, s, m, args, below, meth, c, D, cA, A, ag, ad0, Q, nL⟩ := X
  obtain ⟨hx, hb, hown, hts, hml, hlk, hY, hA, hR, hL0⟩ := hM
  have hK := hY.1
  intro J N hJ hN L S es k n h ad H locs ls hag hP hD hS hl
  unfold oZASt at h
  split at h
  · rename_i x i a S'
    obtain ⟨sz, f, hes, hsz, j, rfl, hj, hnr, h⟩ := eInt_ok h
    have hc9 : (nI j).toNatClampNeg = j := nI_clamp (Nat.lt_trans hj hsz)
    refine va_zast hx hb hK hP hD hS a 2 (gw_get hes) rfl (vp_in_nI hj hsz) hd (fun H1 locs1 hP1 hD1 hS1 => hN _ _ _ _ _ h ad H1 locs1 ls hag ?_ ?_ hS1 hl)
    · rw [hc9, hnr] at hP1
      rw [← gw_set]
      exact hP1
    · rw [hc9, hnr] at hD1
      rw [← gw_set]
      exact hD1
  · exact h.elim
def oAALd : gO := fun J N L S es k n => match S with | .int i :: .ref a :: S' => eRef es a 5 (fun sz r => ∃ j : Nat, i = nI j ∧ j < sz ∧ (match rnth r j with | some (some q) => N L (.ref q :: S') es k n | _ => False)) | _ => False
theorem ok_aald (hM : gM X l0 cc own Ts R0) (hd : decode cc pc = .ok (.aaload, 1)) : okO X pc (pc + 1) oAALd := by
  obtain ⟨p, l, e, R, s, m, args, below, meth, c, D, cA, A, ag, ad0, Q, nL⟩ := X
  obtain ⟨hx, hb, hown, hts, hml, hlk, hY, hA, hR, hL0⟩ := hM
  have hK := hY.1
  intro J N hJ hN L S es k n h ad H locs ls hag hP hD hS hl
  unfold oAALd at h
  split at h
  · rename_i i a S'
    obtain ⟨sz, r, hes, hsz, j, rfl, hj, h⟩ := eRef_ok h
    split at h
    · rename_i q hq
      rw [rnth_eq] at hq
      have hc9 : (nI j).toNatClampNeg = j := nI_clamp (Nat.lt_trans hj hsz)
      have hq9 : r.getD j none = some q := by rw [List.getD_eq_getElem?_getD, hq]; rfl
      exact va_aldq (C := RX4) hx hb hK hP a 5 (gw_get hes) rfl (vp_in_nI hj hsz) hd (by rw [hc9]; simp only [hq9]; exact hN _ _ _ _ _ h ad H locs ls hag hP hD hS hl)
    · exact h.elim
  · exact h.elim
def oALen : gO := fun J N L S es k n => match S with | .ref a :: S' => eInt es a 0 (fun sz _ => N L (.int (nI sz) :: S') es k n) | _ => False
theorem ok_alen (hM : gM X l0 cc own Ts R0) (hd : decode cc pc = .ok (.arraylength, 1)) : okO X pc (pc + 1) oALen := by
  obtain ⟨p, l, e, R, s, m, args, below, meth, c, D, cA, A, ag, ad0, Q, nL⟩ := X
  obtain ⟨hx, hb, hown, hts, hml, hlk, hY, hA, hR, hL0⟩ := hM
  have hK := hY.1
  intro J N hJ hN L S es k n h ad H locs ls hag hP hD hS hl
  unfold oALen at h
  split at h
  · rename_i a S'
    obtain ⟨sz, f, hes, hsz, h⟩ := eInt_ok h
    exact va_alen (x := (sz, .inl f)) hx hb hK hP a 0 (gw_get hes) rfl rfl hd (hN _ _ _ _ _ h ad H locs ls hag hP hD hS hl)
  · exact h.elim
def scat : List Value → Nat
  | [] => 0
  | v :: S => (bif cat2 v then 2 else 1) + scat S
theorem scat_eq (ad : Nat → Nat) : ∀ S : List Value, ((S.map (gv ad)).map fun v => v.category).sum = scat S
  | [] => rfl
  | v :: S => by
    have := scat_eq ad S
    simp only [List.map_cons, List.sum_cons, scat, this]
    cases v <;> rfl
def oCopy (rl : Nat) : gO := fun J N L S es k n => match S with | .int z :: .int dp :: .ref b :: .int sp :: .ref a :: S' => eInt es a 0 (fun sz f => eInt es b 0 (fun sz' g => gif (Nat.ble (scat S' + 40) rl) (∃ zz : Nat, z = nI zz ∧ sp = nI 0 ∧ dp = nI 0 ∧ zz ≤ sz ∧ zz ≤ sz' ∧ N L S' (es.set b (.inl (0, sz', .inl (va_cpy f g 0 0 zz)))) k n))) | _ => False
theorem ok_copy (hM : gM X l0 cc own Ts R0) {index : Nat} (hlink : (Cond.methodLink own index arraycopyName) ∈ Ts) (hnat : (Cond.native arraycopyName) ∈ Ts) (hstat : (Cond.static arraycopyName) ∈ Ts) (hini : (Cond.initialized "java/lang/System") ∈ Ts) (hfr : 1 ≤ R0.frames) (hw40 : nativeFrameWords "java/lang/System" "arraycopy" 5 + 11 ≤ 40) (hd : decode cc pc = .ok (.invokestatic index, 3)) : okO X pc (pc + 3) (oCopy R0.locals) := by
  obtain ⟨p, l, e, R, s, m, args, below, meth, c, D, cA, A, ag, ad0, Q, nL⟩ := X
  obtain ⟨hx, hb, hown, hts, hml, hlk, hY, hA, hR, hL0⟩ := hM
  have hK := hY.1
  intro J N hJ hN L S es k n h ad H locs ls hag hP hD hS hl
  subst hR
  unfold oCopy at h
  split at h
  · rename_i z dp b sp a S'
    obtain ⟨sz, f, hes, hsz, h⟩ := eInt_ok h
    obtain ⟨sz', g, hes', hsz', h⟩ := eInt_ok h
    obtain ⟨h5, h⟩ := bif_t h
    obtain ⟨zz, rfl, rfl, rfl, hz1, hz2, h⟩ := h
    have hzz : zz < 2 ^ 31 := Nat.lt_of_le_of_lt hz1 hsz
    have c0 : (nI 0).toNatClampNeg = 0 := nI_clamp (by decide)
    have cz : (nI zz).toNatClampNeg = zz := nI_clamp hzz
    have h5 := Nat.le_of_ble_eq_true h5
    refine va_copyi (ty := .int) (c0 := cA 0) (c1 := cA 0) hx hb (hml.trans hl.1.symm) hown (hts _ hlink) (hts _ hnat) (hts _ hstat) (hts _ hini) hK hP hD hS a b 0 0 (gw_get hes) (gw_get hes') rfl rfl rfl (nI_pos (by decide)) (nI_pos (by decide)) (nI_pos hzz) (by rw [c0, cz]; omega) (by rw [c0, cz]; omega) (fun _ _ => rfl) hfr (by rw [scat_eq]; omega) hd (fun H1 locs1 hP1 hD1 hS1 => hN _ _ _ _ _ h ad H1 locs1 ls hag ?_ ?_ hS1 hl)
    · rw [c0, cz] at hP1
      rw [← gw_set]
      exact hP1
    · rw [c0, cz] at hD1
      rw [← gw_set]
      exact hD1
  · exact h.elim
def oMax (rl rc rs : Nat) : gO := fun J N L S es k n => match S with | .int y :: .int x :: S' => gif (Nat.ble (scat S' + 13) rl && (Nat.ble k rc && Nat.ble n rs)) (N L (.int (if x < y then y else x) :: S') es k n) | _ => False
theorem ok_max (hM : gM X l0 cc own Ts R0) {index : Nat} (hlink : (Cond.methodLink own index Lib.Math.max.name) ∈ Ts) (hstat : (Cond.static Lib.Math.max.name) ∈ Ts) (hini : (Cond.initialized "java/lang/Math") ∈ Ts) (hcode : (Cond.code Lib.Math.max.name Lib.Math.max.code 2 (some .int)) ∈ Ts) (hfr : 1 ≤ R0.frames) (hd : decode cc pc = .ok (.invokestatic index, 3)) : okO X pc (pc + 3) (oMax R0.locals R0.cells R0.slots) := by
  obtain ⟨p, l, e, R, s, m, args, below, meth, c, D, cA, A, ag, ad0, Q, nL⟩ := X
  obtain ⟨hx, hb, hown, hts, hml, hlk, hY, hA, hR, hL0⟩ := hM
  have hK := hY.1
  intro J N hJ hN L S es k n h ad H locs ls hag hP hD hS hl
  subst hR
  unfold oMax at h
  split at h
  · obtain ⟨hcc, h⟩ := bif_t h
    obtain ⟨h1, hcc⟩ := and_t hcc
    obtain ⟨h2, h3⟩ := and_t hcc
    exact va_mmax hx hb (hml.trans hl.1.symm) hown (hts _ hlink) (hts _ hstat) (hts _ hini) (hts _ hcode) hfr (by rw [scat_eq]; exact Nat.le_of_ble_eq_true h1) (Nat.le_of_ble_eq_true h2) (Nat.le_of_ble_eq_true h3) hd (hN _ _ _ _ _ h ad H locs ls hag hP hD hS hl)
  · exact h.elim
def oRet (K : gK) (mc ms : Nat) : gO := fun J N L S es k n => match S with | [.int r] => gif (Nat.ble k mc && Nat.ble n ms) (K (some (.int r)) es) | _ => False
def oRetZ (K : gK) (mc ms : Nat) : gO := fun J N L S es k n => match S with | [.int r] => gif (Nat.ble k mc && Nat.ble n ms) ((r = 0 ∨ r = 1) ∧ K (some (.int r)) es) | _ => False
def oRetD (K : gK) (mc ms : Nat) : gO := fun J N L S es k n => match S with | [.double r] => gif (Nat.ble k mc && Nat.ble n ms) (K (some (.double r)) es) | _ => False
def oRetV (K : gK) (mc ms : Nat) : gO := fun J N L S es k n => match S with | [] => gif (Nat.ble k mc && Nat.ble n ms) (K none es) | _ => False
theorem ok_ret (hM : gM X l0 cc own Ts R0) {nx : Nat} {K : gK} {mc ms : Nat} (hE : gR X K mc ms (some .int)) (hd : decode cc pc = .ok (.ireturn, 1)) : okO X pc nx (oRet K mc ms) := by
  obtain ⟨p, l, e, R, s, m, args, below, meth, c, D, cA, A, ag, ad0, Q, nL⟩ := X
  obtain ⟨hx, hb, hown, hts, hml, hlk, hY, hA, hR, hL0⟩ := hM
  have hK := hY.1
  intro J N hJ hN L S es k n h ad H locs ls hag hP hD hS hl
  obtain ⟨hret, hE⟩ := hE
  unfold oRet at h
  split at h
  · obtain ⟨hcc, h⟩ := bif_t h
    obtain ⟨h1, h2⟩ := and_t hcc
    skip
    refine W.widen (Nat.le_of_ble_eq_true h1) (Nat.le_of_ble_eq_true h2) (hE _ _ _ ?_)
    exact W.iret hx hb hret (fun t ht hW => ⟨⟨some (.int _), es, ad, rfl, h, hag, by rw [ht]; exact hP, hD⟩, hS.F ht⟩) hS.2.2 hd hlk
  · exact h.elim
theorem ok_retZ (hM : gM X l0 cc own Ts R0) {nx : Nat} {K : gK} {mc ms : Nat} (hE : gR X K mc ms (some .boolean)) (hd : decode cc pc = .ok (.ireturn, 1)) : okO X pc nx (oRetZ K mc ms) := by
  obtain ⟨p, l, e, R, s, m, args, below, meth, c, D, cA, A, ag, ad0, Q, nL⟩ := X
  obtain ⟨hx, hb, hown, hts, hml, hlk, hY, hA, hR, hL0⟩ := hM
  have hK := hY.1
  intro J N hJ hN L S es k n h ad H locs ls hag hP hD hS hl
  obtain ⟨hret, hE⟩ := hE
  unfold oRetZ at h
  split at h
  · obtain ⟨hcc, h⟩ := bif_t h
    obtain ⟨h1, h2⟩ := and_t hcc
    obtain ⟨hz, h⟩ := h
    refine W.widen (Nat.le_of_ble_eq_true h1) (Nat.le_of_ble_eq_true h2) (hE _ _ _ ?_)
    exact W.zret hx hb hret (by rcases hz with rfl | rfl <;> rfl) (fun t ht hW => ⟨⟨some (.int _), es, ad, rfl, h, hag, by rw [ht]; exact hP, hD⟩, hS.F ht⟩) hS.2.2 hd hlk
  · exact h.elim
theorem ok_retD (hM : gM X l0 cc own Ts R0) {nx : Nat} {K : gK} {mc ms : Nat} (hE : gR X K mc ms (some .double)) (hd : decode cc pc = .ok (.dreturn, 1)) : okO X pc nx (oRetD K mc ms) := by
  obtain ⟨p, l, e, R, s, m, args, below, meth, c, D, cA, A, ag, ad0, Q, nL⟩ := X
  obtain ⟨hx, hb, hown, hts, hml, hlk, hY, hA, hR, hL0⟩ := hM
  have hK := hY.1
  intro J N hJ hN L S es k n h ad H locs ls hag hP hD hS hl
  obtain ⟨hret, hE⟩ := hE
  unfold oRetD at h
  split at h
  · obtain ⟨hcc, h⟩ := bif_t h
    obtain ⟨h1, h2⟩ := and_t hcc
    skip
    refine W.widen (Nat.le_of_ble_eq_true h1) (Nat.le_of_ble_eq_true h2) (hE _ _ _ ?_)
    exact W.dret hx hb hret (fun t ht hW => ⟨⟨some (.double _), es, ad, rfl, h, hag, by rw [ht]; exact hP, hD⟩, hS.F ht⟩) hS.2.2 hd hlk
  · exact h.elim
theorem ok_retV (hM : gM X l0 cc own Ts R0) {nx : Nat} {K : gK} {mc ms : Nat} (hE : gR X K mc ms none) (hd : decode cc pc = .ok (.return_, 1)) : okO X pc nx (oRetV K mc ms) := by
  obtain ⟨p, l, e, R, s, m, args, below, meth, c, D, cA, A, ag, ad0, Q, nL⟩ := X
  obtain ⟨hx, hb, hown, hts, hml, hlk, hY, hA, hR, hL0⟩ := hM
  have hK := hY.1
  intro J N hJ hN L S es k n h ad H locs ls hag hP hD hS hl
  obtain ⟨hret, hE⟩ := hE
  unfold oRetV at h
  split at h
  · obtain ⟨hcc, h⟩ := bif_t h
    obtain ⟨h1, h2⟩ := and_t hcc
    skip
    refine W.widen (Nat.le_of_ble_eq_true h1) (Nat.le_of_ble_eq_true h2) (hE _ _ _ ?_)
    exact W.vret hx hb hret (fun t ht hW => ⟨⟨none, es, ad, rfl, h, hag, by rw [ht]; exact hP, hD⟩, hS.F ht⟩) hS.2.2 hd hlk
  · exact h.elim
end GS
end
section
/-! Contracts, and calls of them. -/
section GC
/-- a number in the callee's count; what isn't handed over keeps its number, far out -/
def gixA : List Nat → Nat → Nat → Nat
  | [], k, _ => 1000 + k
  | i :: is, k, j => bif Nat.beq i k then j else gixA is k (j + 1)
def gix (ids : List Nat) (k : Nat) : Nat := gixA ids k 0
def gidO : List Nat → Nat → Option Nat
  | [], _ => none
  | i :: _, 0 => some i
  | _ :: is, k + 1 => gidO is k
def gid (ids : List Nat) (k : Nat) : Nat := match gidO ids k with
  | some i => i
  | none => k - 1000
theorem gidO_eq : ∀ (ids : List Nat) (j : Nat), gidO ids j = ids[j]?
  | [], _ => by simp [gidO]
  | _ :: _, 0 => rfl
  | _ :: is, j + 1 => by simpa [gidO] using gidO_eq is j
theorem gixA_ok : ∀ (ids : List Nat) (k j : Nat), (∃ m, gixA ids k j = j + m ∧ ids[m]? = some k) ∨ gixA ids k j = 1000 + k
  | [], k, j => Or.inr rfl
  | i :: is, k, j => by
    unfold gixA
    cases hb : Nat.beq i k with
    | true => exact Or.inl ⟨0, rfl, by rw [Nat.eq_of_beq_eq_true hb]; rfl⟩
    | false =>
      rcases gixA_ok is k (j + 1) with ⟨m, h1, h2⟩ | h
      · exact Or.inl ⟨m + 1, by show gixA is k (j + 1) = _; rw [h1]; omega, by simpa using h2⟩
      · exact Or.inr h
theorem gix_ok {ids : List Nat} {k : Nat} (hl : ids.length ≤ 1000) : gid ids (gix ids k) = k := by
  unfold gid gix
  rcases gixA_ok ids k 0 with ⟨m, h1, h2⟩ | h
  · rw [h1, gidO_eq, Nat.zero_add, h2]
  · rw [h, gidO_eq, List.getElem?_eq_none (by omega)]
    show 1000 + k - 1000 = k
    omega
theorem gid_eq {ids : List Nat} {j i : Nat} (h : ids[j]? = some i) : gid ids j = i := by
  unfold gid
  rw [gidO_eq, h]
def canV (ids : List Nat) : Value → Value
  | .ref k => .ref (gix ids k)
  | v => v
def canE (ids : List Nat) : gE → gE
  | .inr (c, fs) => .inr (c, fs.map (canV ids))
  | .inl (t, n, .inl f) => .inl (t, n, .inl f)
  | .inl (t, n, .inr (.inl f)) => .inl (t, n, .inr (.inl f))
  | .inl (t, n, .inr (.inr (.inl f))) => .inl (t, n, .inr (.inr (.inl f)))
  | .inl (t, n, .inr (.inr (.inr r))) => .inl (t, n, .inr (.inr (.inr (r.map (Option.map (gix ids))))))
def renV (σ : Nat → Nat) : Value → Value
  | .ref k => .ref (σ k)
  | v => v
def renE (σ : Nat → Nat) : gE → gE
  | .inr (c, fs) => .inr (c, fs.map (renV σ))
  | .inl (t, n, .inl f) => .inl (t, n, .inl f)
  | .inl (t, n, .inr (.inl f)) => .inl (t, n, .inr (.inl f))
  | .inl (t, n, .inr (.inr (.inl f))) => .inl (t, n, .inr (.inr (.inl f)))
  | .inl (t, n, .inr (.inr (.inr r))) => .inl (t, n, .inr (.inr (.inr (r.map (Option.map σ)))))
theorem can_v {ids : List Nat} {ad : Nat → Nat} {v : Value} (h : ids.length ≤ 1000) : gv (fun k => ad (gid ids k)) (canV ids v) = gv ad v := by
  cases v <;> first | rfl | (simp only [canV, gv]; rw [gix_ok h])
theorem can_vs {ids : List Nat} {ad : Nat → Nat} (h : ids.length ≤ 1000) : ∀ (vs : List Value), (vs.map (canV ids)).map (gv (fun k => ad (gid ids k))) = vs.map (gv ad)
  | [] => rfl
  | v :: vs => by
    simp only [List.map_cons, can_v h]
    rw [can_vs h vs]
theorem can_q {ids : List Nat} {ad : Nat → Nat} (h : ids.length ≤ 1000) : ∀ (r : List (Option Nat)) (j : Nat), ((r.map (Option.map (gix ids))).getD j none).map (fun k => ad (gid ids k)) = (r.getD j none).map ad
  | [], j => by simp
  | q :: r, 0 => by
    cases q with
    | none => rfl
    | some k => simp only [List.map_cons, List.getD_cons_zero, Option.map_some]; rw [gix_ok h]
  | q :: r, j + 1 => by simpa using can_q h r j
theorem can_e {ids : List Nat} {ad : Nat → Nat} {cA : Nat → ClassId} {e : gE} (h : ids.length ≤ 1000) : ge cA (fun k => ad (gid ids k)) (canE ids e) = ge cA ad e := by
  rcases e with ⟨t, n, f | f | f | r⟩ | ⟨c, fs⟩
  · rfl
  · rfl
  · rfl
  · simp only [canE, ge]
    have : (fun j => ((r.map (Option.map (gix ids))).getD j none).map (fun k => ad (gid ids k))) = fun j => (r.getD j none).map ad := funext (can_q h r)
    rw [this]
  · simp only [canE, ge]
    rw [can_vs h]
theorem ren_v {σ ad : Nat → Nat} (v : Value) : gv ad (renV σ v) = gv (fun k => ad (σ k)) v := by cases v <;> rfl
theorem ren_e {σ ad : Nat → Nat} {cA : Nat → ClassId} (e : gE) : ge cA ad (renE σ e) = ge cA (fun k => ad (σ k)) e := by
  rcases e with ⟨t, n, f | f | f | r⟩ | ⟨c, fs⟩
  · rfl
  · rfl
  · rfl
  · simp only [renE, ge]
    have : (fun j => ((r.map (Option.map σ)).getD j none).map ad) = fun j => (r.getD j none).map (fun k => ad (σ k)) := by
      funext j
      rw [List.getD_eq_getElem?_getD, List.getD_eq_getElem?_getD, List.getElem?_map]
      cases r[j]? with
      | none => rfl
      | some q => cases q <;> rfl
    rw [this]
  · simp only [renE, ge, List.map_map]
    have : (gv ad ∘ renV σ) = gv (fun k => ad (σ k)) := funext ren_v
    rw [this]
def gpick (es : List gE) : List Nat → Option (List gE)
  | [] => some []
  | i :: is => match gnth es i with
    | some e => match gpick es is with
      | some l => some (e :: l)
      | none => none
    | none => none
theorem gpick_ok {es : List gE} : ∀ {ids : List Nat} {l : List gE}, gpick es ids = some l → l.length = ids.length ∧ ∀ j i : Nat, ids[j]? = some i → ∃ e, es[i]? = some e ∧ l[j]? = some e
  | [], l, h => by
    cases h
    exact ⟨rfl, fun j i hj => by simp at hj⟩
  | i :: is, l, h => by
    unfold gpick at h
    cases he : gnth es i with
    | none => rw [he] at h; cases h
    | some e =>
      cases hl : gpick es is with
      | none => rw [he, hl] at h; cases h
      | some l' =>
        rw [he, hl] at h
        cases h
        obtain ⟨h1, h2⟩ := gpick_ok hl
        refine ⟨by simp [h1], fun j k hj => ?_⟩
        cases j with
        | zero =>
          simp at hj
          subst hj
          rw [gnth_eq] at he
          exact ⟨e, he, rfl⟩
        | succ j =>
          obtain ⟨e', h3, h4⟩ := h2 j k (by simpa using hj)
          exact ⟨e', h3, by simpa using h4⟩
def gput : List gE → List Nat → List gE → List gE
  | es, i :: is, f :: fs => gput (es.set i f) is fs
  | es, _, _ => es
theorem gput_len : ∀ {ids : List Nat} {es fs : List gE}, (gput es ids fs).length = es.length
  | [], es, [] => rfl
  | [], es, _ :: _ => rfl
  | _ :: _, es, [] => rfl
  | i :: is, es, f :: fs => by rw [gput, gput_len]; simp
theorem gput_out : ∀ {ids : List Nat} {es fs : List gE} {i : Nat}, i ∉ ids → (gput es ids fs)[i]? = es[i]?
  | [], es, [], _, _ => rfl
  | [], es, _ :: _, _, _ => rfl
  | _ :: _, es, [], _, _ => rfl
  | j :: is, es, f :: fs, i, h => by
    rw [gput, gput_out (fun q => h (List.mem_cons_of_mem _ q)), List.getElem?_set_ne (fun q => h (by rw [q]; exact List.mem_cons_self))]
theorem gput_in : ∀ {ids : List Nat} {es fs : List gE} {j i : Nat} {f : gE}, va_nd ids = true → ids[j]? = some i → fs[j]? = some f → i < es.length → (gput es ids fs)[i]? = some f
  | [], _, _, _, _, _, _, h, _, _ => by simp at h
  | _ :: _, _, [], _, _, _, _, _, h, _ => by simp at h
  | k :: is, es, g :: fs, j, i, f, hn, h1, h2, h3 => by
    simp only [va_nd, Bool.and_eq_true, decide_eq_true_eq] at hn
    cases j with
    | zero =>
      simp at h1 h2
      subst h1
      subst h2
      rw [gput, gput_out hn.1]
      simp [h3]
    | succ j =>
      rw [gput]
      exact gput_in hn.2 (by simpa using h1) (by simpa using h2) (by simpa using h3)
def gtake : Nat → List Value → List Value → Option (List Value × List Value)
  | 0, acc, S => some (acc, S)
  | k + 1, acc, v :: S => gtake k (v :: acc) S
  | _ + 1, _, [] => none
theorem gtake_ok : ∀ {k : Nat} {acc S av S' : List Value}, gtake k acc S = some (av, S') → ∃ pre : List Value, av = pre ++ acc ∧ S = pre.reverse ++ S' ∧ pre.length = k
  | 0, acc, S, av, S', h => by
    cases h
    exact ⟨[], rfl, rfl, rfl⟩
  | k + 1, acc, [], av, S', h => by cases h
  | k + 1, acc, v :: S, av, S', h => by
    obtain ⟨pre, h1, h2, h3⟩ := gtake_ok (k := k) h
    exact ⟨pre ++ [v], by simp [h1], by simp [h2], by simp [h3]⟩
-- a contract
def agr : Bool → Nat → Nat → Prop
  | true, n, i => i < n
  | false, _, _ => True
def gPc (D : va_G) (cA : Nat → ClassId) (ad : Nat → Nat) (sz : Nat) (av : List Value) (es : List gE) : Array Value → State → Prop := va_Pc (av.map (gv ad)) (fun U => U.heap.size = sz ∧ va_P D vwCl (gw cA ad es) U.heap ∧ gY D cA (va_A (gw cA ad es) sz) U U.heap ∧ va_D (fun _ => True) (gw cA ad es))
abbrev gS : Type := List Value → List gE → gK → Prop
def Ct (l : Launch) (y : MethodName) (ws : List Cond) (rm : Room) (mc ms : Nat) (al : Bool) (sp : gS) : Prop := ∀ (D : va_G) (cA : Nat → ClassId) (ad : Nat → Nat) (sz : Nat) (av : List Value) (es : List gE) (K : gK), sp av es K → Met l y ws rm (gPc D cA ad sz av es) (gQ D cA ad (agr al es.length) (va_A (gw cA ad es) sz) K) mc ms (va_A (gw cA ad es) sz)
theorem gPc_blind {D : va_G} {cA : Nat → ClassId} {ad : Nat → Nat} {sz : Nat} {av : List Value} {es : List gE} : FrameBlind (gPc D cA ad sz av es) :=
  fun a U g mk q => by
    obtain ⟨q0, q1, qP, qY, qD⟩ := q
    exact ⟨q0, q1, qP, gY.same (u := U) (U := U.calling g mk a) rfl qY, qD⟩
theorem lv_args_map (ad : Nat → Nat) : ∀ (i : Nat) (av : List Value), lv_args i (av.map (gv ad)) = lmap ad (lv_args i av)
  | _, [] => rfl
  | i, v :: av => by
    simp only [List.map_cons, lv_args, gv_cat]
    rw [lv_args_map ad _ av]
theorem lg_sl_len (ad : Nat → Nat) (av : List Value) : (lg_sl (av.map (gv ad))).length = (lg_sl av).length := by
  induction av with
  | nil => rfl
  | cons v av ih =>
    simp only [lg_sl, List.map_cons, List.flatMap_cons, List.length_append] at ih ⊢
    rw [ih]
    cases v <;> rfl
/-- the world of the callee: picked out of the caller's -/
theorem gsub_at {cA : Nat → ClassId} {ad : Nat → Nat} {es esc : List gE} {ids : List Nat} (hp : gpick es ids = some esc) (hok : ids.length ≤ 1000) {j : Nat} {q : Nat × va_E} (h : (gw cA (fun k => ad (gid ids k)) (esc.map (canE ids)))[j]? = some q) : ∃ i e, ids[j]? = some i ∧ es[i]? = some e ∧ esc[j]? = some e ∧ q = (ad i, ge cA ad e) := by
  obtain ⟨h1, h2⟩ := gpick_ok hp
  rw [gw_at, List.getElem?_map] at h
  cases hj : esc[j]? with
  | none => rw [hj] at h; cases h
  | some e =>
    rw [hj] at h
    have hlt : j < ids.length := by rw [← h1]; exact (List.getElem?_eq_some_iff.mp hj).1
    obtain ⟨e', h3, h4⟩ := h2 j ids[j] (List.getElem?_eq_getElem hlt)
    rw [hj] at h4
    cases h4
    have hi : ids[j]? = some ids[j] := List.getElem?_eq_getElem hlt
    refine ⟨ids[j], e, hi, h3, rfl, ?_⟩
    simp only [Option.map_some] at h
    rw [can_e hok, gid_eq hi] at h
    exact (Option.some.inj h).symm
theorem gsub_P {D : va_G} {cA : Nat → ClassId} {ad : Nat → Nat} {es esc : List gE} {ids : List Nat} {H : Heap} (hp : gpick es ids = some esc) (hok : ids.length ≤ 1000) (hP : va_P D vwCl (gw cA ad es) H) : va_P D vwCl (gw cA (fun k => ad (gid ids k)) (esc.map (canE ids))) H := by
  intro j q h
  obtain ⟨i, e, -, h3, -, rfl⟩ := gsub_at hp hok h
  exact hP i _ (gw_get h3)
theorem gsub_D {cA : Nat → ClassId} {ad : Nat → Nat} {es esc : List gE} {ids : List Nat} {A B : Nat → Prop} (hp : gpick es ids = some esc) (hok : ids.length ≤ 1000) (hn : va_nd ids = true) (hD : va_D A (gw cA ad es)) (hB : ∀ q, A q → B q) : va_D B (gw cA (fun k => ad (gid ids k)) (esc.map (canE ids))) := by
  refine ⟨fun j j' q q' h h' he => ?_, fun j q h => ?_⟩
  · obtain ⟨i, e, h1, h3, -, rfl⟩ := gsub_at hp hok h
    obtain ⟨i', e', h1', h3', -, rfl⟩ := gsub_at hp hok h'
    have := hD.1 i i' _ _ (gw_get h3) (gw_get h3') he
    subst this
    exact va_nd_inj ids hn j j' i h1 h1'
  · obtain ⟨i, e, h1, h3, -, rfl⟩ := gsub_at hp hok h
    exact hB _ (hD.2 i _ (gw_get h3))
theorem gsub_F {cA : Nat → ClassId} {ad : Nat → Nat} {es esc : List gE} {ids : List Nat} {A : Nat → Prop} {H0 H : Heap} {locs : List Loc} (hp : gpick es ids = some esc) (hok : ids.length ≤ 1000) (hD : va_D A (gw cA ad es)) (hS : va_S A H0 H locs) (hA : ∀ q, H0.size ≤ q → A q) : ∀ q, va_A (gw cA (fun k => ad (gid ids k)) (esc.map (canE ids))) H.size q → A q := by
  intro q h
  rcases h with ⟨k, e, h⟩ | h
  · obtain ⟨i, e', h1, h3, -, h5⟩ := gsub_at hp hok h
    have := hD.2 i _ (gw_get h3)
    rw [show q = ad i from congrArg Prod.fst h5]
    exact this
  · exact hA q (Nat.le_trans hS.1 h)
theorem g_pre {D : va_G} {cA : Nat → ClassId} {ad : Nat → Nat} {s : State} {es esc : List gE} {ids : List Nat} {A : Nat → Prop} {H : Heap} {locs : List Loc} {av : List Value} (hp : gpick es ids = some esc) (hok : ids.length ≤ 1000) (hn : va_nd ids = true) (hY : gY D cA A s s.heap) (hP : va_P D vwCl (gw cA ad es) H) (hD : va_D A (gw cA ad es)) (hS : va_S A s.heap H locs) (hA : ∀ q, s.heap.size ≤ q → A q) :
    ∀ U : State, U.heap = H → s.WarmedH U.vm → gPc D cA (fun k => ad (gid ids k)) H.size (av.map (canV ids)) (esc.map (canE ids)) (av.map (gv ad)).toArray U := by
  intro U hU hW
  refine ⟨by rw [can_vs hok], by rw [hU], by rw [hU]; exact gsub_P hp hok hP, ?_, gsub_D hp hok hn hD (fun _ _ => trivial)⟩
  exact gY.call hY hS (gsub_F hp hok hD hS hA) hW hU
/-- behind a call that makes nothing -/
theorem g_join {D : va_G} {cA : Nat → ClassId} {ad : Nat → Nat} {es esc es' : List gE} {ids : List Nat} {A : Nat → Prop} {H H1 : Heap} (hp : gpick es ids = some esc) (hok : ids.length ≤ 1000) (hn : va_nd ids = true) (hP : va_P D vwCl (gw cA ad es) H) (hD : va_D A (gw cA ad es)) (hlen : es'.length = ids.length)
    (hk : ∀ q : Nat, q < H.size → ¬ va_A (gw cA (fun k => ad (gid ids k)) (esc.map (canE ids))) H.size q → H1[q]? = H[q]?) (hP1 : va_P D vwCl (gw cA (fun k => ad (gid ids k)) es') H1) :
    va_P D vwCl (gw cA ad (gput es ids (es'.map (renE (gid ids))))) H1 ∧ va_D A (gw cA ad (gput es ids (es'.map (renE (gid ids))))) := by
  have hi_of : ∀ i : Nat, i ∈ ids → ∃ j, ids[j]? = some i := fun i h => List.getElem?_of_mem h
  obtain ⟨hl1, hl2⟩ := gpick_ok hp
  refine ⟨fun i q h => ?_, fun i j p q h h' he => ?_, fun i q h => ?_⟩
  · rw [gw_at] at h
    cases hg : (gput es ids (es'.map (renE (gid ids))))[i]? with
    | none => rw [hg] at h; cases h
    | some e =>
      rw [hg] at h
      cases h
      have hil : i < es.length := by
        have := (List.getElem?_eq_some_iff.mp hg).1
        rwa [gput_len] at this
      by_cases hm : i ∈ ids
      · obtain ⟨j, hj⟩ := hi_of i hm
        have hjl : j < es'.length := by rw [hlen]; exact (List.getElem?_eq_some_iff.mp hj).1
        have hej : es'[j]? = some es'[j] := List.getElem?_eq_getElem hjl
        have := gput_in (es := es) (fs := es'.map (renE (gid ids))) (f := renE (gid ids) es'[j]) hn hj (by rw [List.getElem?_map, hej]; rfl) hil
        rw [hg] at this
        cases this
        have h9 := hP1 j _ (gw_get hej)
        rw [gid_eq hj] at h9
        show va_at D vwCl (ad i, ge cA ad (renE (gid ids) es'[j])) H1
        rw [ren_e]
        exact h9
      · rw [gput_out hm] at hg
        refine (hP i _ (gw_get hg)).kept (hk (ad i) ?_ ?_)
        · exact (hP i _ (gw_get hg)).lt
        · intro h
          rcases h with ⟨k, e', h⟩ | h
          · obtain ⟨i', e2, h1, h3, -, h5⟩ := gsub_at hp hok h
            have h6 : ad i = ad i' := congrArg Prod.fst h5
            have hii := hD.1 i i' _ _ (gw_get hg) (gw_get h3) h6
            subst hii
            exact hm (List.mem_of_getElem? h1)
          · have := (hP i _ (gw_get hg)).lt
            simp only at this
            omega
  · rw [gw_at] at h h'
    cases hg : (gput es ids (es'.map (renE (gid ids))))[i]? with
    | none => rw [hg] at h; cases h
    | some e =>
      cases hg' : (gput es ids (es'.map (renE (gid ids))))[j]? with
      | none => rw [hg'] at h'; cases h'
      | some e' =>
        rw [hg] at h
        rw [hg'] at h'
        cases h
        cases h'
        have hil : i < es.length := by
          have := (List.getElem?_eq_some_iff.mp hg).1
          rwa [gput_len] at this
        have hjl : j < es.length := by
          have := (List.getElem?_eq_some_iff.mp hg').1
          rwa [gput_len] at this
        exact hD.1 i j _ _ (gw_get (List.getElem?_eq_getElem hil)) (gw_get (List.getElem?_eq_getElem hjl)) he
  · rw [gw_at] at h
    cases hg : (gput es ids (es'.map (renE (gid ids))))[i]? with
    | none => rw [hg] at h; cases h
    | some e =>
      rw [hg] at h
      cases h
      have hil : i < es.length := by
        have := (List.getElem?_eq_some_iff.mp hg).1
        rwa [gput_len] at this
      exact hD.2 i (ad i, ge cA ad es[i]) (gw_get (List.getElem?_eq_getElem hil))
def vpush (σ : Nat → Nat) : Option Value → List Value → List Value
  | none, S => S
  | some v, S => renV σ v :: S
theorem vpush_map {σ ad : Nat → Nat} (v : Option Value) (S : List Value) : (vpush σ v S).map (gv ad) = (v.map (gv (fun k => ad (σ k)))).toList ++ S.map (gv ad) := by
  cases v with
  | none => rfl
  | some v => simp only [vpush, List.map_cons, ren_v, Option.map_some, Option.toList_some, List.singleton_append]
theorem g_call {p : Program} {l : Launch} {e : Env} {R : Room} {s : State} {m : MethodId} {args : Array Value} {below : List Frame} {meth : Method} {c : Code} {H : Heap} {locs : List Loc} {k n : Nat} {Q : State → Prop} {pc : Nat} {ls : Array Slot} {rest st0 : List Value} {a : Array Value} {A0 A1 ag : Nat → Prop} {H0 : Heap} {mc ms : Nat} {D : va_G} {cA : Nat → ClassId} {adc : Nat → Nat} {K : gK}
    (hr : va_Run p l e R s m args below meth c H locs k n mc ms (F0 m pc ls st0) rest (gQ D cA adc ag A1 K a) A1) (hS : va_S A0 H0 H locs) (hF : ∀ q, A1 q → A0 q)
    (kk : ∀ (v : Option Value) (es' : List gE) (ad' : Nat → Nat) (H1 : Heap) (locs1 : List Loc), K v es' → (∀ i, ag i → ad' i = adc i) → va_P D vwCl (gw cA ad' es') H1 → va_D A1 (gw cA ad' es') → H.size ≤ H1.size → (∀ q : Nat, q < H.size → ¬ A1 q → H1[q]? = H[q]?) → va_S A0 H0 H1 locs1 →
      W p l e R s m args below meth c H1 locs1 (k + mc) (n + ms) Q (F0 m (pc + 3) ls ((v.map (gv ad')).toList ++ rest))) : W p l e R s m args below meth c H locs k n Q (F0 m pc ls st0) := by
  intro T hT X
  obtain ⟨v, st₀, t, T', L, h0, X', hL, e1, e2, ⟨⟨v', es', ad', hv, hK, hag, hP, hD⟩, hz, hk⟩, st⟩ := hr T hT X
  cases hv
  rw [h0] at hz hk
  obtain ⟨t2, a1, b1⟩ := kk v' es' ad' T'.heap (locs ++ L) hK hag (by rw [e1]; exact hP) hD (by rw [e1]; exact hz) (fun q h1 h2 => by rw [e1]; exact hk q h1 h2)
    ⟨Nat.le_trans hS.1 (by rw [e1]; exact hz), fun q h1 h2 => by rw [e1, hk q (Nat.lt_of_lt_of_le h1 hS.1) (fun z => h2 (hF q z))]; exact hS.2.1 q h1 h2, fun q hq => by
      rcases List.mem_append.mp hq with h | h
      · exact hS.2.2 q h
      · exact hF _ (hL q h)⟩ T' rfl X'
  exact ⟨t2, st t2 a1, b1⟩
-- forcing: the lists of a state as written lists
def gforce : List gE → (List gE → Prop) → Prop
  | [], F => F []
  | e :: es, F => gforce es (fun es' => F (e :: es'))
def lforce : List (Nat × Value) → (List (Nat × Value) → Prop) → Prop
  | [], F => F []
  | (i, v) :: L, F => lforce L (fun L' => F ((i, v) :: L'))
theorem gforce_eq : ∀ (es : List gE) (F : List gE → Prop), gforce es F = F es
  | [], _ => rfl
  | e :: es, F => by rw [gforce, gforce_eq es]
theorem lforce_eq : ∀ (L : List (Nat × Value)) (F : List (Nat × Value) → Prop), lforce L F = F L
  | [], _ => rfl
  | (i, v) :: L, F => by rw [lforce, lforce_eq L]
def oF (o : gO) : gO := fun J N L S es k n => gforce es (fun es' => lforce L (fun L' => o J N L' S es' k n))
theorem ok_F {X : gX} {pc nx : Nat} {o : gO} (h : okO X pc nx o) : okO X pc nx (oF o) := by
  intro J N hJ hN L S es k n ho
  unfold oF at ho
  rw [gforce_eq, lforce_eq] at ho
  exact h J N hJ hN L S es k n ho
def gputF : List gE → List Nat → List gE → (List gE → Prop) → Prop
  | es, i :: is, f :: fs, F => gforce (es.set i f) (fun es' => gputF es' is fs F)
  | es, _, _, F => F es
theorem gputF_eq : ∀ (ids : List Nat) (es fs : List gE) (F : List gE → Prop), gputF es ids fs F = F (gput es ids fs)
  | [], es, [], F => rfl
  | [], es, _ :: _, F => rfl
  | _ :: _, es, [], F => rfl
  | i :: is, es, f :: fs, F => by rw [gputF, gforce_eq, gputF_eq is, gput]
def gspec (ids : List Nat) (sp : gS) (av : List Value) (N : gP) (L : List (Nat × Value)) (S' : List Value) (es : List gE) (k n : Nat) : Prop := match gpick es ids with
  | some esc => gif (Nat.ble ids.length 1000) (sp (av.map (canV ids)) (esc.map (canE ids)) (fun v es' => gif (Nat.beq es'.length ids.length) (gputF es ids (es'.map (renE (gid ids))) (fun es2 => N L (vpush (gid ids) v S') es2 k n))))
  | none => False
theorem gspec_ok {ids : List Nat} {sp : gS} {av : List Value} {N : gP} {L : List (Nat × Value)} {S' : List Value} {es : List gE} {k n : Nat} (h : gspec ids sp av N L S' es k n) : ∃ esc, gpick es ids = some esc ∧ ids.length ≤ 1000 ∧ sp (av.map (canV ids)) (esc.map (canE ids)) (fun v es' => gif (Nat.beq es'.length ids.length) (gputF es ids (es'.map (renE (gid ids))) (fun es2 => N L (vpush (gid ids) v S') es2 k n))) := by
  unfold gspec at h
  cases hp : gpick es ids with
  | none => rw [hp] at h; exact h.elim
  | some esc =>
    rw [hp] at h
    obtain ⟨h1, h2⟩ := bif_t (b := Nat.ble ids.length 1000) h
    exact ⟨esc, rfl, Nat.le_of_ble_eq_true h1, h2⟩
def oCallV (rc rs ci np : Nat) (ids : List Nat) (sp : gS) : gO := fun _ N L S es k n => match gtake np [] S with
  | some (as, .ref b :: S') => eObj es b ci (fun _ => gif (Nat.ble (scat S') 8 && (Nat.ble k rc && Nat.ble n rs)) (gspec ids sp (.ref b :: as) N L S' es k n))
  | _ => False
def oCallS (rc rs np : Nat) (ids : List Nat) (sp : gS) : gO := fun _ N L S es k n => match gtake np [] S with
  | some (as, S') => gif (Nat.ble (scat S') 8 && (Nat.ble k rc && Nat.ble n rs)) (gspec ids sp as N L S' es k n)
  | _ => False
def oCallVD (rc rs ci np : Nat) (sp : gS) : gO := fun _ N L S es k n => match gtake np [] S with
  | some (as, .ref b :: S') => eObj es b ci (fun _ => ∃ ids : List Nat, va_nd ids = true ∧ gif (Nat.ble (scat S') 8 && (Nat.ble k rc && Nat.ble n rs)) (gspec ids sp (.ref b :: as) N L S' es k n))
  | _ => False
variable {X : gX} {l0 : Launch} {cc : ByteArray} {own : String} {Ts : List Cond} {R0 : Room} {pc : Nat}
theorem ok_callV (hM : gM X l0 cc own Ts R0) {y : MethodName} {ws ws' : List Cond} {rm : Room} {bytes : ByteArray} {maxL index ci np : Nat} {ret : Option FieldType} {sp : gS} {Cn : String} {Tn : u_T} {Nn : Nat} (ids : List Nat) (hC : Ct l0 y ws rm 0 0 false sp) (hn : va_nd ids = true) (hci : vwCl[ci]? = some (Cn, Tn, Nn)) (hG : GoodIn Ts (wsV own index Cn y ws)) (hw : ws = Cond.code y bytes maxL ret :: ws') (hrc : rm.cells = 0) (hrs : rm.slots = 0)
    (hdy : y.cls = Cn ∧ y.cls ≠ "java/lang/invoke/MethodHandle" ∧ y.cls ≠ "java/lang/invoke/VarHandle" ∧ (parseMethodDescriptor y.desc).map (fun d => d.parameters.length) = some np) (hRm : rm.frames + 1 ≤ R0.frames ∧ 8 + (maxL + 11) + rm.locals ≤ R0.locals) (hd : decode cc pc = .ok (.invokevirtual index, 3)) :
    okO X pc (pc + 3) (oCallV R0.cells R0.slots ci np ids sp) := by
  obtain ⟨p, l, e, R, s, m, args, below, meth, c, D, cA, A, ag, ad0, Q, nL⟩ := X
  obtain ⟨hx, hb, hown, hts, hml, hlk, hY, hA, hR, hL0⟩ := hM
  have hK := hY.1
  subst hR
  subst hL0
  intro J N hJ hN L S es k n h ad H locs ls hag hP hD hS hl
  unfold oCallV at h
  split at h
  · rename_i as b S' htk
    obtain ⟨pre, h1, h2, h3⟩ := gtake_ok htk
    simp only [List.append_nil] at h1
    subst h1
    subst h2
    obtain ⟨fs, hes, h⟩ := eObj_ok h
    obtain ⟨hc1, h⟩ := bif_t (b := Nat.ble (scat S') 8 && (Nat.ble k R.cells && Nat.ble n R.slots)) h
    obtain ⟨hc1, hc2⟩ := and_t hc1
    obtain ⟨hc2, hc3⟩ := and_t hc2
    obtain ⟨esc, hp, hok, h⟩ := gspec_ok h
    have hF := gsub_F hp hok hD hS hA
    have hMet := hC D cA (fun k => ad (gid ids k)) H.size _ _ _ h
    refine g_call (va_runV (As := as.map (gv ad)) (rest := S'.map (gv ad)) (b := ad b) ⟨hx, hb, hml, hown, hts⟩ hMet (cwV np hts hG hw hrc hrs hdy hRm) ⟨gPc_blind, va_recv hK hP hci (q0 := b) (gw_get hes), fun U hU hW => ?_⟩ rfl (by simp [h3]) hl.1 (by simp [gv]) (lv_room (by rw [scat_eq]; exact Nat.le_of_ble_eq_true hc1)) hd ⟨Nat.le_of_ble_eq_true hc2, Nat.le_of_ble_eq_true hc3⟩) hS hF (fun v es' ad' H1 locs1 hKv hag' hP1 hD1 hz hk hS1 => ?_)
    · exact g_pre (av := .ref b :: as) hp hok hn hY hP hD hS hA U hU hW
    · have had : ad' = fun k => ad (gid ids k) := funext fun i => hag' i trivial
      subst had
      obtain ⟨hlen, hKv⟩ := bif_t (b := Nat.beq es'.length ids.length) hKv
      rw [gputF_eq] at hKv
      obtain ⟨hPn, hDn⟩ := g_join hp hok hn hP hD (Nat.eq_of_beq_eq_true hlen) hk hP1
      rw [← vpush_map]
      exact hN _ _ _ _ _ hKv ad H1 locs1 ls hag hPn hDn hS1 hl
  · exact h.elim
theorem ok_callVD (hM : gM X l0 cc own Ts R0) {y : MethodName} {ws ws' : List Cond} {rm : Room} {bytes : ByteArray} {maxL index ci np : Nat} {ret : Option FieldType} {sp : gS} {Cn : String} {Tn : u_T} {Nn : Nat} (hC : Ct l0 y ws rm 0 0 false sp) (hci : vwCl[ci]? = some (Cn, Tn, Nn)) (hG : GoodIn Ts (wsV own index Cn y ws)) (hw : ws = Cond.code y bytes maxL ret :: ws') (hrc : rm.cells = 0) (hrs : rm.slots = 0)
    (hdy : y.cls = Cn ∧ y.cls ≠ "java/lang/invoke/MethodHandle" ∧ y.cls ≠ "java/lang/invoke/VarHandle" ∧ (parseMethodDescriptor y.desc).map (fun d => d.parameters.length) = some np) (hRm : rm.frames + 1 ≤ R0.frames ∧ 8 + (maxL + 11) + rm.locals ≤ R0.locals) (hd : decode cc pc = .ok (.invokevirtual index, 3)) :
    okO X pc (pc + 3) (oCallVD R0.cells R0.slots ci np sp) := by
  obtain ⟨p, l, e, R, s, m, args, below, meth, c, D, cA, A, ag, ad0, Q, nL⟩ := X
  obtain ⟨hx, hb, hown, hts, hml, hlk, hY, hA, hR, hL0⟩ := hM
  have hK := hY.1
  subst hR
  subst hL0
  intro J N hJ hN L S es k n h ad H locs ls hag hP hD hS hl
  unfold oCallVD at h
  split at h
  · rename_i as b S' htk
    obtain ⟨pre, h1, h2, h3⟩ := gtake_ok htk
    simp only [List.append_nil] at h1
    subst h1
    subst h2
    obtain ⟨fs, hes, h⟩ := eObj_ok h
    obtain ⟨ids, hn, h⟩ := h
    obtain ⟨hc1, h⟩ := bif_t (b := Nat.ble (scat S') 8 && (Nat.ble k R.cells && Nat.ble n R.slots)) h
    obtain ⟨hc1, hc2⟩ := and_t hc1
    obtain ⟨hc2, hc3⟩ := and_t hc2
    obtain ⟨esc, hp, hok, h⟩ := gspec_ok h
    have hF := gsub_F hp hok hD hS hA
    have hMet := hC D cA (fun k => ad (gid ids k)) H.size _ _ _ h
    refine g_call (va_runV (As := as.map (gv ad)) (rest := S'.map (gv ad)) (b := ad b) ⟨hx, hb, hml, hown, hts⟩ hMet (cwV np hts hG hw hrc hrs hdy hRm) ⟨gPc_blind, va_recv hK hP hci (q0 := b) (gw_get hes), fun U hU hW => ?_⟩ rfl (by simp [h3]) hl.1 (by simp [gv]) (lv_room (by rw [scat_eq]; exact Nat.le_of_ble_eq_true hc1)) hd ⟨Nat.le_of_ble_eq_true hc2, Nat.le_of_ble_eq_true hc3⟩) hS hF (fun v es' ad' H1 locs1 hKv hag' hP1 hD1 hz hk hS1 => ?_)
    · exact g_pre (av := .ref b :: as) hp hok hn hY hP hD hS hA U hU hW
    · have had : ad' = fun k => ad (gid ids k) := funext fun i => hag' i trivial
      subst had
      obtain ⟨hlen, hKv⟩ := bif_t (b := Nat.beq es'.length ids.length) hKv
      rw [gputF_eq] at hKv
      obtain ⟨hPn, hDn⟩ := g_join hp hok hn hP hD (Nat.eq_of_beq_eq_true hlen) hk hP1
      rw [← vpush_map]
      exact hN _ _ _ _ _ hKv ad H1 locs1 ls hag hPn hDn hS1 hl
  · exact h.elim
theorem ok_callS (hM : gM X l0 cc own Ts R0) {y : MethodName} {ws ws' : List Cond} {rm : Room} {bytes : ByteArray} {maxL index np : Nat} {ret : Option FieldType} {sp : gS} (ids : List Nat) (hC : Ct l0 y ws rm 0 0 false sp) (hn : va_nd ids = true) (hG : GoodIn Ts (va_wsS own index y ws)) (hw : ws = Cond.code y bytes maxL ret :: ws') (hrc : rm.cells = 0) (hrs : rm.slots = 0)
    (hdy : y.cls ≠ "java/lang/invoke/MethodHandle" ∧ y.cls ≠ "java/lang/invoke/VarHandle" ∧ (parseMethodDescriptor y.desc).map (fun d => d.parameters.length) = some np) (hRm : rm.frames + 1 ≤ R0.frames ∧ 8 + (maxL + 11) + rm.locals ≤ R0.locals) (hd : decode cc pc = .ok (.invokestatic index, 3)) :
    okO X pc (pc + 3) (oCallS R0.cells R0.slots np ids sp) := by
  obtain ⟨p, l, e, R, s, m, args, below, meth, c, D, cA, A, ag, ad0, Q, nL⟩ := X
  obtain ⟨hx, hb, hown, hts, hml, hlk, hY, hA, hR, hL0⟩ := hM
  subst hR
  subst hL0
  intro J N hJ hN L S es k n h ad H locs ls hag hP hD hS hl
  unfold oCallS at h
  split at h
  · rename_i as S' htk
    obtain ⟨pre, h1, h2, h3⟩ := gtake_ok htk
    simp only [List.append_nil] at h1
    subst h1
    subst h2
    obtain ⟨hc1, h⟩ := bif_t (b := Nat.ble (scat S') 8 && (Nat.ble k R.cells && Nat.ble n R.slots)) h
    obtain ⟨hc1, hc2⟩ := and_t hc1
    obtain ⟨hc2, hc3⟩ := and_t hc2
    obtain ⟨esc, hp, hok, h⟩ := gspec_ok h
    have hF := gsub_F hp hok hD hS hA
    have hMet := hC D cA (fun k => ad (gid ids k)) H.size _ _ _ h
    have okw : ∀ w ∈ va_wsS own index y ws, w.before args s = true := fun w h => hts w (hG w h).1
    have hcb := callB_of (R := R) (own := own) (index := index) (maxL := maxL) np hts (fun w h => hG w (by unfold va_wsS; exact List.mem_append_right _ h)) hw hrc hrs (okw _ (by simp [va_wsS])) (okw _ (by simp [va_wsS])) hdy hRm
    refine g_call (va_runS (As := as.map (gv ad)) (rest := S'.map (gv ad)) ⟨hx, hb, hml, hown, hts⟩ hMet ⟨hcb, okw _ (by simp [va_wsS])⟩ ⟨gPc_blind, fun U hU hW => ?_⟩ rfl (by simp [h3]) hl.1 (by simp) (lv_room (by rw [scat_eq]; exact Nat.le_of_ble_eq_true hc1)) hd ⟨Nat.le_of_ble_eq_true hc2, Nat.le_of_ble_eq_true hc3⟩) hS hF (fun v es' ad' H1 locs1 hKv hag' hP1 hD1 hz hk hS1 => ?_)
    · exact g_pre (av := as) hp hok hn hY hP hD hS hA U hU hW
    · have had : ad' = fun k => ad (gid ids k) := funext fun i => hag' i trivial
      subst had
      obtain ⟨hlen, hKv⟩ := bif_t (b := Nat.beq es'.length ids.length) hKv
      rw [gputF_eq] at hKv
      obtain ⟨hPn, hDn⟩ := g_join hp hok hn hP hD (Nat.eq_of_beq_eq_true hlen) hk hP1
      rw [← vpush_map]
      exact hN _ _ _ _ _ hKv ad H1 locs1 ls hag hPn hDn hS1 hl
  · exact h.elim
theorem ok_callSN (hM : gM X l0 cc own Ts R0) {y : MethodName} {ws ws' : List Cond} {rm : Room} {bytes : ByteArray} {maxL index np : Nat} {ret : Option FieldType} {sp : gS} (ids : List Nat) (hC : Ct l0 y ws rm 0 0 false sp) (hn : va_nd ids = true) (hG : GoodIn Ts ws) (hw : ws = Cond.code y bytes maxL ret :: ws') (hrc : rm.cells = 0) (hrs : rm.slots = 0) (hnest : (own, index, y) ∈ gNest) (hst : Cond.static y ∈ Ts) (hini : Cond.initialized y.cls ∈ Ts)
    (hdy : y.cls ≠ "java/lang/invoke/MethodHandle" ∧ y.cls ≠ "java/lang/invoke/VarHandle" ∧ (parseMethodDescriptor y.desc).map (fun d => d.parameters.length) = some np) (hRm : rm.frames + 1 ≤ R0.frames ∧ 8 + (maxL + 11) + rm.locals ≤ R0.locals) (hd : decode cc pc = .ok (.invokestatic index, 3)) :
    okO X pc (pc + 3) (oCallS R0.cells R0.slots np ids sp) := by
  obtain ⟨p, l, e, R, s, m, args, below, meth, c, D, cA, A, ag, ad0, Q, nL⟩ := X
  obtain ⟨hx, hb, hown, hts, hml, hlk, hY, hA, hR, hL0⟩ := hM
  subst hR
  subst hL0
  intro J N hJ hN L S es k n h ad H locs ls hag hP hD hS hl
  unfold oCallS at h
  split at h
  · rename_i as S' htk
    obtain ⟨pre, h1, h2, h3⟩ := gtake_ok htk
    simp only [List.append_nil] at h1
    subst h1
    subst h2
    obtain ⟨hc1, h⟩ := bif_t (b := Nat.ble (scat S') 8 && (Nat.ble k R.cells && Nat.ble n R.slots)) h
    obtain ⟨hc1, hc2⟩ := and_t hc1
    obtain ⟨hc2, hc3⟩ := and_t hc2
    obtain ⟨esc, hp, hok, h⟩ := gspec_ok h
    have hF := gsub_F hp hok hD hS hA
    have hMet := hC D cA (fun k => ad (gid ids k)) H.size _ _ _ h
    have hcb := va_cnB (R := R) (own := own) (index := index) (host := RX6) (maxL := maxL) np hts hG hw hrc hrs (hY.2.1.1 _ hnest) (hts _ hini) hdy hRm
    refine g_call (va_runSN (As := as.map (gv ad)) (rest := S'.map (gv ad)) ⟨hx, hb, hml, hown, hts⟩ hMet ⟨hcb, hts _ hst, trivial⟩ ⟨gPc_blind, fun U hU hW => ?_⟩ rfl (by simp [h3]) hl.1 (by simp) (lv_room (by rw [scat_eq]; exact Nat.le_of_ble_eq_true hc1)) hd ⟨Nat.le_of_ble_eq_true hc2, Nat.le_of_ble_eq_true hc3⟩) hS hF (fun v es' ad' H1 locs1 hKv hag' hP1 hD1 hz hk hS1 => ?_)
    · exact g_pre (av := as) hp hok hn hY hP hD hS hA U hU hW
    · have had : ad' = fun k => ad (gid ids k) := funext fun i => hag' i trivial
      subst had
      obtain ⟨hlen, hKv⟩ := bif_t (b := Nat.beq es'.length ids.length) hKv
      rw [gputF_eq] at hKv
      obtain ⟨hPn, hDn⟩ := g_join hp hok hn hP hD (Nat.eq_of_beq_eq_true hlen) hk hP1
      rw [← vpush_map]
      exact hN _ _ _ _ _ hKv ad H1 locs1 ls hag hPn hDn hS1 hl
  · exact h.elim
/-- a contract out of a walk -/
theorem ct_of {l : Launch} {y : MethodName} {ws ws' : List Cond} {rm : Room} {mc ms : Nat} {al : Bool} {sp : gS} {cc : ByteArray} {maxL : Nat} {ret : Option FieldType} {own : String} (hy : plainName y.cls = true) (hown : y.cls = own) (hw : ws = Cond.code y cc maxL ret :: ws') (hav : ∀ av es K, sp av es K → (lg_sl av).length ≤ maxL)
    (body : ∀ (X : gX) (av : List Value) (es : List gE) (K : gK), gM X l cc own ws rm → gR X K mc ms ret → (∀ i, es.length ≤ i → al = true → ¬ X.2.2.2.2.2.2.2.2.2.2.2.2.2.1 i) → (y.name = "<init>" → gInit X) → X.2.2.2.2.2.2.2.2.2.2.2.2.2.2.2.2 = maxL → sp av es K → G X 0 (lv_args 0 av) [] es 0 0) : Ct l y ws rm mc ms al sp := by
  intro D cA ad sz av es K hsp
  refine Met.ofW (cc := cc) (maxL := maxL) (ret := ret) hy hw ?_
  intro p e s m args below meth c s₁ B hml hv
  obtain ⟨rfl, hsz, hP, hY, hD0⟩ := hv
  subst hsz
  have hts := atoms_spec (ws := ws) B.pre
  have hfc : s.vm.findClass own = some m.cls := by rw [← hown]; exact findClass_of_methodNamed B.named
  have hD := hD0.self (sz := s.heap.size)
  have hb := body (p, l, e, (headSpec ws rm).room, s, m, (av.map (gv ad)).toArray, below, meth, c, D, cA, va_A (gw cA ad es) s.heap.size, agr al es.length, ad, MQ below (gQ D cA ad (agr al es.length) (va_A (gw cA ad es) s.heap.size) K) (av.map (gv ad)).toArray s mc ms (va_A (gw cA ad es) s.heap.size), maxL) av es K
    ⟨B.exec, B.bytes, hfc, hts, hml, B.notSynchronized, hY, fun q h => Or.inr h, rfl, rfl⟩ ⟨B.returns, fun _ _ _ h => h⟩ (fun i hi ha h => by
      subst ha
      exact absurd h (Nat.not_lt.mpr hi)) (fun hi => (name_of_methodNamed B.named B.method).1.trans hi) rfl hsp
  have hl := lv_entry (av.map (gv ad)) (n := maxL) (by rw [lg_sl_len]; exact hav av es K hsp)
  rw [lv_args_map] at hl
  rw [lg_entry_eq]
  exact hb ad s.heap [] _ (fun _ _ => rfl) hP hD va_S.rf hl
-- the same cells, named by other functions that agree inside the rows
def eqE : gE → gE → Prop
  | .inl (t, n, .inl f), .inl (t', n', .inl g) => t = t' ∧ n = n' ∧ ∀ j, j < n → f j = g j
  | a, b => a = b
def eqL : List gE → List gE → Prop
  | [], [] => True
  | a :: as, b :: bs => eqE a b ∧ eqL as bs
  | _, _ => False
theorem eqE_rfl (a : gE) : eqE a a := by
  rcases a with ⟨t, n, f | f | f | r⟩ | ⟨c, fs⟩
  · exact ⟨rfl, rfl, fun _ _ => rfl⟩
  · rfl
  · rfl
  · rfl
  · rfl
theorem eqL_rfl : ∀ es : List gE, eqL es es
  | [] => trivial
  | a :: as => ⟨eqE_rfl a, eqL_rfl as⟩
theorem eqL_app : ∀ {a b a' b' : List gE}, eqL a a' → eqL b b' → eqL (a ++ b) (a' ++ b')
  | [], _, [], _, _, h => h
  | [], _, _ :: _, _, h, _ => h.elim
  | _ :: _, _, [], _, h, _ => h.elim
  | _ :: _, _, _ :: _, _, h, h' => ⟨h.1, eqL_app h.2 h'⟩
theorem arr_cong {c : ClassId} {n : Nat} {f g : Nat → Int32} (h : ∀ j, j < n → f j = g j) : vp_cell c (n, .inl f) = vp_cell c (n, .inl g) := by
  have e : (fun j : Fin n => Value.int (f j.val)) = fun j : Fin n => Value.int (g j.val) := funext fun j => by rw [h j.val j.isLt]
  show ({ cls := c, slots := Array.ofFn (fun j : Fin n => Value.int (f j.val)), vm := .none } : Cell) = { cls := c, slots := Array.ofFn (fun j : Fin n => Value.int (g j.val)), vm := .none }
  rw [e]
theorem eqE_ge {D : va_G} {cA : Nat → ClassId} {ad : Nat → Nat} {a b : gE} {q : Nat} {H : Heap} (h : eqE a b) (hv : va_at D vwCl (q, ge cA ad a) H) : va_at D vwCl (q, ge cA ad b) H := by
  by_cases hab : a = b
  · rw [← hab]; exact hv
  · rcases a with ⟨t, n, f | f | f | r⟩ | ⟨c, fs⟩
    · rcases b with ⟨t', n', g | g | g | r'⟩ | ⟨c', fs'⟩
      · obtain ⟨rfl, rfl, h⟩ := h
        show H[q]? = some (vp_cell (cA t) (n, .inl g))
        rw [← arr_cong h]
        exact hv
      · exact absurd h hab
      · exact absurd h hab
      · exact absurd h hab
      · exact absurd h hab
    · exact absurd h hab
    · exact absurd h hab
    · exact absurd h hab
    · exact absurd h hab
theorem eqL_at : ∀ {es es' : List gE}, eqL es es' → es.length = es'.length ∧ ∀ (i : Nat) (b : gE), es'[i]? = some b → ∃ a : gE, es[i]? = some a ∧ eqE a b
  | [], [], _ => ⟨rfl, fun i b h => by simp at h⟩
  | [], _ :: _, h => h.elim
  | _ :: _, [], h => h.elim
  | a :: as, b :: bs, h => by
    obtain ⟨h1, h2⟩ := eqL_at h.2
    refine ⟨by simp [h1], fun i c hc => ?_⟩
    cases i with
    | zero =>
      simp at hc
      subst hc
      exact ⟨a, rfl, h.1⟩
    | succ i =>
      obtain ⟨a', h3, h4⟩ := h2 i c (by simpa using hc)
      exact ⟨a', by simpa using h3, h4⟩
theorem eqL_P {D : va_G} {cA : Nat → ClassId} {ad : Nat → Nat} {es es' : List gE} {H : Heap} (h : eqL es es') (hP : va_P D vwCl (gw cA ad es) H) : va_P D vwCl (gw cA ad es') H := by
  intro i q hq
  rw [gw_at] at hq
  cases hb : es'[i]? with
  | none => rw [hb] at hq; cases hq
  | some b =>
    rw [hb] at hq
    cases hq
    obtain ⟨a, h1, h2⟩ := (eqL_at h).2 i b hb
    exact eqE_ge h2 (hP i _ (gw_get h1))
theorem eqL_D {cA : Nat → ClassId} {ad : Nat → Nat} {es es' : List gE} {A : Nat → Prop} (h : eqL es es') (hD : va_D A (gw cA ad es)) : va_D A (gw cA ad es') := by
  have key : ∀ (i : Nat) (q : Nat × va_E), (gw cA ad es')[i]? = some q → ∃ a, es[i]? = some a ∧ q.1 = ad i := by
    intro i q hq
    rw [gw_at] at hq
    cases hb : es'[i]? with
    | none => rw [hb] at hq; cases hq
    | some b =>
      rw [hb] at hq
      cases hq
      obtain ⟨a, h1, h2⟩ := (eqL_at h).2 i b hb
      exact ⟨a, h1, rfl⟩
  refine ⟨fun i j p q hp hq he => ?_, fun i q hq => ?_⟩
  · obtain ⟨a, h1, h2⟩ := key i p hp
    obtain ⟨b, h3, h4⟩ := key j q hq
    exact hD.1 i j _ _ (gw_get h1) (gw_get h3) (h2.symm.trans (he.trans h4))
  · obtain ⟨a, h1, h2⟩ := key i q hq
    rw [h2]
    exact hD.2 i (ad i, ge cA ad a) (gw_get h1)
def gEq (K : gK) : gK := fun v es => ∃ es2, eqL es es2 ∧ K v es2
theorem G_eqv {X : gX} {pc : Nat} {L : List (Nat × Value)} {S : List Value} {es es' : List gE} {k n : Nat} (he : eqL es es') (h : G X pc L S es' k n) : G X pc L S es k n := by
  obtain ⟨p, l, e, R, s, m, args, below, meth, c, D, cA, A, ag, ad0, Q, nL⟩ := X
  intro ad H locs ls ha hP hD hS hl
  exact h ad H locs ls ha (eqL_P he hP) (eqL_D he hD) hS hl
theorem gQ_eqv {D : va_G} {cA : Nat → ClassId} {ad0 : Nat → Nat} {ag A : Nat → Prop} {K : gK} {a : Array Value} {st t : State} {oc : Outcome} (h : gQ D cA ad0 ag A (gEq K) a st oc t) : gQ D cA ad0 ag A K a st oc t := by
  obtain ⟨⟨v, es, ad, h1, ⟨es2, he, hK⟩, h3, h4, h5⟩, h6⟩ := h
  exact ⟨⟨v, es2, ad, h1, hK, h3, eqL_P he h4, eqL_D he h5⟩, h6⟩
theorem gR_eqv {X : gX} {K : gK} {mc ms : Nat} {ret : Option FieldType} (h : gR X K mc ms ret) : gR X (gEq K) mc ms ret := by
  obtain ⟨p, l, e, R, s, m, args, below, meth, c, D, cA, A, ag, ad0, Q, nL⟩ := X
  refine ⟨h.1, fun H locs g hw => h.2 H locs g ?_⟩
  intro T hT X
  obtain ⟨t, st, o, h1, h2, h3, h4⟩ := hw T hT X
  exact ⟨t, st, o, h1, h2, gQ_eqv h3, h4⟩
end GC
end
section
/-! Methods that may throw: contracts, throws, calls. -/
section GXC
abbrev gKX : Type := String → List gE → Prop
abbrev gSX : Type := List Value → List gE → gK → gKX → Prop
def gXC (D : va_G) (cA : Nat → ClassId) (ad0 : Nat → Nat) (A : Nat → Prop) (KX : gKX) : String → State → State → Prop := fun E st t => ∃ es : List gE, KX E es ∧ va_P D vwCl (gw cA ad0 es) t.heap ∧ va_D A (gw cA ad0 es) ∧ va_F A st t
def CtX (l : Launch) (y : MethodName) (ws : List Cond) (rm : Room) (mc ms : Nat) (sp : gSX) : Prop := ∀ (D : va_G) (cA : Nat → ClassId) (ad : Nat → Nat) (sz : Nat) (av : List Value) (es : List gE) (K : gK) (KX : gKX), sp av es K KX → vx_Met l y ws rm (gPc D cA ad sz av es) (gQ D cA ad (agr false es.length) (va_A (gw cA ad es) sz) K) (gXC D cA ad (va_A (gw cA ad es) sz) KX) mc ms (va_A (gw cA ad es) sz)
/-- the end of the walk is the end of a method that may throw -/
def gRX (X : gX) (KX : gKX) (mc ms : Nat) : Prop := match X with
  | (p, l, e, R, s, m, args, below, meth, c, D, cA, A, ag, ad0, Q, _) => (∀ i, ag i) ∧ (∀ x ∈ c.exceptionTable.toList, False) ∧ ∃ Qc, (∀ (H : Heap) (locs : List Loc) (k n : Nat) (g : JFrame), W p l e R s m args below meth c H locs k n (vx_MQ below Qc (gXC D cA ad0 A KX) args s mc ms A) g → W p l e R s m args below meth c H locs k n Q g) ∧ ∀ (H : Heap) (locs : List Loc) (k n : Nat) (g : JFrame) (q : Addr), vx_W p l e R s m args below meth c H locs k n (vx_MQ below Qc (gXC D cA ad0 A KX) args s mc ms A) g q → vx_W p l e R s m args below meth c H locs k n Q g q
def oThrow (KX : gKX) (E : String) (mc ms : Nat) : gO := fun _ _ _ S es k n => match S with
  | [] => gif (Nat.ble (k + 1) mc && Nat.ble (n + 6) ms) (KX E es)
  | _ => False
variable {X : gX} {l0 : Launch} {cc : ByteArray} {own : String} {Ts : List Cond} {R0 : Room} {pc : Nat}
theorem ok_throw (hM : gM X l0 cc own Ts R0) {KX : gKX} {mc ms : Nat} (hE : gRX X KX mc ms) (hl0 : l0.stackTraces = false) {ik is ic nx : Nat} {text : String} (cls : String) (names : List String) (hcls : Bundle.fit cls = true) (hnames : ∀ n ∈ names, Bundle.fit n = true) (hown6 : own = RX6) (hk : Cond.classLink own ik cls ∈ Ts) (hini : Cond.initialized cls ∈ Ts) (hstr : (is, text) ∈ gStr) (hat1 : ∀ w ∈ (vx_atS own ic cls names).filter goodWord, w ∈ Ts) (hat2 : ∀ w ∈ (vx_atS own ic cls names).filter (fun w => !goodWord w), w ∈ gBad) (hgood : ∀ w ∈ Cond.classLink own ik cls :: Cond.initialized cls :: vx_atS own ic cls names, vx_ot w = true)
    (hfr : names.length + 3 < R0.frames) (hlo : 13 * (names.length + 1) + 43 ≤ R0.locals) (hrc : mc ≤ R0.cells ∧ ms ≤ R0.slots)
    (d0 : decode cc pc = .ok (.new ik, 3)) (d3 : decode cc (pc + 3) = .ok (.dup, 1)) (d4 : decode cc (pc + 4) = .ok (.ldc is, 2)) (d6 : decode cc (pc + 6) = .ok (.invokespecial ic, 3)) (d9 : decode cc (pc + 9) = .ok (.athrow, 1)) : okO X pc nx (oThrow KX cls mc ms) := by
  obtain ⟨p, l, e, R, s, m, args, below, meth, c, D, cA, A, ag, ad0, Q, nL⟩ := X
  obtain ⟨hx, hb, hown, hts, hml, hlk, hY, hA, hR, hL0⟩ := hM
  obtain ⟨hag0, htab, Qc, hQ1, hQ2⟩ := hE
  subst hR
  subst hL0
  intro J N hJ hN L S es k n h ad H locs ls hag hP hD hS hl
  unfold oThrow at h
  split at h
  · obtain ⟨hc1, h⟩ := bif_t h
    obtain ⟨hc1, hc2⟩ := and_t hc1
    have hc1 := Nat.le_of_ble_eq_true hc1
    have hc2 := Nat.le_of_ble_eq_true hc2
    have had : ad = ad0 := funext fun i => hag i (hag0 i)
    obtain ⟨sa, hsa⟩ := hY.2.1.2.1 _ hstr
    subst hown6
    refine hQ1 _ _ _ _ _ ?_
    refine vx_throwS (A := A) (text := text) (names := names) (sa := sa) hx hb hl0 hown hcls hnames (hts _ hk) (hts _ hini) hsa (vx_hat (fun w hw => hts w (hat1 w hw)) hat2 (fun w hw => va_Nw.use (gBad_ot w hw) (hY.2.1.2.2.1 w hw))) hgood hY.2.2.1 hY.2.2.2 hS (hl.1.trans hml.symm) d0 d3 d4 d6 d9 (fun x hx9 => (htab x hx9).elim) hfr (by simpa using hlo) (by omega) (by omega) hlk (fun t hvm hz hk9 => ?_) hS.2.2 hc1 hc2
    refine ⟨es, h, ?_, ?_, ?_⟩
    · rw [← had]
      exact hP.kept (fun i q hq => hk9 q.1 (hP i q hq).lt)
    · rw [← had]
      exact hD
    · exact ⟨Nat.le_trans hS.1 hz, fun q h1 h2 => by rw [hk9 q (Nat.lt_of_lt_of_le h1 hS.1)]; exact hS.2.1 q h1 h2⟩
  · exact h.elim
/-- a call that may throw: behind it, either way -/
theorem g_callX {p : Program} {l : Launch} {e : Env} {R : Room} {s : State} {m : MethodId} {args : Array Value} {below : List Frame} {meth : Method} {c : Code} {H : Heap} {locs : List Loc} {k n : Nat} {Q : State → Prop} {pc : Nat} {ls : Array Slot} {rest st0 : List Value} {a : Array Value} {A0 A1 ag : Nat → Prop} {H0 : Heap} {mc ms : Nat} {D : va_G} {cA : Nat → ClassId} {adc : Nat → Nat} {K : gK} {KX : gKX}
    (hr : vx_Run p l e R s m args below meth c H locs k n mc ms (F0 m pc ls st0) rest (gQ D cA adc ag A1 K a) (gXC D cA adc A1 KX) A1) (hS : va_S A0 H0 H locs) (hF : ∀ q, A1 q → A0 q)
    (kx : ∀ (E : String) (ce : Cell) (q9 : Addr) (es' : List gE) (H1 : Heap) (locs1 : List Loc), KX E es' → va_P D vwCl (gw cA adc es') H1 → va_D A1 (gw cA adc es') → H.size ≤ H1.size → (∀ q : Nat, q < H.size → ¬ A1 q → H1[q]? = H[q]?) → va_S A0 H0 H1 locs1 → H1[q9]? = some ce → ce.vm = .none → s.vm.findClass E = some ce.cls → vx_W p l e R s m args below meth c H1 locs1 (k + mc) (n + ms) Q (F0 m pc ls rest) q9)
    (kk : ∀ (v : Option Value) (es' : List gE) (ad' : Nat → Nat) (H1 : Heap) (locs1 : List Loc), K v es' → (∀ i, ag i → ad' i = adc i) → va_P D vwCl (gw cA ad' es') H1 → va_D A1 (gw cA ad' es') → H.size ≤ H1.size → (∀ q : Nat, q < H.size → ¬ A1 q → H1[q]? = H[q]?) → va_S A0 H0 H1 locs1 →
      W p l e R s m args below meth c H1 locs1 (k + mc) (n + ms) Q (F0 m (pc + 3) ls ((v.map (gv ad')).toList ++ rest))) : W p l e R s m args below meth c H locs k n Q (F0 m pc ls st0) := by
  intro T hT X
  rcases hr T hT X with ⟨v, st₀, t, T', L, h0, X', hL, e1, e2, ⟨⟨v', es', ad', hv, hK, hag, hP, hD⟩, hF1⟩, st⟩ | ⟨q, st₀, t, T', L, E, ce, h0, X', hL, e1, e2, ⟨es', hKX, hP, hD, hF1⟩, hce, hcv, hcl, st⟩
  · cases hv
    obtain ⟨k1, k2, k3⟩ := vx_keep h0 e1 hS (fun q _ h => hF q h) hF hL hF1
    obtain ⟨t2, a1, b1⟩ := kk v' es' ad' T'.heap (locs ++ L) hK hag (by rw [e1]; exact hP) hD k1 k2 k3 T' rfl X'
    exact ⟨t2, st t2 a1, b1⟩
  · obtain ⟨k1, k2, k3⟩ := vx_keep h0 e1 hS (fun q _ h => hF q h) hF hL hF1
    obtain ⟨t2, a1, b1⟩ := kx E ce q es' T'.heap (locs ++ L) hKX (by rw [e1]; exact hP) hD k1 k2 k3 (by rw [e1]; exact hce) hcv hcl T' rfl X'
    exact ⟨t2, st.trans a1, b1⟩
def gspecX (ids : List Nat) (sp : gSX) (av : List Value) (F : Option Value → List gE → Prop) (FX : gKX) (es : List gE) : Prop := match gpick es ids with
  | some esc => gif (Nat.ble ids.length 1000) (sp (av.map (canV ids)) (esc.map (canE ids)) (fun v es' => gif (Nat.beq es'.length ids.length) (gputF es ids (es'.map (renE (gid ids))) (fun es2 => F v es2))) (fun E es' => gif (Nat.beq es'.length ids.length) (gputF es ids (es'.map (renE (gid ids))) (fun es2 => FX E es2))))
  | none => False
theorem gspecX_ok {ids : List Nat} {sp : gSX} {av : List Value} {F : Option Value → List gE → Prop} {FX : gKX} {es : List gE} (h : gspecX ids sp av F FX es) : ∃ esc, gpick es ids = some esc ∧ ids.length ≤ 1000 ∧ sp (av.map (canV ids)) (esc.map (canE ids)) (fun v es' => gif (Nat.beq es'.length ids.length) (gputF es ids (es'.map (renE (gid ids))) (fun es2 => F v es2))) (fun E es' => gif (Nat.beq es'.length ids.length) (gputF es ids (es'.map (renE (gid ids))) (fun es2 => FX E es2))) := by
  unfold gspecX at h
  cases hp : gpick es ids with
  | none => rw [hp] at h; exact h.elim
  | some esc =>
    rw [hp] at h
    obtain ⟨h1, h2⟩ := bif_t (b := Nat.ble ids.length 1000) h
    exact ⟨esc, rfl, Nat.le_of_ble_eq_true h1, h2⟩
/-- a static call that may throw, not caught here -/
def oCallSX (rc rs mc ms cmc cms np : Nat) (ids : List Nat) (sp : gSX) (KX : gKX) : gO := fun _ N L S es k n => match gtake np [] S with
  | some (as, S') => gif (Nat.ble (scat S') 8 && (Nat.ble (k + cmc) rc && (Nat.ble (n + cms) rs && (Nat.ble (k + cmc) mc && Nat.ble (n + cms) ms)))) (gspecX ids sp as (fun v es2 => N L (vpush (gid ids) v S') es2 (k + cmc) (n + cms)) KX es)
  | _ => False
theorem ok_callSX (hM : gM X l0 cc own Ts R0) {KX : gKX} {mc ms : Nat} (hE : gRX X KX mc ms) {y : MethodName} {ws ws' : List Cond} {rm : Room} {bytes : ByteArray} {maxL index np cmc cms : Nat} {ret : Option FieldType} {sp : gSX} (ids : List Nat) (hC : CtX l0 y ws rm cmc cms sp) (hn : va_nd ids = true) (hG : GoodIn Ts (va_wsS own index y ws)) (hw : ws = Cond.code y bytes maxL ret :: ws') (hrc : rm.cells = cmc) (hrs : rm.slots = cms)
    (hdy : y.cls ≠ "java/lang/invoke/MethodHandle" ∧ y.cls ≠ "java/lang/invoke/VarHandle" ∧ (parseMethodDescriptor y.desc).map (fun d => d.parameters.length) = some np) (hRm : rm.frames + 1 ≤ R0.frames ∧ 8 + (maxL + 11) + rm.locals ≤ R0.locals) (hd : decode cc pc = .ok (.invokestatic index, 3)) :
    okO X pc (pc + 3) (oCallSX R0.cells R0.slots mc ms cmc cms np ids sp KX) := by
  obtain ⟨p, l, e, R, s, m, args, below, meth, c, D, cA, A, ag, ad0, Q, nL⟩ := X
  obtain ⟨hx, hb, hown, hts, hml, hlk, hY, hA, hR, hL0⟩ := hM
  obtain ⟨hag0, htab, Qc, hQ1, hQ2⟩ := hE
  subst hR
  subst hL0
  intro J N hJ hN L S es k n h ad H locs ls hag hP hD hS hl
  unfold oCallSX at h
  split at h
  · rename_i as S' htk
    obtain ⟨pre, h1, h2, h3⟩ := gtake_ok htk
    simp only [List.append_nil] at h1
    subst h1
    subst h2
    obtain ⟨hc1, h⟩ := bif_t (b := Nat.ble (scat S') 8 && (Nat.ble (k + cmc) R.cells && (Nat.ble (n + cms) R.slots && (Nat.ble (k + cmc) mc && Nat.ble (n + cms) ms)))) h
    obtain ⟨hc1, hc2⟩ := and_t hc1
    obtain ⟨hc2, hc3⟩ := and_t hc2
    obtain ⟨hc3, hc4⟩ := and_t hc3
    obtain ⟨hc4, hc5⟩ := and_t hc4
    obtain ⟨esc, hp, hok, h⟩ := gspecX_ok h
    have hF := gsub_F hp hok hD hS hA
    have hMet := hC D cA (fun k => ad (gid ids k)) H.size _ _ _ _ h
    have okw : ∀ w ∈ va_wsS own index y ws, w.before args s = true := fun w h => hts w (hG w h).1
    have hcb := callB_of (R := R) (own := own) (index := index) (maxL := maxL) np hts (fun w h => hG w (by unfold va_wsS; exact List.mem_append_right _ h)) hw hrc hrs (okw _ (by simp [va_wsS])) (okw _ (by simp [va_wsS])) hdy hRm
    have had : ad = ad0 := funext fun i => hag i (hag0 i)
    refine g_callX (vx_runS (As := as.map (gv ad)) (rest := S'.map (gv ad)) ⟨hx, hb, hml, hown, hts⟩ hMet ⟨hcb, okw _ (by simp [va_wsS])⟩ ⟨gPc_blind, fun U hU hW => ?_⟩ rfl (by simp [h3]) hl.1 (by simp) (lv_room (by rw [scat_eq]; exact Nat.le_of_ble_eq_true hc1)) hd ⟨Nat.le_of_ble_eq_true hc2, Nat.le_of_ble_eq_true hc3⟩) hS hF (fun E ce q9 es' H1 locs1 hKX hP1 hD1 hz hk hS1 hce hcv hcl => ?_) (fun v es' ad' H1 locs1 hKv hag' hP1 hD1 hz hk hS1 => ?_)
    · exact g_pre (av := as) hp hok hn hY hP hD hS hA U hU hW
    · obtain ⟨hlen, hKX⟩ := bif_t (b := Nat.beq es'.length ids.length) hKX
      rw [gputF_eq] at hKX
      obtain ⟨hPn, hDn⟩ := g_join hp hok hn hP hD (Nat.eq_of_beq_eq_true hlen) hk hP1
      refine hQ2 _ _ _ _ _ _ (vx_out (fun x hx9 => (htab x hx9).elim) hlk hce hcv hcl (fun t ht hvm => ⟨_, hKX, ?_, ?_, hS1.F ht⟩) hS1.2.2 (Nat.le_of_ble_eq_true hc4) (Nat.le_of_ble_eq_true hc5))
      · rw [ht, ← had]
        exact hPn
      · rw [← had]
        exact hDn
    · have had2 : ad' = fun k => ad (gid ids k) := funext fun i => hag' i trivial
      subst had2
      obtain ⟨hlen, hKv⟩ := bif_t (b := Nat.beq es'.length ids.length) hKv
      rw [gputF_eq] at hKv
      obtain ⟨hPn, hDn⟩ := g_join hp hok hn hP hD (Nat.eq_of_beq_eq_true hlen) hk hP1
      rw [← vpush_map]
      exact hN _ _ _ _ _ hKv ad H1 locs1 ls hag hPn hDn hS1 hl
  · exact h.elim
/-- a contract of a method that may throw, out of a walk -/
theorem ctX_of {l : Launch} {y : MethodName} {ws ws' : List Cond} {rm : Room} {mc ms : Nat} {sp : gSX} {cc : ByteArray} {maxL : Nat} {ret : Option FieldType} {own : String} (hy : plainName y.cls = true) (hown : y.cls = own) (hw : ws = Cond.code y cc maxL ret :: ws') (hav : ∀ av es K KX, sp av es K KX → (lg_sl av).length ≤ maxL)
    (body : ∀ (X : gX) (av : List Value) (es : List gE) (K : gK) (KX : gKX), gM X l cc own ws rm → gR X K mc ms ret → gRX X KX mc ms → X.2.2.2.2.2.2.2.2.2.2.2.2.2.2.2.2 = maxL → sp av es K KX → G X 0 (lv_args 0 av) [] es 0 0) : CtX l y ws rm mc ms sp := by
  intro D cA ad sz av es K KX hsp
  refine vx_ofW (cc := cc) (maxL := maxL) (ret := ret) hy hw ?_
  intro p e s m args below meth c s₁ B hml htab hv
  obtain ⟨rfl, hsz, hP, hY, hD0⟩ := hv
  subst hsz
  have hts := atoms_spec (ws := ws) B.pre
  have hfc : s.vm.findClass own = some m.cls := by rw [← hown]; exact findClass_of_methodNamed B.named
  have hD := hD0.self (sz := s.heap.size)
  have hb := body (p, l, e, (headSpec ws rm).room, s, m, (av.map (gv ad)).toArray, below, meth, c, D, cA, va_A (gw cA ad es) s.heap.size, agr false es.length, ad, vx_MQ below (gQ D cA ad (agr false es.length) (va_A (gw cA ad es) s.heap.size) K) (gXC D cA ad (va_A (gw cA ad es) s.heap.size) KX) (av.map (gv ad)).toArray s mc ms (va_A (gw cA ad es) s.heap.size), maxL) av es K KX
    ⟨B.exec, B.bytes, hfc, hts, hml, B.notSynchronized, hY, fun q h => Or.inr h, rfl, rfl⟩ ⟨B.returns, fun _ _ _ h => vx_ret h⟩ ⟨fun _ => trivial, htab, _, fun _ _ _ _ _ h => h, fun _ _ _ _ _ _ h => h⟩ rfl hsp
  have hl := lv_entry (av.map (gv ad)) (n := maxL) (by rw [lg_sl_len]; exact hav av es K KX hsp)
  rw [lv_args_map] at hl
  rw [lg_entry_eq]
  exact hb ad s.heap [] _ (fun _ _ => rfl) hP hD va_S.rf hl
theorem gBad_1 : ∀ w ∈ (vx_atS RX6 175 "java/lang/IndexOutOfBoundsException" ["java/lang/RuntimeException", "java/lang/Exception"]).filter (fun w => !goodWord w), w ∈ gBad := by decide +kernel
theorem gBad_2 : ∀ w ∈ (vx_atS RX6 208 "java/lang/IllegalArgumentException" ["java/lang/RuntimeException", "java/lang/Exception"]).filter (fun w => !goodWord w), w ∈ gBad := by decide +kernel
end GXC
end
section
/-! Steps that make cells. -/
section GA
def wfv (b : Nat) : Value → Bool
  | .ref k => Nat.ble (k + 1) b
  | _ => true
def wfq (b : Nat) : Option Nat → Bool
  | some k => Nat.ble (k + 1) b
  | none => true
def wfE (b : Nat) : gE → Bool
  | .inr (_, fs) => fs.all (wfv b)
  | .inl (_, _, .inr (.inr (.inr r))) => r.all (wfq b)
  | .inl _ => true
def wfS (b : Nat) (L : List (Nat × Value)) (S : List Value) (es : List gE) : Bool := es.all (wfE b) && (S.all (wfv b) && L.all (fun q => wfv b q.2))
theorem wf_v {b : Nat} {v : Value} {ad ad' : Nat → Nat} (h : wfv b v = true) (ha : ∀ i, i < b → ad' i = ad i) : gv ad' v = gv ad v := by
  cases v with
  | ref k => simp only [gv]; rw [ha k (Nat.le_of_ble_eq_true h)]
  | _ => rfl
theorem wf_vs {b : Nat} {ad ad' : Nat → Nat} (ha : ∀ i, i < b → ad' i = ad i) : ∀ {vs : List Value}, vs.all (wfv b) = true → vs.map (gv ad') = vs.map (gv ad)
  | [], _ => rfl
  | v :: vs, h => by
    obtain ⟨h1, h2⟩ := and_t h
    simp only [List.map_cons, wf_v h1 ha]
    rw [wf_vs ha h2]
theorem wf_e {b : Nat} {ad ad' : Nat → Nat} {cA : Nat → ClassId} (ha : ∀ i, i < b → ad' i = ad i) {e : gE} (h : wfE b e = true) : ge cA ad' e = ge cA ad e := by
  rcases e with ⟨t, n, f | f | f | r⟩ | ⟨c, fs⟩
  · rfl
  · rfl
  · rfl
  · simp only [ge]
    have : (fun j => (r.getD j none).map ad') = fun j => (r.getD j none).map ad := by
      funext j
      rw [List.getD_eq_getElem?_getD]
      cases hj : r[j]? with
      | none => rfl
      | some q =>
        cases q with
        | none => rfl
        | some k =>
          have : wfq b (some k) = true := List.all_eq_true.mp h _ (List.mem_of_getElem? hj)
          show some (ad' k) = some (ad k)
          rw [ha k (Nat.le_of_ble_eq_true this)]
    rw [this]
  · simp only [ge]
    rw [wf_vs ha h]
theorem wf_w {ad ad' : Nat → Nat} {cA : Nat → ClassId} {es : List gE} (ha : ∀ i, i < es.length → ad' i = ad i) (h : es.all (wfE es.length) = true) : gw cA ad' es = gw cA ad es := by
  apply List.ext_getElem?
  intro i
  rw [gw_at, gw_at]
  cases he : es[i]? with
  | none => rfl
  | some e =>
    have hi : i < es.length := (List.getElem?_eq_some_iff.mp he).1
    have hw : wfE es.length e = true := List.all_eq_true.mp h _ (List.mem_of_getElem? he)
    simp only [Option.map_some]
    rw [ha i hi, wf_e ha hw]
theorem wf_l {b : Nat} {ad ad' : Nat → Nat} (ha : ∀ i, i < b → ad' i = ad i) : ∀ {L : List (Nat × Value)}, L.all (fun q => wfv b q.2) = true → lmap ad' L = lmap ad L
  | [], _ => rfl
  | q :: L, h => by
    obtain ⟨h1, h2⟩ := and_t h
    have := wf_l ha h2
    simp only [lmap, List.map_cons] at this ⊢
    rw [wf_v h1 ha, this]
def gN0 (X : gX) (n0 : Nat) : Prop := match X with
  | (_, _, _, _, _, _, _, _, _, _, _, _, _, ag, _, _, _) => ∀ i, ag i → i < n0
theorem gN0_of {X : gX} {n0 : Nat} (h : ∀ i, n0 ≤ i → true = true → ¬ X.2.2.2.2.2.2.2.2.2.2.2.2.2.1 i) : gN0 X n0 := by
  obtain ⟨p, l, e, R, s, m, args, below, meth, c, D, cA, A, ag, ad0, Q, nL⟩ := X
  intro i hi
  rcases Nat.lt_or_ge i n0 with q | q
  · exact q
  · exact absurd hi (h i q rfl)
variable {X : gX} {l0 : Launch} {cc : ByteArray} {own : String} {Ts : List Cond} {R0 : Room} {pc : Nat}
/-- the call of Object's constructor -/
def oObj (rl : Nat) : gO := fun _ N L S es k n => match S with
  | .ref _ :: S' => gif (Nat.ble (scat S' + 12) rl) (N L S' es k n)
  | _ => False
theorem ok_obj (hM : gM X l0 cc own Ts R0) {index : Nat} (hlink : Cond.methodLink own index objectInit ∈ Ts) (hinst : Cond.instanceMethod objectInit ∈ Ts) (hcode : Cond.code objectInit ⟨#[0xb1]⟩ 1 none ∈ Ts) (hfr : 1 ≤ R0.frames) (hd : decode cc pc = .ok (.invokespecial index, 3)) : okO X pc (pc + 3) (oObj R0.locals) := by
  obtain ⟨p, l, e, R, s, m, args, below, meth, c, D, cA, A, ag, ad0, Q, nL⟩ := X
  obtain ⟨hx, hb, hown, hts, hml, hlk, hY, hA, hR, hL0⟩ := hM
  subst hR
  intro J N hJ hN L S es k n h ad H locs ls hag hP hD hS hl
  unfold oObj at h
  split at h
  · rename_i b S'
    obtain ⟨hc, h⟩ := bif_t h
    have hc := Nat.le_of_ble_eq_true hc
    refine W.objInit (rest := S'.map (gv ad)) hx hb hown (hts _ hlink) (hts _ hinst) (hts _ hcode) rfl (hl.1.trans hml.symm) rfl hd hfr ?_ ?_
    · show 2 * 0 + _ + 12 ≤ _
      rw [scat_eq]
      omega
    · exact W.eq (g2 := F0 m (pc + 3) ls (S'.map (gv ad))) rfl (hN _ _ _ _ _ h ad H locs ls hag hP hD hS hl)
  · exact h.elim
/-- a new cell at the end of the world -/
theorem g_grow {D : va_G} {cA : Nat → ClassId} {ad : Nat → Nat} {es : List gE} {e : gE} {a : Nat} {H : Heap} {A : Nat → Prop} {x : va_E} (hwf : es.all (wfE es.length) = true) (hx : ∀ ad' : Nat → Nat, ge cA ad' e = x) (hP : va_P D vwCl (gw cA ad es ++ [(a, x)]) H) (hD : va_D A (gw cA ad es ++ [(a, x)])) :
    ∃ ad' : Nat → Nat, (∀ i, i < es.length → ad' i = ad i) ∧ ad' es.length = a ∧ va_P D vwCl (gw cA ad' (es ++ [e])) H ∧ va_D A (gw cA ad' (es ++ [e])) := by
  refine ⟨fun i => if i = es.length then a else ad i, fun i hi => if_neg (by omega), if_pos rfl, ?_⟩
  have h1 : gw cA (fun i => if i = es.length then a else ad i) (es ++ [e]) = gw cA ad es ++ [(a, x)] := by
    rw [← gw_push, wf_w (ad := ad) (fun i hi => if_neg (by omega)) hwf, hx]
    simp
  rw [h1]
  exact ⟨hP, hD⟩
def oNew (rc rs n0 ci Nf : Nat) (fs : List Value) : gO := fun _ N L S es k n => ∃ len : Nat, es.length = len ∧ gif (wfS len L S es && (Nat.ble n0 len && (fs.all (wfv 0) && (Nat.ble (k + 1) rc && Nat.ble (n + Nf) rs)))) (N L (.ref len :: S) (es ++ [.inr (ci, fs)]) (k + 1) (n + Nf))
theorem nov {fs : List Value} (h : fs.all (wfv 0) = true) (ad : Nat → Nat) : fs.map (gv ad) = fs := by
  induction fs with
  | nil => rfl
  | cons v fs ih =>
    obtain ⟨h1, h2⟩ := and_t h
    rw [List.map_cons, ih h2]
    cases v with
    | ref k => exact absurd (Nat.le_of_ble_eq_true h1) (by omega)
    | _ => rfl
theorem ok_new (hM : gM X l0 cc own Ts R0) {n0 : Nat} (hA0 : gN0 X n0) {C : String} {T : u_T} {Nf ci index : Nat} (hin : ∀ w ∈ u_ws C T Nf, w ∈ Ts) (ty0 : Nat → FieldType) (hty : ∀ k, k < Nf → parseFieldDescriptor (T k).2.2.1 = some (ty0 k)) (hcl : Cond.classLink own index C ∈ Ts) (hinst : Cond.instantiable C Nf ∈ Ts) (hini : Cond.initialized C ∈ Ts) (hc : vwCl[ci]? = some (C, T, Nf)) {fs : List Value} (hfs : ∀ j, j < Nf → defaultValue (ty0 j) = vp_V fs j) (hd : decode cc pc = .ok (.new index, 3)) : okO X pc (pc + 3) (oNew R0.cells R0.slots n0 ci Nf fs) := by
  obtain ⟨p, l, e, R, s, m, args, below, meth, c, D, cA, A, ag, ad0, Q, nL⟩ := X
  obtain ⟨hx, hb, hown, hts, hml, hlk, hY, hA, hR, hL0⟩ := hM
  have hK := hY.1
  subst hR
  intro J N hJ hN L S es k n h ad H locs ls hag hP hD hS hl
  obtain ⟨len, rfl, h⟩ := h
  obtain ⟨h1, h⟩ := bif_t (b := wfS es.length L S es && (Nat.ble n0 es.length && (fs.all (wfv 0) && (Nat.ble (k + 1) R.cells && Nat.ble (n + Nf) R.slots)))) h
  obtain ⟨h1, h2⟩ := and_t h1
  obtain ⟨hw1, h1⟩ := and_t h1
  obtain ⟨hw2, hw3⟩ := and_t h1
  obtain ⟨hn0, h2⟩ := and_t h2
  obtain ⟨hnv, h2⟩ := and_t h2
  obtain ⟨hk1, hk2⟩ := and_t h2
  have hn0 := Nat.le_of_ble_eq_true hn0
  refine va_new (fs := fs) hx hb hts hin ty0 hty hown (hts _ hcl) (hts _ hinst) (hts _ hini) hK hP hD hS hA hc hfs (Nat.le_of_ble_eq_true hk1) (Nat.le_of_ble_eq_true hk2) hd (fun q H1 hP1 hD1 hS1 => ?_)
  obtain ⟨ad', ha, hq, hP2, hD2⟩ := g_grow (e := .inr (ci, fs)) hw1 (fun ad' => by simp only [ge]; rw [nov hnv]) hP1 hD1
  have h3 := hN _ _ _ _ _ h ad' H1 locs ls (fun i hi => by rw [ha i (Nat.lt_of_lt_of_le (hA0 i hi) hn0)]; exact hag i hi) hP2 hD2 hS1 (by rw [wf_l ha hw3]; exact hl)
  rw [List.map_cons, wf_vs ha hw2] at h3
  have h4 : gv ad' (.ref es.length) = .ref q := by simp only [gv]; rw [hq]
  rw [h4] at h3
  exact h3
def arr0 (tag sz : Nat) : gE := match tag with
  | 3 => .inl (3, sz, .inr (.inl (fun _ => 0)))
  | 4 => .inl (4, sz, .inr (.inr (.inl (fun _ => 0))))
  | t => .inl (t, sz, .inl (fun _ => 0))
def oNewA (rc rs n0 tag : Nat) : gO := fun _ N L S es k n => match S with
  | .int x :: S' => ∃ len sz : Nat, es.length = len ∧ x = nI sz ∧ gif (wfS len L S' es && (Nat.ble n0 len && (Nat.ble sz 100000 && (Nat.ble (k + 1) rc && Nat.ble (n + sz) rs)))) (N L (.ref len :: S') (es ++ [arr0 tag sz]) (k + 1) (n + sz))
  | _ => False
theorem cA_eq {D : va_G} {cA : Nat → ClassId} {s : State} {c : ClassId} {ty : FieldType} {t : Nat} (ht : (gT cA)[t]? = some (cA t, ty)) (hK : va_K D vwCl (gT cA) s) (hK1 : va_K D vwCl (gT cA ++ [(c, ty)]) s) : c = cA t := by
  have h1 := (hK.2 t _ ht).2
  have h2 := (hK1.2 6 (c, ty) rfl).2
  cases ty with
  | object C =>
    obtain ⟨_, _, _, _, _, h1⟩ := h1
    obtain ⟨_, _, _, _, _, h2⟩ := h2
    exact Option.some.inj (h2.symm.trans h1)
  | _ => exact Option.some.inj ((show s.vm.findClass _ = some c from h2).symm.trans h1)
theorem ok_newa0 (hM : gM X l0 cc own Ts R0) {n0 : Nat} (hA0 : gN0 X n0) (harr : Cond.arrayClass .int ∈ Ts) (hd : decode cc pc = .ok (.newarray .int, 2)) : okO X pc (pc + 2) (oNewA R0.cells R0.slots n0 0) := by
  obtain ⟨p, l, e, R, s, m, args, below, meth, c, D, cA, A, ag, ad0, Q, nL⟩ := X
  obtain ⟨hx, hb, hown, hts, hml, hlk, hY, hA, hR, hL0⟩ := hM
  have hK := hY.1
  subst hR
  intro J N hJ hN L S es k n h ad H locs ls hag hP hD hS hl
  unfold oNewA at h
  split at h
  · rename_i x S'
    obtain ⟨len, sz, rfl, rfl, h⟩ := h
    obtain ⟨h1, h⟩ := bif_t (b := wfS es.length L S' es && (Nat.ble n0 es.length && (Nat.ble sz 100000 && (Nat.ble (k + 1) R.cells && Nat.ble (n + sz) R.slots)))) h
    obtain ⟨h1, h2⟩ := and_t h1
    obtain ⟨hw1, h1⟩ := and_t h1
    obtain ⟨hw2, hw3⟩ := and_t h1
    obtain ⟨hn0, h2⟩ := and_t h2
    obtain ⟨hsz, h2⟩ := and_t h2
    obtain ⟨hk1, hk2⟩ := and_t h2
    have hn0 := Nat.le_of_ble_eq_true hn0
    have hszl := sz_lt hsz
    have hsz8 := Nat.le_of_ble_eq_true hsz
    refine va_newa (atype := .int) (ty := .int) (a0 := (sz, .inl (fun _ => 0))) hx hb (hts _ harr) rfl hK hP hD hS hA (fun cA => rfl) (nI_pos hszl) (nI_clamp hszl) (show sz * 4 ≤ 536870912 by omega) (Nat.le_of_ble_eq_true hk1) (Nat.le_of_ble_eq_true hk2) hd (fun q cA' H1 hK1 hP1 hD1 hS1 => ?_)
    have hcA := cA_eq (t := 0) rfl hK hK1
    subst hcA
    obtain ⟨ad', ha, hq, hP2, hD2⟩ := g_grow (e := arr0 0 sz) hw1 (fun ad' => rfl) hP1 hD1
    have h3 := hN _ _ _ _ _ h ad' H1 locs ls (fun i hi => by rw [ha i (Nat.lt_of_lt_of_le (hA0 i hi) hn0)]; exact hag i hi) hP2 hD2 hS1 (by rw [wf_l ha hw3]; exact hl)
    rw [List.map_cons, wf_vs ha hw2] at h3
    have h4 : gv ad' (.ref es.length) = .ref q := by simp only [gv]; rw [hq]
    rw [h4] at h3
    exact h3
  · exact h.elim
theorem ok_newa1 (hM : gM X l0 cc own Ts R0) {n0 : Nat} (hA0 : gN0 X n0) (harr : Cond.arrayClass .char ∈ Ts) (hd : decode cc pc = .ok (.newarray .char, 2)) : okO X pc (pc + 2) (oNewA R0.cells R0.slots n0 1) := by
  obtain ⟨p, l, e, R, s, m, args, below, meth, c, D, cA, A, ag, ad0, Q, nL⟩ := X
  obtain ⟨hx, hb, hown, hts, hml, hlk, hY, hA, hR, hL0⟩ := hM
  have hK := hY.1
  subst hR
  intro J N hJ hN L S es k n h ad H locs ls hag hP hD hS hl
  unfold oNewA at h
  split at h
  · rename_i x S'
    obtain ⟨len, sz, rfl, rfl, h⟩ := h
    obtain ⟨h1, h⟩ := bif_t (b := wfS es.length L S' es && (Nat.ble n0 es.length && (Nat.ble sz 100000 && (Nat.ble (k + 1) R.cells && Nat.ble (n + sz) R.slots)))) h
    obtain ⟨h1, h2⟩ := and_t h1
    obtain ⟨hw1, h1⟩ := and_t h1
    obtain ⟨hw2, hw3⟩ := and_t h1
    obtain ⟨hn0, h2⟩ := and_t h2
    obtain ⟨hsz, h2⟩ := and_t h2
    obtain ⟨hk1, hk2⟩ := and_t h2
    have hn0 := Nat.le_of_ble_eq_true hn0
    have hszl := sz_lt hsz
    have hsz8 := Nat.le_of_ble_eq_true hsz
    refine va_newa (atype := .char) (ty := .char) (a0 := (sz, .inl (fun _ => 0))) hx hb (hts _ harr) rfl hK hP hD hS hA (fun cA => rfl) (nI_pos hszl) (nI_clamp hszl) (show sz * 2 ≤ 536870912 by omega) (Nat.le_of_ble_eq_true hk1) (Nat.le_of_ble_eq_true hk2) hd (fun q cA' H1 hK1 hP1 hD1 hS1 => ?_)
    have hcA := cA_eq (t := 1) rfl hK hK1
    subst hcA
    obtain ⟨ad', ha, hq, hP2, hD2⟩ := g_grow (e := arr0 1 sz) hw1 (fun ad' => rfl) hP1 hD1
    have h3 := hN _ _ _ _ _ h ad' H1 locs ls (fun i hi => by rw [ha i (Nat.lt_of_lt_of_le (hA0 i hi) hn0)]; exact hag i hi) hP2 hD2 hS1 (by rw [wf_l ha hw3]; exact hl)
    rw [List.map_cons, wf_vs ha hw2] at h3
    have h4 : gv ad' (.ref es.length) = .ref q := by simp only [gv]; rw [hq]
    rw [h4] at h3
    exact h3
  · exact h.elim
theorem ok_newa2 (hM : gM X l0 cc own Ts R0) {n0 : Nat} (hA0 : gN0 X n0) (harr : Cond.arrayClass .boolean ∈ Ts) (hd : decode cc pc = .ok (.newarray .boolean, 2)) : okO X pc (pc + 2) (oNewA R0.cells R0.slots n0 2) := by
  obtain ⟨p, l, e, R, s, m, args, below, meth, c, D, cA, A, ag, ad0, Q, nL⟩ := X
  obtain ⟨hx, hb, hown, hts, hml, hlk, hY, hA, hR, hL0⟩ := hM
  have hK := hY.1
  subst hR
  intro J N hJ hN L S es k n h ad H locs ls hag hP hD hS hl
  unfold oNewA at h
  split at h
  · rename_i x S'
    obtain ⟨len, sz, rfl, rfl, h⟩ := h
    obtain ⟨h1, h⟩ := bif_t (b := wfS es.length L S' es && (Nat.ble n0 es.length && (Nat.ble sz 100000 && (Nat.ble (k + 1) R.cells && Nat.ble (n + sz) R.slots)))) h
    obtain ⟨h1, h2⟩ := and_t h1
    obtain ⟨hw1, h1⟩ := and_t h1
    obtain ⟨hw2, hw3⟩ := and_t h1
    obtain ⟨hn0, h2⟩ := and_t h2
    obtain ⟨hsz, h2⟩ := and_t h2
    obtain ⟨hk1, hk2⟩ := and_t h2
    have hn0 := Nat.le_of_ble_eq_true hn0
    have hszl := sz_lt hsz
    have hsz8 := Nat.le_of_ble_eq_true hsz
    refine va_newa (atype := .boolean) (ty := .boolean) (a0 := (sz, .inl (fun _ => 0))) hx hb (hts _ harr) rfl hK hP hD hS hA (fun cA => rfl) (nI_pos hszl) (nI_clamp hszl) (show sz * 1 ≤ 536870912 by omega) (Nat.le_of_ble_eq_true hk1) (Nat.le_of_ble_eq_true hk2) hd (fun q cA' H1 hK1 hP1 hD1 hS1 => ?_)
    have hcA := cA_eq (t := 2) rfl hK hK1
    subst hcA
    obtain ⟨ad', ha, hq, hP2, hD2⟩ := g_grow (e := arr0 2 sz) hw1 (fun ad' => rfl) hP1 hD1
    have h3 := hN _ _ _ _ _ h ad' H1 locs ls (fun i hi => by rw [ha i (Nat.lt_of_lt_of_le (hA0 i hi) hn0)]; exact hag i hi) hP2 hD2 hS1 (by rw [wf_l ha hw3]; exact hl)
    rw [List.map_cons, wf_vs ha hw2] at h3
    have h4 : gv ad' (.ref es.length) = .ref q := by simp only [gv]; rw [hq]
    rw [h4] at h3
    exact h3
  · exact h.elim
def oNewQ (rc rs n0 : Nat) : gO := fun _ N L S es k n => match S with
  | .int x :: S' => ∃ len sz : Nat, es.length = len ∧ x = nI sz ∧ gif (wfS len L S' es && (Nat.ble n0 len && (Nat.ble sz 100000 && (Nat.ble (k + 1) rc && Nat.ble (n + sz) rs)))) (N L (.ref len :: S') (es ++ [.inl (5, sz, .inr (.inr (.inr (List.replicate sz none))))]) (k + 1) (n + sz))
  | _ => False
theorem rep_none (ad : Nat → Nat) (sz : Nat) : (fun j => ((List.replicate sz (none : Option Nat)).getD j none).map ad) = fun _ => none := by
  funext j
  rw [List.getD_eq_getElem?_getD]
  cases h : (List.replicate sz (none : Option Nat))[j]? with
  | none => rfl
  | some q =>
    have := List.mem_of_getElem? h
    rw [(List.mem_replicate.mp this).2]
    rfl
theorem ok_newq (hM : gM X l0 cc own Ts R0) {n0 : Nat} (hA0 : gN0 X n0) {index : Nat} (hcl : Cond.classLink own index RX4 ∈ Ts) (hd : decode cc pc = .ok (.anewarray index, 3)) : okO X pc (pc + 3) (oNewQ R0.cells R0.slots n0) := by
  obtain ⟨p, l, e, R, s, m, args, below, meth, c, D, cA, A, ag, ad0, Q, nL⟩ := X
  obtain ⟨hx, hb, hown, hts, hml, hlk, hY, hA, hR, hL0⟩ := hM
  have hK := hY.1
  subst hR
  intro J N hJ hN L S es k n h ad H locs ls hag hP hD hS hl
  unfold oNewQ at h
  split at h
  · rename_i x S'
    obtain ⟨len, sz, rfl, rfl, h⟩ := h
    obtain ⟨h1, h⟩ := bif_t (b := wfS es.length L S' es && (Nat.ble n0 es.length && (Nat.ble sz 100000 && (Nat.ble (k + 1) R.cells && Nat.ble (n + sz) R.slots)))) h
    obtain ⟨h1, h2⟩ := and_t h1
    obtain ⟨hw1, h1⟩ := and_t h1
    obtain ⟨hw2, hw3⟩ := and_t h1
    obtain ⟨hn0, h2⟩ := and_t h2
    obtain ⟨hsz, h2⟩ := and_t h2
    obtain ⟨hk1, hk2⟩ := and_t h2
    have hn0 := Nat.le_of_ble_eq_true hn0
    have hszl := sz_lt hsz
    have hsz8 := Nat.le_of_ble_eq_true hsz
    refine va_newq (C := RX4) hx hb hown (hts _ hcl) hY.2.1.2.2.2 hK hP hD hS hA (nI_pos hszl) (nI_clamp hszl) (by omega) (Nat.le_of_ble_eq_true hk1) (Nat.le_of_ble_eq_true hk2) hd (fun q cA' H1 hK1 hP1 hD1 hS1 => ?_)
    have hcA := cA_eq (t := 5) rfl hK hK1
    subst hcA
    obtain ⟨ad', ha, hq, hP2, hD2⟩ := g_grow (e := .inl (5, sz, .inr (.inr (.inr (List.replicate sz none))))) hw1 (fun ad' => by simp only [ge]; rw [rep_none]) hP1 hD1
    have h3 := hN _ _ _ _ _ h ad' H1 locs ls (fun i hi => by rw [ha i (Nat.lt_of_lt_of_le (hA0 i hi) hn0)]; exact hag i hi) hP2 hD2 hS1 (by rw [wf_l ha hw3]; exact hl)
    rw [List.map_cons, wf_vs ha hw2] at h3
    have h4 : gv ad' (.ref es.length) = .ref q := by simp only [gv]; rw [hq]
    rw [h4] at h3
    exact h3
  · exact h.elim
def oAASt : gO := fun _ N L S es k n => match S with
  | .ref v :: .int i :: .ref a :: S' => eRef es a 5 (fun sz r => eObj es v 4 (fun _ => ∃ j : Nat, i = nI j ∧ j < sz ∧ gif (Nat.beq r.length sz) (N L S' (es.set a (.inl (5, sz, .inr (.inr (.inr (r.set j (some v))))))) k n)))
  | _ => False
theorem set_q (ad : Nat → Nat) (r : List (Option Nat)) {j v : Nat} (hj : j < r.length) : va_up (fun j => (r.getD j none).map ad) j (some (ad v)) = fun i => ((r.set j (some v)).getD i none).map ad := by
  funext i
  show (if i = j then some (ad v) else (r.getD i none).map ad) = _
  rw [List.getD_eq_getElem?_getD, List.getD_eq_getElem?_getD, List.getElem?_set]
  by_cases h : i = j
  · subst h
    rw [if_pos rfl, if_pos rfl, if_pos hj]
    rfl
  · rw [if_neg h, if_neg (fun q => h q.symm)]
theorem ok_aast (hM : gM X l0 cc own Ts R0) (hd : decode cc pc = .ok (.aastore, 1)) : okO X pc (pc + 1) oAASt := by
  obtain ⟨p, l, e, R, s, m, args, below, meth, c, D, cA, A, ag, ad0, Q, nL⟩ := X
  obtain ⟨hx, hb, hown, hts, hml, hlk, hY, hA, hR, hL0⟩ := hM
  have hK := hY.1
  intro J N hJ hN L S es k n h ad H locs ls hag hP hD hS hl
  unfold oAASt at h
  split at h
  · rename_i v i a S'
    obtain ⟨sz, r, hes, hsz, h⟩ := eRef_ok h
    obtain ⟨fs, hev, j, rfl, hj, h⟩ := eObj_ok h
    obtain ⟨hlen, h⟩ := bif_t (b := Nat.beq r.length sz) h
    have hlen := Nat.eq_of_beq_eq_true hlen
    have hc9 : (nI j).toNatClampNeg = j := nI_clamp (Nat.lt_trans hj hsz)
    have hsq := set_q ad r (j := j) (v := v) (by omega)
    refine va_astq (r := (RX4, TX4, 6)) hx hb hK hP hD hS a 5 v 4 (gw_get hes) rfl (gw_get hev) rfl (vp_in_nI hj hsz) hd (fun H1 locs1 hP1 hD1 hS1 => hN _ _ _ _ _ h ad H1 locs1 ls hag ?_ ?_ hS1 hl)
    · rw [hc9, hsq] at hP1
      rw [← gw_set]
      exact hP1
    · rw [hc9, hsq] at hD1
      rw [← gw_set]
      exact hD1
  · exact h.elim
-- a constructor's call: its own cell, and what it makes
def gren (b len : Nat) : Nat → Nat
  | 0 => b
  | j + 1 => len + j
def oCallI (rc rs cmc cms n0 : Nat) (sp : gS) : gO := fun _ N L S es k n => match S with
  | .ref b :: S' => (match gnth es b with
    | some (.inr (ci, fs)) => ∃ len : Nat, es.length = len ∧ gif (wfS len L S' es && (fs.all (wfv 0) && (Nat.ble n0 len && (Nat.ble (scat S') 8 && (Nat.ble (k + cmc) rc && Nat.ble (n + cms) rs))))) (sp [.ref 0] [.inr (ci, fs)] (fun v es' => match v with
      | none => (match es' with
        | e0 :: new => gforce (es.set b (renE (gren b len) e0) ++ new.map (renE (gren b len))) (fun es2 => N L S' es2 (k + cmc) (n + cms))
        | [] => False)
      | some _ => False))
    | _ => False)
  | _ => False
/-- behind a constructor -/
theorem g_joinI {D : va_G} {cA : Nat → ClassId} {ad adc : Nat → Nat} {es new : List gE} {e0 : gE} {b ci : Nat} {fs : List Value} {A : Nat → Prop} {H0 H H1 : Heap} {locs : List Loc} (hb : es[b]? = some (.inr (ci, fs))) (hwf : es.all (wfE es.length) = true) (hP : va_P D vwCl (gw cA ad es) H) (hD : va_D A (gw cA ad es)) (hS : va_S A H0 H locs) (hA : ∀ q, H0.size ≤ q → A q) (h0 : adc 0 = ad b)
    (hk : ∀ q : Nat, q < H.size → ¬ va_A (gw cA (fun _ => ad b) [.inr (ci, fs)]) H.size q → H1[q]? = H[q]?) (hP1 : va_P D vwCl (gw cA adc (e0 :: new)) H1) (hD1 : va_D (va_A (gw cA (fun _ => ad b) [.inr (ci, fs)]) H.size) (gw cA adc (e0 :: new))) :
    ∃ ad' : Nat → Nat, (∀ i, i < es.length → ad' i = ad i) ∧ va_P D vwCl (gw cA ad' (es.set b (renE (gren b es.length) e0) ++ new.map (renE (gren b es.length)))) H1 ∧ va_D A (gw cA ad' (es.set b (renE (gren b es.length) e0) ++ new.map (renE (gren b es.length)))) := by
  have hbl : b < es.length := (List.getElem?_eq_some_iff.mp hb).1
  obtain ⟨ad', had'⟩ : ∃ ad' : Nat → Nat, ad' = fun i => if i < es.length then ad i else adc (1 + (i - es.length)) := ⟨_, rfl⟩
  have ho : ∀ i, i < es.length → ad' i = ad i := fun i hi => by rw [had']; exact if_pos hi
  have hn : ∀ j, ad' (es.length + j) = adc (j + 1) := fun j => by
    rw [had']
    show (if es.length + j < es.length then _ else _) = _
    rw [if_neg (by omega), Nat.add_sub_cancel_left, Nat.add_comm]
  have hren : (fun k => ad' (gren b es.length k)) = adc := by
    funext k
    cases k with
    | zero => show ad' b = adc 0; rw [ho b hbl, h0]
    | succ j => exact hn j
  have hA1 : ∀ q, va_A (gw cA (fun _ => ad b) [.inr (ci, fs)]) H.size q → q = ad b ∨ H.size ≤ q := by
    intro q h
    rcases h with ⟨k, e, h⟩ | h
    · rw [gw_at] at h
      cases k with
      | zero =>
        simp only [List.getElem?_cons_zero, Option.map_some] at h
        exact Or.inl (congrArg Prod.fst (Option.some.inj h)).symm
      | succ k => simp at h
    · exact Or.inr h
  -- the cells of the new world, by their numbers
  have cell : ∀ (i : Nat) (q : Nat × va_E), (gw cA ad' (es.set b (renE (gren b es.length) e0) ++ new.map (renE (gren b es.length))))[i]? = some q → (i < es.length ∧ i ≠ b ∧ (gw cA ad es)[i]? = some q) ∨ (i = b ∧ q = (ad b, ge cA adc e0)) ∨ ∃ j e, i = es.length + j ∧ new[j]? = some e ∧ q = (adc (j + 1), ge cA adc e) := by
    intro i q h
    rw [gw_at] at h
    by_cases hi : i < es.length
    · rw [List.getElem?_append_left (by simpa using hi), List.getElem?_set] at h
      by_cases hib : b = i
      · subst hib
        rw [if_pos rfl, if_pos hbl] at h
        refine Or.inr (Or.inl ⟨rfl, ?_⟩)
        have := Option.some.inj h
        rw [← this]
        show (ad' b, ge cA ad' (renE (gren b es.length) e0)) = _
        rw [ren_e, hren, ho b hbl]
      · rw [if_neg hib] at h
        refine Or.inl ⟨hi, fun z => hib z.symm, ?_⟩
        rw [gw_at, ← h]
        cases he : es[i]? with
        | none => rfl
        | some e =>
          have hw : wfE es.length e = true := List.all_eq_true.mp hwf _ (List.mem_of_getElem? he)
          simp only [Option.map_some]
          rw [ho i hi, wf_e ho hw]
    · rw [List.getElem?_append_right (by simpa using hi)] at h
      simp only [List.length_set, List.getElem?_map] at h
      cases he : new[i - es.length]? with
      | none => rw [he] at h; cases h
      | some e =>
        rw [he] at h
        refine Or.inr (Or.inr ⟨i - es.length, e, by omega, he, ?_⟩)
        have := Option.some.inj h
        rw [← this]
        show (ad' i, ge cA ad' (renE (gren b es.length) e)) = _
        rw [ren_e, hren]
        rw [show i = es.length + (i - es.length) by omega, hn]
        simp
  have at0 : (gw cA adc (e0 :: new))[0]? = some (adc 0, ge cA adc e0) := gw_get rfl
  have atn : ∀ (j : Nat) (e : gE), new[j]? = some e → (gw cA adc (e0 :: new))[j + 1]? = some (adc (j + 1), ge cA adc e) := fun j e h => gw_get (by simpa using h)
  have oldlt : ∀ (i : Nat) (q : Nat × va_E), (gw cA ad es)[i]? = some q → q.1 < H.size := fun i q h => (hP i q h).lt
  have oldne : ∀ (i : Nat) (q : Nat × va_E), i ≠ b → (gw cA ad es)[i]? = some q → q.1 ≠ ad b := fun i q hi h z => hi (hD.1 i b q _ h (gw_get hb) z)
  have newge : ∀ (j : Nat) (e : gE), new[j]? = some e → H.size ≤ adc (j + 1) := fun j e h => by
    rcases hA1 _ (hD1.2 (j + 1) _ (atn j e h)) with z | z
    · exfalso
      have := hD1.1 (j + 1) 0 _ _ (atn j e h) at0 (z.trans h0.symm)
      omega
    · exact z
  refine ⟨ad', ho, fun i q h => ?_, fun i j p q hp hq hpq => ?_, fun i q h => ?_⟩
  · rcases cell i q h with ⟨h1, h2, h3⟩ | ⟨h1, h2⟩ | ⟨j, e, h1, h2, h3⟩
    · refine (hP i q h3).kept (hk q.1 (oldlt i q h3) (fun z => ?_))
      rcases hA1 _ z with z | z
      · exact oldne i q h2 h3 z
      · have := oldlt i q h3
        omega
    · rw [h2, ← h0]
      exact hP1 0 _ at0
    · rw [h3]
      exact hP1 (j + 1) _ (atn j e h2)
  · rcases cell i p hp with ⟨h1, h2, h3⟩ | ⟨h1, h2⟩ | ⟨x, e, h1, h2, h3⟩ <;> rcases cell j q hq with ⟨g1, g2, g3⟩ | ⟨g1, g2⟩ | ⟨y, f, g1, g2, g3⟩
    · exact hD.1 i j p q h3 g3 hpq
    · exact absurd (hpq.trans (by rw [g2])) (oldne i p h2 h3)
    · have a1 := oldlt i p h3
      have a2 := newge y f g2
      rw [g3] at hpq
      simp only at hpq
      omega
    · exact absurd (hpq.symm.trans (by rw [h2])) (oldne j q g2 g3)
    · omega
    · have a2 := newge y f g2
      have a1 := oldlt b _ (gw_get hb)
      rw [h2, g3] at hpq
      simp only at hpq a1
      omega
    · have a1 := oldlt j q g3
      have a2 := newge x e h2
      rw [h3] at hpq
      simp only at hpq
      omega
    · have a2 := newge x e h2
      have a1 := oldlt b _ (gw_get hb)
      rw [h3, g2] at hpq
      simp only at hpq a1
      omega
    · rw [h3, g3] at hpq
      have := hD1.1 (x + 1) (y + 1) _ _ (atn x e h2) (atn y f g2) hpq
      omega
  · rcases cell i q h with ⟨h1, h2, h3⟩ | ⟨h1, h2⟩ | ⟨j, e, h1, h2, h3⟩
    · exact hD.2 i q h3
    · rw [h2]
      show A (ad b)
      exact hD.2 b (ad b, ge cA ad (.inr (ci, fs))) (gw_get hb)
    · rw [h3]
      exact hA _ (Nat.le_trans hS.1 (newge j e h2))
theorem ok_callI (hM : gM X l0 cc own Ts R0) {n0 : Nat} (hA0 : gN0 X n0) {y : MethodName} {ws ws' : List Cond} {rm : Room} {bytes : ByteArray} {maxL index cmc cms : Nat} {sp : gS} (hC : Ct l0 y ws rm cmc cms true sp) (hG : GoodIn Ts ws) (hw : ws = Cond.code y bytes maxL none :: ws') (hrc : rm.cells = cmc) (hrs : rm.slots = cms) (hlink : Cond.methodLink own index y ∈ Ts) (hini : Cond.initialized y.cls ∈ Ts) (hin : Cond.instanceMethod y ∈ Ts) (hy1 : y.name = "<init>")
    (hdy : y.cls ≠ "java/lang/invoke/MethodHandle" ∧ y.cls ≠ "java/lang/invoke/VarHandle" ∧ (parseMethodDescriptor y.desc).map (fun d => d.parameters.length) = some 0) (hRm : rm.frames + 1 ≤ R0.frames ∧ 8 + (maxL + 11) + rm.locals ≤ R0.locals) (hd : decode cc pc = .ok (.invokespecial index, 3)) :
    okO X pc (pc + 3) (oCallI R0.cells R0.slots cmc cms n0 sp) := by
  obtain ⟨p, l, e, R, s, m, args, below, meth, c, D, cA, A, ag, ad0, Q, nL⟩ := X
  obtain ⟨hx, hb, hown, hts, hml, hlk, hY, hA, hR, hL0⟩ := hM
  subst hR
  subst hL0
  intro J N hJ hN L S es k n h ad H locs ls hag hP hD hS hl
  unfold oCallI at h
  split at h
  · rename_i b S'
    split at h
    · rename_i ci fs hes
      rw [gnth_eq] at hes
      obtain ⟨len, rfl, h⟩ := h
      obtain ⟨h1, h⟩ := bif_t (b := wfS es.length L S' es && (fs.all (wfv 0) && (Nat.ble n0 es.length && (Nat.ble (scat S') 8 && (Nat.ble (k + cmc) R.cells && Nat.ble (n + cms) R.slots))))) h
      obtain ⟨h1, h2⟩ := and_t h1
      obtain ⟨hw1, h1⟩ := and_t h1
      obtain ⟨hw2, hw3⟩ := and_t h1
      obtain ⟨hnv, h2⟩ := and_t h2
      obtain ⟨hn0, h2⟩ := and_t h2
      obtain ⟨hsc, h2⟩ := and_t h2
      obtain ⟨hk1, hk2⟩ := and_t h2
      have hn0 := Nat.le_of_ble_eq_true hn0
      have hMet := hC D cA (fun _ => ad b) H.size _ _ _ h
      have hge : ∀ ad9 : Nat → Nat, ge cA ad9 (.inr (ci, fs)) = .inr (ci, fs) := fun ad9 => by simp only [ge]; rw [nov hnv]
      have hsub : ∀ (j : Nat) (q : Nat × va_E), (gw cA (fun _ => ad b) [.inr (ci, fs)])[j]? = some q → j = 0 ∧ q = (ad b, .inr (ci, fs)) := fun j q hj => by
        rw [gw_at] at hj
        cases j with
        | zero =>
          simp only [List.getElem?_cons_zero, Option.map_some, hge] at hj
          exact ⟨rfl, (Option.some.inj hj).symm⟩
        | succ j => simp at hj
      have hbw : (gw cA ad es)[b]? = some (ad b, .inr (ci, fs)) := by rw [gw_get hes, hge]
      have hF : ∀ q, va_A (gw cA (fun _ => ad b) [.inr (ci, fs)]) H.size q → A q := by
        intro q hq
        rcases hq with ⟨j, e9, hq⟩ | hq
        · have := (hsub j _ hq).2
          rw [show q = ad b from congrArg Prod.fst this]
          exact hD.2 b _ hbw
        · exact hA q (Nat.le_trans hS.1 hq)
      have hcb := cwI (R := R) (own := own) (index := index) (maxL := maxL) 0 hts hG hw hrc hrs (hts _ hini) (hts _ hlink) (hts _ hin) hy1 hdy hRm
      refine g_call (va_runI (As := []) (rest := S'.map (gv ad)) (b := ad b) ⟨hx, hb, hml, hown, hts⟩ hMet hcb ⟨gPc_blind, fun U hU hW => ?_⟩ rfl rfl hl.1 rfl (lv_room (by rw [scat_eq]; exact Nat.le_of_ble_eq_true hsc)) hd ⟨Nat.le_of_ble_eq_true hk1, Nat.le_of_ble_eq_true hk2⟩) hS hF (fun v es' ad' H1 locs1 hKv hag' hP1 hD1 hz hk hS1 => ?_)
      · refine ⟨rfl, by rw [hU], ?_, gY.call hY hS hF hW hU, ⟨fun i j x y hi hj _ => ?_, fun _ _ _ => trivial⟩⟩
        · rw [hU]
          intro j q hj
          rw [(hsub j q hj).2]
          exact hP b _ hbw
        · rw [(hsub i x hi).1, (hsub j y hj).1]
      · cases v with
        | some v => exact hKv.elim
        | none =>
          cases es' with
          | nil => exact hKv.elim
          | cons e0 new =>
            have hKv : gforce (es.set b (renE (gren b es.length) e0) ++ new.map (renE (gren b es.length))) (fun es2 => N L S' es2 (k + cmc) (n + cms)) := hKv
            rw [gforce_eq] at hKv
            obtain ⟨ad2, ho, hP2, hD2⟩ := g_joinI hes hw1 hP hD hS hA (hag' 0 (Nat.zero_lt_one)) hk hP1 hD1
            have h3 := hN _ _ _ _ _ hKv ad2 H1 locs1 ls (fun i hi => by rw [ho i (Nat.lt_of_lt_of_le (hA0 i hi) hn0)]; exact hag i hi) hP2 hD2 hS1 (by rw [wf_l ho hw3]; exact hl)
            rw [wf_vs ho hw2] at h3
            exact h3
    · exact h.elim
  · exact h.elim
theorem ok_callIN (hM : gM X l0 cc own Ts R0) {n0 : Nat} (hA0 : gN0 X n0) {y : MethodName} {ws ws' : List Cond} {rm : Room} {bytes : ByteArray} {maxL index cmc cms : Nat} {sp : gS} (hC : Ct l0 y ws rm cmc cms true sp) (hG : GoodIn Ts ws) (hw : ws = Cond.code y bytes maxL none :: ws') (hrc : rm.cells = cmc) (hrs : rm.slots = cms) (hnest : (own, index, y) ∈ gNest) (hini : Cond.initialized y.cls ∈ Ts) (hin : Cond.instanceMethod y ∈ Ts) (hy1 : y.name = "<init>")
    (hdy : y.cls ≠ "java/lang/invoke/MethodHandle" ∧ y.cls ≠ "java/lang/invoke/VarHandle" ∧ (parseMethodDescriptor y.desc).map (fun d => d.parameters.length) = some 0) (hRm : rm.frames + 1 ≤ R0.frames ∧ 8 + (maxL + 11) + rm.locals ≤ R0.locals) (hd : decode cc pc = .ok (.invokespecial index, 3)) :
    okO X pc (pc + 3) (oCallI R0.cells R0.slots cmc cms n0 sp) := by
  obtain ⟨p, l, e, R, s, m, args, below, meth, c, D, cA, A, ag, ad0, Q, nL⟩ := X
  obtain ⟨hx, hb, hown, hts, hml, hlk, hY, hA, hR, hL0⟩ := hM
  subst hR
  subst hL0
  intro J N hJ hN L S es k n h ad H locs ls hag hP hD hS hl
  unfold oCallI at h
  split at h
  · rename_i b S'
    split at h
    · rename_i ci fs hes
      rw [gnth_eq] at hes
      obtain ⟨len, rfl, h⟩ := h
      obtain ⟨h1, h⟩ := bif_t (b := wfS es.length L S' es && (fs.all (wfv 0) && (Nat.ble n0 es.length && (Nat.ble (scat S') 8 && (Nat.ble (k + cmc) R.cells && Nat.ble (n + cms) R.slots))))) h
      obtain ⟨h1, h2⟩ := and_t h1
      obtain ⟨hw1, h1⟩ := and_t h1
      obtain ⟨hw2, hw3⟩ := and_t h1
      obtain ⟨hnv, h2⟩ := and_t h2
      obtain ⟨hn0, h2⟩ := and_t h2
      obtain ⟨hsc, h2⟩ := and_t h2
      obtain ⟨hk1, hk2⟩ := and_t h2
      have hn0 := Nat.le_of_ble_eq_true hn0
      have hMet := hC D cA (fun _ => ad b) H.size _ _ _ h
      have hge : ∀ ad9 : Nat → Nat, ge cA ad9 (.inr (ci, fs)) = .inr (ci, fs) := fun ad9 => by simp only [ge]; rw [nov hnv]
      have hsub : ∀ (j : Nat) (q : Nat × va_E), (gw cA (fun _ => ad b) [.inr (ci, fs)])[j]? = some q → j = 0 ∧ q = (ad b, .inr (ci, fs)) := fun j q hj => by
        rw [gw_at] at hj
        cases j with
        | zero =>
          simp only [List.getElem?_cons_zero, Option.map_some, hge] at hj
          exact ⟨rfl, (Option.some.inj hj).symm⟩
        | succ j => simp at hj
      have hbw : (gw cA ad es)[b]? = some (ad b, .inr (ci, fs)) := by rw [gw_get hes, hge]
      have hF : ∀ q, va_A (gw cA (fun _ => ad b) [.inr (ci, fs)]) H.size q → A q := by
        intro q hq
        rcases hq with ⟨j, e9, hq⟩ | hq
        · have := (hsub j _ hq).2
          rw [show q = ad b from congrArg Prod.fst this]
          exact hD.2 b _ hbw
        · exact hA q (Nat.le_trans hS.1 hq)
      have hcb := va_cnB (R := R) (own := own) (index := index) (host := RX6) (maxL := maxL) 0 hts hG hw hrc hrs (hY.2.1.1 _ hnest) (hts _ hini) hdy hRm
      refine g_call (va_runIN (As := []) (rest := S'.map (gv ad)) (b := ad b) ⟨hx, hb, hml, hown, hts⟩ hMet ⟨hcb, hy1, hts _ hin⟩ ⟨gPc_blind, fun U hU hW => ?_⟩ rfl rfl hl.1 rfl (lv_room (by rw [scat_eq]; exact Nat.le_of_ble_eq_true hsc)) hd ⟨Nat.le_of_ble_eq_true hk1, Nat.le_of_ble_eq_true hk2⟩) hS hF (fun v es' ad' H1 locs1 hKv hag' hP1 hD1 hz hk hS1 => ?_)
      · refine ⟨rfl, by rw [hU], ?_, gY.call hY hS hF hW hU, ⟨fun i j x y hi hj _ => ?_, fun _ _ _ => trivial⟩⟩
        · rw [hU]
          intro j q hj
          rw [(hsub j q hj).2]
          exact hP b _ hbw
        · rw [(hsub i x hi).1, (hsub j y hj).1]
      · cases v with
        | some v => exact hKv.elim
        | none =>
          cases es' with
          | nil => exact hKv.elim
          | cons e0 new =>
            have hKv : gforce (es.set b (renE (gren b es.length) e0) ++ new.map (renE (gren b es.length))) (fun es2 => N L S' es2 (k + cmc) (n + cms)) := hKv
            rw [gforce_eq] at hKv
            obtain ⟨ad2, ho, hP2, hD2⟩ := g_joinI hes hw1 hP hD hS hA (hag' 0 (Nat.zero_lt_one)) hk hP1 hD1
            have h3 := hN _ _ _ _ _ hKv ad2 H1 locs1 ls (fun i hi => by rw [ho i (Nat.lt_of_lt_of_le (hA0 i hi) hn0)]; exact hag i hi) hP2 hD2 hS1 (by rw [wf_l ho hw3]; exact hl)
            rw [wf_vs ho hw2] at h3
            exact h3
    · exact h.elim
  · exact h.elim
end GA
end
section
theorem dX0_init_0 : decode cX0_init 0 = .ok (.aload_n 0, 1) := by decide +kernel
theorem dX0_init_1 : decode cX0_init 1 = .ok (.invokespecial 3, 3) := by decide +kernel
theorem dX0_init_4 : decode cX0_init 4 = .ok (.aload_n 0, 1) := by decide +kernel
theorem dX0_init_5 : decode cX0_init 5 = .ok (.bipush 80, 2) := by decide +kernel
theorem dX0_init_7 : decode cX0_init 7 = .ok (.newarray .char, 2) := by decide +kernel
theorem dX0_init_9 : decode cX0_init 9 = .ok (.putfield 9, 3) := by decide +kernel
theorem dX0_init_12 : decode cX0_init 12 = .ok (.aload_n 0, 1) := by decide +kernel
theorem dX0_init_13 : decode cX0_init 13 = .ok (.iconst 0, 1) := by decide +kernel
theorem dX0_init_14 : decode cX0_init 14 = .ok (.putfield 15, 3) := by decide +kernel
theorem dX0_init_17 : decode cX0_init 17 = .ok (.return_, 1) := by decide +kernel
theorem dX1_init_0 : decode cX1_init 0 = .ok (.aload_n 0, 1) := by decide +kernel
theorem dX1_init_1 : decode cX1_init 1 = .ok (.invokespecial 3, 3) := by decide +kernel
theorem dX1_init_4 : decode cX1_init 4 = .ok (.aload_n 0, 1) := by decide +kernel
theorem dX1_init_5 : decode cX1_init 5 = .ok (.bipush 6, 2) := by decide +kernel
theorem dX1_init_7 : decode cX1_init 7 = .ok (.anewarray 9, 3) := by decide +kernel
theorem dX1_init_10 : decode cX1_init 10 = .ok (.putfield 11, 3) := by decide +kernel
theorem dX1_init_13 : decode cX1_init 13 = .ok (.aload_n 0, 1) := by decide +kernel
theorem dX1_init_14 : decode cX1_init 14 = .ok (.iconst 0, 1) := by decide +kernel
theorem dX1_init_15 : decode cX1_init 15 = .ok (.putfield 17, 3) := by decide +kernel
theorem dX1_init_18 : decode cX1_init 18 = .ok (.aload_n 0, 1) := by decide +kernel
theorem dX1_init_19 : decode cX1_init 19 = .ok (.iconst 0, 1) := by decide +kernel
theorem dX1_init_20 : decode cX1_init 20 = .ok (.putfield 21, 3) := by decide +kernel
theorem dX1_init_23 : decode cX1_init 23 = .ok (.iconst 0, 1) := by decide +kernel
theorem dX1_init_24 : decode cX1_init 24 = .ok (.istore_n 1, 1) := by decide +kernel
theorem dX1_init_25 : decode cX1_init 25 = .ok (.iload_n 1, 1) := by decide +kernel
theorem dX1_init_26 : decode cX1_init 26 = .ok (.bipush 6, 2) := by decide +kernel
theorem dX1_init_28 : decode cX1_init 28 = .ok (.if_icmp .ge 22, 3) := by decide +kernel
theorem dX1_init_31 : decode cX1_init 31 = .ok (.aload_n 0, 1) := by decide +kernel
theorem dX1_init_32 : decode cX1_init 32 = .ok (.getfield 11, 3) := by decide +kernel
theorem dX1_init_35 : decode cX1_init 35 = .ok (.iload_n 1, 1) := by decide +kernel
theorem dX1_init_36 : decode cX1_init 36 = .ok (.new 9, 3) := by decide +kernel
theorem dX1_init_39 : decode cX1_init 39 = .ok (.dup, 1) := by decide +kernel
theorem dX1_init_40 : decode cX1_init 40 = .ok (.invokespecial 24, 3) := by decide +kernel
theorem dX1_init_43 : decode cX1_init 43 = .ok (.aastore, 1) := by decide +kernel
theorem dX1_init_44 : decode cX1_init 44 = .ok (.iinc 1 1, 3) := by decide +kernel
theorem dX1_init_47 : decode cX1_init 47 = .ok (.goto (-22), 3) := by decide +kernel
theorem dX1_init_50 : decode cX1_init 50 = .ok (.return_, 1) := by decide +kernel
theorem dX1_push_0 : decode cX1_push 0 = .ok (.aload_n 0, 1) := by decide +kernel
theorem dX1_push_1 : decode cX1_push 1 = .ok (.getfield 11, 3) := by decide +kernel
theorem dX1_push_4 : decode cX1_push 4 = .ok (.aload_n 0, 1) := by decide +kernel
theorem dX1_push_5 : decode cX1_push 5 = .ok (.getfield 17, 3) := by decide +kernel
theorem dX1_push_8 : decode cX1_push 8 = .ok (.aload_n 0, 1) := by decide +kernel
theorem dX1_push_9 : decode cX1_push 9 = .ok (.getfield 21, 3) := by decide +kernel
theorem dX1_push_12 : decode cX1_push 12 = .ok (.iadd, 1) := by decide +kernel
theorem dX1_push_13 : decode cX1_push 13 = .ok (.bipush 6, 2) := by decide +kernel
theorem dX1_push_15 : decode cX1_push 15 = .ok (.irem, 1) := by decide +kernel
theorem dX1_push_16 : decode cX1_push 16 = .ok (.aaload, 1) := by decide +kernel
theorem dX1_push_17 : decode cX1_push 17 = .ok (.aload_n 1, 1) := by decide +kernel
theorem dX1_push_18 : decode cX1_push 18 = .ok (.invokevirtual 25, 3) := by decide +kernel
theorem dX1_push_21 : decode cX1_push 21 = .ok (.aload_n 0, 1) := by decide +kernel
theorem dX1_push_22 : decode cX1_push 22 = .ok (.getfield 21, 3) := by decide +kernel
theorem dX1_push_25 : decode cX1_push 25 = .ok (.bipush 6, 2) := by decide +kernel
theorem dX1_push_27 : decode cX1_push 27 = .ok (.if_icmp .ge 16, 3) := by decide +kernel
theorem dX1_push_30 : decode cX1_push 30 = .ok (.aload_n 0, 1) := by decide +kernel
theorem dX1_push_31 : decode cX1_push 31 = .ok (.dup, 1) := by decide +kernel
theorem dX1_push_32 : decode cX1_push 32 = .ok (.getfield 21, 3) := by decide +kernel
theorem dX1_push_35 : decode cX1_push 35 = .ok (.iconst 1, 1) := by decide +kernel
theorem dX1_push_36 : decode cX1_push 36 = .ok (.iadd, 1) := by decide +kernel
theorem dX1_push_37 : decode cX1_push 37 = .ok (.putfield 21, 3) := by decide +kernel
theorem dX1_push_40 : decode cX1_push 40 = .ok (.goto 16, 3) := by decide +kernel
theorem dX1_push_43 : decode cX1_push 43 = .ok (.aload_n 0, 1) := by decide +kernel
theorem dX1_push_44 : decode cX1_push 44 = .ok (.aload_n 0, 1) := by decide +kernel
theorem dX1_push_45 : decode cX1_push 45 = .ok (.getfield 17, 3) := by decide +kernel
theorem dX1_push_48 : decode cX1_push 48 = .ok (.iconst 1, 1) := by decide +kernel
theorem dX1_push_49 : decode cX1_push 49 = .ok (.iadd, 1) := by decide +kernel
theorem dX1_push_50 : decode cX1_push 50 = .ok (.bipush 6, 2) := by decide +kernel
theorem dX1_push_52 : decode cX1_push 52 = .ok (.irem, 1) := by decide +kernel
theorem dX1_push_53 : decode cX1_push 53 = .ok (.putfield 17, 3) := by decide +kernel
theorem dX1_push_56 : decode cX1_push 56 = .ok (.return_, 1) := by decide +kernel
theorem dX2_init_0 : decode cX2_init 0 = .ok (.aload_n 0, 1) := by decide +kernel
theorem dX2_init_1 : decode cX2_init 1 = .ok (.invokespecial 3, 3) := by decide +kernel
theorem dX2_init_4 : decode cX2_init 4 = .ok (.aload_n 0, 1) := by decide +kernel
theorem dX2_init_5 : decode cX2_init 5 = .ok (.bipush 64, 2) := by decide +kernel
theorem dX2_init_7 : decode cX2_init 7 = .ok (.newarray .int, 2) := by decide +kernel
theorem dX2_init_9 : decode cX2_init 9 = .ok (.putfield 9, 3) := by decide +kernel
theorem dX2_init_12 : decode cX2_init 12 = .ok (.aload_n 0, 1) := by decide +kernel
theorem dX2_init_13 : decode cX2_init 13 = .ok (.bipush 32, 2) := by decide +kernel
theorem dX2_init_15 : decode cX2_init 15 = .ok (.newarray .int, 2) := by decide +kernel
theorem dX2_init_17 : decode cX2_init 17 = .ok (.putfield 15, 3) := by decide +kernel
theorem dX2_init_20 : decode cX2_init 20 = .ok (.iconst 0, 1) := by decide +kernel
theorem dX2_init_21 : decode cX2_init 21 = .ok (.istore_n 1, 1) := by decide +kernel
theorem dX2_init_22 : decode cX2_init 22 = .ok (.iload_n 1, 1) := by decide +kernel
theorem dX2_init_23 : decode cX2_init 23 = .ok (.aload_n 0, 1) := by decide +kernel
theorem dX2_init_24 : decode cX2_init 24 = .ok (.getfield 9, 3) := by decide +kernel
theorem dX2_init_27 : decode cX2_init 27 = .ok (.arraylength, 1) := by decide +kernel
theorem dX2_init_28 : decode cX2_init 28 = .ok (.if_icmp .ge 16, 3) := by decide +kernel
theorem dX2_init_31 : decode cX2_init 31 = .ok (.aload_n 0, 1) := by decide +kernel
theorem dX2_init_32 : decode cX2_init 32 = .ok (.getfield 9, 3) := by decide +kernel
theorem dX2_init_35 : decode cX2_init 35 = .ok (.iload_n 1, 1) := by decide +kernel
theorem dX2_init_36 : decode cX2_init 36 = .ok (.iconst (-1), 1) := by decide +kernel
theorem dX2_init_37 : decode cX2_init 37 = .ok (.iastore, 1) := by decide +kernel
theorem dX2_init_38 : decode cX2_init 38 = .ok (.iinc 1 1, 3) := by decide +kernel
theorem dX2_init_41 : decode cX2_init 41 = .ok (.goto (-19), 3) := by decide +kernel
theorem dX2_init_44 : decode cX2_init 44 = .ok (.return_, 1) := by decide +kernel
theorem dX2_copyFrom_0 : decode cX2_copyFrom 0 = .ok (.aload_n 1, 1) := by decide +kernel
theorem dX2_copyFrom_1 : decode cX2_copyFrom 1 = .ok (.getfield 9, 3) := by decide +kernel
theorem dX2_copyFrom_4 : decode cX2_copyFrom 4 = .ok (.iconst 0, 1) := by decide +kernel
theorem dX2_copyFrom_5 : decode cX2_copyFrom 5 = .ok (.aload_n 0, 1) := by decide +kernel
theorem dX2_copyFrom_6 : decode cX2_copyFrom 6 = .ok (.getfield 9, 3) := by decide +kernel
theorem dX2_copyFrom_9 : decode cX2_copyFrom 9 = .ok (.iconst 0, 1) := by decide +kernel
theorem dX2_copyFrom_10 : decode cX2_copyFrom 10 = .ok (.aload_n 0, 1) := by decide +kernel
theorem dX2_copyFrom_11 : decode cX2_copyFrom 11 = .ok (.getfield 9, 3) := by decide +kernel
theorem dX2_copyFrom_14 : decode cX2_copyFrom 14 = .ok (.arraylength, 1) := by decide +kernel
theorem dX2_copyFrom_15 : decode cX2_copyFrom 15 = .ok (.invokestatic 18, 3) := by decide +kernel
theorem dX2_copyFrom_18 : decode cX2_copyFrom 18 = .ok (.aload_n 1, 1) := by decide +kernel
theorem dX2_copyFrom_19 : decode cX2_copyFrom 19 = .ok (.getfield 15, 3) := by decide +kernel
theorem dX2_copyFrom_22 : decode cX2_copyFrom 22 = .ok (.iconst 0, 1) := by decide +kernel
theorem dX2_copyFrom_23 : decode cX2_copyFrom 23 = .ok (.aload_n 0, 1) := by decide +kernel
theorem dX2_copyFrom_24 : decode cX2_copyFrom 24 = .ok (.getfield 15, 3) := by decide +kernel
theorem dX2_copyFrom_27 : decode cX2_copyFrom 27 = .ok (.iconst 0, 1) := by decide +kernel
theorem dX2_copyFrom_28 : decode cX2_copyFrom 28 = .ok (.aload_n 0, 1) := by decide +kernel
theorem dX2_copyFrom_29 : decode cX2_copyFrom 29 = .ok (.getfield 15, 3) := by decide +kernel
theorem dX2_copyFrom_32 : decode cX2_copyFrom 32 = .ok (.arraylength, 1) := by decide +kernel
theorem dX2_copyFrom_33 : decode cX2_copyFrom 33 = .ok (.invokestatic 18, 3) := by decide +kernel
theorem dX2_copyFrom_36 : decode cX2_copyFrom 36 = .ok (.return_, 1) := by decide +kernel
theorem dX2_note_0 : decode cX2_note 0 = .ok (.iload_n 2, 1) := by decide +kernel
theorem dX2_note_1 : decode cX2_note 1 = .ok (.iconst 4, 1) := by decide +kernel
theorem dX2_note_2 : decode cX2_note 2 = .ok (.irem, 1) := by decide +kernel
theorem dX2_note_3 : decode cX2_note 3 = .ok (.istore_n 3, 1) := by decide +kernel
theorem dX2_note_4 : decode cX2_note 4 = .ok (.iload_n 3, 1) := by decide +kernel
theorem dX2_note_5 : decode cX2_note 5 = .ok (.invokestatic 24, 3) := by decide +kernel
theorem dX2_note_8 : decode cX2_note 8 = .ok (.ifCond .ne 4, 3) := by decide +kernel
theorem dX2_note_11 : decode cX2_note 11 = .ok (.return_, 1) := by decide +kernel
theorem dX2_note_12 : decode cX2_note 12 = .ok (.iload_n 1, 1) := by decide +kernel
theorem dX2_note_13 : decode cX2_note 13 = .ok (.iload_n 3, 1) := by decide +kernel
theorem dX2_note_14 : decode cX2_note 14 = .ok (.invokestatic 28, 3) := by decide +kernel
theorem dX2_note_17 : decode cX2_note 17 = .ok (.istore 4, 2) := by decide +kernel
theorem dX2_note_19 : decode cX2_note 19 = .ok (.bipush 7, 2) := by decide +kernel
theorem dX2_note_21 : decode cX2_note 21 = .ok (.istore 5, 2) := by decide +kernel
theorem dX2_note_23 : decode cX2_note 23 = .ok (.iconst 0, 1) := by decide +kernel
theorem dX2_note_24 : decode cX2_note 24 = .ok (.istore 6, 2) := by decide +kernel
theorem dX2_note_26 : decode cX2_note 26 = .ok (.iload 6, 2) := by decide +kernel
theorem dX2_note_28 : decode cX2_note 28 = .ok (.bipush 8, 2) := by decide +kernel
theorem dX2_note_30 : decode cX2_note 30 = .ok (.if_icmp .ge 43, 3) := by decide +kernel
theorem dX2_note_33 : decode cX2_note 33 = .ok (.aload_n 0, 1) := by decide +kernel
theorem dX2_note_34 : decode cX2_note 34 = .ok (.getfield 9, 3) := by decide +kernel
theorem dX2_note_37 : decode cX2_note 37 = .ok (.iload 4, 2) := by decide +kernel
theorem dX2_note_39 : decode cX2_note 39 = .ok (.iload 6, 2) := by decide +kernel
theorem dX2_note_41 : decode cX2_note 41 = .ok (.iadd, 1) := by decide +kernel
theorem dX2_note_42 : decode cX2_note 42 = .ok (.iaload, 1) := by decide +kernel
theorem dX2_note_43 : decode cX2_note 43 = .ok (.iload_n 2, 1) := by decide +kernel
theorem dX2_note_44 : decode cX2_note 44 = .ok (.if_icmp .ne 23, 3) := by decide +kernel
theorem dX2_note_47 : decode cX2_note 47 = .ok (.aload_n 0, 1) := by decide +kernel
theorem dX2_note_48 : decode cX2_note 48 = .ok (.getfield 15, 3) := by decide +kernel
theorem dX2_note_51 : decode cX2_note 51 = .ok (.iload_n 1, 1) := by decide +kernel
theorem dX2_note_52 : decode cX2_note 52 = .ok (.bipush 8, 2) := by decide +kernel
theorem dX2_note_54 : decode cX2_note 54 = .ok (.imul, 1) := by decide +kernel
theorem dX2_note_55 : decode cX2_note 55 = .ok (.iload 6, 2) := by decide +kernel
theorem dX2_note_57 : decode cX2_note 57 = .ok (.iadd, 1) := by decide +kernel
theorem dX2_note_58 : decode cX2_note 58 = .ok (.dup2, 1) := by decide +kernel
theorem dX2_note_59 : decode cX2_note 59 = .ok (.iaload, 1) := by decide +kernel
theorem dX2_note_60 : decode cX2_note 60 = .ok (.iconst 1, 1) := by decide +kernel
theorem dX2_note_61 : decode cX2_note 61 = .ok (.iadd, 1) := by decide +kernel
theorem dX2_note_62 : decode cX2_note 62 = .ok (.iastore, 1) := by decide +kernel
theorem dX2_note_63 : decode cX2_note 63 = .ok (.iload 6, 2) := by decide +kernel
theorem dX2_note_65 : decode cX2_note 65 = .ok (.istore 5, 2) := by decide +kernel
theorem dX2_note_67 : decode cX2_note 67 = .ok (.iinc 6 1, 3) := by decide +kernel
theorem dX2_note_70 : decode cX2_note 70 = .ok (.goto (-44), 3) := by decide +kernel
theorem dX2_note_73 : decode cX2_note 73 = .ok (.iload 5, 2) := by decide +kernel
theorem dX2_note_75 : decode cX2_note 75 = .ok (.istore 6, 2) := by decide +kernel
theorem dX2_note_77 : decode cX2_note 77 = .ok (.iload 6, 2) := by decide +kernel
theorem dX2_note_79 : decode cX2_note 79 = .ok (.ifCond .le 31, 3) := by decide +kernel
theorem dX2_note_82 : decode cX2_note 82 = .ok (.aload_n 0, 1) := by decide +kernel
theorem dX2_note_83 : decode cX2_note 83 = .ok (.getfield 9, 3) := by decide +kernel
theorem dX2_note_86 : decode cX2_note 86 = .ok (.iload 4, 2) := by decide +kernel
theorem dX2_note_88 : decode cX2_note 88 = .ok (.iload 6, 2) := by decide +kernel
theorem dX2_note_90 : decode cX2_note 90 = .ok (.iadd, 1) := by decide +kernel
theorem dX2_note_91 : decode cX2_note 91 = .ok (.aload_n 0, 1) := by decide +kernel
theorem dX2_note_92 : decode cX2_note 92 = .ok (.getfield 9, 3) := by decide +kernel
theorem dX2_note_95 : decode cX2_note 95 = .ok (.iload 4, 2) := by decide +kernel
theorem dX2_note_97 : decode cX2_note 97 = .ok (.iload 6, 2) := by decide +kernel
theorem dX2_note_99 : decode cX2_note 99 = .ok (.iadd, 1) := by decide +kernel
theorem dX2_note_100 : decode cX2_note 100 = .ok (.iconst 1, 1) := by decide +kernel
theorem dX2_note_101 : decode cX2_note 101 = .ok (.isub, 1) := by decide +kernel
theorem dX2_note_102 : decode cX2_note 102 = .ok (.iaload, 1) := by decide +kernel
theorem dX2_note_103 : decode cX2_note 103 = .ok (.iastore, 1) := by decide +kernel
theorem dX2_note_104 : decode cX2_note 104 = .ok (.iinc 6 (-1), 3) := by decide +kernel
theorem dX2_note_107 : decode cX2_note 107 = .ok (.goto (-30), 3) := by decide +kernel
theorem dX2_note_110 : decode cX2_note 110 = .ok (.aload_n 0, 1) := by decide +kernel
theorem dX2_note_111 : decode cX2_note 111 = .ok (.getfield 9, 3) := by decide +kernel
theorem dX2_note_114 : decode cX2_note 114 = .ok (.iload 4, 2) := by decide +kernel
theorem dX2_note_116 : decode cX2_note 116 = .ok (.iload_n 2, 1) := by decide +kernel
theorem dX2_note_117 : decode cX2_note 117 = .ok (.iastore, 1) := by decide +kernel
theorem dX2_note_118 : decode cX2_note 118 = .ok (.return_, 1) := by decide +kernel
theorem dX2_utilityOf_0 : decode cX2_utilityOf 0 = .ok (.iconst 0, 1) := by decide +kernel
theorem dX2_utilityOf_1 : decode cX2_utilityOf 1 = .ok (.istore_n 3, 1) := by decide +kernel
theorem dX2_utilityOf_2 : decode cX2_utilityOf 2 = .ok (.iconst 0, 1) := by decide +kernel
theorem dX2_utilityOf_3 : decode cX2_utilityOf 3 = .ok (.istore 4, 2) := by decide +kernel
theorem dX2_utilityOf_5 : decode cX2_utilityOf 5 = .ok (.iload 4, 2) := by decide +kernel
theorem dX2_utilityOf_7 : decode cX2_utilityOf 7 = .ok (.bipush 8, 2) := by decide +kernel
theorem dX2_utilityOf_9 : decode cX2_utilityOf 9 = .ok (.if_icmp .ge 30, 3) := by decide +kernel
theorem dX2_utilityOf_12 : decode cX2_utilityOf 12 = .ok (.iload 4, 2) := by decide +kernel
theorem dX2_utilityOf_14 : decode cX2_utilityOf 14 = .ok (.iload_n 2, 1) := by decide +kernel
theorem dX2_utilityOf_15 : decode cX2_utilityOf 15 = .ok (.if_icmp .ge 24, 3) := by decide +kernel
theorem dX2_utilityOf_18 : decode cX2_utilityOf 18 = .ok (.iload_n 3, 1) := by decide +kernel
theorem dX2_utilityOf_19 : decode cX2_utilityOf 19 = .ok (.aload_n 0, 1) := by decide +kernel
theorem dX2_utilityOf_20 : decode cX2_utilityOf 20 = .ok (.getfield 15, 3) := by decide +kernel
theorem dX2_utilityOf_23 : decode cX2_utilityOf 23 = .ok (.iload_n 1, 1) := by decide +kernel
theorem dX2_utilityOf_24 : decode cX2_utilityOf 24 = .ok (.bipush 8, 2) := by decide +kernel
theorem dX2_utilityOf_26 : decode cX2_utilityOf 26 = .ok (.imul, 1) := by decide +kernel
theorem dX2_utilityOf_27 : decode cX2_utilityOf 27 = .ok (.iload 4, 2) := by decide +kernel
theorem dX2_utilityOf_29 : decode cX2_utilityOf 29 = .ok (.iadd, 1) := by decide +kernel
theorem dX2_utilityOf_30 : decode cX2_utilityOf 30 = .ok (.iaload, 1) := by decide +kernel
theorem dX2_utilityOf_31 : decode cX2_utilityOf 31 = .ok (.iadd, 1) := by decide +kernel
theorem dX2_utilityOf_32 : decode cX2_utilityOf 32 = .ok (.istore_n 3, 1) := by decide +kernel
theorem dX2_utilityOf_33 : decode cX2_utilityOf 33 = .ok (.iinc 4 1, 3) := by decide +kernel
theorem dX2_utilityOf_36 : decode cX2_utilityOf 36 = .ok (.goto (-31), 3) := by decide +kernel
theorem dX2_utilityOf_39 : decode cX2_utilityOf 39 = .ok (.iload_n 3, 1) := by decide +kernel
theorem dX2_utilityOf_40 : decode cX2_utilityOf 40 = .ok (.ireturn, 1) := by decide +kernel
theorem dX2_sumOfGains_0 : decode cX2_sumOfGains 0 = .ok (.iconst 0, 1) := by decide +kernel
theorem dX2_sumOfGains_1 : decode cX2_sumOfGains 1 = .ok (.istore_n 1, 1) := by decide +kernel
theorem dX2_sumOfGains_2 : decode cX2_sumOfGains 2 = .ok (.iconst 0, 1) := by decide +kernel
theorem dX2_sumOfGains_3 : decode cX2_sumOfGains 3 = .ok (.istore_n 2, 1) := by decide +kernel
theorem dX2_sumOfGains_4 : decode cX2_sumOfGains 4 = .ok (.iload_n 2, 1) := by decide +kernel
theorem dX2_sumOfGains_5 : decode cX2_sumOfGains 5 = .ok (.aload_n 0, 1) := by decide +kernel
theorem dX2_sumOfGains_6 : decode cX2_sumOfGains 6 = .ok (.getfield 15, 3) := by decide +kernel
theorem dX2_sumOfGains_9 : decode cX2_sumOfGains 9 = .ok (.arraylength, 1) := by decide +kernel
theorem dX2_sumOfGains_10 : decode cX2_sumOfGains 10 = .ok (.if_icmp .ge 18, 3) := by decide +kernel
theorem dX2_sumOfGains_13 : decode cX2_sumOfGains 13 = .ok (.iload_n 1, 1) := by decide +kernel
theorem dX2_sumOfGains_14 : decode cX2_sumOfGains 14 = .ok (.aload_n 0, 1) := by decide +kernel
theorem dX2_sumOfGains_15 : decode cX2_sumOfGains 15 = .ok (.getfield 15, 3) := by decide +kernel
theorem dX2_sumOfGains_18 : decode cX2_sumOfGains 18 = .ok (.iload_n 2, 1) := by decide +kernel
theorem dX2_sumOfGains_19 : decode cX2_sumOfGains 19 = .ok (.iaload, 1) := by decide +kernel
theorem dX2_sumOfGains_20 : decode cX2_sumOfGains 20 = .ok (.iadd, 1) := by decide +kernel
theorem dX2_sumOfGains_21 : decode cX2_sumOfGains 21 = .ok (.istore_n 1, 1) := by decide +kernel
theorem dX2_sumOfGains_22 : decode cX2_sumOfGains 22 = .ok (.iinc 2 1, 3) := by decide +kernel
theorem dX2_sumOfGains_25 : decode cX2_sumOfGains 25 = .ok (.goto (-21), 3) := by decide +kernel
theorem dX2_sumOfGains_28 : decode cX2_sumOfGains 28 = .ok (.iload_n 1, 1) := by decide +kernel
theorem dX2_sumOfGains_29 : decode cX2_sumOfGains 29 = .ok (.ireturn, 1) := by decide +kernel
theorem dX2_halve_0 : decode cX2_halve 0 = .ok (.iconst 0, 1) := by decide +kernel
theorem dX2_halve_1 : decode cX2_halve 1 = .ok (.istore_n 1, 1) := by decide +kernel
theorem dX2_halve_2 : decode cX2_halve 2 = .ok (.iload_n 1, 1) := by decide +kernel
theorem dX2_halve_3 : decode cX2_halve 3 = .ok (.aload_n 0, 1) := by decide +kernel
theorem dX2_halve_4 : decode cX2_halve 4 = .ok (.getfield 15, 3) := by decide +kernel
theorem dX2_halve_7 : decode cX2_halve 7 = .ok (.arraylength, 1) := by decide +kernel
theorem dX2_halve_8 : decode cX2_halve 8 = .ok (.if_icmp .ge 19, 3) := by decide +kernel
theorem dX2_halve_11 : decode cX2_halve 11 = .ok (.aload_n 0, 1) := by decide +kernel
theorem dX2_halve_12 : decode cX2_halve 12 = .ok (.getfield 15, 3) := by decide +kernel
theorem dX2_halve_15 : decode cX2_halve 15 = .ok (.iload_n 1, 1) := by decide +kernel
theorem dX2_halve_16 : decode cX2_halve 16 = .ok (.dup2, 1) := by decide +kernel
theorem dX2_halve_17 : decode cX2_halve 17 = .ok (.iaload, 1) := by decide +kernel
theorem dX2_halve_18 : decode cX2_halve 18 = .ok (.iconst 2, 1) := by decide +kernel
theorem dX2_halve_19 : decode cX2_halve 19 = .ok (.idiv, 1) := by decide +kernel
theorem dX2_halve_20 : decode cX2_halve 20 = .ok (.iastore, 1) := by decide +kernel
theorem dX2_halve_21 : decode cX2_halve 21 = .ok (.iinc 1 1, 3) := by decide +kernel
theorem dX2_halve_24 : decode cX2_halve 24 = .ok (.goto (-22), 3) := by decide +kernel
theorem dX2_halve_27 : decode cX2_halve 27 = .ok (.return_, 1) := by decide +kernel
theorem dX3_init_0 : decode cX3_init 0 = .ok (.aload_n 0, 1) := by decide +kernel
theorem dX3_init_1 : decode cX3_init 1 = .ok (.invokespecial 3, 3) := by decide +kernel
theorem dX3_init_4 : decode cX3_init 4 = .ok (.aload_n 0, 1) := by decide +kernel
theorem dX3_init_5 : decode cX3_init 5 = .ok (.bipush 8, 2) := by decide +kernel
theorem dX3_init_7 : decode cX3_init 7 = .ok (.newarray .int, 2) := by decide +kernel
theorem dX3_init_9 : decode cX3_init 9 = .ok (.putfield 9, 3) := by decide +kernel
theorem dX3_init_12 : decode cX3_init 12 = .ok (.aload_n 0, 1) := by decide +kernel
theorem dX3_init_13 : decode cX3_init 13 = .ok (.bipush 32, 2) := by decide +kernel
theorem dX3_init_15 : decode cX3_init 15 = .ok (.newarray .int, 2) := by decide +kernel
theorem dX3_init_17 : decode cX3_init 17 = .ok (.putfield 15, 3) := by decide +kernel
theorem dX3_init_20 : decode cX3_init 20 = .ok (.aload_n 0, 1) := by decide +kernel
theorem dX3_init_21 : decode cX3_init 21 = .ok (.bipush 32, 2) := by decide +kernel
theorem dX3_init_23 : decode cX3_init 23 = .ok (.newarray .int, 2) := by decide +kernel
theorem dX3_init_25 : decode cX3_init 25 = .ok (.putfield 18, 3) := by decide +kernel
theorem dX3_init_28 : decode cX3_init 28 = .ok (.iconst 0, 1) := by decide +kernel
theorem dX3_init_29 : decode cX3_init 29 = .ok (.istore_n 1, 1) := by decide +kernel
theorem dX3_init_30 : decode cX3_init 30 = .ok (.iload_n 1, 1) := by decide +kernel
theorem dX3_init_31 : decode cX3_init 31 = .ok (.bipush 8, 2) := by decide +kernel
theorem dX3_init_33 : decode cX3_init 33 = .ok (.if_icmp .ge 18, 3) := by decide +kernel
theorem dX3_init_36 : decode cX3_init 36 = .ok (.aload_n 0, 1) := by decide +kernel
theorem dX3_init_37 : decode cX3_init 37 = .ok (.getfield 9, 3) := by decide +kernel
theorem dX3_init_40 : decode cX3_init 40 = .ok (.iload_n 1, 1) := by decide +kernel
theorem dX3_init_41 : decode cX3_init 41 = .ok (.iload_n 1, 1) := by decide +kernel
theorem dX3_init_42 : decode cX3_init 42 = .ok (.iconst 4, 1) := by decide +kernel
theorem dX3_init_43 : decode cX3_init 43 = .ok (.irem, 1) := by decide +kernel
theorem dX3_init_44 : decode cX3_init 44 = .ok (.iastore, 1) := by decide +kernel
theorem dX3_init_45 : decode cX3_init 45 = .ok (.iinc 1 1, 3) := by decide +kernel
theorem dX3_init_48 : decode cX3_init 48 = .ok (.goto (-18), 3) := by decide +kernel
theorem dX3_init_51 : decode cX3_init 51 = .ok (.iconst 0, 1) := by decide +kernel
theorem dX3_init_52 : decode cX3_init 52 = .ok (.istore_n 1, 1) := by decide +kernel
theorem dX3_init_53 : decode cX3_init 53 = .ok (.iload_n 1, 1) := by decide +kernel
theorem dX3_init_54 : decode cX3_init 54 = .ok (.bipush 32, 2) := by decide +kernel
theorem dX3_init_56 : decode cX3_init 56 = .ok (.if_icmp .ge 16, 3) := by decide +kernel
theorem dX3_init_59 : decode cX3_init 59 = .ok (.aload_n 0, 1) := by decide +kernel
theorem dX3_init_60 : decode cX3_init 60 = .ok (.getfield 15, 3) := by decide +kernel
theorem dX3_init_63 : decode cX3_init 63 = .ok (.iload_n 1, 1) := by decide +kernel
theorem dX3_init_64 : decode cX3_init 64 = .ok (.iconst (-1), 1) := by decide +kernel
theorem dX3_init_65 : decode cX3_init 65 = .ok (.iastore, 1) := by decide +kernel
theorem dX3_init_66 : decode cX3_init 66 = .ok (.iinc 1 1, 3) := by decide +kernel
theorem dX3_init_69 : decode cX3_init 69 = .ok (.goto (-16), 3) := by decide +kernel
theorem dX3_init_72 : decode cX3_init 72 = .ok (.return_, 1) := by decide +kernel
theorem dX3_copyFrom_0 : decode cX3_copyFrom 0 = .ok (.aload_n 1, 1) := by decide +kernel
theorem dX3_copyFrom_1 : decode cX3_copyFrom 1 = .ok (.getfield 9, 3) := by decide +kernel
theorem dX3_copyFrom_4 : decode cX3_copyFrom 4 = .ok (.iconst 0, 1) := by decide +kernel
theorem dX3_copyFrom_5 : decode cX3_copyFrom 5 = .ok (.aload_n 0, 1) := by decide +kernel
theorem dX3_copyFrom_6 : decode cX3_copyFrom 6 = .ok (.getfield 9, 3) := by decide +kernel
theorem dX3_copyFrom_9 : decode cX3_copyFrom 9 = .ok (.iconst 0, 1) := by decide +kernel
theorem dX3_copyFrom_10 : decode cX3_copyFrom 10 = .ok (.bipush 8, 2) := by decide +kernel
theorem dX3_copyFrom_12 : decode cX3_copyFrom 12 = .ok (.invokestatic 21, 3) := by decide +kernel
theorem dX3_copyFrom_15 : decode cX3_copyFrom 15 = .ok (.aload_n 1, 1) := by decide +kernel
theorem dX3_copyFrom_16 : decode cX3_copyFrom 16 = .ok (.getfield 15, 3) := by decide +kernel
theorem dX3_copyFrom_19 : decode cX3_copyFrom 19 = .ok (.iconst 0, 1) := by decide +kernel
theorem dX3_copyFrom_20 : decode cX3_copyFrom 20 = .ok (.aload_n 0, 1) := by decide +kernel
theorem dX3_copyFrom_21 : decode cX3_copyFrom 21 = .ok (.getfield 15, 3) := by decide +kernel
theorem dX3_copyFrom_24 : decode cX3_copyFrom 24 = .ok (.iconst 0, 1) := by decide +kernel
theorem dX3_copyFrom_25 : decode cX3_copyFrom 25 = .ok (.bipush 32, 2) := by decide +kernel
theorem dX3_copyFrom_27 : decode cX3_copyFrom 27 = .ok (.invokestatic 21, 3) := by decide +kernel
theorem dX3_copyFrom_30 : decode cX3_copyFrom 30 = .ok (.aload_n 1, 1) := by decide +kernel
theorem dX3_copyFrom_31 : decode cX3_copyFrom 31 = .ok (.getfield 18, 3) := by decide +kernel
theorem dX3_copyFrom_34 : decode cX3_copyFrom 34 = .ok (.iconst 0, 1) := by decide +kernel
theorem dX3_copyFrom_35 : decode cX3_copyFrom 35 = .ok (.aload_n 0, 1) := by decide +kernel
theorem dX3_copyFrom_36 : decode cX3_copyFrom 36 = .ok (.getfield 18, 3) := by decide +kernel
theorem dX3_copyFrom_39 : decode cX3_copyFrom 39 = .ok (.iconst 0, 1) := by decide +kernel
theorem dX3_copyFrom_40 : decode cX3_copyFrom 40 = .ok (.bipush 32, 2) := by decide +kernel
theorem dX3_copyFrom_42 : decode cX3_copyFrom 42 = .ok (.invokestatic 21, 3) := by decide +kernel
theorem dX3_copyFrom_45 : decode cX3_copyFrom 45 = .ok (.return_, 1) := by decide +kernel
theorem dX3_ownedWays_0 : decode cX3_ownedWays 0 = .ok (.iconst 0, 1) := by decide +kernel
theorem dX3_ownedWays_1 : decode cX3_ownedWays 1 = .ok (.istore_n 2, 1) := by decide +kernel
theorem dX3_ownedWays_2 : decode cX3_ownedWays 2 = .ok (.iconst 0, 1) := by decide +kernel
theorem dX3_ownedWays_3 : decode cX3_ownedWays 3 = .ok (.istore_n 3, 1) := by decide +kernel
theorem dX3_ownedWays_4 : decode cX3_ownedWays 4 = .ok (.iload_n 3, 1) := by decide +kernel
theorem dX3_ownedWays_5 : decode cX3_ownedWays 5 = .ok (.bipush 8, 2) := by decide +kernel
theorem dX3_ownedWays_7 : decode cX3_ownedWays 7 = .ok (.if_icmp .ge 22, 3) := by decide +kernel
theorem dX3_ownedWays_10 : decode cX3_ownedWays 10 = .ok (.aload_n 0, 1) := by decide +kernel
theorem dX3_ownedWays_11 : decode cX3_ownedWays 11 = .ok (.getfield 9, 3) := by decide +kernel
theorem dX3_ownedWays_14 : decode cX3_ownedWays 14 = .ok (.iload_n 3, 1) := by decide +kernel
theorem dX3_ownedWays_15 : decode cX3_ownedWays 15 = .ok (.iaload, 1) := by decide +kernel
theorem dX3_ownedWays_16 : decode cX3_ownedWays 16 = .ok (.iload_n 1, 1) := by decide +kernel
theorem dX3_ownedWays_17 : decode cX3_ownedWays 17 = .ok (.if_icmp .ne 6, 3) := by decide +kernel
theorem dX3_ownedWays_20 : decode cX3_ownedWays 20 = .ok (.iinc 2 1, 3) := by decide +kernel
theorem dX3_ownedWays_23 : decode cX3_ownedWays 23 = .ok (.iinc 3 1, 3) := by decide +kernel
theorem dX3_ownedWays_26 : decode cX3_ownedWays 26 = .ok (.goto (-22), 3) := by decide +kernel
theorem dX3_ownedWays_29 : decode cX3_ownedWays 29 = .ok (.iload_n 2, 1) := by decide +kernel
theorem dX3_ownedWays_30 : decode cX3_ownedWays 30 = .ok (.ireturn, 1) := by decide +kernel
theorem dX3_resultOf_0 : decode cX3_resultOf 0 = .ok (.aload_n 0, 1) := by decide +kernel
theorem dX3_resultOf_1 : decode cX3_resultOf 1 = .ok (.iload_n 1, 1) := by decide +kernel
theorem dX3_resultOf_2 : decode cX3_resultOf 2 = .ok (.iload_n 2, 1) := by decide +kernel
theorem dX3_resultOf_3 : decode cX3_resultOf 3 = .ok (.invokevirtual 27, 3) := by decide +kernel
theorem dX3_resultOf_6 : decode cX3_resultOf 6 = .ok (.iconst (-1), 1) := by decide +kernel
theorem dX3_resultOf_7 : decode cX3_resultOf 7 = .ok (.if_icmp .eq 5, 3) := by decide +kernel
theorem dX3_resultOf_10 : decode cX3_resultOf 10 = .ok (.iconst 1, 1) := by decide +kernel
theorem dX3_resultOf_11 : decode cX3_resultOf 11 = .ok (.ireturn, 1) := by decide +kernel
theorem dX3_resultOf_12 : decode cX3_resultOf 12 = .ok (.aload_n 0, 1) := by decide +kernel
theorem dX3_resultOf_13 : decode cX3_resultOf 13 = .ok (.iload_n 1, 1) := by decide +kernel
theorem dX3_resultOf_14 : decode cX3_resultOf 14 = .ok (.invokevirtual 31, 3) := by decide +kernel
theorem dX3_resultOf_17 : decode cX3_resultOf 17 = .ok (.ifCond .ne 7, 3) := by decide +kernel
theorem dX3_resultOf_20 : decode cX3_resultOf 20 = .ok (.iconst 2, 1) := by decide +kernel
theorem dX3_resultOf_21 : decode cX3_resultOf 21 = .ok (.goto 4, 3) := by decide +kernel
theorem dX3_resultOf_24 : decode cX3_resultOf 24 = .ok (.iconst 0, 1) := by decide +kernel
theorem dX3_resultOf_25 : decode cX3_resultOf 25 = .ok (.ireturn, 1) := by decide +kernel
theorem dX3_placeOf_0 : decode cX3_placeOf 0 = .ok (.iload_n 2, 1) := by decide +kernel
theorem dX3_placeOf_1 : decode cX3_placeOf 1 = .ok (.iconst 4, 1) := by decide +kernel
theorem dX3_placeOf_2 : decode cX3_placeOf 2 = .ok (.irem, 1) := by decide +kernel
theorem dX3_placeOf_3 : decode cX3_placeOf 3 = .ok (.bipush 8, 2) := by decide +kernel
theorem dX3_placeOf_5 : decode cX3_placeOf 5 = .ok (.imul, 1) := by decide +kernel
theorem dX3_placeOf_6 : decode cX3_placeOf 6 = .ok (.istore_n 3, 1) := by decide +kernel
theorem dX3_placeOf_7 : decode cX3_placeOf 7 = .ok (.iconst 0, 1) := by decide +kernel
theorem dX3_placeOf_8 : decode cX3_placeOf 8 = .ok (.istore 4, 2) := by decide +kernel
theorem dX3_placeOf_10 : decode cX3_placeOf 10 = .ok (.iload 4, 2) := by decide +kernel
theorem dX3_placeOf_12 : decode cX3_placeOf 12 = .ok (.bipush 8, 2) := by decide +kernel
theorem dX3_placeOf_14 : decode cX3_placeOf 14 = .ok (.if_icmp .ge 33, 3) := by decide +kernel
theorem dX3_placeOf_17 : decode cX3_placeOf 17 = .ok (.aload_n 0, 1) := by decide +kernel
theorem dX3_placeOf_18 : decode cX3_placeOf 18 = .ok (.getfield 15, 3) := by decide +kernel
theorem dX3_placeOf_21 : decode cX3_placeOf 21 = .ok (.iload_n 3, 1) := by decide +kernel
theorem dX3_placeOf_22 : decode cX3_placeOf 22 = .ok (.iload 4, 2) := by decide +kernel
theorem dX3_placeOf_24 : decode cX3_placeOf 24 = .ok (.iadd, 1) := by decide +kernel
theorem dX3_placeOf_25 : decode cX3_placeOf 25 = .ok (.iaload, 1) := by decide +kernel
theorem dX3_placeOf_26 : decode cX3_placeOf 26 = .ok (.iload_n 1, 1) := by decide +kernel
theorem dX3_placeOf_27 : decode cX3_placeOf 27 = .ok (.sipush 256, 3) := by decide +kernel
theorem dX3_placeOf_30 : decode cX3_placeOf 30 = .ok (.imul, 1) := by decide +kernel
theorem dX3_placeOf_31 : decode cX3_placeOf 31 = .ok (.iload_n 2, 1) := by decide +kernel
theorem dX3_placeOf_32 : decode cX3_placeOf 32 = .ok (.iadd, 1) := by decide +kernel
theorem dX3_placeOf_33 : decode cX3_placeOf 33 = .ok (.if_icmp .ne 8, 3) := by decide +kernel
theorem dX3_placeOf_36 : decode cX3_placeOf 36 = .ok (.iload_n 3, 1) := by decide +kernel
theorem dX3_placeOf_37 : decode cX3_placeOf 37 = .ok (.iload 4, 2) := by decide +kernel
theorem dX3_placeOf_39 : decode cX3_placeOf 39 = .ok (.iadd, 1) := by decide +kernel
theorem dX3_placeOf_40 : decode cX3_placeOf 40 = .ok (.ireturn, 1) := by decide +kernel
theorem dX3_placeOf_41 : decode cX3_placeOf 41 = .ok (.iinc 4 1, 3) := by decide +kernel
theorem dX3_placeOf_44 : decode cX3_placeOf 44 = .ok (.goto (-34), 3) := by decide +kernel
theorem dX3_placeOf_47 : decode cX3_placeOf 47 = .ok (.iconst (-1), 1) := by decide +kernel
theorem dX3_placeOf_48 : decode cX3_placeOf 48 = .ok (.ireturn, 1) := by decide +kernel
theorem dX3_renew_0 : decode cX3_renew 0 = .ok (.aload_n 0, 1) := by decide +kernel
theorem dX3_renew_1 : decode cX3_renew 1 = .ok (.iload_n 1, 1) := by decide +kernel
theorem dX3_renew_2 : decode cX3_renew 2 = .ok (.iload_n 2, 1) := by decide +kernel
theorem dX3_renew_3 : decode cX3_renew 3 = .ok (.invokevirtual 27, 3) := by decide +kernel
theorem dX3_renew_6 : decode cX3_renew 6 = .ok (.istore 4, 2) := by decide +kernel
theorem dX3_renew_8 : decode cX3_renew 8 = .ok (.iload 4, 2) := by decide +kernel
theorem dX3_renew_10 : decode cX3_renew 10 = .ok (.iconst (-1), 1) := by decide +kernel
theorem dX3_renew_11 : decode cX3_renew 11 = .ok (.if_icmp .eq 11, 3) := by decide +kernel
theorem dX3_renew_14 : decode cX3_renew 14 = .ok (.aload_n 0, 1) := by decide +kernel
theorem dX3_renew_15 : decode cX3_renew 15 = .ok (.getfield 18, 3) := by decide +kernel
theorem dX3_renew_18 : decode cX3_renew 18 = .ok (.iload 4, 2) := by decide +kernel
theorem dX3_renew_20 : decode cX3_renew 20 = .ok (.iload_n 3, 1) := by decide +kernel
theorem dX3_renew_21 : decode cX3_renew 21 = .ok (.iastore, 1) := by decide +kernel
theorem dX3_renew_22 : decode cX3_renew 22 = .ok (.return_, 1) := by decide +kernel
theorem dX3_placeToFill_0 : decode cX3_placeToFill 0 = .ok (.iload_n 2, 1) := by decide +kernel
theorem dX3_placeToFill_1 : decode cX3_placeToFill 1 = .ok (.iconst 4, 1) := by decide +kernel
theorem dX3_placeToFill_2 : decode cX3_placeToFill 2 = .ok (.irem, 1) := by decide +kernel
theorem dX3_placeToFill_3 : decode cX3_placeToFill 3 = .ok (.bipush 8, 2) := by decide +kernel
theorem dX3_placeToFill_5 : decode cX3_placeToFill 5 = .ok (.imul, 1) := by decide +kernel
theorem dX3_placeToFill_6 : decode cX3_placeToFill 6 = .ok (.istore_n 3, 1) := by decide +kernel
theorem dX3_placeToFill_7 : decode cX3_placeToFill 7 = .ok (.iconst (-1), 1) := by decide +kernel
theorem dX3_placeToFill_8 : decode cX3_placeToFill 8 = .ok (.istore 4, 2) := by decide +kernel
theorem dX3_placeToFill_10 : decode cX3_placeToFill 10 = .ok (.iconst 0, 1) := by decide +kernel
theorem dX3_placeToFill_11 : decode cX3_placeToFill 11 = .ok (.istore 5, 2) := by decide +kernel
theorem dX3_placeToFill_13 : decode cX3_placeToFill 13 = .ok (.iload 5, 2) := by decide +kernel
theorem dX3_placeToFill_15 : decode cX3_placeToFill 15 = .ok (.bipush 8, 2) := by decide +kernel
theorem dX3_placeToFill_17 : decode cX3_placeToFill 17 = .ok (.if_icmp .ge 70, 3) := by decide +kernel
theorem dX3_placeToFill_20 : decode cX3_placeToFill 20 = .ok (.iload_n 3, 1) := by decide +kernel
theorem dX3_placeToFill_21 : decode cX3_placeToFill 21 = .ok (.iload 5, 2) := by decide +kernel
theorem dX3_placeToFill_23 : decode cX3_placeToFill 23 = .ok (.iadd, 1) := by decide +kernel
theorem dX3_placeToFill_24 : decode cX3_placeToFill 24 = .ok (.istore 6, 2) := by decide +kernel
theorem dX3_placeToFill_26 : decode cX3_placeToFill 26 = .ok (.aload_n 0, 1) := by decide +kernel
theorem dX3_placeToFill_27 : decode cX3_placeToFill 27 = .ok (.getfield 9, 3) := by decide +kernel
theorem dX3_placeToFill_30 : decode cX3_placeToFill 30 = .ok (.iload 5, 2) := by decide +kernel
theorem dX3_placeToFill_32 : decode cX3_placeToFill 32 = .ok (.iaload, 1) := by decide +kernel
theorem dX3_placeToFill_33 : decode cX3_placeToFill 33 = .ok (.iload_n 1, 1) := by decide +kernel
theorem dX3_placeToFill_34 : decode cX3_placeToFill 34 = .ok (.if_icmp .eq 6, 3) := by decide +kernel
theorem dX3_placeToFill_37 : decode cX3_placeToFill 37 = .ok (.goto 44, 3) := by decide +kernel
theorem dX3_placeToFill_40 : decode cX3_placeToFill 40 = .ok (.aload_n 0, 1) := by decide +kernel
theorem dX3_placeToFill_41 : decode cX3_placeToFill 41 = .ok (.getfield 15, 3) := by decide +kernel
theorem dX3_placeToFill_44 : decode cX3_placeToFill 44 = .ok (.iload 6, 2) := by decide +kernel
theorem dX3_placeToFill_46 : decode cX3_placeToFill 46 = .ok (.iaload, 1) := by decide +kernel
theorem dX3_placeToFill_47 : decode cX3_placeToFill 47 = .ok (.iconst (-1), 1) := by decide +kernel
theorem dX3_placeToFill_48 : decode cX3_placeToFill 48 = .ok (.if_icmp .ne 6, 3) := by decide +kernel
theorem dX3_placeToFill_51 : decode cX3_placeToFill 51 = .ok (.iload 6, 2) := by decide +kernel
theorem dX3_placeToFill_53 : decode cX3_placeToFill 53 = .ok (.ireturn, 1) := by decide +kernel
theorem dX3_placeToFill_54 : decode cX3_placeToFill 54 = .ok (.iload 4, 2) := by decide +kernel
theorem dX3_placeToFill_56 : decode cX3_placeToFill 56 = .ok (.iconst (-1), 1) := by decide +kernel
theorem dX3_placeToFill_57 : decode cX3_placeToFill 57 = .ok (.if_icmp .eq 20, 3) := by decide +kernel
theorem dX3_placeToFill_60 : decode cX3_placeToFill 60 = .ok (.aload_n 0, 1) := by decide +kernel
theorem dX3_placeToFill_61 : decode cX3_placeToFill 61 = .ok (.getfield 18, 3) := by decide +kernel
theorem dX3_placeToFill_64 : decode cX3_placeToFill 64 = .ok (.iload 6, 2) := by decide +kernel
theorem dX3_placeToFill_66 : decode cX3_placeToFill 66 = .ok (.iaload, 1) := by decide +kernel
theorem dX3_placeToFill_67 : decode cX3_placeToFill 67 = .ok (.aload_n 0, 1) := by decide +kernel
theorem dX3_placeToFill_68 : decode cX3_placeToFill 68 = .ok (.getfield 18, 3) := by decide +kernel
theorem dX3_placeToFill_71 : decode cX3_placeToFill 71 = .ok (.iload 4, 2) := by decide +kernel
theorem dX3_placeToFill_73 : decode cX3_placeToFill 73 = .ok (.iaload, 1) := by decide +kernel
theorem dX3_placeToFill_74 : decode cX3_placeToFill 74 = .ok (.if_icmp .ge 7, 3) := by decide +kernel
theorem dX3_placeToFill_77 : decode cX3_placeToFill 77 = .ok (.iload 6, 2) := by decide +kernel
theorem dX3_placeToFill_79 : decode cX3_placeToFill 79 = .ok (.istore 4, 2) := by decide +kernel
theorem dX3_placeToFill_81 : decode cX3_placeToFill 81 = .ok (.iinc 5 1, 3) := by decide +kernel
theorem dX3_placeToFill_84 : decode cX3_placeToFill 84 = .ok (.goto (-71), 3) := by decide +kernel
theorem dX3_placeToFill_87 : decode cX3_placeToFill 87 = .ok (.iload 4, 2) := by decide +kernel
theorem dX3_placeToFill_89 : decode cX3_placeToFill 89 = .ok (.ireturn, 1) := by decide +kernel
theorem dX3_holdsLineOf_0 : decode cX3_holdsLineOf 0 = .ok (.aload_n 0, 1) := by decide +kernel
theorem dX3_holdsLineOf_1 : decode cX3_holdsLineOf 1 = .ok (.getfield 15, 3) := by decide +kernel
theorem dX3_holdsLineOf_4 : decode cX3_holdsLineOf 4 = .ok (.iload_n 2, 1) := by decide +kernel
theorem dX3_holdsLineOf_5 : decode cX3_holdsLineOf 5 = .ok (.iaload, 1) := by decide +kernel
theorem dX3_holdsLineOf_6 : decode cX3_holdsLineOf 6 = .ok (.iconst (-1), 1) := by decide +kernel
theorem dX3_holdsLineOf_7 : decode cX3_holdsLineOf 7 = .ok (.if_icmp .eq 21, 3) := by decide +kernel
theorem dX3_holdsLineOf_10 : decode cX3_holdsLineOf 10 = .ok (.aload_n 0, 1) := by decide +kernel
theorem dX3_holdsLineOf_11 : decode cX3_holdsLineOf 11 = .ok (.getfield 15, 3) := by decide +kernel
theorem dX3_holdsLineOf_14 : decode cX3_holdsLineOf 14 = .ok (.iload_n 2, 1) := by decide +kernel
theorem dX3_holdsLineOf_15 : decode cX3_holdsLineOf 15 = .ok (.iaload, 1) := by decide +kernel
theorem dX3_holdsLineOf_16 : decode cX3_holdsLineOf 16 = .ok (.sipush 256, 3) := by decide +kernel
theorem dX3_holdsLineOf_19 : decode cX3_holdsLineOf 19 = .ok (.idiv, 1) := by decide +kernel
theorem dX3_holdsLineOf_20 : decode cX3_holdsLineOf 20 = .ok (.iload_n 1, 1) := by decide +kernel
theorem dX3_holdsLineOf_21 : decode cX3_holdsLineOf 21 = .ok (.if_icmp .ne 7, 3) := by decide +kernel
theorem dX3_holdsLineOf_24 : decode cX3_holdsLineOf 24 = .ok (.iconst 1, 1) := by decide +kernel
theorem dX3_holdsLineOf_25 : decode cX3_holdsLineOf 25 = .ok (.goto 4, 3) := by decide +kernel
theorem dX3_holdsLineOf_28 : decode cX3_holdsLineOf 28 = .ok (.iconst 0, 1) := by decide +kernel
theorem dX3_holdsLineOf_29 : decode cX3_holdsLineOf 29 = .ok (.ireturn, 1) := by decide +kernel
theorem dX3_linesInWay_0 : decode cX3_linesInWay 0 = .ok (.iconst 0, 1) := by decide +kernel
theorem dX3_linesInWay_1 : decode cX3_linesInWay 1 = .ok (.istore_n 3, 1) := by decide +kernel
theorem dX3_linesInWay_2 : decode cX3_linesInWay 2 = .ok (.iconst 0, 1) := by decide +kernel
theorem dX3_linesInWay_3 : decode cX3_linesInWay 3 = .ok (.istore 4, 2) := by decide +kernel
theorem dX3_linesInWay_5 : decode cX3_linesInWay 5 = .ok (.iload 4, 2) := by decide +kernel
theorem dX3_linesInWay_7 : decode cX3_linesInWay 7 = .ok (.iconst 4, 1) := by decide +kernel
theorem dX3_linesInWay_8 : decode cX3_linesInWay 8 = .ok (.if_icmp .ge 27, 3) := by decide +kernel
theorem dX3_linesInWay_11 : decode cX3_linesInWay 11 = .ok (.aload_n 0, 1) := by decide +kernel
theorem dX3_linesInWay_12 : decode cX3_linesInWay 12 = .ok (.iload_n 1, 1) := by decide +kernel
theorem dX3_linesInWay_13 : decode cX3_linesInWay 13 = .ok (.iload 4, 2) := by decide +kernel
theorem dX3_linesInWay_15 : decode cX3_linesInWay 15 = .ok (.bipush 8, 2) := by decide +kernel
theorem dX3_linesInWay_17 : decode cX3_linesInWay 17 = .ok (.imul, 1) := by decide +kernel
theorem dX3_linesInWay_18 : decode cX3_linesInWay 18 = .ok (.iload_n 2, 1) := by decide +kernel
theorem dX3_linesInWay_19 : decode cX3_linesInWay 19 = .ok (.iadd, 1) := by decide +kernel
theorem dX3_linesInWay_20 : decode cX3_linesInWay 20 = .ok (.invokevirtual 35, 3) := by decide +kernel
theorem dX3_linesInWay_23 : decode cX3_linesInWay 23 = .ok (.ifCond .eq 6, 3) := by decide +kernel
theorem dX3_linesInWay_26 : decode cX3_linesInWay 26 = .ok (.iinc 3 1, 3) := by decide +kernel
theorem dX3_linesInWay_29 : decode cX3_linesInWay 29 = .ok (.iinc 4 1, 3) := by decide +kernel
theorem dX3_linesInWay_32 : decode cX3_linesInWay 32 = .ok (.goto (-27), 3) := by decide +kernel
theorem dX3_linesInWay_35 : decode cX3_linesInWay 35 = .ok (.iload_n 3, 1) := by decide +kernel
theorem dX3_linesInWay_36 : decode cX3_linesInWay 36 = .ok (.ireturn, 1) := by decide +kernel
theorem dX3_linesOf_0 : decode cX3_linesOf 0 = .ok (.iconst 0, 1) := by decide +kernel
theorem dX3_linesOf_1 : decode cX3_linesOf 1 = .ok (.istore_n 2, 1) := by decide +kernel
theorem dX3_linesOf_2 : decode cX3_linesOf 2 = .ok (.iconst 0, 1) := by decide +kernel
theorem dX3_linesOf_3 : decode cX3_linesOf 3 = .ok (.istore_n 3, 1) := by decide +kernel
theorem dX3_linesOf_4 : decode cX3_linesOf 4 = .ok (.iload_n 3, 1) := by decide +kernel
theorem dX3_linesOf_5 : decode cX3_linesOf 5 = .ok (.bipush 8, 2) := by decide +kernel
theorem dX3_linesOf_7 : decode cX3_linesOf 7 = .ok (.if_icmp .ge 18, 3) := by decide +kernel
theorem dX3_linesOf_10 : decode cX3_linesOf 10 = .ok (.iload_n 2, 1) := by decide +kernel
theorem dX3_linesOf_11 : decode cX3_linesOf 11 = .ok (.aload_n 0, 1) := by decide +kernel
theorem dX3_linesOf_12 : decode cX3_linesOf 12 = .ok (.iload_n 1, 1) := by decide +kernel
theorem dX3_linesOf_13 : decode cX3_linesOf 13 = .ok (.iload_n 3, 1) := by decide +kernel
theorem dX3_linesOf_14 : decode cX3_linesOf 14 = .ok (.invokevirtual 39, 3) := by decide +kernel
theorem dX3_linesOf_17 : decode cX3_linesOf 17 = .ok (.iadd, 1) := by decide +kernel
theorem dX3_linesOf_18 : decode cX3_linesOf 18 = .ok (.istore_n 2, 1) := by decide +kernel
theorem dX3_linesOf_19 : decode cX3_linesOf 19 = .ok (.iinc 3 1, 3) := by decide +kernel
theorem dX3_linesOf_22 : decode cX3_linesOf 22 = .ok (.goto (-18), 3) := by decide +kernel
theorem dX3_linesOf_25 : decode cX3_linesOf 25 = .ok (.iload_n 2, 1) := by decide +kernel
theorem dX3_linesOf_26 : decode cX3_linesOf 26 = .ok (.ireturn, 1) := by decide +kernel
theorem dX3_linesInOwnWays_0 : decode cX3_linesInOwnWays 0 = .ok (.iconst 0, 1) := by decide +kernel
theorem dX3_linesInOwnWays_1 : decode cX3_linesInOwnWays 1 = .ok (.istore_n 2, 1) := by decide +kernel
theorem dX3_linesInOwnWays_2 : decode cX3_linesInOwnWays 2 = .ok (.iconst 0, 1) := by decide +kernel
theorem dX3_linesInOwnWays_3 : decode cX3_linesInOwnWays 3 = .ok (.istore_n 3, 1) := by decide +kernel
theorem dX3_linesInOwnWays_4 : decode cX3_linesInOwnWays 4 = .ok (.iload_n 3, 1) := by decide +kernel
theorem dX3_linesInOwnWays_5 : decode cX3_linesInOwnWays 5 = .ok (.bipush 8, 2) := by decide +kernel
theorem dX3_linesInOwnWays_7 : decode cX3_linesInOwnWays 7 = .ok (.if_icmp .ge 28, 3) := by decide +kernel
theorem dX3_linesInOwnWays_10 : decode cX3_linesInOwnWays 10 = .ok (.aload_n 0, 1) := by decide +kernel
theorem dX3_linesInOwnWays_11 : decode cX3_linesInOwnWays 11 = .ok (.getfield 9, 3) := by decide +kernel
theorem dX3_linesInOwnWays_14 : decode cX3_linesInOwnWays 14 = .ok (.iload_n 3, 1) := by decide +kernel
theorem dX3_linesInOwnWays_15 : decode cX3_linesInOwnWays 15 = .ok (.iaload, 1) := by decide +kernel
theorem dX3_linesInOwnWays_16 : decode cX3_linesInOwnWays 16 = .ok (.iload_n 1, 1) := by decide +kernel
theorem dX3_linesInOwnWays_17 : decode cX3_linesInOwnWays 17 = .ok (.if_icmp .ne 12, 3) := by decide +kernel
theorem dX3_linesInOwnWays_20 : decode cX3_linesInOwnWays 20 = .ok (.iload_n 2, 1) := by decide +kernel
theorem dX3_linesInOwnWays_21 : decode cX3_linesInOwnWays 21 = .ok (.aload_n 0, 1) := by decide +kernel
theorem dX3_linesInOwnWays_22 : decode cX3_linesInOwnWays 22 = .ok (.iload_n 1, 1) := by decide +kernel
theorem dX3_linesInOwnWays_23 : decode cX3_linesInOwnWays 23 = .ok (.iload_n 3, 1) := by decide +kernel
theorem dX3_linesInOwnWays_24 : decode cX3_linesInOwnWays 24 = .ok (.invokevirtual 39, 3) := by decide +kernel
theorem dX3_linesInOwnWays_27 : decode cX3_linesInOwnWays 27 = .ok (.iadd, 1) := by decide +kernel
theorem dX3_linesInOwnWays_28 : decode cX3_linesInOwnWays 28 = .ok (.istore_n 2, 1) := by decide +kernel
theorem dX3_linesInOwnWays_29 : decode cX3_linesInOwnWays 29 = .ok (.iinc 3 1, 3) := by decide +kernel
theorem dX3_linesInOwnWays_32 : decode cX3_linesInOwnWays 32 = .ok (.goto (-28), 3) := by decide +kernel
theorem dX3_linesInOwnWays_35 : decode cX3_linesInOwnWays 35 = .ok (.iload_n 2, 1) := by decide +kernel
theorem dX3_linesInOwnWays_36 : decode cX3_linesInOwnWays 36 = .ok (.ireturn, 1) := by decide +kernel
theorem dX3_removeLinesOf_0 : decode cX3_removeLinesOf 0 = .ok (.iconst 0, 1) := by decide +kernel
theorem dX3_removeLinesOf_1 : decode cX3_removeLinesOf 1 = .ok (.istore_n 2, 1) := by decide +kernel
theorem dX3_removeLinesOf_2 : decode cX3_removeLinesOf 2 = .ok (.iconst 0, 1) := by decide +kernel
theorem dX3_removeLinesOf_3 : decode cX3_removeLinesOf 3 = .ok (.istore_n 3, 1) := by decide +kernel
theorem dX3_removeLinesOf_4 : decode cX3_removeLinesOf 4 = .ok (.iload_n 3, 1) := by decide +kernel
theorem dX3_removeLinesOf_5 : decode cX3_removeLinesOf 5 = .ok (.bipush 32, 2) := by decide +kernel
theorem dX3_removeLinesOf_7 : decode cX3_removeLinesOf 7 = .ok (.if_icmp .ge 28, 3) := by decide +kernel
theorem dX3_removeLinesOf_10 : decode cX3_removeLinesOf 10 = .ok (.aload_n 0, 1) := by decide +kernel
theorem dX3_removeLinesOf_11 : decode cX3_removeLinesOf 11 = .ok (.iload_n 1, 1) := by decide +kernel
theorem dX3_removeLinesOf_12 : decode cX3_removeLinesOf 12 = .ok (.iload_n 3, 1) := by decide +kernel
theorem dX3_removeLinesOf_13 : decode cX3_removeLinesOf 13 = .ok (.invokevirtual 35, 3) := by decide +kernel
theorem dX3_removeLinesOf_16 : decode cX3_removeLinesOf 16 = .ok (.ifCond .eq 13, 3) := by decide +kernel
theorem dX3_removeLinesOf_19 : decode cX3_removeLinesOf 19 = .ok (.aload_n 0, 1) := by decide +kernel
theorem dX3_removeLinesOf_20 : decode cX3_removeLinesOf 20 = .ok (.getfield 15, 3) := by decide +kernel
theorem dX3_removeLinesOf_23 : decode cX3_removeLinesOf 23 = .ok (.iload_n 3, 1) := by decide +kernel
theorem dX3_removeLinesOf_24 : decode cX3_removeLinesOf 24 = .ok (.iconst (-1), 1) := by decide +kernel
theorem dX3_removeLinesOf_25 : decode cX3_removeLinesOf 25 = .ok (.iastore, 1) := by decide +kernel
theorem dX3_removeLinesOf_26 : decode cX3_removeLinesOf 26 = .ok (.iinc 2 1, 3) := by decide +kernel
theorem dX3_removeLinesOf_29 : decode cX3_removeLinesOf 29 = .ok (.iinc 3 1, 3) := by decide +kernel
theorem dX3_removeLinesOf_32 : decode cX3_removeLinesOf 32 = .ok (.goto (-28), 3) := by decide +kernel
theorem dX3_removeLinesOf_35 : decode cX3_removeLinesOf 35 = .ok (.iload_n 2, 1) := by decide +kernel
theorem dX3_removeLinesOf_36 : decode cX3_removeLinesOf 36 = .ok (.ireturn, 1) := by decide +kernel
theorem dX3_wayWithFewestLines_0 : decode cX3_wayWithFewestLines 0 = .ok (.iconst (-1), 1) := by decide +kernel
theorem dX3_wayWithFewestLines_1 : decode cX3_wayWithFewestLines 1 = .ok (.istore_n 2, 1) := by decide +kernel
theorem dX3_wayWithFewestLines_2 : decode cX3_wayWithFewestLines 2 = .ok (.iconst 5, 1) := by decide +kernel
theorem dX3_wayWithFewestLines_3 : decode cX3_wayWithFewestLines 3 = .ok (.istore_n 3, 1) := by decide +kernel
theorem dX3_wayWithFewestLines_4 : decode cX3_wayWithFewestLines 4 = .ok (.iconst 0, 1) := by decide +kernel
theorem dX3_wayWithFewestLines_5 : decode cX3_wayWithFewestLines 5 = .ok (.istore 4, 2) := by decide +kernel
theorem dX3_wayWithFewestLines_7 : decode cX3_wayWithFewestLines 7 = .ok (.iload 4, 2) := by decide +kernel
theorem dX3_wayWithFewestLines_9 : decode cX3_wayWithFewestLines 9 = .ok (.bipush 8, 2) := by decide +kernel
theorem dX3_wayWithFewestLines_11 : decode cX3_wayWithFewestLines 11 = .ok (.if_icmp .ge 42, 3) := by decide +kernel
theorem dX3_wayWithFewestLines_14 : decode cX3_wayWithFewestLines 14 = .ok (.aload_n 0, 1) := by decide +kernel
theorem dX3_wayWithFewestLines_15 : decode cX3_wayWithFewestLines 15 = .ok (.getfield 9, 3) := by decide +kernel
theorem dX3_wayWithFewestLines_18 : decode cX3_wayWithFewestLines 18 = .ok (.iload 4, 2) := by decide +kernel
theorem dX3_wayWithFewestLines_20 : decode cX3_wayWithFewestLines 20 = .ok (.iaload, 1) := by decide +kernel
theorem dX3_wayWithFewestLines_21 : decode cX3_wayWithFewestLines 21 = .ok (.iload_n 1, 1) := by decide +kernel
theorem dX3_wayWithFewestLines_22 : decode cX3_wayWithFewestLines 22 = .ok (.if_icmp .ne 25, 3) := by decide +kernel
theorem dX3_wayWithFewestLines_25 : decode cX3_wayWithFewestLines 25 = .ok (.aload_n 0, 1) := by decide +kernel
theorem dX3_wayWithFewestLines_26 : decode cX3_wayWithFewestLines 26 = .ok (.iload_n 1, 1) := by decide +kernel
theorem dX3_wayWithFewestLines_27 : decode cX3_wayWithFewestLines 27 = .ok (.iload 4, 2) := by decide +kernel
theorem dX3_wayWithFewestLines_29 : decode cX3_wayWithFewestLines 29 = .ok (.invokevirtual 39, 3) := by decide +kernel
theorem dX3_wayWithFewestLines_32 : decode cX3_wayWithFewestLines 32 = .ok (.iload_n 3, 1) := by decide +kernel
theorem dX3_wayWithFewestLines_33 : decode cX3_wayWithFewestLines 33 = .ok (.if_icmp .ge 14, 3) := by decide +kernel
theorem dX3_wayWithFewestLines_36 : decode cX3_wayWithFewestLines 36 = .ok (.iload 4, 2) := by decide +kernel
theorem dX3_wayWithFewestLines_38 : decode cX3_wayWithFewestLines 38 = .ok (.istore_n 2, 1) := by decide +kernel
theorem dX3_wayWithFewestLines_39 : decode cX3_wayWithFewestLines 39 = .ok (.aload_n 0, 1) := by decide +kernel
theorem dX3_wayWithFewestLines_40 : decode cX3_wayWithFewestLines 40 = .ok (.iload_n 1, 1) := by decide +kernel
theorem dX3_wayWithFewestLines_41 : decode cX3_wayWithFewestLines 41 = .ok (.iload 4, 2) := by decide +kernel
theorem dX3_wayWithFewestLines_43 : decode cX3_wayWithFewestLines 43 = .ok (.invokevirtual 39, 3) := by decide +kernel
theorem dX3_wayWithFewestLines_46 : decode cX3_wayWithFewestLines 46 = .ok (.istore_n 3, 1) := by decide +kernel
theorem dX3_wayWithFewestLines_47 : decode cX3_wayWithFewestLines 47 = .ok (.iinc 4 1, 3) := by decide +kernel
theorem dX3_wayWithFewestLines_50 : decode cX3_wayWithFewestLines 50 = .ok (.goto (-43), 3) := by decide +kernel
theorem dX3_wayWithFewestLines_53 : decode cX3_wayWithFewestLines 53 = .ok (.iload_n 2, 1) := by decide +kernel
theorem dX3_wayWithFewestLines_54 : decode cX3_wayWithFewestLines 54 = .ok (.ireturn, 1) := by decide +kernel
theorem dX4_init_0 : decode cX4_init 0 = .ok (.aload_n 0, 1) := by decide +kernel
theorem dX4_init_1 : decode cX4_init 1 = .ok (.invokespecial 3, 3) := by decide +kernel
theorem dX4_init_4 : decode cX4_init 4 = .ok (.aload_n 0, 1) := by decide +kernel
theorem dX4_init_5 : decode cX4_init 5 = .ok (.new 9, 3) := by decide +kernel
theorem dX4_init_8 : decode cX4_init 8 = .ok (.dup, 1) := by decide +kernel
theorem dX4_init_9 : decode cX4_init 9 = .ok (.invokespecial 11, 3) := by decide +kernel
theorem dX4_init_12 : decode cX4_init 12 = .ok (.putfield 12, 3) := by decide +kernel
theorem dX4_init_15 : decode cX4_init 15 = .ok (.aload_n 0, 1) := by decide +kernel
theorem dX4_init_16 : decode cX4_init 16 = .ok (.new 18, 3) := by decide +kernel
theorem dX4_init_19 : decode cX4_init 19 = .ok (.dup, 1) := by decide +kernel
theorem dX4_init_20 : decode cX4_init 20 = .ok (.invokespecial 20, 3) := by decide +kernel
theorem dX4_init_23 : decode cX4_init 23 = .ok (.putfield 21, 3) := by decide +kernel
theorem dX4_init_26 : decode cX4_init 26 = .ok (.aload_n 0, 1) := by decide +kernel
theorem dX4_init_27 : decode cX4_init 27 = .ok (.iconst 4, 1) := by decide +kernel
theorem dX4_init_28 : decode cX4_init 28 = .ok (.newarray .int, 2) := by decide +kernel
theorem dX4_init_30 : decode cX4_init 30 = .ok (.putfield 25, 3) := by decide +kernel
theorem dX4_init_33 : decode cX4_init 33 = .ok (.aload_n 0, 1) := by decide +kernel
theorem dX4_init_34 : decode cX4_init 34 = .ok (.bipush 16, 2) := by decide +kernel
theorem dX4_init_36 : decode cX4_init 36 = .ok (.newarray .int, 2) := by decide +kernel
theorem dX4_init_38 : decode cX4_init 38 = .ok (.putfield 29, 3) := by decide +kernel
theorem dX4_init_41 : decode cX4_init 41 = .ok (.aload_n 0, 1) := by decide +kernel
theorem dX4_init_42 : decode cX4_init 42 = .ok (.iconst 0, 1) := by decide +kernel
theorem dX4_init_43 : decode cX4_init 43 = .ok (.putfield 32, 3) := by decide +kernel
theorem dX4_init_46 : decode cX4_init 46 = .ok (.aload_n 0, 1) := by decide +kernel
theorem dX4_init_47 : decode cX4_init 47 = .ok (.iconst 0, 1) := by decide +kernel
theorem dX4_init_48 : decode cX4_init 48 = .ok (.putfield 36, 3) := by decide +kernel
theorem dX4_init_51 : decode cX4_init 51 = .ok (.iconst 0, 1) := by decide +kernel
theorem dX4_init_52 : decode cX4_init 52 = .ok (.istore_n 1, 1) := by decide +kernel
theorem dX4_init_53 : decode cX4_init 53 = .ok (.iload_n 1, 1) := by decide +kernel
theorem dX4_init_54 : decode cX4_init 54 = .ok (.iconst 4, 1) := by decide +kernel
theorem dX4_init_55 : decode cX4_init 55 = .ok (.if_icmp .ge 16, 3) := by decide +kernel
theorem dX4_init_58 : decode cX4_init 58 = .ok (.aload_n 0, 1) := by decide +kernel
theorem dX4_init_59 : decode cX4_init 59 = .ok (.getfield 25, 3) := by decide +kernel
theorem dX4_init_62 : decode cX4_init 62 = .ok (.iload_n 1, 1) := by decide +kernel
theorem dX4_init_63 : decode cX4_init 63 = .ok (.iconst 1, 1) := by decide +kernel
theorem dX4_init_64 : decode cX4_init 64 = .ok (.iastore, 1) := by decide +kernel
theorem dX4_init_65 : decode cX4_init 65 = .ok (.iinc 1 1, 3) := by decide +kernel
theorem dX4_init_68 : decode cX4_init 68 = .ok (.goto (-15), 3) := by decide +kernel
theorem dX4_init_71 : decode cX4_init 71 = .ok (.return_, 1) := by decide +kernel
theorem dX4_copyFrom_0 : decode cX4_copyFrom 0 = .ok (.aload_n 0, 1) := by decide +kernel
theorem dX4_copyFrom_1 : decode cX4_copyFrom 1 = .ok (.getfield 12, 3) := by decide +kernel
theorem dX4_copyFrom_4 : decode cX4_copyFrom 4 = .ok (.aload_n 1, 1) := by decide +kernel
theorem dX4_copyFrom_5 : decode cX4_copyFrom 5 = .ok (.getfield 12, 3) := by decide +kernel
theorem dX4_copyFrom_8 : decode cX4_copyFrom 8 = .ok (.invokevirtual 39, 3) := by decide +kernel
theorem dX4_copyFrom_11 : decode cX4_copyFrom 11 = .ok (.aload_n 0, 1) := by decide +kernel
theorem dX4_copyFrom_12 : decode cX4_copyFrom 12 = .ok (.getfield 21, 3) := by decide +kernel
theorem dX4_copyFrom_15 : decode cX4_copyFrom 15 = .ok (.aload_n 1, 1) := by decide +kernel
theorem dX4_copyFrom_16 : decode cX4_copyFrom 16 = .ok (.getfield 21, 3) := by decide +kernel
theorem dX4_copyFrom_19 : decode cX4_copyFrom 19 = .ok (.invokevirtual 43, 3) := by decide +kernel
theorem dX4_copyFrom_22 : decode cX4_copyFrom 22 = .ok (.aload_n 1, 1) := by decide +kernel
theorem dX4_copyFrom_23 : decode cX4_copyFrom 23 = .ok (.getfield 25, 3) := by decide +kernel
theorem dX4_copyFrom_26 : decode cX4_copyFrom 26 = .ok (.iconst 0, 1) := by decide +kernel
theorem dX4_copyFrom_27 : decode cX4_copyFrom 27 = .ok (.aload_n 0, 1) := by decide +kernel
theorem dX4_copyFrom_28 : decode cX4_copyFrom 28 = .ok (.getfield 25, 3) := by decide +kernel
theorem dX4_copyFrom_31 : decode cX4_copyFrom 31 = .ok (.iconst 0, 1) := by decide +kernel
theorem dX4_copyFrom_32 : decode cX4_copyFrom 32 = .ok (.aload_n 0, 1) := by decide +kernel
theorem dX4_copyFrom_33 : decode cX4_copyFrom 33 = .ok (.getfield 25, 3) := by decide +kernel
theorem dX4_copyFrom_36 : decode cX4_copyFrom 36 = .ok (.arraylength, 1) := by decide +kernel
theorem dX4_copyFrom_37 : decode cX4_copyFrom 37 = .ok (.invokestatic 46, 3) := by decide +kernel
theorem dX4_copyFrom_40 : decode cX4_copyFrom 40 = .ok (.aload_n 1, 1) := by decide +kernel
theorem dX4_copyFrom_41 : decode cX4_copyFrom 41 = .ok (.getfield 29, 3) := by decide +kernel
theorem dX4_copyFrom_44 : decode cX4_copyFrom 44 = .ok (.iconst 0, 1) := by decide +kernel
theorem dX4_copyFrom_45 : decode cX4_copyFrom 45 = .ok (.aload_n 0, 1) := by decide +kernel
theorem dX4_copyFrom_46 : decode cX4_copyFrom 46 = .ok (.getfield 29, 3) := by decide +kernel
theorem dX4_copyFrom_49 : decode cX4_copyFrom 49 = .ok (.iconst 0, 1) := by decide +kernel
theorem dX4_copyFrom_50 : decode cX4_copyFrom 50 = .ok (.aload_n 0, 1) := by decide +kernel
theorem dX4_copyFrom_51 : decode cX4_copyFrom 51 = .ok (.getfield 29, 3) := by decide +kernel
theorem dX4_copyFrom_54 : decode cX4_copyFrom 54 = .ok (.arraylength, 1) := by decide +kernel
theorem dX4_copyFrom_55 : decode cX4_copyFrom 55 = .ok (.invokestatic 46, 3) := by decide +kernel
theorem dX4_copyFrom_58 : decode cX4_copyFrom 58 = .ok (.aload_n 0, 1) := by decide +kernel
theorem dX4_copyFrom_59 : decode cX4_copyFrom 59 = .ok (.aload_n 1, 1) := by decide +kernel
theorem dX4_copyFrom_60 : decode cX4_copyFrom 60 = .ok (.getfield 32, 3) := by decide +kernel
theorem dX4_copyFrom_63 : decode cX4_copyFrom 63 = .ok (.putfield 32, 3) := by decide +kernel
theorem dX4_copyFrom_66 : decode cX4_copyFrom 66 = .ok (.aload_n 0, 1) := by decide +kernel
theorem dX4_copyFrom_67 : decode cX4_copyFrom 67 = .ok (.aload_n 1, 1) := by decide +kernel
theorem dX4_copyFrom_68 : decode cX4_copyFrom 68 = .ok (.getfield 36, 3) := by decide +kernel
theorem dX4_copyFrom_71 : decode cX4_copyFrom 71 = .ok (.putfield 36, 3) := by decide +kernel
theorem dX4_copyFrom_74 : decode cX4_copyFrom 74 = .ok (.return_, 1) := by decide +kernel
theorem dX5_init_0 : decode cX5_init 0 = .ok (.aload_n 0, 1) := by decide +kernel
theorem dX5_init_1 : decode cX5_init 1 = .ok (.invokespecial 3, 3) := by decide +kernel
theorem dX5_init_4 : decode cX5_init 4 = .ok (.aload_n 0, 1) := by decide +kernel
theorem dX5_init_5 : decode cX5_init 5 = .ok (.iconst 4, 1) := by decide +kernel
theorem dX5_init_6 : decode cX5_init 6 = .ok (.newarray .int, 2) := by decide +kernel
theorem dX5_init_8 : decode cX5_init 8 = .ok (.putfield 9, 3) := by decide +kernel
theorem dX5_init_11 : decode cX5_init 11 = .ok (.return_, 1) := by decide +kernel
theorem dX5_compute_0 : decode cX5_compute 0 = .ok (.bipush 8, 2) := by decide +kernel
theorem dX5_compute_2 : decode cX5_compute 2 = .ok (.istore_n 2, 1) := by decide +kernel
theorem dX5_compute_3 : decode cX5_compute 3 = .ok (.iconst 0, 1) := by decide +kernel
theorem dX5_compute_4 : decode cX5_compute 4 = .ok (.istore_n 3, 1) := by decide +kernel
theorem dX5_compute_5 : decode cX5_compute 5 = .ok (.iload_n 3, 1) := by decide +kernel
theorem dX5_compute_6 : decode cX5_compute 6 = .ok (.iconst 4, 1) := by decide +kernel
theorem dX5_compute_7 : decode cX5_compute 7 = .ok (.if_icmp .ge 30, 3) := by decide +kernel
theorem dX5_compute_10 : decode cX5_compute 10 = .ok (.aload_n 0, 1) := by decide +kernel
theorem dX5_compute_11 : decode cX5_compute 11 = .ok (.getfield 9, 3) := by decide +kernel
theorem dX5_compute_14 : decode cX5_compute 14 = .ok (.iload_n 3, 1) := by decide +kernel
theorem dX5_compute_15 : decode cX5_compute 15 = .ok (.aload_n 1, 1) := by decide +kernel
theorem dX5_compute_16 : decode cX5_compute 16 = .ok (.getfield 15, 3) := by decide +kernel
theorem dX5_compute_19 : decode cX5_compute 19 = .ok (.iload_n 3, 1) := by decide +kernel
theorem dX5_compute_20 : decode cX5_compute 20 = .ok (.iaload, 1) := by decide +kernel
theorem dX5_compute_21 : decode cX5_compute 21 = .ok (.iastore, 1) := by decide +kernel
theorem dX5_compute_22 : decode cX5_compute 22 = .ok (.iload_n 2, 1) := by decide +kernel
theorem dX5_compute_23 : decode cX5_compute 23 = .ok (.aload_n 0, 1) := by decide +kernel
theorem dX5_compute_24 : decode cX5_compute 24 = .ok (.getfield 9, 3) := by decide +kernel
theorem dX5_compute_27 : decode cX5_compute 27 = .ok (.iload_n 3, 1) := by decide +kernel
theorem dX5_compute_28 : decode cX5_compute 28 = .ok (.iaload, 1) := by decide +kernel
theorem dX5_compute_29 : decode cX5_compute 29 = .ok (.isub, 1) := by decide +kernel
theorem dX5_compute_30 : decode cX5_compute 30 = .ok (.istore_n 2, 1) := by decide +kernel
theorem dX5_compute_31 : decode cX5_compute 31 = .ok (.iinc 3 1, 3) := by decide +kernel
theorem dX5_compute_34 : decode cX5_compute 34 = .ok (.goto (-29), 3) := by decide +kernel
theorem dX5_compute_37 : decode cX5_compute 37 = .ok (.iconst 0, 1) := by decide +kernel
theorem dX5_compute_38 : decode cX5_compute 38 = .ok (.istore_n 3, 1) := by decide +kernel
theorem dX5_compute_39 : decode cX5_compute 39 = .ok (.iload_n 3, 1) := by decide +kernel
theorem dX5_compute_40 : decode cX5_compute 40 = .ok (.bipush 8, 2) := by decide +kernel
theorem dX5_compute_42 : decode cX5_compute 42 = .ok (.if_icmp .ge 25, 3) := by decide +kernel
theorem dX5_compute_45 : decode cX5_compute 45 = .ok (.iload_n 2, 1) := by decide +kernel
theorem dX5_compute_46 : decode cX5_compute 46 = .ok (.ifCond .le 21, 3) := by decide +kernel
theorem dX5_compute_49 : decode cX5_compute 49 = .ok (.iload_n 2, 1) := by decide +kernel
theorem dX5_compute_50 : decode cX5_compute 50 = .ok (.aload_n 0, 1) := by decide +kernel
theorem dX5_compute_51 : decode cX5_compute 51 = .ok (.aload_n 1, 1) := by decide +kernel
theorem dX5_compute_52 : decode cX5_compute 52 = .ok (.getfield 20, 3) := by decide +kernel
theorem dX5_compute_55 : decode cX5_compute 55 = .ok (.iload_n 2, 1) := by decide +kernel
theorem dX5_compute_56 : decode cX5_compute 56 = .ok (.invokevirtual 24, 3) := by decide +kernel
theorem dX5_compute_59 : decode cX5_compute 59 = .ok (.isub, 1) := by decide +kernel
theorem dX5_compute_60 : decode cX5_compute 60 = .ok (.istore_n 2, 1) := by decide +kernel
theorem dX5_compute_61 : decode cX5_compute 61 = .ok (.iinc 3 1, 3) := by decide +kernel
theorem dX5_compute_64 : decode cX5_compute 64 = .ok (.goto (-25), 3) := by decide +kernel
theorem dX5_compute_67 : decode cX5_compute 67 = .ok (.return_, 1) := by decide +kernel
theorem dX5_growOne_0 : decode cX5_growOne 0 = .ok (.iconst (-1), 1) := by decide +kernel
theorem dX5_growOne_1 : decode cX5_growOne 1 = .ok (.istore_n 3, 1) := by decide +kernel
theorem dX5_growOne_2 : decode cX5_growOne 2 = .ok (.iconst 1, 1) := by decide +kernel
theorem dX5_growOne_3 : decode cX5_growOne 3 = .ok (.istore 4, 2) := by decide +kernel
theorem dX5_growOne_5 : decode cX5_growOne 5 = .ok (.iconst 0, 1) := by decide +kernel
theorem dX5_growOne_6 : decode cX5_growOne 6 = .ok (.istore 5, 2) := by decide +kernel
theorem dX5_growOne_8 : decode cX5_growOne 8 = .ok (.iconst 0, 1) := by decide +kernel
theorem dX5_growOne_9 : decode cX5_growOne 9 = .ok (.istore 6, 2) := by decide +kernel
theorem dX5_growOne_11 : decode cX5_growOne 11 = .ok (.iload 6, 2) := by decide +kernel
theorem dX5_growOne_13 : decode cX5_growOne 13 = .ok (.iconst 4, 1) := by decide +kernel
theorem dX5_growOne_14 : decode cX5_growOne 14 = .ok (.if_icmp .ge 94, 3) := by decide +kernel
theorem dX5_growOne_17 : decode cX5_growOne 17 = .ok (.iconst 0, 1) := by decide +kernel
theorem dX5_growOne_18 : decode cX5_growOne 18 = .ok (.istore 7, 2) := by decide +kernel
theorem dX5_growOne_20 : decode cX5_growOne 20 = .ok (.iconst 1, 1) := by decide +kernel
theorem dX5_growOne_21 : decode cX5_growOne 21 = .ok (.istore 8, 2) := by decide +kernel
theorem dX5_growOne_23 : decode cX5_growOne 23 = .ok (.iload 8, 2) := by decide +kernel
theorem dX5_growOne_25 : decode cX5_growOne 25 = .ok (.iload_n 2, 1) := by decide +kernel
theorem dX5_growOne_26 : decode cX5_growOne 26 = .ok (.if_icmp .gt 76, 3) := by decide +kernel
theorem dX5_growOne_29 : decode cX5_growOne 29 = .ok (.aload_n 0, 1) := by decide +kernel
theorem dX5_growOne_30 : decode cX5_growOne 30 = .ok (.getfield 9, 3) := by decide +kernel
theorem dX5_growOne_33 : decode cX5_growOne 33 = .ok (.iload 6, 2) := by decide +kernel
theorem dX5_growOne_35 : decode cX5_growOne 35 = .ok (.iaload, 1) := by decide +kernel
theorem dX5_growOne_36 : decode cX5_growOne 36 = .ok (.iload 8, 2) := by decide +kernel
theorem dX5_growOne_38 : decode cX5_growOne 38 = .ok (.iadd, 1) := by decide +kernel
theorem dX5_growOne_39 : decode cX5_growOne 39 = .ok (.bipush 8, 2) := by decide +kernel
theorem dX5_growOne_41 : decode cX5_growOne 41 = .ok (.if_icmp .gt 61, 3) := by decide +kernel
theorem dX5_growOne_44 : decode cX5_growOne 44 = .ok (.iload 7, 2) := by decide +kernel
theorem dX5_growOne_46 : decode cX5_growOne 46 = .ok (.aload_n 1, 1) := by decide +kernel
theorem dX5_growOne_47 : decode cX5_growOne 47 = .ok (.getfield 28, 3) := by decide +kernel
theorem dX5_growOne_50 : decode cX5_growOne 50 = .ok (.iload 6, 2) := by decide +kernel
theorem dX5_growOne_52 : decode cX5_growOne 52 = .ok (.bipush 8, 2) := by decide +kernel
theorem dX5_growOne_54 : decode cX5_growOne 54 = .ok (.imul, 1) := by decide +kernel
theorem dX5_growOne_55 : decode cX5_growOne 55 = .ok (.aload_n 0, 1) := by decide +kernel
theorem dX5_growOne_56 : decode cX5_growOne 56 = .ok (.getfield 9, 3) := by decide +kernel
theorem dX5_growOne_59 : decode cX5_growOne 59 = .ok (.iload 6, 2) := by decide +kernel
theorem dX5_growOne_61 : decode cX5_growOne 61 = .ok (.iaload, 1) := by decide +kernel
theorem dX5_growOne_62 : decode cX5_growOne 62 = .ok (.iadd, 1) := by decide +kernel
theorem dX5_growOne_63 : decode cX5_growOne 63 = .ok (.iload 8, 2) := by decide +kernel
theorem dX5_growOne_65 : decode cX5_growOne 65 = .ok (.iadd, 1) := by decide +kernel
theorem dX5_growOne_66 : decode cX5_growOne 66 = .ok (.iconst 1, 1) := by decide +kernel
theorem dX5_growOne_67 : decode cX5_growOne 67 = .ok (.isub, 1) := by decide +kernel
theorem dX5_growOne_68 : decode cX5_growOne 68 = .ok (.iaload, 1) := by decide +kernel
theorem dX5_growOne_69 : decode cX5_growOne 69 = .ok (.iadd, 1) := by decide +kernel
theorem dX5_growOne_70 : decode cX5_growOne 70 = .ok (.istore 7, 2) := by decide +kernel
theorem dX5_growOne_72 : decode cX5_growOne 72 = .ok (.iload 7, 2) := by decide +kernel
theorem dX5_growOne_74 : decode cX5_growOne 74 = .ok (.iload 4, 2) := by decide +kernel
theorem dX5_growOne_76 : decode cX5_growOne 76 = .ok (.imul, 1) := by decide +kernel
theorem dX5_growOne_77 : decode cX5_growOne 77 = .ok (.iload 5, 2) := by decide +kernel
theorem dX5_growOne_79 : decode cX5_growOne 79 = .ok (.iload 8, 2) := by decide +kernel
theorem dX5_growOne_81 : decode cX5_growOne 81 = .ok (.imul, 1) := by decide +kernel
theorem dX5_growOne_82 : decode cX5_growOne 82 = .ok (.if_icmp .le 14, 3) := by decide +kernel
theorem dX5_growOne_85 : decode cX5_growOne 85 = .ok (.iload 6, 2) := by decide +kernel
theorem dX5_growOne_87 : decode cX5_growOne 87 = .ok (.istore_n 3, 1) := by decide +kernel
theorem dX5_growOne_88 : decode cX5_growOne 88 = .ok (.iload 8, 2) := by decide +kernel
theorem dX5_growOne_90 : decode cX5_growOne 90 = .ok (.istore 4, 2) := by decide +kernel
theorem dX5_growOne_92 : decode cX5_growOne 92 = .ok (.iload 7, 2) := by decide +kernel
theorem dX5_growOne_94 : decode cX5_growOne 94 = .ok (.istore 5, 2) := by decide +kernel
theorem dX5_growOne_96 : decode cX5_growOne 96 = .ok (.iinc 8 1, 3) := by decide +kernel
theorem dX5_growOne_99 : decode cX5_growOne 99 = .ok (.goto (-76), 3) := by decide +kernel
theorem dX5_growOne_102 : decode cX5_growOne 102 = .ok (.iinc 6 1, 3) := by decide +kernel
theorem dX5_growOne_105 : decode cX5_growOne 105 = .ok (.goto (-94), 3) := by decide +kernel
theorem dX5_growOne_108 : decode cX5_growOne 108 = .ok (.aload_n 0, 1) := by decide +kernel
theorem dX5_growOne_109 : decode cX5_growOne 109 = .ok (.getfield 9, 3) := by decide +kernel
theorem dX5_growOne_112 : decode cX5_growOne 112 = .ok (.iload_n 3, 1) := by decide +kernel
theorem dX5_growOne_113 : decode cX5_growOne 113 = .ok (.iconst (-1), 1) := by decide +kernel
theorem dX5_growOne_114 : decode cX5_growOne 114 = .ok (.if_icmp .ne 10, 3) := by decide +kernel
theorem dX5_growOne_117 : decode cX5_growOne 117 = .ok (.aload_n 0, 1) := by decide +kernel
theorem dX5_growOne_118 : decode cX5_growOne 118 = .ok (.invokevirtual 33, 3) := by decide +kernel
theorem dX5_growOne_121 : decode cX5_growOne 121 = .ok (.goto 4, 3) := by decide +kernel
theorem dX5_growOne_124 : decode cX5_growOne 124 = .ok (.iload_n 3, 1) := by decide +kernel
theorem dX5_growOne_125 : decode cX5_growOne 125 = .ok (.dup2, 1) := by decide +kernel
theorem dX5_growOne_126 : decode cX5_growOne 126 = .ok (.iaload, 1) := by decide +kernel
theorem dX5_growOne_127 : decode cX5_growOne 127 = .ok (.iload 4, 2) := by decide +kernel
theorem dX5_growOne_129 : decode cX5_growOne 129 = .ok (.iadd, 1) := by decide +kernel
theorem dX5_growOne_130 : decode cX5_growOne 130 = .ok (.iastore, 1) := by decide +kernel
theorem dX5_growOne_131 : decode cX5_growOne 131 = .ok (.iload 4, 2) := by decide +kernel
theorem dX5_growOne_133 : decode cX5_growOne 133 = .ok (.ireturn, 1) := by decide +kernel
theorem dX5_lowest_0 : decode cX5_lowest 0 = .ok (.iconst 0, 1) := by decide +kernel
theorem dX5_lowest_1 : decode cX5_lowest 1 = .ok (.istore_n 1, 1) := by decide +kernel
theorem dX5_lowest_2 : decode cX5_lowest 2 = .ok (.iconst 1, 1) := by decide +kernel
theorem dX5_lowest_3 : decode cX5_lowest 3 = .ok (.istore_n 2, 1) := by decide +kernel
theorem dX5_lowest_4 : decode cX5_lowest 4 = .ok (.iload_n 2, 1) := by decide +kernel
theorem dX5_lowest_5 : decode cX5_lowest 5 = .ok (.iconst 4, 1) := by decide +kernel
theorem dX5_lowest_6 : decode cX5_lowest 6 = .ok (.if_icmp .ge 26, 3) := by decide +kernel
theorem dX5_lowest_9 : decode cX5_lowest 9 = .ok (.aload_n 0, 1) := by decide +kernel
theorem dX5_lowest_10 : decode cX5_lowest 10 = .ok (.getfield 9, 3) := by decide +kernel
theorem dX5_lowest_13 : decode cX5_lowest 13 = .ok (.iload_n 2, 1) := by decide +kernel
theorem dX5_lowest_14 : decode cX5_lowest 14 = .ok (.iaload, 1) := by decide +kernel
theorem dX5_lowest_15 : decode cX5_lowest 15 = .ok (.aload_n 0, 1) := by decide +kernel
theorem dX5_lowest_16 : decode cX5_lowest 16 = .ok (.getfield 9, 3) := by decide +kernel
theorem dX5_lowest_19 : decode cX5_lowest 19 = .ok (.iload_n 1, 1) := by decide +kernel
theorem dX5_lowest_20 : decode cX5_lowest 20 = .ok (.iaload, 1) := by decide +kernel
theorem dX5_lowest_21 : decode cX5_lowest 21 = .ok (.if_icmp .ge 5, 3) := by decide +kernel
theorem dX5_lowest_24 : decode cX5_lowest 24 = .ok (.iload_n 2, 1) := by decide +kernel
theorem dX5_lowest_25 : decode cX5_lowest 25 = .ok (.istore_n 1, 1) := by decide +kernel
theorem dX5_lowest_26 : decode cX5_lowest 26 = .ok (.iinc 2 1, 3) := by decide +kernel
theorem dX5_lowest_29 : decode cX5_lowest 29 = .ok (.goto (-25), 3) := by decide +kernel
theorem dX5_lowest_32 : decode cX5_lowest 32 = .ok (.iload_n 1, 1) := by decide +kernel
theorem dX5_lowest_33 : decode cX5_lowest 33 = .ok (.ireturn, 1) := by decide +kernel
end
section
theorem dX6_init_0 : decode cX6_init 0 = .ok (.aload_n 0, 1) := by decide +kernel
theorem dX6_init_1 : decode cX6_init 1 = .ok (.invokespecial 3, 3) := by decide +kernel
theorem dX6_init_4 : decode cX6_init 4 = .ok (.aload_n 0, 1) := by decide +kernel
theorem dX6_init_5 : decode cX6_init 5 = .ok (.new 9, 3) := by decide +kernel
theorem dX6_init_8 : decode cX6_init 8 = .ok (.dup, 1) := by decide +kernel
theorem dX6_init_9 : decode cX6_init 9 = .ok (.invokespecial 11, 3) := by decide +kernel
theorem dX6_init_12 : decode cX6_init 12 = .ok (.putfield 12, 3) := by decide +kernel
theorem dX6_init_15 : decode cX6_init 15 = .ok (.aload_n 0, 1) := by decide +kernel
theorem dX6_init_16 : decode cX6_init 16 = .ok (.new 16, 3) := by decide +kernel
theorem dX6_init_19 : decode cX6_init 19 = .ok (.dup, 1) := by decide +kernel
theorem dX6_init_20 : decode cX6_init 20 = .ok (.invokespecial 18, 3) := by decide +kernel
theorem dX6_init_23 : decode cX6_init 23 = .ok (.putfield 19, 3) := by decide +kernel
theorem dX6_init_26 : decode cX6_init 26 = .ok (.aload_n 0, 1) := by decide +kernel
theorem dX6_init_27 : decode cX6_init 27 = .ok (.new 23, 3) := by decide +kernel
theorem dX6_init_30 : decode cX6_init 30 = .ok (.dup, 1) := by decide +kernel
theorem dX6_init_31 : decode cX6_init 31 = .ok (.invokespecial 25, 3) := by decide +kernel
theorem dX6_init_34 : decode cX6_init 34 = .ok (.putfield 26, 3) := by decide +kernel
theorem dX6_init_37 : decode cX6_init 37 = .ok (.aload_n 0, 1) := by decide +kernel
theorem dX6_init_38 : decode cX6_init 38 = .ok (.new 30, 3) := by decide +kernel
theorem dX6_init_41 : decode cX6_init 41 = .ok (.dup, 1) := by decide +kernel
theorem dX6_init_42 : decode cX6_init 42 = .ok (.invokespecial 32, 3) := by decide +kernel
theorem dX6_init_45 : decode cX6_init 45 = .ok (.putfield 33, 3) := by decide +kernel
theorem dX6_init_48 : decode cX6_init 48 = .ok (.aload_n 0, 1) := by decide +kernel
theorem dX6_init_49 : decode cX6_init 49 = .ok (.iconst 2, 1) := by decide +kernel
theorem dX6_init_50 : decode cX6_init 50 = .ok (.anewarray 9, 3) := by decide +kernel
theorem dX6_init_53 : decode cX6_init 53 = .ok (.putfield 37, 3) := by decide +kernel
theorem dX6_init_56 : decode cX6_init 56 = .ok (.aload_n 0, 1) := by decide +kernel
theorem dX6_init_57 : decode cX6_init 57 = .ok (.iconst 2, 1) := by decide +kernel
theorem dX6_init_58 : decode cX6_init 58 = .ok (.newarray .boolean, 2) := by decide +kernel
theorem dX6_init_60 : decode cX6_init 60 = .ok (.putfield 41, 3) := by decide +kernel
theorem dX6_init_63 : decode cX6_init 63 = .ok (.iconst 0, 1) := by decide +kernel
theorem dX6_init_64 : decode cX6_init 64 = .ok (.istore_n 1, 1) := by decide +kernel
theorem dX6_init_65 : decode cX6_init 65 = .ok (.iload_n 1, 1) := by decide +kernel
theorem dX6_init_66 : decode cX6_init 66 = .ok (.iconst 2, 1) := by decide +kernel
theorem dX6_init_67 : decode cX6_init 67 = .ok (.if_icmp .ge 22, 3) := by decide +kernel
theorem dX6_init_70 : decode cX6_init 70 = .ok (.aload_n 0, 1) := by decide +kernel
theorem dX6_init_71 : decode cX6_init 71 = .ok (.getfield 37, 3) := by decide +kernel
theorem dX6_init_74 : decode cX6_init 74 = .ok (.iload_n 1, 1) := by decide +kernel
theorem dX6_init_75 : decode cX6_init 75 = .ok (.new 9, 3) := by decide +kernel
theorem dX6_init_78 : decode cX6_init 78 = .ok (.dup, 1) := by decide +kernel
theorem dX6_init_79 : decode cX6_init 79 = .ok (.invokespecial 11, 3) := by decide +kernel
theorem dX6_init_82 : decode cX6_init 82 = .ok (.aastore, 1) := by decide +kernel
theorem dX6_init_83 : decode cX6_init 83 = .ok (.iinc 1 1, 3) := by decide +kernel
theorem dX6_init_86 : decode cX6_init 86 = .ok (.goto (-21), 3) := by decide +kernel
theorem dX6_init_89 : decode cX6_init 89 = .ok (.return_, 1) := by decide +kernel
theorem dX6_access_0 : decode cX6_access 0 = .ok (.iload_n 1, 1) := by decide +kernel
theorem dX6_access_1 : decode cX6_access 1 = .ok (.invokestatic 45, 3) := by decide +kernel
theorem dX6_access_4 : decode cX6_access 4 = .ok (.iload_n 2, 1) := by decide +kernel
theorem dX6_access_5 : decode cX6_access 5 = .ok (.iconst 0, 1) := by decide +kernel
theorem dX6_access_6 : decode cX6_access 6 = .ok (.sipush 255, 3) := by decide +kernel
theorem dX6_access_9 : decode cX6_access 9 = .ok (.invokestatic 49, 3) := by decide +kernel
theorem dX6_access_12 : decode cX6_access 12 = .ok (.aload_n 0, 1) := by decide +kernel
theorem dX6_access_13 : decode cX6_access 13 = .ok (.getfield 26, 3) := by decide +kernel
theorem dX6_access_16 : decode cX6_access 16 = .ok (.aload_n 0, 1) := by decide +kernel
theorem dX6_access_17 : decode cX6_access 17 = .ok (.getfield 12, 3) := by decide +kernel
theorem dX6_access_20 : decode cX6_access 20 = .ok (.invokevirtual 53, 3) := by decide +kernel
theorem dX6_access_23 : decode cX6_access 23 = .ok (.aload_n 0, 1) := by decide +kernel
theorem dX6_access_24 : decode cX6_access 24 = .ok (.iload_n 1, 1) := by decide +kernel
theorem dX6_access_25 : decode cX6_access 25 = .ok (.iload_n 2, 1) := by decide +kernel
theorem dX6_access_26 : decode cX6_access 26 = .ok (.invokevirtual 57, 3) := by decide +kernel
theorem dX6_access_29 : decode cX6_access 29 = .ok (.ireturn, 1) := by decide +kernel
theorem dX6_stream_0 : decode cX6_stream 0 = .ok (.iload_n 1, 1) := by decide +kernel
theorem dX6_stream_1 : decode cX6_stream 1 = .ok (.invokestatic 45, 3) := by decide +kernel
theorem dX6_stream_4 : decode cX6_stream 4 = .ok (.iload_n 2, 1) := by decide +kernel
theorem dX6_stream_5 : decode cX6_stream 5 = .ok (.iconst 0, 1) := by decide +kernel
theorem dX6_stream_6 : decode cX6_stream 6 = .ok (.sipush 255, 3) := by decide +kernel
theorem dX6_stream_9 : decode cX6_stream 9 = .ok (.invokestatic 49, 3) := by decide +kernel
theorem dX6_stream_12 : decode cX6_stream 12 = .ok (.iload_n 3, 1) := by decide +kernel
theorem dX6_stream_13 : decode cX6_stream 13 = .ok (.iconst 1, 1) := by decide +kernel
theorem dX6_stream_14 : decode cX6_stream 14 = .ok (.bipush 64, 2) := by decide +kernel
theorem dX6_stream_16 : decode cX6_stream 16 = .ok (.invokestatic 49, 3) := by decide +kernel
theorem dX6_stream_19 : decode cX6_stream 19 = .ok (.iload 4, 2) := by decide +kernel
theorem dX6_stream_21 : decode cX6_stream 21 = .ok (.iconst 1, 1) := by decide +kernel
theorem dX6_stream_22 : decode cX6_stream 22 = .ok (.bipush 40, 2) := by decide +kernel
theorem dX6_stream_24 : decode cX6_stream 24 = .ok (.invokestatic 49, 3) := by decide +kernel
theorem dX6_stream_27 : decode cX6_stream 27 = .ok (.aload_n 0, 1) := by decide +kernel
theorem dX6_stream_28 : decode cX6_stream 28 = .ok (.getfield 26, 3) := by decide +kernel
theorem dX6_stream_31 : decode cX6_stream 31 = .ok (.aload_n 0, 1) := by decide +kernel
theorem dX6_stream_32 : decode cX6_stream 32 = .ok (.getfield 12, 3) := by decide +kernel
theorem dX6_stream_35 : decode cX6_stream 35 = .ok (.invokevirtual 53, 3) := by decide +kernel
theorem dX6_stream_38 : decode cX6_stream 38 = .ok (.iconst 0, 1) := by decide +kernel
theorem dX6_stream_39 : decode cX6_stream 39 = .ok (.istore 5, 2) := by decide +kernel
theorem dX6_stream_41 : decode cX6_stream 41 = .ok (.iconst 0, 1) := by decide +kernel
theorem dX6_stream_42 : decode cX6_stream 42 = .ok (.istore 6, 2) := by decide +kernel
theorem dX6_stream_44 : decode cX6_stream 44 = .ok (.iload 6, 2) := by decide +kernel
theorem dX6_stream_46 : decode cX6_stream 46 = .ok (.iload 4, 2) := by decide +kernel
theorem dX6_stream_48 : decode cX6_stream 48 = .ok (.if_icmp .ge 31, 3) := by decide +kernel
theorem dX6_stream_51 : decode cX6_stream 51 = .ok (.aload_n 0, 1) := by decide +kernel
theorem dX6_stream_52 : decode cX6_stream 52 = .ok (.iload_n 1, 1) := by decide +kernel
theorem dX6_stream_53 : decode cX6_stream 53 = .ok (.iload_n 2, 1) := by decide +kernel
theorem dX6_stream_54 : decode cX6_stream 54 = .ok (.iload 6, 2) := by decide +kernel
theorem dX6_stream_56 : decode cX6_stream 56 = .ok (.iload_n 3, 1) := by decide +kernel
theorem dX6_stream_57 : decode cX6_stream 57 = .ok (.imul, 1) := by decide +kernel
theorem dX6_stream_58 : decode cX6_stream 58 = .ok (.iadd, 1) := by decide +kernel
theorem dX6_stream_59 : decode cX6_stream 59 = .ok (.sipush 256, 3) := by decide +kernel
theorem dX6_stream_62 : decode cX6_stream 62 = .ok (.irem, 1) := by decide +kernel
theorem dX6_stream_63 : decode cX6_stream 63 = .ok (.invokevirtual 57, 3) := by decide +kernel
theorem dX6_stream_66 : decode cX6_stream 66 = .ok (.iconst 1, 1) := by decide +kernel
theorem dX6_stream_67 : decode cX6_stream 67 = .ok (.if_icmp .ne 6, 3) := by decide +kernel
theorem dX6_stream_70 : decode cX6_stream 70 = .ok (.iinc 5 1, 3) := by decide +kernel
theorem dX6_stream_73 : decode cX6_stream 73 = .ok (.iinc 6 1, 3) := by decide +kernel
theorem dX6_stream_76 : decode cX6_stream 76 = .ok (.goto (-32), 3) := by decide +kernel
theorem dX6_stream_79 : decode cX6_stream 79 = .ok (.iload 5, 2) := by decide +kernel
theorem dX6_stream_81 : decode cX6_stream 81 = .ok (.ireturn, 1) := by decide +kernel
theorem dX6_flush_0 : decode cX6_flush 0 = .ok (.iload_n 1, 1) := by decide +kernel
theorem dX6_flush_1 : decode cX6_flush 1 = .ok (.invokestatic 45, 3) := by decide +kernel
theorem dX6_flush_4 : decode cX6_flush 4 = .ok (.aload_n 0, 1) := by decide +kernel
theorem dX6_flush_5 : decode cX6_flush 5 = .ok (.getfield 26, 3) := by decide +kernel
theorem dX6_flush_8 : decode cX6_flush 8 = .ok (.aload_n 0, 1) := by decide +kernel
theorem dX6_flush_9 : decode cX6_flush 9 = .ok (.getfield 12, 3) := by decide +kernel
theorem dX6_flush_12 : decode cX6_flush 12 = .ok (.invokevirtual 53, 3) := by decide +kernel
theorem dX6_flush_15 : decode cX6_flush 15 = .ok (.aload_n 0, 1) := by decide +kernel
theorem dX6_flush_16 : decode cX6_flush 16 = .ok (.getfield 12, 3) := by decide +kernel
theorem dX6_flush_19 : decode cX6_flush 19 = .ok (.getfield 61, 3) := by decide +kernel
theorem dX6_flush_22 : decode cX6_flush 22 = .ok (.iload_n 1, 1) := by decide +kernel
theorem dX6_flush_23 : decode cX6_flush 23 = .ok (.invokevirtual 65, 3) := by decide +kernel
theorem dX6_flush_26 : decode cX6_flush 26 = .ok (.ireturn, 1) := by decide +kernel
theorem dX6_moveWay_0 : decode cX6_moveWay 0 = .ok (.aload_n 0, 1) := by decide +kernel
theorem dX6_moveWay_1 : decode cX6_moveWay 1 = .ok (.getfield 26, 3) := by decide +kernel
theorem dX6_moveWay_4 : decode cX6_moveWay 4 = .ok (.aload_n 0, 1) := by decide +kernel
theorem dX6_moveWay_5 : decode cX6_moveWay 5 = .ok (.getfield 12, 3) := by decide +kernel
theorem dX6_moveWay_8 : decode cX6_moveWay 8 = .ok (.invokevirtual 53, 3) := by decide +kernel
theorem dX6_moveWay_11 : decode cX6_moveWay 11 = .ok (.aload_n 0, 1) := by decide +kernel
theorem dX6_moveWay_12 : decode cX6_moveWay 12 = .ok (.invokevirtual 71, 3) := by decide +kernel
theorem dX6_moveWay_15 : decode cX6_moveWay 15 = .ok (.ireturn, 1) := by decide +kernel
theorem dX6_giveWay_0 : decode cX6_giveWay 0 = .ok (.iload_n 1, 1) := by decide +kernel
theorem dX6_giveWay_1 : decode cX6_giveWay 1 = .ok (.bipush 8, 2) := by decide +kernel
theorem dX6_giveWay_3 : decode cX6_giveWay 3 = .ok (.invokestatic 75, 3) := by decide +kernel
theorem dX6_giveWay_6 : decode cX6_giveWay 6 = .ok (.iload_n 2, 1) := by decide +kernel
theorem dX6_giveWay_7 : decode cX6_giveWay 7 = .ok (.invokestatic 45, 3) := by decide +kernel
theorem dX6_giveWay_10 : decode cX6_giveWay 10 = .ok (.aload_n 0, 1) := by decide +kernel
theorem dX6_giveWay_11 : decode cX6_giveWay 11 = .ok (.getfield 26, 3) := by decide +kernel
theorem dX6_giveWay_14 : decode cX6_giveWay 14 = .ok (.aload_n 0, 1) := by decide +kernel
theorem dX6_giveWay_15 : decode cX6_giveWay 15 = .ok (.getfield 12, 3) := by decide +kernel
theorem dX6_giveWay_18 : decode cX6_giveWay 18 = .ok (.invokevirtual 53, 3) := by decide +kernel
theorem dX6_giveWay_21 : decode cX6_giveWay 21 = .ok (.aload_n 0, 1) := by decide +kernel
theorem dX6_giveWay_22 : decode cX6_giveWay 22 = .ok (.getfield 12, 3) := by decide +kernel
theorem dX6_giveWay_25 : decode cX6_giveWay 25 = .ok (.getfield 61, 3) := by decide +kernel
theorem dX6_giveWay_28 : decode cX6_giveWay 28 = .ok (.getfield 79, 3) := by decide +kernel
theorem dX6_giveWay_31 : decode cX6_giveWay 31 = .ok (.iload_n 1, 1) := by decide +kernel
theorem dX6_giveWay_32 : decode cX6_giveWay 32 = .ok (.iaload, 1) := by decide +kernel
theorem dX6_giveWay_33 : decode cX6_giveWay 33 = .ok (.istore_n 3, 1) := by decide +kernel
theorem dX6_giveWay_34 : decode cX6_giveWay 34 = .ok (.aload_n 0, 1) := by decide +kernel
theorem dX6_giveWay_35 : decode cX6_giveWay 35 = .ok (.getfield 12, 3) := by decide +kernel
theorem dX6_giveWay_38 : decode cX6_giveWay 38 = .ok (.getfield 61, 3) := by decide +kernel
theorem dX6_giveWay_41 : decode cX6_giveWay 41 = .ok (.getfield 79, 3) := by decide +kernel
theorem dX6_giveWay_44 : decode cX6_giveWay 44 = .ok (.iload_n 1, 1) := by decide +kernel
theorem dX6_giveWay_45 : decode cX6_giveWay 45 = .ok (.iload_n 2, 1) := by decide +kernel
theorem dX6_giveWay_46 : decode cX6_giveWay 46 = .ok (.iastore, 1) := by decide +kernel
theorem dX6_giveWay_47 : decode cX6_giveWay 47 = .ok (.iload_n 3, 1) := by decide +kernel
theorem dX6_giveWay_48 : decode cX6_giveWay 48 = .ok (.ireturn, 1) := by decide +kernel
theorem dX6_setLeast_0 : decode cX6_setLeast 0 = .ok (.iload_n 1, 1) := by decide +kernel
theorem dX6_setLeast_1 : decode cX6_setLeast 1 = .ok (.invokestatic 45, 3) := by decide +kernel
theorem dX6_setLeast_4 : decode cX6_setLeast 4 = .ok (.iload_n 2, 1) := by decide +kernel
theorem dX6_setLeast_5 : decode cX6_setLeast 5 = .ok (.iconst 0, 1) := by decide +kernel
theorem dX6_setLeast_6 : decode cX6_setLeast 6 = .ok (.iconst 2, 1) := by decide +kernel
theorem dX6_setLeast_7 : decode cX6_setLeast 7 = .ok (.invokestatic 49, 3) := by decide +kernel
theorem dX6_setLeast_10 : decode cX6_setLeast 10 = .ok (.aload_n 0, 1) := by decide +kernel
theorem dX6_setLeast_11 : decode cX6_setLeast 11 = .ok (.getfield 26, 3) := by decide +kernel
theorem dX6_setLeast_14 : decode cX6_setLeast 14 = .ok (.aload_n 0, 1) := by decide +kernel
theorem dX6_setLeast_15 : decode cX6_setLeast 15 = .ok (.getfield 12, 3) := by decide +kernel
theorem dX6_setLeast_18 : decode cX6_setLeast 18 = .ok (.invokevirtual 53, 3) := by decide +kernel
theorem dX6_setLeast_21 : decode cX6_setLeast 21 = .ok (.aload_n 0, 1) := by decide +kernel
theorem dX6_setLeast_22 : decode cX6_setLeast 22 = .ok (.getfield 12, 3) := by decide +kernel
theorem dX6_setLeast_25 : decode cX6_setLeast 25 = .ok (.getfield 83, 3) := by decide +kernel
theorem dX6_setLeast_28 : decode cX6_setLeast 28 = .ok (.iload_n 1, 1) := by decide +kernel
theorem dX6_setLeast_29 : decode cX6_setLeast 29 = .ok (.iaload, 1) := by decide +kernel
theorem dX6_setLeast_30 : decode cX6_setLeast 30 = .ok (.istore_n 3, 1) := by decide +kernel
theorem dX6_setLeast_31 : decode cX6_setLeast 31 = .ok (.aload_n 0, 1) := by decide +kernel
theorem dX6_setLeast_32 : decode cX6_setLeast 32 = .ok (.getfield 12, 3) := by decide +kernel
theorem dX6_setLeast_35 : decode cX6_setLeast 35 = .ok (.getfield 83, 3) := by decide +kernel
theorem dX6_setLeast_38 : decode cX6_setLeast 38 = .ok (.iload_n 1, 1) := by decide +kernel
theorem dX6_setLeast_39 : decode cX6_setLeast 39 = .ok (.iload_n 2, 1) := by decide +kernel
theorem dX6_setLeast_40 : decode cX6_setLeast 40 = .ok (.iastore, 1) := by decide +kernel
theorem dX6_setLeast_41 : decode cX6_setLeast 41 = .ok (.iload_n 3, 1) := by decide +kernel
theorem dX6_setLeast_42 : decode cX6_setLeast 42 = .ok (.ireturn, 1) := by decide +kernel
theorem dX6_halveGains_0 : decode cX6_halveGains 0 = .ok (.aload_n 0, 1) := by decide +kernel
theorem dX6_halveGains_1 : decode cX6_halveGains 1 = .ok (.getfield 26, 3) := by decide +kernel
theorem dX6_halveGains_4 : decode cX6_halveGains 4 = .ok (.aload_n 0, 1) := by decide +kernel
theorem dX6_halveGains_5 : decode cX6_halveGains 5 = .ok (.getfield 12, 3) := by decide +kernel
theorem dX6_halveGains_8 : decode cX6_halveGains 8 = .ok (.invokevirtual 53, 3) := by decide +kernel
theorem dX6_halveGains_11 : decode cX6_halveGains 11 = .ok (.aload_n 0, 1) := by decide +kernel
theorem dX6_halveGains_12 : decode cX6_halveGains 12 = .ok (.getfield 12, 3) := by decide +kernel
theorem dX6_halveGains_15 : decode cX6_halveGains 15 = .ok (.getfield 90, 3) := by decide +kernel
theorem dX6_halveGains_18 : decode cX6_halveGains 18 = .ok (.invokevirtual 94, 3) := by decide +kernel
theorem dX6_halveGains_21 : decode cX6_halveGains 21 = .ok (.aload_n 0, 1) := by decide +kernel
theorem dX6_halveGains_22 : decode cX6_halveGains 22 = .ok (.getfield 12, 3) := by decide +kernel
theorem dX6_halveGains_25 : decode cX6_halveGains 25 = .ok (.getfield 90, 3) := by decide +kernel
theorem dX6_halveGains_28 : decode cX6_halveGains 28 = .ok (.invokevirtual 99, 3) := by decide +kernel
theorem dX6_halveGains_31 : decode cX6_halveGains 31 = .ok (.ireturn, 1) := by decide +kernel
theorem dX6_owner_0 : decode cX6_owner 0 = .ok (.iload_n 1, 1) := by decide +kernel
theorem dX6_owner_1 : decode cX6_owner 1 = .ok (.bipush 8, 2) := by decide +kernel
theorem dX6_owner_3 : decode cX6_owner 3 = .ok (.invokestatic 75, 3) := by decide +kernel
theorem dX6_owner_6 : decode cX6_owner 6 = .ok (.aload_n 0, 1) := by decide +kernel
theorem dX6_owner_7 : decode cX6_owner 7 = .ok (.getfield 12, 3) := by decide +kernel
theorem dX6_owner_10 : decode cX6_owner 10 = .ok (.getfield 61, 3) := by decide +kernel
theorem dX6_owner_13 : decode cX6_owner 13 = .ok (.getfield 79, 3) := by decide +kernel
theorem dX6_owner_16 : decode cX6_owner 16 = .ok (.iload_n 1, 1) := by decide +kernel
theorem dX6_owner_17 : decode cX6_owner 17 = .ok (.iaload, 1) := by decide +kernel
theorem dX6_owner_18 : decode cX6_owner 18 = .ok (.ireturn, 1) := by decide +kernel
theorem dX6_waysOf_0 : decode cX6_waysOf 0 = .ok (.iload_n 1, 1) := by decide +kernel
theorem dX6_waysOf_1 : decode cX6_waysOf 1 = .ok (.invokestatic 45, 3) := by decide +kernel
theorem dX6_waysOf_4 : decode cX6_waysOf 4 = .ok (.aload_n 0, 1) := by decide +kernel
theorem dX6_waysOf_5 : decode cX6_waysOf 5 = .ok (.getfield 12, 3) := by decide +kernel
theorem dX6_waysOf_8 : decode cX6_waysOf 8 = .ok (.getfield 61, 3) := by decide +kernel
theorem dX6_waysOf_11 : decode cX6_waysOf 11 = .ok (.iload_n 1, 1) := by decide +kernel
theorem dX6_waysOf_12 : decode cX6_waysOf 12 = .ok (.invokevirtual 144, 3) := by decide +kernel
theorem dX6_waysOf_15 : decode cX6_waysOf 15 = .ok (.ireturn, 1) := by decide +kernel
theorem dX6_line_0 : decode cX6_line 0 = .ok (.iload_n 1, 1) := by decide +kernel
theorem dX6_line_1 : decode cX6_line 1 = .ok (.iconst 4, 1) := by decide +kernel
theorem dX6_line_2 : decode cX6_line 2 = .ok (.invokestatic 75, 3) := by decide +kernel
theorem dX6_line_5 : decode cX6_line 5 = .ok (.iload_n 2, 1) := by decide +kernel
theorem dX6_line_6 : decode cX6_line 6 = .ok (.bipush 8, 2) := by decide +kernel
theorem dX6_line_8 : decode cX6_line 8 = .ok (.invokestatic 75, 3) := by decide +kernel
theorem dX6_line_11 : decode cX6_line 11 = .ok (.aload_n 0, 1) := by decide +kernel
theorem dX6_line_12 : decode cX6_line 12 = .ok (.getfield 12, 3) := by decide +kernel
theorem dX6_line_15 : decode cX6_line 15 = .ok (.getfield 61, 3) := by decide +kernel
theorem dX6_line_18 : decode cX6_line 18 = .ok (.getfield 147, 3) := by decide +kernel
theorem dX6_line_21 : decode cX6_line 21 = .ok (.iload_n 1, 1) := by decide +kernel
theorem dX6_line_22 : decode cX6_line 22 = .ok (.bipush 8, 2) := by decide +kernel
theorem dX6_line_24 : decode cX6_line 24 = .ok (.imul, 1) := by decide +kernel
theorem dX6_line_25 : decode cX6_line 25 = .ok (.iload_n 2, 1) := by decide +kernel
theorem dX6_line_26 : decode cX6_line 26 = .ok (.iadd, 1) := by decide +kernel
theorem dX6_line_27 : decode cX6_line 27 = .ok (.iaload, 1) := by decide +kernel
theorem dX6_line_28 : decode cX6_line 28 = .ok (.ireturn, 1) := by decide +kernel
theorem dX6_lines_0 : decode cX6_lines 0 = .ok (.iload_n 1, 1) := by decide +kernel
theorem dX6_lines_1 : decode cX6_lines 1 = .ok (.invokestatic 45, 3) := by decide +kernel
theorem dX6_lines_4 : decode cX6_lines 4 = .ok (.iload_n 2, 1) := by decide +kernel
theorem dX6_lines_5 : decode cX6_lines 5 = .ok (.ifCond .eq 17, 3) := by decide +kernel
theorem dX6_lines_8 : decode cX6_lines 8 = .ok (.aload_n 0, 1) := by decide +kernel
theorem dX6_lines_9 : decode cX6_lines 9 = .ok (.getfield 12, 3) := by decide +kernel
theorem dX6_lines_12 : decode cX6_lines 12 = .ok (.getfield 61, 3) := by decide +kernel
theorem dX6_lines_15 : decode cX6_lines 15 = .ok (.iload_n 1, 1) := by decide +kernel
theorem dX6_lines_16 : decode cX6_lines 16 = .ok (.invokevirtual 150, 3) := by decide +kernel
theorem dX6_lines_19 : decode cX6_lines 19 = .ok (.goto 4, 3) := by decide +kernel
theorem dX6_lines_22 : decode cX6_lines 22 = .ok (.iconst 0, 1) := by decide +kernel
theorem dX6_lines_23 : decode cX6_lines 23 = .ok (.istore_n 3, 1) := by decide +kernel
theorem dX6_lines_24 : decode cX6_lines 24 = .ok (.aload_n 0, 1) := by decide +kernel
theorem dX6_lines_25 : decode cX6_lines 25 = .ok (.getfield 12, 3) := by decide +kernel
theorem dX6_lines_28 : decode cX6_lines 28 = .ok (.getfield 61, 3) := by decide +kernel
theorem dX6_lines_31 : decode cX6_lines 31 = .ok (.iload_n 1, 1) := by decide +kernel
theorem dX6_lines_32 : decode cX6_lines 32 = .ok (.invokevirtual 153, 3) := by decide +kernel
theorem dX6_lines_35 : decode cX6_lines 35 = .ok (.iload_n 3, 1) := by decide +kernel
theorem dX6_lines_36 : decode cX6_lines 36 = .ok (.isub, 1) := by decide +kernel
theorem dX6_lines_37 : decode cX6_lines 37 = .ok (.ireturn, 1) := by decide +kernel
theorem dX6_ifAccessed_0 : decode cX6_ifAccessed 0 = .ok (.iload_n 1, 1) := by decide +kernel
theorem dX6_ifAccessed_1 : decode cX6_ifAccessed 1 = .ok (.invokestatic 45, 3) := by decide +kernel
theorem dX6_ifAccessed_4 : decode cX6_ifAccessed 4 = .ok (.iload_n 2, 1) := by decide +kernel
theorem dX6_ifAccessed_5 : decode cX6_ifAccessed 5 = .ok (.iconst 0, 1) := by decide +kernel
theorem dX6_ifAccessed_6 : decode cX6_ifAccessed 6 = .ok (.sipush 255, 3) := by decide +kernel
theorem dX6_ifAccessed_9 : decode cX6_ifAccessed 9 = .ok (.invokestatic 49, 3) := by decide +kernel
theorem dX6_ifAccessed_12 : decode cX6_ifAccessed 12 = .ok (.aload_n 0, 1) := by decide +kernel
theorem dX6_ifAccessed_13 : decode cX6_ifAccessed 13 = .ok (.getfield 12, 3) := by decide +kernel
theorem dX6_ifAccessed_16 : decode cX6_ifAccessed 16 = .ok (.getfield 61, 3) := by decide +kernel
theorem dX6_ifAccessed_19 : decode cX6_ifAccessed 19 = .ok (.iload_n 1, 1) := by decide +kernel
theorem dX6_ifAccessed_20 : decode cX6_ifAccessed 20 = .ok (.iload_n 2, 1) := by decide +kernel
theorem dX6_ifAccessed_21 : decode cX6_ifAccessed 21 = .ok (.invokevirtual 156, 3) := by decide +kernel
theorem dX6_ifAccessed_24 : decode cX6_ifAccessed 24 = .ok (.ireturn, 1) := by decide +kernel
theorem dX6_victim_0 : decode cX6_victim 0 = .ok (.iload_n 1, 1) := by decide +kernel
theorem dX6_victim_1 : decode cX6_victim 1 = .ok (.invokestatic 45, 3) := by decide +kernel
theorem dX6_victim_4 : decode cX6_victim 4 = .ok (.iload_n 2, 1) := by decide +kernel
theorem dX6_victim_5 : decode cX6_victim 5 = .ok (.iconst 0, 1) := by decide +kernel
theorem dX6_victim_6 : decode cX6_victim 6 = .ok (.sipush 255, 3) := by decide +kernel
theorem dX6_victim_9 : decode cX6_victim 9 = .ok (.invokestatic 49, 3) := by decide +kernel
theorem dX6_victim_12 : decode cX6_victim 12 = .ok (.aload_n 0, 1) := by decide +kernel
theorem dX6_victim_13 : decode cX6_victim 13 = .ok (.getfield 12, 3) := by decide +kernel
theorem dX6_victim_16 : decode cX6_victim 16 = .ok (.getfield 61, 3) := by decide +kernel
theorem dX6_victim_19 : decode cX6_victim 19 = .ok (.iload_n 1, 1) := by decide +kernel
theorem dX6_victim_20 : decode cX6_victim 20 = .ok (.iload_n 2, 1) := by decide +kernel
theorem dX6_victim_21 : decode cX6_victim 21 = .ok (.invokevirtual 156, 3) := by decide +kernel
theorem dX6_victim_24 : decode cX6_victim 24 = .ok (.ifCond .eq 5, 3) := by decide +kernel
theorem dX6_victim_27 : decode cX6_victim 27 = .ok (.iconst (-1), 1) := by decide +kernel
theorem dX6_victim_28 : decode cX6_victim 28 = .ok (.ireturn, 1) := by decide +kernel
theorem dX6_victim_29 : decode cX6_victim 29 = .ok (.aload_n 0, 1) := by decide +kernel
theorem dX6_victim_30 : decode cX6_victim 30 = .ok (.getfield 12, 3) := by decide +kernel
theorem dX6_victim_33 : decode cX6_victim 33 = .ok (.getfield 61, 3) := by decide +kernel
theorem dX6_victim_36 : decode cX6_victim 36 = .ok (.iload_n 1, 1) := by decide +kernel
theorem dX6_victim_37 : decode cX6_victim 37 = .ok (.iload_n 2, 1) := by decide +kernel
theorem dX6_victim_38 : decode cX6_victim 38 = .ok (.invokevirtual 159, 3) := by decide +kernel
theorem dX6_victim_41 : decode cX6_victim 41 = .ok (.istore_n 3, 1) := by decide +kernel
theorem dX6_victim_42 : decode cX6_victim 42 = .ok (.iload_n 3, 1) := by decide +kernel
theorem dX6_victim_43 : decode cX6_victim 43 = .ok (.iconst (-1), 1) := by decide +kernel
theorem dX6_victim_44 : decode cX6_victim 44 = .ok (.if_icmp .ne 7, 3) := by decide +kernel
theorem dX6_victim_47 : decode cX6_victim 47 = .ok (.iconst (-1), 1) := by decide +kernel
theorem dX6_victim_48 : decode cX6_victim 48 = .ok (.goto 15, 3) := by decide +kernel
theorem dX6_victim_51 : decode cX6_victim 51 = .ok (.aload_n 0, 1) := by decide +kernel
theorem dX6_victim_52 : decode cX6_victim 52 = .ok (.getfield 12, 3) := by decide +kernel
theorem dX6_victim_55 : decode cX6_victim 55 = .ok (.getfield 61, 3) := by decide +kernel
theorem dX6_victim_58 : decode cX6_victim 58 = .ok (.getfield 147, 3) := by decide +kernel
theorem dX6_victim_61 : decode cX6_victim 61 = .ok (.iload_n 3, 1) := by decide +kernel
theorem dX6_victim_62 : decode cX6_victim 62 = .ok (.iaload, 1) := by decide +kernel
theorem dX6_victim_63 : decode cX6_victim 63 = .ok (.ireturn, 1) := by decide +kernel
theorem dX6_gain_0 : decode cX6_gain 0 = .ok (.iload_n 1, 1) := by decide +kernel
theorem dX6_gain_1 : decode cX6_gain 1 = .ok (.invokestatic 45, 3) := by decide +kernel
theorem dX6_gain_4 : decode cX6_gain 4 = .ok (.iload_n 2, 1) := by decide +kernel
theorem dX6_gain_5 : decode cX6_gain 5 = .ok (.bipush 8, 2) := by decide +kernel
theorem dX6_gain_7 : decode cX6_gain 7 = .ok (.invokestatic 75, 3) := by decide +kernel
theorem dX6_gain_10 : decode cX6_gain 10 = .ok (.aload_n 0, 1) := by decide +kernel
theorem dX6_gain_11 : decode cX6_gain 11 = .ok (.getfield 12, 3) := by decide +kernel
theorem dX6_gain_14 : decode cX6_gain 14 = .ok (.getfield 90, 3) := by decide +kernel
theorem dX6_gain_17 : decode cX6_gain 17 = .ok (.getfield 162, 3) := by decide +kernel
theorem dX6_gain_20 : decode cX6_gain 20 = .ok (.iload_n 1, 1) := by decide +kernel
theorem dX6_gain_21 : decode cX6_gain 21 = .ok (.bipush 8, 2) := by decide +kernel
theorem dX6_gain_23 : decode cX6_gain 23 = .ok (.imul, 1) := by decide +kernel
theorem dX6_gain_24 : decode cX6_gain 24 = .ok (.iload_n 2, 1) := by decide +kernel
theorem dX6_gain_25 : decode cX6_gain 25 = .ok (.iadd, 1) := by decide +kernel
theorem dX6_gain_26 : decode cX6_gain 26 = .ok (.iaload, 1) := by decide +kernel
theorem dX6_gain_27 : decode cX6_gain 27 = .ok (.ireturn, 1) := by decide +kernel
theorem dX6_utility_0 : decode cX6_utility 0 = .ok (.iload_n 1, 1) := by decide +kernel
theorem dX6_utility_1 : decode cX6_utility 1 = .ok (.invokestatic 45, 3) := by decide +kernel
theorem dX6_utility_4 : decode cX6_utility 4 = .ok (.iload_n 2, 1) := by decide +kernel
theorem dX6_utility_5 : decode cX6_utility 5 = .ok (.iconst 0, 1) := by decide +kernel
theorem dX6_utility_6 : decode cX6_utility 6 = .ok (.bipush 8, 2) := by decide +kernel
theorem dX6_utility_8 : decode cX6_utility 8 = .ok (.invokestatic 49, 3) := by decide +kernel
theorem dX6_utility_11 : decode cX6_utility 11 = .ok (.aload_n 0, 1) := by decide +kernel
theorem dX6_utility_12 : decode cX6_utility 12 = .ok (.getfield 12, 3) := by decide +kernel
theorem dX6_utility_15 : decode cX6_utility 15 = .ok (.getfield 90, 3) := by decide +kernel
theorem dX6_utility_18 : decode cX6_utility 18 = .ok (.iload_n 1, 1) := by decide +kernel
theorem dX6_utility_19 : decode cX6_utility 19 = .ok (.iload_n 2, 1) := by decide +kernel
theorem dX6_utility_20 : decode cX6_utility 20 = .ok (.invokevirtual 165, 3) := by decide +kernel
theorem dX6_utility_23 : decode cX6_utility 23 = .ok (.ireturn, 1) := by decide +kernel
theorem dX6_monitored_0 : decode cX6_monitored 0 = .ok (.iload_n 1, 1) := by decide +kernel
theorem dX6_monitored_1 : decode cX6_monitored 1 = .ok (.invokestatic 45, 3) := by decide +kernel
theorem dX6_monitored_4 : decode cX6_monitored 4 = .ok (.iload_n 2, 1) := by decide +kernel
theorem dX6_monitored_5 : decode cX6_monitored 5 = .ok (.invokestatic 168, 3) := by decide +kernel
theorem dX6_monitored_8 : decode cX6_monitored 8 = .ok (.ifCond .ne 13, 3) := by decide +kernel
theorem dX6_monitored_11 : decode cX6_monitored 11 = .ok (.new 171, 3) := by decide +kernel
theorem dX6_monitored_14 : decode cX6_monitored 14 = .ok (.dup, 1) := by decide +kernel
theorem dX6_monitored_15 : decode cX6_monitored 15 = .ok (.ldc 173, 2) := by decide +kernel
theorem dX6_monitored_17 : decode cX6_monitored 17 = .ok (.invokespecial 175, 3) := by decide +kernel
theorem dX6_monitored_20 : decode cX6_monitored 20 = .ok (.athrow, 1) := by decide +kernel
theorem dX6_monitored_21 : decode cX6_monitored 21 = .ok (.iload_n 3, 1) := by decide +kernel
theorem dX6_monitored_22 : decode cX6_monitored 22 = .ok (.bipush 8, 2) := by decide +kernel
theorem dX6_monitored_24 : decode cX6_monitored 24 = .ok (.invokestatic 75, 3) := by decide +kernel
theorem dX6_monitored_27 : decode cX6_monitored 27 = .ok (.aload_n 0, 1) := by decide +kernel
theorem dX6_monitored_28 : decode cX6_monitored 28 = .ok (.getfield 12, 3) := by decide +kernel
theorem dX6_monitored_31 : decode cX6_monitored 31 = .ok (.getfield 90, 3) := by decide +kernel
theorem dX6_monitored_34 : decode cX6_monitored 34 = .ok (.getfield 176, 3) := by decide +kernel
theorem dX6_monitored_37 : decode cX6_monitored 37 = .ok (.iload_n 1, 1) := by decide +kernel
theorem dX6_monitored_38 : decode cX6_monitored 38 = .ok (.iload_n 2, 1) := by decide +kernel
theorem dX6_monitored_39 : decode cX6_monitored 39 = .ok (.invokestatic 179, 3) := by decide +kernel
theorem dX6_monitored_42 : decode cX6_monitored 42 = .ok (.iload_n 3, 1) := by decide +kernel
theorem dX6_monitored_43 : decode cX6_monitored 43 = .ok (.iadd, 1) := by decide +kernel
theorem dX6_monitored_44 : decode cX6_monitored 44 = .ok (.iaload, 1) := by decide +kernel
theorem dX6_monitored_45 : decode cX6_monitored 45 = .ok (.ireturn, 1) := by decide +kernel
theorem dX6_target_0 : decode cX6_target 0 = .ok (.iload_n 1, 1) := by decide +kernel
theorem dX6_target_1 : decode cX6_target 1 = .ok (.invokestatic 45, 3) := by decide +kernel
theorem dX6_target_4 : decode cX6_target 4 = .ok (.aload_n 0, 1) := by decide +kernel
theorem dX6_target_5 : decode cX6_target 5 = .ok (.getfield 19, 3) := by decide +kernel
theorem dX6_target_8 : decode cX6_target 8 = .ok (.aload_n 0, 1) := by decide +kernel
theorem dX6_target_9 : decode cX6_target 9 = .ok (.getfield 12, 3) := by decide +kernel
theorem dX6_target_12 : decode cX6_target 12 = .ok (.invokevirtual 182, 3) := by decide +kernel
theorem dX6_target_15 : decode cX6_target 15 = .ok (.aload_n 0, 1) := by decide +kernel
theorem dX6_target_16 : decode cX6_target 16 = .ok (.getfield 19, 3) := by decide +kernel
theorem dX6_target_19 : decode cX6_target 19 = .ok (.getfield 185, 3) := by decide +kernel
theorem dX6_target_22 : decode cX6_target 22 = .ok (.iload_n 1, 1) := by decide +kernel
theorem dX6_target_23 : decode cX6_target 23 = .ok (.iaload, 1) := by decide +kernel
theorem dX6_target_24 : decode cX6_target 24 = .ok (.ireturn, 1) := by decide +kernel
theorem dX6_movesLeft_0 : decode cX6_movesLeft 0 = .ok (.aload_n 0, 1) := by decide +kernel
theorem dX6_movesLeft_1 : decode cX6_movesLeft 1 = .ok (.getfield 19, 3) := by decide +kernel
theorem dX6_movesLeft_4 : decode cX6_movesLeft 4 = .ok (.aload_n 0, 1) := by decide +kernel
theorem dX6_movesLeft_5 : decode cX6_movesLeft 5 = .ok (.getfield 12, 3) := by decide +kernel
theorem dX6_movesLeft_8 : decode cX6_movesLeft 8 = .ok (.invokevirtual 182, 3) := by decide +kernel
theorem dX6_movesLeft_11 : decode cX6_movesLeft 11 = .ok (.iconst 0, 1) := by decide +kernel
theorem dX6_movesLeft_12 : decode cX6_movesLeft 12 = .ok (.istore_n 1, 1) := by decide +kernel
theorem dX6_movesLeft_13 : decode cX6_movesLeft 13 = .ok (.iconst 0, 1) := by decide +kernel
theorem dX6_movesLeft_14 : decode cX6_movesLeft 14 = .ok (.istore_n 2, 1) := by decide +kernel
theorem dX6_movesLeft_15 : decode cX6_movesLeft 15 = .ok (.iload_n 2, 1) := by decide +kernel
theorem dX6_movesLeft_16 : decode cX6_movesLeft 16 = .ok (.iconst 4, 1) := by decide +kernel
theorem dX6_movesLeft_17 : decode cX6_movesLeft 17 = .ok (.if_icmp .ge 21, 3) := by decide +kernel
theorem dX6_movesLeft_20 : decode cX6_movesLeft 20 = .ok (.iload_n 1, 1) := by decide +kernel
theorem dX6_movesLeft_21 : decode cX6_movesLeft 21 = .ok (.aload_n 0, 1) := by decide +kernel
theorem dX6_movesLeft_22 : decode cX6_movesLeft 22 = .ok (.iload_n 2, 1) := by decide +kernel
theorem dX6_movesLeft_23 : decode cX6_movesLeft 23 = .ok (.invokevirtual 188, 3) := by decide +kernel
theorem dX6_movesLeft_26 : decode cX6_movesLeft 26 = .ok (.iconst 0, 1) := by decide +kernel
theorem dX6_movesLeft_27 : decode cX6_movesLeft 27 = .ok (.invokestatic 191, 3) := by decide +kernel
theorem dX6_movesLeft_30 : decode cX6_movesLeft 30 = .ok (.iadd, 1) := by decide +kernel
theorem dX6_movesLeft_31 : decode cX6_movesLeft 31 = .ok (.istore_n 1, 1) := by decide +kernel
theorem dX6_movesLeft_32 : decode cX6_movesLeft 32 = .ok (.iinc 2 1, 3) := by decide +kernel
theorem dX6_movesLeft_35 : decode cX6_movesLeft 35 = .ok (.goto (-20), 3) := by decide +kernel
theorem dX6_movesLeft_38 : decode cX6_movesLeft 38 = .ok (.iload_n 1, 1) := by decide +kernel
theorem dX6_movesLeft_39 : decode cX6_movesLeft 39 = .ok (.ireturn, 1) := by decide +kernel
theorem dX6_count_0 : decode cX6_count 0 = .ok (.iload_n 1, 1) := by decide +kernel
theorem dX6_count_1 : decode cX6_count 1 = .ok (.invokestatic 45, 3) := by decide +kernel
theorem dX6_count_4 : decode cX6_count 4 = .ok (.iload_n 2, 1) := by decide +kernel
theorem dX6_count_5 : decode cX6_count 5 = .ok (.iconst 0, 1) := by decide +kernel
theorem dX6_count_6 : decode cX6_count 6 = .ok (.iconst 3, 1) := by decide +kernel
theorem dX6_count_7 : decode cX6_count 7 = .ok (.invokestatic 49, 3) := by decide +kernel
theorem dX6_count_10 : decode cX6_count 10 = .ok (.aload_n 0, 1) := by decide +kernel
theorem dX6_count_11 : decode cX6_count 11 = .ok (.getfield 12, 3) := by decide +kernel
theorem dX6_count_14 : decode cX6_count 14 = .ok (.getfield 196, 3) := by decide +kernel
theorem dX6_count_17 : decode cX6_count 17 = .ok (.iload_n 1, 1) := by decide +kernel
theorem dX6_count_18 : decode cX6_count 18 = .ok (.iconst 4, 1) := by decide +kernel
theorem dX6_count_19 : decode cX6_count 19 = .ok (.imul, 1) := by decide +kernel
theorem dX6_count_20 : decode cX6_count 20 = .ok (.iload_n 2, 1) := by decide +kernel
theorem dX6_count_21 : decode cX6_count 21 = .ok (.iadd, 1) := by decide +kernel
theorem dX6_count_22 : decode cX6_count 22 = .ok (.iaload, 1) := by decide +kernel
theorem dX6_count_23 : decode cX6_count 23 = .ok (.ireturn, 1) := by decide +kernel
theorem dX6_accesses_0 : decode cX6_accesses 0 = .ok (.aload_n 0, 1) := by decide +kernel
theorem dX6_accesses_1 : decode cX6_accesses 1 = .ok (.getfield 12, 3) := by decide +kernel
theorem dX6_accesses_4 : decode cX6_accesses 4 = .ok (.getfield 199, 3) := by decide +kernel
theorem dX6_accesses_7 : decode cX6_accesses 7 = .ok (.ireturn, 1) := by decide +kernel
theorem dX6_savedStates_0 : decode cX6_savedStates 0 = .ok (.aload_n 0, 1) := by decide +kernel
theorem dX6_savedStates_1 : decode cX6_savedStates 1 = .ok (.getfield 26, 3) := by decide +kernel
theorem dX6_savedStates_4 : decode cX6_savedStates 4 = .ok (.getfield 128, 3) := by decide +kernel
theorem dX6_savedStates_7 : decode cX6_savedStates 7 = .ok (.ireturn, 1) := by decide +kernel
theorem dX6_requireTenant_0 : decode cX6_requireTenant 0 = .ok (.iload_n 0, 1) := by decide +kernel
theorem dX6_requireTenant_1 : decode cX6_requireTenant 1 = .ok (.iconst 4, 1) := by decide +kernel
theorem dX6_requireTenant_2 : decode cX6_requireTenant 2 = .ok (.invokestatic 75, 3) := by decide +kernel
theorem dX6_requireTenant_5 : decode cX6_requireTenant 5 = .ok (.return_, 1) := by decide +kernel
theorem dX6_requireIndex_0 : decode cX6_requireIndex 0 = .ok (.iload_n 0, 1) := by decide +kernel
theorem dX6_requireIndex_1 : decode cX6_requireIndex 1 = .ok (.ifCond .lt 8, 3) := by decide +kernel
theorem dX6_requireIndex_4 : decode cX6_requireIndex 4 = .ok (.iload_n 0, 1) := by decide +kernel
theorem dX6_requireIndex_5 : decode cX6_requireIndex 5 = .ok (.iload_n 1, 1) := by decide +kernel
theorem dX6_requireIndex_6 : decode cX6_requireIndex 6 = .ok (.if_icmp .lt 13, 3) := by decide +kernel
theorem dX6_requireIndex_9 : decode cX6_requireIndex 9 = .ok (.new 171, 3) := by decide +kernel
theorem dX6_requireIndex_12 : decode cX6_requireIndex 12 = .ok (.dup, 1) := by decide +kernel
theorem dX6_requireIndex_13 : decode cX6_requireIndex 13 = .ok (.ldc 202, 2) := by decide +kernel
theorem dX6_requireIndex_15 : decode cX6_requireIndex 15 = .ok (.invokespecial 175, 3) := by decide +kernel
theorem dX6_requireIndex_18 : decode cX6_requireIndex 18 = .ok (.athrow, 1) := by decide +kernel
theorem dX6_requireIndex_19 : decode cX6_requireIndex 19 = .ok (.return_, 1) := by decide +kernel
theorem dX6_requireArgument_0 : decode cX6_requireArgument 0 = .ok (.iload_n 0, 1) := by decide +kernel
theorem dX6_requireArgument_1 : decode cX6_requireArgument 1 = .ok (.iload_n 1, 1) := by decide +kernel
theorem dX6_requireArgument_2 : decode cX6_requireArgument 2 = .ok (.if_icmp .lt 8, 3) := by decide +kernel
theorem dX6_requireArgument_5 : decode cX6_requireArgument 5 = .ok (.iload_n 0, 1) := by decide +kernel
theorem dX6_requireArgument_6 : decode cX6_requireArgument 6 = .ok (.iload_n 2, 1) := by decide +kernel
theorem dX6_requireArgument_7 : decode cX6_requireArgument 7 = .ok (.if_icmp .le 13, 3) := by decide +kernel
theorem dX6_requireArgument_10 : decode cX6_requireArgument 10 = .ok (.new 204, 3) := by decide +kernel
theorem dX6_requireArgument_13 : decode cX6_requireArgument 13 = .ok (.dup, 1) := by decide +kernel
theorem dX6_requireArgument_14 : decode cX6_requireArgument 14 = .ok (.ldc 206, 2) := by decide +kernel
theorem dX6_requireArgument_16 : decode cX6_requireArgument 16 = .ok (.invokespecial 208, 3) := by decide +kernel
theorem dX6_requireArgument_19 : decode cX6_requireArgument 19 = .ok (.athrow, 1) := by decide +kernel
theorem dX6_requireArgument_20 : decode cX6_requireArgument 20 = .ok (.return_, 1) := by decide +kernel
theorem dX6_isSampled_0 : decode cX6_isSampled 0 = .ok (.iload_n 0, 1) := by decide +kernel
theorem dX6_isSampled_1 : decode cX6_isSampled 1 = .ok (.ifCond .eq 8, 3) := by decide +kernel
theorem dX6_isSampled_4 : decode cX6_isSampled 4 = .ok (.iload_n 0, 1) := by decide +kernel
theorem dX6_isSampled_5 : decode cX6_isSampled 5 = .ok (.iconst 2, 1) := by decide +kernel
theorem dX6_isSampled_6 : decode cX6_isSampled 6 = .ok (.if_icmp .ne 7, 3) := by decide +kernel
theorem dX6_isSampled_9 : decode cX6_isSampled 9 = .ok (.iconst 1, 1) := by decide +kernel
theorem dX6_isSampled_10 : decode cX6_isSampled 10 = .ok (.goto 4, 3) := by decide +kernel
theorem dX6_isSampled_13 : decode cX6_isSampled 13 = .ok (.iconst 0, 1) := by decide +kernel
theorem dX6_isSampled_14 : decode cX6_isSampled 14 = .ok (.ireturn, 1) := by decide +kernel
theorem dX6_listStart_0 : decode cX6_listStart 0 = .ok (.iload_n 0, 1) := by decide +kernel
theorem dX6_listStart_1 : decode cX6_listStart 1 = .ok (.iconst 2, 1) := by decide +kernel
theorem dX6_listStart_2 : decode cX6_listStart 2 = .ok (.imul, 1) := by decide +kernel
theorem dX6_listStart_3 : decode cX6_listStart 3 = .ok (.iload_n 1, 1) := by decide +kernel
theorem dX6_listStart_4 : decode cX6_listStart 4 = .ok (.iconst 2, 1) := by decide +kernel
theorem dX6_listStart_5 : decode cX6_listStart 5 = .ok (.idiv, 1) := by decide +kernel
theorem dX6_listStart_6 : decode cX6_listStart 6 = .ok (.iadd, 1) := by decide +kernel
theorem dX6_listStart_7 : decode cX6_listStart 7 = .ok (.bipush 8, 2) := by decide +kernel
theorem dX6_listStart_9 : decode cX6_listStart 9 = .ok (.imul, 1) := by decide +kernel
theorem dX6_listStart_10 : decode cX6_listStart 10 = .ok (.ireturn, 1) := by decide +kernel
theorem dX6_makeAccess_0 : decode cX6_makeAccess 0 = .ok (.aload_n 0, 1) := by decide +kernel
theorem dX6_makeAccess_1 : decode cX6_makeAccess 1 = .ok (.getfield 12, 3) := by decide +kernel
theorem dX6_makeAccess_4 : decode cX6_makeAccess 4 = .ok (.getfield 90, 3) := by decide +kernel
theorem dX6_makeAccess_7 : decode cX6_makeAccess 7 = .ok (.iload_n 1, 1) := by decide +kernel
theorem dX6_makeAccess_8 : decode cX6_makeAccess 8 = .ok (.iload_n 2, 1) := by decide +kernel
theorem dX6_makeAccess_9 : decode cX6_makeAccess 9 = .ok (.invokevirtual 209, 3) := by decide +kernel
theorem dX6_makeAccess_12 : decode cX6_makeAccess 12 = .ok (.aload_n 0, 1) := by decide +kernel
theorem dX6_makeAccess_13 : decode cX6_makeAccess 13 = .ok (.getfield 12, 3) := by decide +kernel
theorem dX6_makeAccess_16 : decode cX6_makeAccess 16 = .ok (.dup, 1) := by decide +kernel
theorem dX6_makeAccess_17 : decode cX6_makeAccess 17 = .ok (.getfield 199, 3) := by decide +kernel
theorem dX6_makeAccess_20 : decode cX6_makeAccess 20 = .ok (.iconst 1, 1) := by decide +kernel
theorem dX6_makeAccess_21 : decode cX6_makeAccess 21 = .ok (.iadd, 1) := by decide +kernel
theorem dX6_makeAccess_22 : decode cX6_makeAccess 22 = .ok (.putfield 199, 3) := by decide +kernel
theorem dX6_makeAccess_25 : decode cX6_makeAccess 25 = .ok (.aload_n 0, 1) := by decide +kernel
theorem dX6_makeAccess_26 : decode cX6_makeAccess 26 = .ok (.getfield 12, 3) := by decide +kernel
theorem dX6_makeAccess_29 : decode cX6_makeAccess 29 = .ok (.getfield 61, 3) := by decide +kernel
theorem dX6_makeAccess_32 : decode cX6_makeAccess 32 = .ok (.iload_n 1, 1) := by decide +kernel
theorem dX6_makeAccess_33 : decode cX6_makeAccess 33 = .ok (.iload_n 2, 1) := by decide +kernel
theorem dX6_makeAccess_34 : decode cX6_makeAccess 34 = .ok (.invokevirtual 156, 3) := by decide +kernel
theorem dX6_makeAccess_37 : decode cX6_makeAccess 37 = .ok (.istore_n 3, 1) := by decide +kernel
theorem dX6_makeAccess_38 : decode cX6_makeAccess 38 = .ok (.aload_n 0, 1) := by decide +kernel
theorem dX6_makeAccess_39 : decode cX6_makeAccess 39 = .ok (.getfield 12, 3) := by decide +kernel
theorem dX6_makeAccess_42 : decode cX6_makeAccess 42 = .ok (.getfield 196, 3) := by decide +kernel
theorem dX6_makeAccess_45 : decode cX6_makeAccess 45 = .ok (.iload_n 1, 1) := by decide +kernel
theorem dX6_makeAccess_46 : decode cX6_makeAccess 46 = .ok (.iconst 4, 1) := by decide +kernel
theorem dX6_makeAccess_47 : decode cX6_makeAccess 47 = .ok (.imul, 1) := by decide +kernel
theorem dX6_makeAccess_48 : decode cX6_makeAccess 48 = .ok (.iload_n 3, 1) := by decide +kernel
theorem dX6_makeAccess_49 : decode cX6_makeAccess 49 = .ok (.iadd, 1) := by decide +kernel
theorem dX6_makeAccess_50 : decode cX6_makeAccess 50 = .ok (.dup2, 1) := by decide +kernel
theorem dX6_makeAccess_51 : decode cX6_makeAccess 51 = .ok (.iaload, 1) := by decide +kernel
theorem dX6_makeAccess_52 : decode cX6_makeAccess 52 = .ok (.iconst 1, 1) := by decide +kernel
theorem dX6_makeAccess_53 : decode cX6_makeAccess 53 = .ok (.iadd, 1) := by decide +kernel
theorem dX6_makeAccess_54 : decode cX6_makeAccess 54 = .ok (.iastore, 1) := by decide +kernel
theorem dX6_makeAccess_55 : decode cX6_makeAccess 55 = .ok (.iload_n 3, 1) := by decide +kernel
theorem dX6_makeAccess_56 : decode cX6_makeAccess 56 = .ok (.iconst 1, 1) := by decide +kernel
theorem dX6_makeAccess_57 : decode cX6_makeAccess 57 = .ok (.if_icmp .ne 25, 3) := by decide +kernel
theorem dX6_makeAccess_60 : decode cX6_makeAccess 60 = .ok (.aload_n 0, 1) := by decide +kernel
theorem dX6_makeAccess_61 : decode cX6_makeAccess 61 = .ok (.getfield 12, 3) := by decide +kernel
theorem dX6_makeAccess_64 : decode cX6_makeAccess 64 = .ok (.getfield 61, 3) := by decide +kernel
theorem dX6_makeAccess_67 : decode cX6_makeAccess 67 = .ok (.iload_n 1, 1) := by decide +kernel
theorem dX6_makeAccess_68 : decode cX6_makeAccess 68 = .ok (.iload_n 2, 1) := by decide +kernel
theorem dX6_makeAccess_69 : decode cX6_makeAccess 69 = .ok (.aload_n 0, 1) := by decide +kernel
theorem dX6_makeAccess_70 : decode cX6_makeAccess 70 = .ok (.getfield 12, 3) := by decide +kernel
theorem dX6_makeAccess_73 : decode cX6_makeAccess 73 = .ok (.getfield 199, 3) := by decide +kernel
theorem dX6_makeAccess_76 : decode cX6_makeAccess 76 = .ok (.invokevirtual 212, 3) := by decide +kernel
theorem dX6_makeAccess_79 : decode cX6_makeAccess 79 = .ok (.goto 13, 3) := by decide +kernel
theorem dX6_makeAccess_82 : decode cX6_makeAccess 82 = .ok (.iload_n 3, 1) := by decide +kernel
theorem dX6_makeAccess_83 : decode cX6_makeAccess 83 = .ok (.ifCond .ne 9, 3) := by decide +kernel
theorem dX6_makeAccess_86 : decode cX6_makeAccess 86 = .ok (.aload_n 0, 1) := by decide +kernel
theorem dX6_makeAccess_87 : decode cX6_makeAccess 87 = .ok (.iload_n 1, 1) := by decide +kernel
theorem dX6_makeAccess_88 : decode cX6_makeAccess 88 = .ok (.iload_n 2, 1) := by decide +kernel
theorem dX6_makeAccess_89 : decode cX6_makeAccess 89 = .ok (.invokevirtual 215, 3) := by decide +kernel
theorem dX6_makeAccess_92 : decode cX6_makeAccess 92 = .ok (.aload_n 0, 1) := by decide +kernel
theorem dX6_makeAccess_93 : decode cX6_makeAccess 93 = .ok (.getfield 12, 3) := by decide +kernel
theorem dX6_makeAccess_96 : decode cX6_makeAccess 96 = .ok (.getfield 86, 3) := by decide +kernel
theorem dX6_makeAccess_99 : decode cX6_makeAccess 99 = .ok (.ifCond .eq 36, 3) := by decide +kernel
theorem dX6_makeAccess_102 : decode cX6_makeAccess 102 = .ok (.aload_n 0, 1) := by decide +kernel
theorem dX6_makeAccess_103 : decode cX6_makeAccess 103 = .ok (.getfield 12, 3) := by decide +kernel
theorem dX6_makeAccess_106 : decode cX6_makeAccess 106 = .ok (.getfield 199, 3) := by decide +kernel
theorem dX6_makeAccess_109 : decode cX6_makeAccess 109 = .ok (.aload_n 0, 1) := by decide +kernel
theorem dX6_makeAccess_110 : decode cX6_makeAccess 110 = .ok (.getfield 12, 3) := by decide +kernel
theorem dX6_makeAccess_113 : decode cX6_makeAccess 113 = .ok (.getfield 86, 3) := by decide +kernel
theorem dX6_makeAccess_116 : decode cX6_makeAccess 116 = .ok (.irem, 1) := by decide +kernel
theorem dX6_makeAccess_117 : decode cX6_makeAccess 117 = .ok (.ifCond .ne 18, 3) := by decide +kernel
theorem dX6_makeAccess_120 : decode cX6_makeAccess 120 = .ok (.aload_n 0, 1) := by decide +kernel
theorem dX6_makeAccess_121 : decode cX6_makeAccess 121 = .ok (.invokevirtual 71, 3) := by decide +kernel
theorem dX6_makeAccess_124 : decode cX6_makeAccess 124 = .ok (.pop, 1) := by decide +kernel
theorem dX6_makeAccess_125 : decode cX6_makeAccess 125 = .ok (.aload_n 0, 1) := by decide +kernel
theorem dX6_makeAccess_126 : decode cX6_makeAccess 126 = .ok (.getfield 12, 3) := by decide +kernel
theorem dX6_makeAccess_129 : decode cX6_makeAccess 129 = .ok (.getfield 90, 3) := by decide +kernel
theorem dX6_makeAccess_132 : decode cX6_makeAccess 132 = .ok (.invokevirtual 94, 3) := by decide +kernel
theorem dX6_makeAccess_135 : decode cX6_makeAccess 135 = .ok (.iload_n 3, 1) := by decide +kernel
theorem dX6_makeAccess_136 : decode cX6_makeAccess 136 = .ok (.ireturn, 1) := by decide +kernel
theorem dX6_bringIn_0 : decode cX6_bringIn 0 = .ok (.aload_n 0, 1) := by decide +kernel
theorem dX6_bringIn_1 : decode cX6_bringIn 1 = .ok (.getfield 12, 3) := by decide +kernel
theorem dX6_bringIn_4 : decode cX6_bringIn 4 = .ok (.getfield 61, 3) := by decide +kernel
theorem dX6_bringIn_7 : decode cX6_bringIn 7 = .ok (.iload_n 1, 1) := by decide +kernel
theorem dX6_bringIn_8 : decode cX6_bringIn 8 = .ok (.iload_n 2, 1) := by decide +kernel
theorem dX6_bringIn_9 : decode cX6_bringIn 9 = .ok (.invokevirtual 159, 3) := by decide +kernel
theorem dX6_bringIn_12 : decode cX6_bringIn 12 = .ok (.istore_n 3, 1) := by decide +kernel
theorem dX6_bringIn_13 : decode cX6_bringIn 13 = .ok (.iload_n 3, 1) := by decide +kernel
theorem dX6_bringIn_14 : decode cX6_bringIn 14 = .ok (.iconst (-1), 1) := by decide +kernel
theorem dX6_bringIn_15 : decode cX6_bringIn 15 = .ok (.if_icmp .ne 4, 3) := by decide +kernel
theorem dX6_bringIn_18 : decode cX6_bringIn 18 = .ok (.return_, 1) := by decide +kernel
theorem dX6_bringIn_19 : decode cX6_bringIn 19 = .ok (.iconst 0, 1) := by decide +kernel
theorem dX6_bringIn_20 : decode cX6_bringIn 20 = .ok (.istore 4, 2) := by decide +kernel
theorem dX6_bringIn_22 : decode cX6_bringIn 22 = .ok (.iload 4, 2) := by decide +kernel
theorem dX6_bringIn_24 : decode cX6_bringIn 24 = .ok (.iconst 4, 1) := by decide +kernel
theorem dX6_bringIn_25 : decode cX6_bringIn 25 = .ok (.if_icmp .ge 43, 3) := by decide +kernel
theorem dX6_bringIn_28 : decode cX6_bringIn 28 = .ok (.aload_n 0, 1) := by decide +kernel
theorem dX6_bringIn_29 : decode cX6_bringIn 29 = .ok (.getfield 12, 3) := by decide +kernel
theorem dX6_bringIn_32 : decode cX6_bringIn 32 = .ok (.getfield 61, 3) := by decide +kernel
theorem dX6_bringIn_35 : decode cX6_bringIn 35 = .ok (.iload 4, 2) := by decide +kernel
theorem dX6_bringIn_37 : decode cX6_bringIn 37 = .ok (.iload_n 3, 1) := by decide +kernel
theorem dX6_bringIn_38 : decode cX6_bringIn 38 = .ok (.invokevirtual 218, 3) := by decide +kernel
theorem dX6_bringIn_41 : decode cX6_bringIn 41 = .ok (.ifCond .eq 21, 3) := by decide +kernel
theorem dX6_bringIn_44 : decode cX6_bringIn 44 = .ok (.aload_n 0, 1) := by decide +kernel
theorem dX6_bringIn_45 : decode cX6_bringIn 45 = .ok (.getfield 12, 3) := by decide +kernel
theorem dX6_bringIn_48 : decode cX6_bringIn 48 = .ok (.getfield 196, 3) := by decide +kernel
theorem dX6_bringIn_51 : decode cX6_bringIn 51 = .ok (.iload 4, 2) := by decide +kernel
theorem dX6_bringIn_53 : decode cX6_bringIn 53 = .ok (.iconst 4, 1) := by decide +kernel
theorem dX6_bringIn_54 : decode cX6_bringIn 54 = .ok (.imul, 1) := by decide +kernel
theorem dX6_bringIn_55 : decode cX6_bringIn 55 = .ok (.iconst 3, 1) := by decide +kernel
theorem dX6_bringIn_56 : decode cX6_bringIn 56 = .ok (.iadd, 1) := by decide +kernel
theorem dX6_bringIn_57 : decode cX6_bringIn 57 = .ok (.dup2, 1) := by decide +kernel
theorem dX6_bringIn_58 : decode cX6_bringIn 58 = .ok (.iaload, 1) := by decide +kernel
theorem dX6_bringIn_59 : decode cX6_bringIn 59 = .ok (.iconst 1, 1) := by decide +kernel
theorem dX6_bringIn_60 : decode cX6_bringIn 60 = .ok (.iadd, 1) := by decide +kernel
theorem dX6_bringIn_61 : decode cX6_bringIn 61 = .ok (.iastore, 1) := by decide +kernel
theorem dX6_bringIn_62 : decode cX6_bringIn 62 = .ok (.iinc 4 1, 3) := by decide +kernel
theorem dX6_bringIn_65 : decode cX6_bringIn 65 = .ok (.goto (-43), 3) := by decide +kernel
theorem dX6_bringIn_68 : decode cX6_bringIn 68 = .ok (.aload_n 0, 1) := by decide +kernel
theorem dX6_bringIn_69 : decode cX6_bringIn 69 = .ok (.getfield 12, 3) := by decide +kernel
theorem dX6_bringIn_72 : decode cX6_bringIn 72 = .ok (.getfield 61, 3) := by decide +kernel
theorem dX6_bringIn_75 : decode cX6_bringIn 75 = .ok (.getfield 147, 3) := by decide +kernel
theorem dX6_bringIn_78 : decode cX6_bringIn 78 = .ok (.iload_n 3, 1) := by decide +kernel
theorem dX6_bringIn_79 : decode cX6_bringIn 79 = .ok (.iload_n 1, 1) := by decide +kernel
theorem dX6_bringIn_80 : decode cX6_bringIn 80 = .ok (.sipush 256, 3) := by decide +kernel
theorem dX6_bringIn_83 : decode cX6_bringIn 83 = .ok (.imul, 1) := by decide +kernel
theorem dX6_bringIn_84 : decode cX6_bringIn 84 = .ok (.iload_n 2, 1) := by decide +kernel
theorem dX6_bringIn_85 : decode cX6_bringIn 85 = .ok (.iadd, 1) := by decide +kernel
theorem dX6_bringIn_86 : decode cX6_bringIn 86 = .ok (.iastore, 1) := by decide +kernel
theorem dX6_bringIn_87 : decode cX6_bringIn 87 = .ok (.aload_n 0, 1) := by decide +kernel
theorem dX6_bringIn_88 : decode cX6_bringIn 88 = .ok (.getfield 12, 3) := by decide +kernel
theorem dX6_bringIn_91 : decode cX6_bringIn 91 = .ok (.getfield 61, 3) := by decide +kernel
theorem dX6_bringIn_94 : decode cX6_bringIn 94 = .ok (.getfield 222, 3) := by decide +kernel
theorem dX6_bringIn_97 : decode cX6_bringIn 97 = .ok (.iload_n 3, 1) := by decide +kernel
theorem dX6_bringIn_98 : decode cX6_bringIn 98 = .ok (.aload_n 0, 1) := by decide +kernel
theorem dX6_bringIn_99 : decode cX6_bringIn 99 = .ok (.getfield 12, 3) := by decide +kernel
theorem dX6_bringIn_102 : decode cX6_bringIn 102 = .ok (.getfield 199, 3) := by decide +kernel
theorem dX6_bringIn_105 : decode cX6_bringIn 105 = .ok (.iastore, 1) := by decide +kernel
theorem dX6_bringIn_106 : decode cX6_bringIn 106 = .ok (.return_, 1) := by decide +kernel
theorem dX6_moveOneWay_0 : decode cX6_moveOneWay 0 = .ok (.aload_n 0, 1) := by decide +kernel
theorem dX6_moveOneWay_1 : decode cX6_moveOneWay 1 = .ok (.getfield 19, 3) := by decide +kernel
theorem dX6_moveOneWay_4 : decode cX6_moveOneWay 4 = .ok (.aload_n 0, 1) := by decide +kernel
theorem dX6_moveOneWay_5 : decode cX6_moveOneWay 5 = .ok (.getfield 12, 3) := by decide +kernel
theorem dX6_moveOneWay_8 : decode cX6_moveOneWay 8 = .ok (.invokevirtual 182, 3) := by decide +kernel
theorem dX6_moveOneWay_11 : decode cX6_moveOneWay 11 = .ok (.iconst 0, 1) := by decide +kernel
theorem dX6_moveOneWay_12 : decode cX6_moveOneWay 12 = .ok (.istore_n 1, 1) := by decide +kernel
theorem dX6_moveOneWay_13 : decode cX6_moveOneWay 13 = .ok (.iconst 0, 1) := by decide +kernel
theorem dX6_moveOneWay_14 : decode cX6_moveOneWay 14 = .ok (.istore_n 2, 1) := by decide +kernel
theorem dX6_moveOneWay_15 : decode cX6_moveOneWay 15 = .ok (.iconst 1, 1) := by decide +kernel
theorem dX6_moveOneWay_16 : decode cX6_moveOneWay 16 = .ok (.istore_n 3, 1) := by decide +kernel
theorem dX6_moveOneWay_17 : decode cX6_moveOneWay 17 = .ok (.iload_n 3, 1) := by decide +kernel
theorem dX6_moveOneWay_18 : decode cX6_moveOneWay 18 = .ok (.iconst 4, 1) := by decide +kernel
theorem dX6_moveOneWay_19 : decode cX6_moveOneWay 19 = .ok (.if_icmp .ge 39, 3) := by decide +kernel
theorem dX6_moveOneWay_22 : decode cX6_moveOneWay 22 = .ok (.aload_n 0, 1) := by decide +kernel
theorem dX6_moveOneWay_23 : decode cX6_moveOneWay 23 = .ok (.iload_n 3, 1) := by decide +kernel
theorem dX6_moveOneWay_24 : decode cX6_moveOneWay 24 = .ok (.invokevirtual 188, 3) := by decide +kernel
theorem dX6_moveOneWay_27 : decode cX6_moveOneWay 27 = .ok (.aload_n 0, 1) := by decide +kernel
theorem dX6_moveOneWay_28 : decode cX6_moveOneWay 28 = .ok (.iload_n 1, 1) := by decide +kernel
theorem dX6_moveOneWay_29 : decode cX6_moveOneWay 29 = .ok (.invokevirtual 188, 3) := by decide +kernel
theorem dX6_moveOneWay_32 : decode cX6_moveOneWay 32 = .ok (.if_icmp .le 5, 3) := by decide +kernel
theorem dX6_moveOneWay_35 : decode cX6_moveOneWay 35 = .ok (.iload_n 3, 1) := by decide +kernel
theorem dX6_moveOneWay_36 : decode cX6_moveOneWay 36 = .ok (.istore_n 1, 1) := by decide +kernel
theorem dX6_moveOneWay_37 : decode cX6_moveOneWay 37 = .ok (.aload_n 0, 1) := by decide +kernel
theorem dX6_moveOneWay_38 : decode cX6_moveOneWay 38 = .ok (.iload_n 3, 1) := by decide +kernel
theorem dX6_moveOneWay_39 : decode cX6_moveOneWay 39 = .ok (.invokevirtual 188, 3) := by decide +kernel
theorem dX6_moveOneWay_42 : decode cX6_moveOneWay 42 = .ok (.aload_n 0, 1) := by decide +kernel
theorem dX6_moveOneWay_43 : decode cX6_moveOneWay 43 = .ok (.iload_n 2, 1) := by decide +kernel
theorem dX6_moveOneWay_44 : decode cX6_moveOneWay 44 = .ok (.invokevirtual 188, 3) := by decide +kernel
theorem dX6_moveOneWay_47 : decode cX6_moveOneWay 47 = .ok (.if_icmp .ge 5, 3) := by decide +kernel
theorem dX6_moveOneWay_50 : decode cX6_moveOneWay 50 = .ok (.iload_n 3, 1) := by decide +kernel
theorem dX6_moveOneWay_51 : decode cX6_moveOneWay 51 = .ok (.istore_n 2, 1) := by decide +kernel
theorem dX6_moveOneWay_52 : decode cX6_moveOneWay 52 = .ok (.iinc 3 1, 3) := by decide +kernel
theorem dX6_moveOneWay_55 : decode cX6_moveOneWay 55 = .ok (.goto (-38), 3) := by decide +kernel
theorem dX6_moveOneWay_58 : decode cX6_moveOneWay 58 = .ok (.aload_n 0, 1) := by decide +kernel
theorem dX6_moveOneWay_59 : decode cX6_moveOneWay 59 = .ok (.iload_n 1, 1) := by decide +kernel
theorem dX6_moveOneWay_60 : decode cX6_moveOneWay 60 = .ok (.invokevirtual 188, 3) := by decide +kernel
theorem dX6_moveOneWay_63 : decode cX6_moveOneWay 63 = .ok (.ifCond .ne 5, 3) := by decide +kernel
theorem dX6_moveOneWay_66 : decode cX6_moveOneWay 66 = .ok (.iconst (-1), 1) := by decide +kernel
theorem dX6_moveOneWay_67 : decode cX6_moveOneWay 67 = .ok (.ireturn, 1) := by decide +kernel
theorem dX6_moveOneWay_68 : decode cX6_moveOneWay 68 = .ok (.aload_n 0, 1) := by decide +kernel
theorem dX6_moveOneWay_69 : decode cX6_moveOneWay 69 = .ok (.getfield 12, 3) := by decide +kernel
theorem dX6_moveOneWay_72 : decode cX6_moveOneWay 72 = .ok (.getfield 61, 3) := by decide +kernel
theorem dX6_moveOneWay_75 : decode cX6_moveOneWay 75 = .ok (.iload_n 2, 1) := by decide +kernel
theorem dX6_moveOneWay_76 : decode cX6_moveOneWay 76 = .ok (.invokevirtual 225, 3) := by decide +kernel
theorem dX6_moveOneWay_79 : decode cX6_moveOneWay 79 = .ok (.istore_n 3, 1) := by decide +kernel
theorem dX6_moveOneWay_80 : decode cX6_moveOneWay 80 = .ok (.iload_n 3, 1) := by decide +kernel
theorem dX6_moveOneWay_81 : decode cX6_moveOneWay 81 = .ok (.iconst (-1), 1) := by decide +kernel
theorem dX6_moveOneWay_82 : decode cX6_moveOneWay 82 = .ok (.if_icmp .eq 16, 3) := by decide +kernel
theorem dX6_moveOneWay_85 : decode cX6_moveOneWay 85 = .ok (.aload_n 0, 1) := by decide +kernel
theorem dX6_moveOneWay_86 : decode cX6_moveOneWay 86 = .ok (.getfield 12, 3) := by decide +kernel
theorem dX6_moveOneWay_89 : decode cX6_moveOneWay 89 = .ok (.getfield 61, 3) := by decide +kernel
theorem dX6_moveOneWay_92 : decode cX6_moveOneWay 92 = .ok (.getfield 79, 3) := by decide +kernel
theorem dX6_moveOneWay_95 : decode cX6_moveOneWay 95 = .ok (.iload_n 3, 1) := by decide +kernel
theorem dX6_moveOneWay_96 : decode cX6_moveOneWay 96 = .ok (.iload_n 1, 1) := by decide +kernel
theorem dX6_moveOneWay_97 : decode cX6_moveOneWay 97 = .ok (.iastore, 1) := by decide +kernel
theorem dX6_moveOneWay_98 : decode cX6_moveOneWay 98 = .ok (.iload_n 3, 1) := by decide +kernel
theorem dX6_moveOneWay_99 : decode cX6_moveOneWay 99 = .ok (.ireturn, 1) := by decide +kernel
theorem dX6_deficitOf_0 : decode cX6_deficitOf 0 = .ok (.aload_n 0, 1) := by decide +kernel
theorem dX6_deficitOf_1 : decode cX6_deficitOf 1 = .ok (.getfield 19, 3) := by decide +kernel
theorem dX6_deficitOf_4 : decode cX6_deficitOf 4 = .ok (.getfield 185, 3) := by decide +kernel
theorem dX6_deficitOf_7 : decode cX6_deficitOf 7 = .ok (.iload_n 1, 1) := by decide +kernel
theorem dX6_deficitOf_8 : decode cX6_deficitOf 8 = .ok (.iaload, 1) := by decide +kernel
theorem dX6_deficitOf_9 : decode cX6_deficitOf 9 = .ok (.aload_n 0, 1) := by decide +kernel
theorem dX6_deficitOf_10 : decode cX6_deficitOf 10 = .ok (.getfield 12, 3) := by decide +kernel
theorem dX6_deficitOf_13 : decode cX6_deficitOf 13 = .ok (.getfield 61, 3) := by decide +kernel
theorem dX6_deficitOf_16 : decode cX6_deficitOf 16 = .ok (.iload_n 1, 1) := by decide +kernel
theorem dX6_deficitOf_17 : decode cX6_deficitOf 17 = .ok (.invokevirtual 144, 3) := by decide +kernel
theorem dX6_deficitOf_20 : decode cX6_deficitOf 20 = .ok (.isub, 1) := by decide +kernel
theorem dX6_deficitOf_21 : decode cX6_deficitOf 21 = .ok (.ireturn, 1) := by decide +kernel
end
section
set_option maxRecDepth 20000 in
theorem ggX1_init_X4_init : GoodIn wsX1_init wsX4_init := goodIn_r _ [12, 13, 2, 3, 14, 15, 16, 17, 18, 19, 20, 21, 22, 23, 24, 25, 26, 27, 28, 29, 30, 31, 32, 33, 34, 35, 36, 37, 38, 39, 49, 50, 51, 43, 44, 45, 46, 47, 48, 52, 53] (by decide +kernel) (by decide +kernel)
set_option maxRecDepth 20000 in
theorem gX1_init_X4_init : GoodIn wsX1_init (wsX4_init) := ggX1_init_X4_init
set_option maxRecDepth 20000 in
theorem ggX1_push_X4_copyFrom : GoodIn wsX1_push wsX4_copyFrom := goodIn_r _ [8, 9, 10, 11, 12, 13, 14, 15, 16, 17, 18, 19, 20, 21, 22, 23, 24, 25, 26, 27, 28, 29, 30, 31, 32, 33, 34, 35, 39, 40, 41, 42, 43, 44, 45, 46, 47, 48, 49] (by decide +kernel) (by decide +kernel)
set_option maxRecDepth 20000 in
theorem gX1_push_X4_copyFrom : GoodIn wsX1_push (wsV RX1 25 RX4 yX4_copyFrom wsX4_copyFrom) := goodIn_app (goodIn_of _ (by decide +kernel)) ggX1_push_X4_copyFrom
set_option maxRecDepth 20000 in
theorem ggX2_note_X6_isSampled : GoodIn wsX2_note wsX6_isSampled := goodIn_r _ [5] (by decide +kernel) (by decide +kernel)
set_option maxRecDepth 20000 in
theorem gX2_note_X6_isSampled_n24 : GoodIn wsX2_note (wsX6_isSampled) := ggX2_note_X6_isSampled
set_option maxRecDepth 20000 in
theorem ggX2_note_X6_listStart : GoodIn wsX2_note wsX6_listStart := goodIn_r _ [7] (by decide +kernel) (by decide +kernel)
set_option maxRecDepth 20000 in
theorem gX2_note_X6_listStart_n28 : GoodIn wsX2_note (wsX6_listStart) := ggX2_note_X6_listStart
set_option maxRecDepth 20000 in
theorem ggX3_resultOf_X3_placeOf : GoodIn wsX3_resultOf wsX3_placeOf := goodIn_r _ [5, 6, 12, 13, 14] (by decide +kernel) (by decide +kernel)
set_option maxRecDepth 20000 in
theorem gX3_resultOf_X3_placeOf : GoodIn wsX3_resultOf (wsV RX3 27 RX3 yX3_placeOf wsX3_placeOf) := goodIn_app (goodIn_of _ (by decide +kernel)) ggX3_resultOf_X3_placeOf
set_option maxRecDepth 20000 in
theorem ggX3_resultOf_X3_ownedWays : GoodIn wsX3_resultOf wsX3_ownedWays := goodIn_r _ [10, 11, 12, 13, 14] (by decide +kernel) (by decide +kernel)
set_option maxRecDepth 20000 in
theorem gX3_resultOf_X3_ownedWays : GoodIn wsX3_resultOf (wsV RX3 31 RX3 yX3_ownedWays wsX3_ownedWays) := goodIn_app (goodIn_of _ (by decide +kernel)) ggX3_resultOf_X3_ownedWays
set_option maxRecDepth 20000 in
theorem ggX3_renew_X3_placeOf : GoodIn wsX3_renew wsX3_placeOf := goodIn_r _ [6, 7, 8, 9, 10] (by decide +kernel) (by decide +kernel)
set_option maxRecDepth 20000 in
theorem gX3_renew_X3_placeOf : GoodIn wsX3_renew (wsV RX3 27 RX3 yX3_placeOf wsX3_placeOf) := goodIn_app (goodIn_of _ (by decide +kernel)) ggX3_renew_X3_placeOf
set_option maxRecDepth 20000 in
theorem ggX3_linesInWay_X3_holdsLineOf : GoodIn wsX3_linesInWay wsX3_holdsLineOf := goodIn_r _ [5, 6, 7, 8, 9] (by decide +kernel) (by decide +kernel)
set_option maxRecDepth 20000 in
theorem gX3_linesInWay_X3_holdsLineOf : GoodIn wsX3_linesInWay (wsV RX3 35 RX3 yX3_holdsLineOf wsX3_holdsLineOf) := goodIn_app (goodIn_of _ (by decide +kernel)) ggX3_linesInWay_X3_holdsLineOf
set_option maxRecDepth 20000 in
theorem ggX3_linesOf_X3_linesInWay : GoodIn wsX3_linesOf wsX3_linesInWay := goodIn_r _ [5, 6, 7, 8, 4, 9, 10, 11, 12, 13] (by decide +kernel) (by decide +kernel)
set_option maxRecDepth 20000 in
theorem gX3_linesOf_X3_linesInWay : GoodIn wsX3_linesOf (wsV RX3 39 RX3 yX3_linesInWay wsX3_linesInWay) := goodIn_app (goodIn_of _ (by decide +kernel)) ggX3_linesOf_X3_linesInWay
set_option maxRecDepth 20000 in
theorem ggX3_linesInOwnWays_X3_linesInWay : GoodIn wsX3_linesInOwnWays wsX3_linesInWay := goodIn_r _ [6, 7, 8, 9, 5, 10, 11, 12, 13, 14] (by decide +kernel) (by decide +kernel)
set_option maxRecDepth 20000 in
theorem gX3_linesInOwnWays_X3_linesInWay : GoodIn wsX3_linesInOwnWays (wsV RX3 39 RX3 yX3_linesInWay wsX3_linesInWay) := goodIn_app (goodIn_of _ (by decide +kernel)) ggX3_linesInOwnWays_X3_linesInWay
set_option maxRecDepth 20000 in
theorem ggX3_removeLinesOf_X3_holdsLineOf : GoodIn wsX3_removeLinesOf wsX3_holdsLineOf := goodIn_r _ [6, 1, 7, 8, 9] (by decide +kernel) (by decide +kernel)
set_option maxRecDepth 20000 in
theorem gX3_removeLinesOf_X3_holdsLineOf : GoodIn wsX3_removeLinesOf (wsV RX3 35 RX3 yX3_holdsLineOf wsX3_holdsLineOf) := goodIn_app (goodIn_of _ (by decide +kernel)) ggX3_removeLinesOf_X3_holdsLineOf
set_option maxRecDepth 20000 in
theorem ggX3_wayWithFewestLines_X3_linesInWay : GoodIn wsX3_wayWithFewestLines wsX3_linesInWay := goodIn_r _ [6, 7, 8, 9, 5, 10, 11, 12, 13, 14] (by decide +kernel) (by decide +kernel)
set_option maxRecDepth 20000 in
theorem gX3_wayWithFewestLines_X3_linesInWay : GoodIn wsX3_wayWithFewestLines (wsV RX3 39 RX3 yX3_linesInWay wsX3_linesInWay) := goodIn_app (goodIn_of _ (by decide +kernel)) ggX3_wayWithFewestLines_X3_linesInWay
set_option maxRecDepth 20000 in
theorem ggX4_init_X3_init : GoodIn wsX4_init wsX3_init := goodIn_r _ [19, 20, 2, 3, 12, 21, 22, 23, 30, 31, 32] (by decide +kernel) (by decide +kernel)
set_option maxRecDepth 20000 in
theorem gX4_init_X3_init : GoodIn wsX4_init (wsX3_init) := ggX4_init_X3_init
set_option maxRecDepth 20000 in
theorem ggX4_init_X2_init : GoodIn wsX4_init wsX2_init := goodIn_r _ [26, 27, 2, 3, 12, 28, 29, 39, 40] (by decide +kernel) (by decide +kernel)
set_option maxRecDepth 20000 in
theorem gX4_init_X2_init : GoodIn wsX4_init (wsX2_init) := ggX4_init_X2_init
set_option maxRecDepth 20000 in
theorem ggX4_copyFrom_X3_copyFrom : GoodIn wsX4_copyFrom wsX3_copyFrom := goodIn_r _ [15, 16, 17, 5, 6, 7, 18, 19, 34, 35, 36] (by decide +kernel) (by decide +kernel)
set_option maxRecDepth 20000 in
theorem gX4_copyFrom_X3_copyFrom : GoodIn wsX4_copyFrom (wsV RX4 39 RX3 yX3_copyFrom wsX3_copyFrom) := goodIn_app (goodIn_of _ (by decide +kernel)) ggX4_copyFrom_X3_copyFrom
set_option maxRecDepth 20000 in
theorem ggX4_copyFrom_X2_copyFrom : GoodIn wsX4_copyFrom wsX2_copyFrom := goodIn_r _ [24, 25, 26, 5, 6, 7, 27, 37, 38] (by decide +kernel) (by decide +kernel)
set_option maxRecDepth 20000 in
theorem gX4_copyFrom_X2_copyFrom : GoodIn wsX4_copyFrom (wsV RX4 43 RX2 yX2_copyFrom wsX2_copyFrom) := goodIn_app (goodIn_of _ (by decide +kernel)) ggX4_copyFrom_X2_copyFrom
set_option maxRecDepth 20000 in
theorem ggX5_compute_X5_growOne : GoodIn wsX5_compute wsX5_growOne := goodIn_r _ [8, 1, 9, 10, 11, 12, 7, 13, 14, 21, 22] (by decide +kernel) (by decide +kernel)
set_option maxRecDepth 20000 in
theorem gX5_compute_X5_growOne : GoodIn wsX5_compute (wsV RX5 24 RX5 yX5_growOne wsX5_growOne) := goodIn_app (goodIn_of _ (by decide +kernel)) ggX5_compute_X5_growOne
set_option maxRecDepth 20000 in
theorem ggX5_growOne_X5_lowest : GoodIn wsX5_growOne wsX5_lowest := goodIn_r _ [7, 1, 8] (by decide +kernel) (by decide +kernel)
set_option maxRecDepth 20000 in
theorem gX5_growOne_X5_lowest : GoodIn wsX5_growOne (wsV RX5 33 RX5 yX5_lowest wsX5_lowest) := goodIn_app (goodIn_of _ (by decide +kernel)) ggX5_growOne_X5_lowest
set_option maxRecDepth 20000 in
theorem ggX6_init_X4_init : GoodIn wsX6_init wsX4_init := goodIn_r _ [25, 26, 2, 3, 27, 28, 29, 30, 31, 32, 33, 34, 35, 36, 37, 38, 39, 40, 41, 42, 43, 44, 45, 46, 47, 48, 49, 50, 51, 52, 90, 91, 92, 72, 73, 74, 75, 76, 77, 93, 94] (by decide +kernel) (by decide +kernel)
set_option maxRecDepth 20000 in
theorem gX6_init_X4_init : GoodIn wsX6_init (wsX4_init) := ggX6_init_X4_init
set_option maxRecDepth 20000 in
theorem ggX6_init_X5_init : GoodIn wsX6_init wsX5_init := goodIn_r _ [54, 55, 2, 3, 35, 56, 84] (by decide +kernel) (by decide +kernel)
set_option maxRecDepth 20000 in
theorem gX6_init_X5_init_n18 : GoodIn wsX6_init (wsX5_init) := ggX6_init_X5_init
set_option maxRecDepth 20000 in
theorem ggX6_init_X1_init : GoodIn wsX6_init wsX1_init := goodIn_r _ [59, 60, 2, 3, 61, 62, 63, 64, 5, 6, 65, 24, 25, 26, 27, 28, 29, 30, 31, 32, 33, 34, 35, 36, 37, 38, 39, 40, 41, 42, 43, 44, 45, 46, 47, 48, 49, 50, 51, 52, 85, 86, 87, 72, 73, 74, 75, 76, 77, 90, 91, 92, 93, 94] (by decide +kernel) (by decide +kernel)
set_option maxRecDepth 20000 in
theorem gX6_init_X1_init : GoodIn wsX6_init (wsX1_init) := ggX6_init_X1_init
set_option maxRecDepth 20000 in
theorem ggX6_init_X0_init : GoodIn wsX6_init wsX0_init := goodIn_r _ [67, 68, 2, 3, 69, 70, 71, 88, 89] (by decide +kernel) (by decide +kernel)
set_option maxRecDepth 20000 in
theorem gX6_init_X0_init_n32 : GoodIn wsX6_init (wsX0_init) := ggX6_init_X0_init
set_option maxRecDepth 20000 in
theorem ggX6_access_X6_requireTenant : GoodIn wsX6_access wsX6_requireTenant := goodIn_ca (goodIn_r _ [6, 7, 8, 5, 9, 10, 11] (by decide +kernel) (by decide +kernel)) (goodIn_sub (fun _ h => List.mem_cons_of_mem _ (List.mem_append_left _ (List.mem_append_right _ h))) (by decide +kernel))
set_option maxRecDepth 20000 in
theorem gX6_access_X6_requireTenant : GoodIn wsX6_access (va_wsS RX6 45 yX6_requireTenant wsX6_requireTenant) := goodIn_app (goodIn_of _ (by decide +kernel)) ggX6_access_X6_requireTenant
set_option maxRecDepth 20000 in
theorem ggX6_access_X6_requireArgument : GoodIn wsX6_access wsX6_requireArgument := goodIn_ca (goodIn_r _ [14, 15, 16] (by decide +kernel) (by decide +kernel)) (goodIn_sub (fun _ h => List.mem_cons_of_mem _ (List.mem_append_right _ h)) (by decide +kernel))
set_option maxRecDepth 20000 in
theorem gX6_access_X6_requireArgument : GoodIn wsX6_access (va_wsS RX6 49 yX6_requireArgument wsX6_requireArgument) := goodIn_app (goodIn_of _ (by decide +kernel)) ggX6_access_X6_requireArgument
set_option maxRecDepth 20000 in
theorem ggX6_access_X1_push : GoodIn wsX6_access wsX1_push := goodIn_r _ [21, 22, 23, 24, 25, 26, 27, 28, 29, 30, 31, 32, 33, 34, 35, 36, 37, 38, 39, 40, 41, 42, 43, 44, 45, 46, 47, 48, 49, 50, 51, 52, 53, 54, 55, 56, 152, 153, 154, 155, 156, 157, 158, 159, 160, 161, 162, 163, 164, 165] (by decide +kernel) (by decide +kernel)
set_option maxRecDepth 20000 in
theorem gX6_access_X1_push : GoodIn wsX6_access (wsV RX6 53 RX1 yX1_push wsX1_push) := goodIn_app (goodIn_of _ (by decide +kernel)) ggX6_access_X1_push
set_option maxRecDepth 20000 in
theorem ggX6_access_X6_makeAccess : GoodIn wsX6_access wsX6_makeAccess := goodIn_r _ [60, 2, 61, 62, 63, 64, 65, 66, 67, 68, 52, 69, 54, 56, 70, 5, 71, 72, 73, 74, 75, 76, 43, 77, 78, 79, 80, 81, 47, 82, 83, 84, 85, 45, 86, 87, 88, 89, 48, 90, 91, 92, 93, 94, 95, 96, 97, 98, 99, 100, 101, 102, 103, 104, 105, 106, 107, 108, 109, 110, 111, 112, 113, 114, 115, 116, 117, 118, 119, 120, 121, 122, 123, 124, 125, 126, 127, 128, 129, 130, 131, 132, 133, 134, 135, 136, 137, 138, 139, 140, 141, 142, 143, 144, 145, 146, 147, 148, 149, 150, 151, 155, 156, 157, 158, 159, 160, 164, 165, 161, 162, 163, 166] (by decide +kernel) (by decide +kernel)
set_option maxRecDepth 20000 in
theorem gX6_access_X6_makeAccess : GoodIn wsX6_access (wsV RX6 57 RX6 yX6_makeAccess wsX6_makeAccess) := goodIn_app (goodIn_of _ (by decide +kernel)) ggX6_access_X6_makeAccess
set_option maxRecDepth 20000 in
theorem ggX6_stream_X6_requireTenant : GoodIn wsX6_stream wsX6_requireTenant := goodIn_ca (goodIn_r _ [6, 7, 8, 5, 9, 10, 11] (by decide +kernel) (by decide +kernel)) (goodIn_sub (fun _ h => List.mem_cons_of_mem _ (List.mem_append_left _ (List.mem_append_right _ h))) (by decide +kernel))
set_option maxRecDepth 20000 in
theorem gX6_stream_X6_requireTenant : GoodIn wsX6_stream (va_wsS RX6 45 yX6_requireTenant wsX6_requireTenant) := goodIn_app (goodIn_of _ (by decide +kernel)) ggX6_stream_X6_requireTenant
set_option maxRecDepth 20000 in
theorem ggX6_stream_X6_requireArgument : GoodIn wsX6_stream wsX6_requireArgument := goodIn_ca (goodIn_r _ [14, 15, 16] (by decide +kernel) (by decide +kernel)) (goodIn_sub (fun _ h => List.mem_cons_of_mem _ (List.mem_append_right _ h)) (by decide +kernel))
set_option maxRecDepth 20000 in
theorem gX6_stream_X6_requireArgument : GoodIn wsX6_stream (va_wsS RX6 49 yX6_requireArgument wsX6_requireArgument) := goodIn_app (goodIn_of _ (by decide +kernel)) ggX6_stream_X6_requireArgument
set_option maxRecDepth 20000 in
theorem ggX6_stream_X1_push : GoodIn wsX6_stream wsX1_push := goodIn_r _ [21, 22, 23, 24, 25, 26, 27, 28, 29, 30, 31, 32, 33, 34, 35, 36, 37, 38, 39, 40, 41, 42, 43, 44, 45, 46, 47, 48, 49, 50, 51, 52, 53, 54, 55, 56, 152, 153, 154, 155, 156, 157, 158, 159, 160, 161, 162, 163, 164, 165] (by decide +kernel) (by decide +kernel)
set_option maxRecDepth 20000 in
theorem gX6_stream_X1_push : GoodIn wsX6_stream (wsV RX6 53 RX1 yX1_push wsX1_push) := goodIn_app (goodIn_of _ (by decide +kernel)) ggX6_stream_X1_push
set_option maxRecDepth 20000 in
theorem ggX6_stream_X6_makeAccess : GoodIn wsX6_stream wsX6_makeAccess := goodIn_r _ [60, 2, 61, 62, 63, 64, 65, 66, 67, 68, 52, 69, 54, 56, 70, 5, 71, 72, 73, 74, 75, 76, 43, 77, 78, 79, 80, 81, 47, 82, 83, 84, 85, 45, 86, 87, 88, 89, 48, 90, 91, 92, 93, 94, 95, 96, 97, 98, 99, 100, 101, 102, 103, 104, 105, 106, 107, 108, 109, 110, 111, 112, 113, 114, 115, 116, 117, 118, 119, 120, 121, 122, 123, 124, 125, 126, 127, 128, 129, 130, 131, 132, 133, 134, 135, 136, 137, 138, 139, 140, 141, 142, 143, 144, 145, 146, 147, 148, 149, 150, 151, 155, 156, 157, 158, 159, 160, 164, 165, 161, 162, 163, 166] (by decide +kernel) (by decide +kernel)
set_option maxRecDepth 20000 in
theorem gX6_stream_X6_makeAccess : GoodIn wsX6_stream (wsV RX6 57 RX6 yX6_makeAccess wsX6_makeAccess) := goodIn_app (goodIn_of _ (by decide +kernel)) ggX6_stream_X6_makeAccess
set_option maxRecDepth 20000 in
theorem ggX6_flush_X6_requireTenant : GoodIn wsX6_flush wsX6_requireTenant := goodIn_ca (goodIn_r _ [7, 8, 9, 6, 10, 11, 12] (by decide +kernel) (by decide +kernel)) (goodIn_sub (fun _ h => List.mem_cons_of_mem _ (List.mem_append_right _ h)) (by decide +kernel))
set_option maxRecDepth 20000 in
theorem gX6_flush_X6_requireTenant : GoodIn wsX6_flush (va_wsS RX6 45 yX6_requireTenant wsX6_requireTenant) := goodIn_app (goodIn_of _ (by decide +kernel)) ggX6_flush_X6_requireTenant
set_option maxRecDepth 20000 in
theorem ggX6_flush_X1_push : GoodIn wsX6_flush wsX1_push := goodIn_r _ [17, 18, 19, 20, 21, 22, 23, 24, 25, 26, 27, 28, 29, 30, 31, 32, 33, 34, 35, 36, 37, 38, 39, 40, 41, 42, 43, 44, 45, 46, 47, 48, 49, 50, 51, 52, 73, 74, 75, 67, 68, 69, 70, 71, 72, 76, 77, 78, 79, 80] (by decide +kernel) (by decide +kernel)
set_option maxRecDepth 20000 in
theorem gX6_flush_X1_push : GoodIn wsX6_flush (wsV RX6 53 RX1 yX1_push wsX1_push) := goodIn_app (goodIn_of _ (by decide +kernel)) ggX6_flush_X1_push
set_option maxRecDepth 20000 in
theorem ggX6_flush_X3_removeLinesOf : GoodIn wsX6_flush wsX3_removeLinesOf := goodIn_r _ [56, 43, 57, 58, 59, 39, 60, 76, 77, 78] (by decide +kernel) (by decide +kernel)
set_option maxRecDepth 20000 in
theorem gX6_flush_X3_removeLinesOf : GoodIn wsX6_flush (wsV RX6 65 RX3 yX3_removeLinesOf wsX3_removeLinesOf) := goodIn_app (goodIn_of _ (by decide +kernel)) ggX6_flush_X3_removeLinesOf
set_option maxRecDepth 20000 in
theorem ggX6_moveWay_X1_push : GoodIn wsX6_moveWay wsX1_push := goodIn_r _ [7, 8, 9, 10, 11, 12, 13, 14, 15, 16, 17, 18, 19, 20, 21, 22, 23, 24, 25, 26, 27, 28, 29, 30, 31, 32, 33, 34, 35, 36, 37, 38, 39, 40, 41, 42, 95, 96, 97, 98, 99, 100, 101, 102, 103, 104, 105, 106, 107, 108] (by decide +kernel) (by decide +kernel)
set_option maxRecDepth 20000 in
theorem gX6_moveWay_X1_push : GoodIn wsX6_moveWay (wsV RX6 53 RX1 yX1_push wsX1_push) := goodIn_app (goodIn_of _ (by decide +kernel)) ggX6_moveWay_X1_push
set_option maxRecDepth 20000 in
theorem ggX6_moveWay_X6_moveOneWay : GoodIn wsX6_moveWay wsX6_moveOneWay := goodIn_r _ [47, 48, 2, 49, 50, 51, 52, 53, 54, 55, 56, 57, 58, 59, 60, 61, 62, 63, 64, 65, 66, 67, 68, 69, 70, 46, 71, 72, 73, 74, 75, 29, 76, 31, 77, 78, 79, 80, 81, 82, 83, 84, 85, 86, 87, 88, 33, 89, 90, 91, 92, 93, 94, 98, 99, 100, 101, 102, 103, 104, 105, 106, 109, 107, 108] (by decide +kernel) (by decide +kernel)
set_option maxRecDepth 20000 in
theorem gX6_moveWay_X6_moveOneWay : GoodIn wsX6_moveWay (wsV RX6 71 RX6 yX6_moveOneWay wsX6_moveOneWay) := goodIn_app (goodIn_of _ (by decide +kernel)) ggX6_moveWay_X6_moveOneWay
set_option maxRecDepth 20000 in
theorem ggX6_giveWay_X6_requireIndex : GoodIn wsX6_giveWay wsX6_requireIndex := goodIn_ca (goodIn_r _ [8, 9, 10] (by decide +kernel) (by decide +kernel)) (goodIn_sub (fun _ h => List.mem_cons_of_mem _ (List.mem_append_right _ h)) (by decide +kernel))
set_option maxRecDepth 20000 in
theorem gX6_giveWay_X6_requireIndex : GoodIn wsX6_giveWay (va_wsS RX6 75 yX6_requireIndex wsX6_requireIndex) := goodIn_app (goodIn_of _ (by decide +kernel)) ggX6_giveWay_X6_requireIndex
set_option maxRecDepth 20000 in
theorem ggX6_giveWay_X6_requireTenant : GoodIn wsX6_giveWay wsX6_requireTenant := goodIn_ca (goodIn_r _ [13, 5, 6, 7, 8, 9, 10] (by decide +kernel) (by decide +kernel)) (goodIn_sub (fun _ h => List.mem_cons_of_mem _ (List.mem_append_right _ h)) (by decide +kernel))
set_option maxRecDepth 20000 in
theorem gX6_giveWay_X6_requireTenant : GoodIn wsX6_giveWay (va_wsS RX6 45 yX6_requireTenant wsX6_requireTenant) := goodIn_app (goodIn_of _ (by decide +kernel)) ggX6_giveWay_X6_requireTenant
set_option maxRecDepth 20000 in
theorem ggX6_giveWay_X1_push : GoodIn wsX6_giveWay wsX1_push := goodIn_r _ [18, 19, 20, 21, 22, 23, 24, 25, 26, 27, 28, 29, 30, 31, 32, 33, 34, 35, 36, 37, 38, 39, 40, 41, 42, 43, 44, 45, 46, 47, 48, 49, 50, 51, 52, 53, 69, 70, 71, 60, 61, 62, 63, 64, 65, 66, 67, 68, 72, 73] (by decide +kernel) (by decide +kernel)
set_option maxRecDepth 20000 in
theorem gX6_giveWay_X1_push : GoodIn wsX6_giveWay (wsV RX6 53 RX1 yX1_push wsX1_push) := goodIn_app (goodIn_of _ (by decide +kernel)) ggX6_giveWay_X1_push
set_option maxRecDepth 20000 in
theorem ggX6_setLeast_X6_requireTenant : GoodIn wsX6_setLeast wsX6_requireTenant := goodIn_ca (goodIn_r _ [7, 8, 9, 6, 10, 11, 12] (by decide +kernel) (by decide +kernel)) (goodIn_sub (fun _ h => List.mem_cons_of_mem _ (List.mem_append_left _ (List.mem_append_right _ h))) (by decide +kernel))
set_option maxRecDepth 20000 in
theorem gX6_setLeast_X6_requireTenant : GoodIn wsX6_setLeast (va_wsS RX6 45 yX6_requireTenant wsX6_requireTenant) := goodIn_app (goodIn_of _ (by decide +kernel)) ggX6_setLeast_X6_requireTenant
set_option maxRecDepth 20000 in
theorem ggX6_setLeast_X6_requireArgument : GoodIn wsX6_setLeast wsX6_requireArgument := goodIn_ca (goodIn_r _ [15, 16, 17] (by decide +kernel) (by decide +kernel)) (goodIn_sub (fun _ h => List.mem_cons_of_mem _ (List.mem_append_right _ h)) (by decide +kernel))
set_option maxRecDepth 20000 in
theorem gX6_setLeast_X6_requireArgument : GoodIn wsX6_setLeast (va_wsS RX6 49 yX6_requireArgument wsX6_requireArgument) := goodIn_app (goodIn_of _ (by decide +kernel)) ggX6_setLeast_X6_requireArgument
set_option maxRecDepth 20000 in
theorem ggX6_setLeast_X1_push : GoodIn wsX6_setLeast wsX1_push := goodIn_r _ [22, 23, 24, 25, 26, 27, 28, 29, 30, 31, 32, 33, 34, 35, 36, 37, 38, 39, 40, 41, 42, 43, 44, 45, 46, 47, 48, 49, 50, 51, 52, 53, 54, 55, 56, 57, 70, 71, 72, 64, 65, 66, 67, 68, 69, 73, 74, 75, 76, 77] (by decide +kernel) (by decide +kernel)
set_option maxRecDepth 20000 in
theorem gX6_setLeast_X1_push : GoodIn wsX6_setLeast (wsV RX6 53 RX1 yX1_push wsX1_push) := goodIn_app (goodIn_of _ (by decide +kernel)) ggX6_setLeast_X1_push
set_option maxRecDepth 20000 in
theorem ggX6_halveGains_X1_push : GoodIn wsX6_halveGains wsX1_push := goodIn_r _ [8, 9, 10, 11, 12, 13, 14, 15, 16, 17, 18, 19, 20, 21, 22, 23, 24, 25, 26, 27, 28, 29, 30, 31, 32, 33, 34, 35, 36, 37, 38, 39, 40, 41, 42, 43, 64, 65, 66, 58, 59, 60, 61, 62, 63, 67, 68, 69, 70, 71] (by decide +kernel) (by decide +kernel)
set_option maxRecDepth 20000 in
theorem gX6_halveGains_X1_push : GoodIn wsX6_halveGains (wsV RX6 53 RX1 yX1_push wsX1_push) := goodIn_app (goodIn_of _ (by decide +kernel)) ggX6_halveGains_X1_push
set_option maxRecDepth 20000 in
theorem ggX6_halveGains_X2_halve : GoodIn wsX6_halveGains wsX2_halve := goodIn_r _ [47, 43, 70, 71] (by decide +kernel) (by decide +kernel)
set_option maxRecDepth 20000 in
theorem gX6_halveGains_X2_halve : GoodIn wsX6_halveGains (wsV RX6 94 RX2 yX2_halve wsX2_halve) := goodIn_app (goodIn_of _ (by decide +kernel)) ggX6_halveGains_X2_halve
set_option maxRecDepth 20000 in
theorem ggX6_halveGains_X2_sumOfGains : GoodIn wsX6_halveGains wsX2_sumOfGains := goodIn_r _ [51, 43, 70, 71] (by decide +kernel) (by decide +kernel)
set_option maxRecDepth 20000 in
theorem gX6_halveGains_X2_sumOfGains : GoodIn wsX6_halveGains (wsV RX6 99 RX2 yX2_sumOfGains wsX2_sumOfGains) := goodIn_app (goodIn_of _ (by decide +kernel)) ggX6_halveGains_X2_sumOfGains
set_option maxRecDepth 20000 in
theorem ggX6_owner_X6_requireIndex : GoodIn wsX6_owner wsX6_requireIndex := goodIn_ca (goodIn_r _ [7, 8, 9] (by decide +kernel) (by decide +kernel)) (goodIn_sub (fun _ h => List.mem_cons_of_mem _ (List.mem_append_right _ h)) (by decide +kernel))
set_option maxRecDepth 20000 in
theorem gX6_owner_X6_requireIndex : GoodIn wsX6_owner (va_wsS RX6 75 yX6_requireIndex wsX6_requireIndex) := goodIn_app (goodIn_of _ (by decide +kernel)) ggX6_owner_X6_requireIndex
set_option maxRecDepth 20000 in
theorem ggX6_waysOf_X6_requireTenant : GoodIn wsX6_waysOf wsX6_requireTenant := goodIn_ca (goodIn_r _ [6, 7, 8, 5, 9, 10, 11] (by decide +kernel) (by decide +kernel)) (goodIn_sub (fun _ h => List.mem_cons_of_mem _ (List.mem_append_right _ h)) (by decide +kernel))
set_option maxRecDepth 20000 in
theorem gX6_waysOf_X6_requireTenant : GoodIn wsX6_waysOf (va_wsS RX6 45 yX6_requireTenant wsX6_requireTenant) := goodIn_app (goodIn_of _ (by decide +kernel)) ggX6_waysOf_X6_requireTenant
set_option maxRecDepth 20000 in
theorem ggX6_waysOf_X3_ownedWays : GoodIn wsX6_waysOf wsX3_ownedWays := goodIn_r _ [16, 17, 30, 31, 32] (by decide +kernel) (by decide +kernel)
set_option maxRecDepth 20000 in
theorem gX6_waysOf_X3_ownedWays : GoodIn wsX6_waysOf (wsV RX6 144 RX3 yX3_ownedWays wsX3_ownedWays) := goodIn_app (goodIn_of _ (by decide +kernel)) ggX6_waysOf_X3_ownedWays
set_option maxRecDepth 20000 in
theorem ggX6_line_X6_requireIndex : GoodIn wsX6_line wsX6_requireIndex := goodIn_ca (goodIn_r _ [7, 8, 9] (by decide +kernel) (by decide +kernel)) (goodIn_sub (fun _ h => List.mem_cons_of_mem _ (List.mem_append_right _ h)) (by decide +kernel))
set_option maxRecDepth 20000 in
theorem gX6_line_X6_requireIndex : GoodIn wsX6_line (va_wsS RX6 75 yX6_requireIndex wsX6_requireIndex) := goodIn_app (goodIn_of _ (by decide +kernel)) ggX6_line_X6_requireIndex
set_option maxRecDepth 20000 in
theorem ggX6_lines_X6_requireTenant : GoodIn wsX6_lines wsX6_requireTenant := goodIn_ca (goodIn_r _ [6, 7, 8, 5, 9, 10, 11] (by decide +kernel) (by decide +kernel)) (goodIn_sub (fun _ h => List.mem_cons_of_mem _ (List.mem_append_right _ h)) (by decide +kernel))
set_option maxRecDepth 20000 in
theorem gX6_lines_X6_requireTenant : GoodIn wsX6_lines (va_wsS RX6 45 yX6_requireTenant wsX6_requireTenant) := goodIn_app (goodIn_of _ (by decide +kernel)) ggX6_lines_X6_requireTenant
set_option maxRecDepth 20000 in
theorem ggX6_lines_X3_linesInOwnWays : GoodIn wsX6_lines wsX3_linesInOwnWays := goodIn_r _ [16, 17, 18, 19, 20, 15, 21, 22, 23, 24, 25, 26, 43, 44, 45] (by decide +kernel) (by decide +kernel)
set_option maxRecDepth 20000 in
theorem gX6_lines_X3_linesInOwnWays : GoodIn wsX6_lines (wsV RX6 150 RX3 yX3_linesInOwnWays wsX3_linesInOwnWays) := goodIn_app (goodIn_of _ (by decide +kernel)) ggX6_lines_X3_linesInOwnWays
set_option maxRecDepth 20000 in
theorem ggX6_lines_X3_linesOf : GoodIn wsX6_lines wsX3_linesOf := goodIn_r _ [30, 18, 19, 20, 15, 21, 22, 23, 24, 25, 26, 43, 44, 45] (by decide +kernel) (by decide +kernel)
set_option maxRecDepth 20000 in
theorem gX6_lines_X3_linesOf : GoodIn wsX6_lines (wsV RX6 153 RX3 yX3_linesOf wsX3_linesOf) := goodIn_app (goodIn_of _ (by decide +kernel)) ggX6_lines_X3_linesOf
set_option maxRecDepth 20000 in
theorem ggX6_ifAccessed_X6_requireTenant : GoodIn wsX6_ifAccessed wsX6_requireTenant := goodIn_ca (goodIn_r _ [6, 7, 8, 5, 9, 10, 11] (by decide +kernel) (by decide +kernel)) (goodIn_sub (fun _ h => List.mem_cons_of_mem _ (List.mem_append_left _ (List.mem_append_right _ h))) (by decide +kernel))
set_option maxRecDepth 20000 in
theorem gX6_ifAccessed_X6_requireTenant : GoodIn wsX6_ifAccessed (va_wsS RX6 45 yX6_requireTenant wsX6_requireTenant) := goodIn_app (goodIn_of _ (by decide +kernel)) ggX6_ifAccessed_X6_requireTenant
set_option maxRecDepth 20000 in
theorem ggX6_ifAccessed_X6_requireArgument : GoodIn wsX6_ifAccessed wsX6_requireArgument := goodIn_ca (goodIn_r _ [14, 15, 16] (by decide +kernel) (by decide +kernel)) (goodIn_sub (fun _ h => List.mem_cons_of_mem _ (List.mem_append_right _ h)) (by decide +kernel))
set_option maxRecDepth 20000 in
theorem gX6_ifAccessed_X6_requireArgument : GoodIn wsX6_ifAccessed (va_wsS RX6 49 yX6_requireArgument wsX6_requireArgument) := goodIn_app (goodIn_of _ (by decide +kernel)) ggX6_ifAccessed_X6_requireArgument
set_option maxRecDepth 20000 in
theorem ggX6_ifAccessed_X3_resultOf : GoodIn wsX6_ifAccessed wsX3_resultOf := goodIn_r _ [21, 22, 23, 24, 20, 25, 26, 27, 28, 29, 30, 31, 44, 45, 46] (by decide +kernel) (by decide +kernel)
set_option maxRecDepth 20000 in
theorem gX6_ifAccessed_X3_resultOf : GoodIn wsX6_ifAccessed (wsV RX6 156 RX3 yX3_resultOf wsX3_resultOf) := goodIn_app (goodIn_of _ (by decide +kernel)) ggX6_ifAccessed_X3_resultOf
set_option maxRecDepth 20000 in
theorem ggX6_victim_X6_requireTenant : GoodIn wsX6_victim wsX6_requireTenant := goodIn_ca (goodIn_r _ [7, 8, 9, 6, 10, 11, 12] (by decide +kernel) (by decide +kernel)) (goodIn_sub (fun _ h => List.mem_cons_of_mem _ (List.mem_append_left _ (List.mem_append_right _ h))) (by decide +kernel))
set_option maxRecDepth 20000 in
theorem gX6_victim_X6_requireTenant : GoodIn wsX6_victim (va_wsS RX6 45 yX6_requireTenant wsX6_requireTenant) := goodIn_app (goodIn_of _ (by decide +kernel)) ggX6_victim_X6_requireTenant
set_option maxRecDepth 20000 in
theorem ggX6_victim_X6_requireArgument : GoodIn wsX6_victim wsX6_requireArgument := goodIn_ca (goodIn_r _ [15, 16, 17] (by decide +kernel) (by decide +kernel)) (goodIn_sub (fun _ h => List.mem_cons_of_mem _ (List.mem_append_right _ h)) (by decide +kernel))
set_option maxRecDepth 20000 in
theorem gX6_victim_X6_requireArgument : GoodIn wsX6_victim (va_wsS RX6 49 yX6_requireArgument wsX6_requireArgument) := goodIn_app (goodIn_of _ (by decide +kernel)) ggX6_victim_X6_requireArgument
set_option maxRecDepth 20000 in
theorem ggX6_victim_X3_resultOf : GoodIn wsX6_victim wsX3_resultOf := goodIn_r _ [22, 23, 24, 25, 21, 26, 27, 28, 29, 30, 31, 32, 50, 51, 52] (by decide +kernel) (by decide +kernel)
set_option maxRecDepth 20000 in
theorem gX6_victim_X3_resultOf : GoodIn wsX6_victim (wsV RX6 156 RX3 yX3_resultOf wsX3_resultOf) := goodIn_app (goodIn_of _ (by decide +kernel)) ggX6_victim_X3_resultOf
set_option maxRecDepth 20000 in
theorem ggX6_victim_X3_placeToFill : GoodIn wsX6_victim wsX3_placeToFill := goodIn_r _ [36, 32, 27, 37, 50, 51, 52] (by decide +kernel) (by decide +kernel)
set_option maxRecDepth 20000 in
theorem gX6_victim_X3_placeToFill : GoodIn wsX6_victim (wsV RX6 159 RX3 yX3_placeToFill wsX3_placeToFill) := goodIn_app (goodIn_of _ (by decide +kernel)) ggX6_victim_X3_placeToFill
set_option maxRecDepth 20000 in
theorem ggX6_gain_X6_requireTenant : GoodIn wsX6_gain wsX6_requireTenant := goodIn_ca (goodIn_r _ [7, 8, 9, 6, 10, 11, 12] (by decide +kernel) (by decide +kernel)) (goodIn_sub (fun _ h => List.mem_cons_of_mem _ (List.mem_append_right _ h)) (by decide +kernel))
set_option maxRecDepth 20000 in
theorem gX6_gain_X6_requireTenant : GoodIn wsX6_gain (va_wsS RX6 45 yX6_requireTenant wsX6_requireTenant) := goodIn_app (goodIn_of _ (by decide +kernel)) ggX6_gain_X6_requireTenant
set_option maxRecDepth 20000 in
theorem ggX6_gain_X6_requireIndex : GoodIn wsX6_gain wsX6_requireIndex := goodIn_ca (goodIn_r _ [10, 11, 12] (by decide +kernel) (by decide +kernel)) (goodIn_sub (fun _ h => List.mem_cons_of_mem _ (List.mem_append_right _ h)) (by decide +kernel))
set_option maxRecDepth 20000 in
theorem gX6_gain_X6_requireIndex : GoodIn wsX6_gain (va_wsS RX6 75 yX6_requireIndex wsX6_requireIndex) := goodIn_app (goodIn_of _ (by decide +kernel)) ggX6_gain_X6_requireIndex
set_option maxRecDepth 20000 in
theorem ggX6_utility_X6_requireTenant : GoodIn wsX6_utility wsX6_requireTenant := goodIn_ca (goodIn_r _ [6, 7, 8, 5, 9, 10, 11] (by decide +kernel) (by decide +kernel)) (goodIn_sub (fun _ h => List.mem_cons_of_mem _ (List.mem_append_left _ (List.mem_append_right _ h))) (by decide +kernel))
set_option maxRecDepth 20000 in
theorem gX6_utility_X6_requireTenant : GoodIn wsX6_utility (va_wsS RX6 45 yX6_requireTenant wsX6_requireTenant) := goodIn_app (goodIn_of _ (by decide +kernel)) ggX6_utility_X6_requireTenant
set_option maxRecDepth 20000 in
theorem ggX6_utility_X6_requireArgument : GoodIn wsX6_utility wsX6_requireArgument := goodIn_ca (goodIn_r _ [14, 15, 16] (by decide +kernel) (by decide +kernel)) (goodIn_sub (fun _ h => List.mem_cons_of_mem _ (List.mem_append_right _ h)) (by decide +kernel))
set_option maxRecDepth 20000 in
theorem gX6_utility_X6_requireArgument : GoodIn wsX6_utility (va_wsS RX6 49 yX6_requireArgument wsX6_requireArgument) := goodIn_app (goodIn_of _ (by decide +kernel)) ggX6_utility_X6_requireArgument
set_option maxRecDepth 20000 in
theorem ggX6_utility_X2_utilityOf : GoodIn wsX6_utility wsX2_utilityOf := goodIn_r _ [21, 22, 35, 36] (by decide +kernel) (by decide +kernel)
set_option maxRecDepth 20000 in
theorem gX6_utility_X2_utilityOf : GoodIn wsX6_utility (wsV RX6 165 RX2 yX2_utilityOf wsX2_utilityOf) := goodIn_app (goodIn_of _ (by decide +kernel)) ggX6_utility_X2_utilityOf
set_option maxRecDepth 20000 in
theorem ggX6_monitored_X6_requireTenant : GoodIn wsX6_monitored wsX6_requireTenant := goodIn_ca (goodIn_r _ [9, 10, 11, 8, 12, 1, 2] (by decide +kernel) (by decide +kernel)) (goodIn_sub (fun _ h => List.mem_cons_of_mem _ (List.mem_append_right _ h)) (by decide +kernel))
set_option maxRecDepth 20000 in
theorem gX6_monitored_X6_requireTenant : GoodIn wsX6_monitored (va_wsS RX6 45 yX6_requireTenant wsX6_requireTenant) := goodIn_app (goodIn_of _ (by decide +kernel)) ggX6_monitored_X6_requireTenant
set_option maxRecDepth 20000 in
theorem ggX6_monitored_X6_isSampled : GoodIn wsX6_monitored wsX6_isSampled := goodIn_r _ [15] (by decide +kernel) (by decide +kernel)
set_option maxRecDepth 20000 in
theorem gX6_monitored_X6_isSampled : GoodIn wsX6_monitored (va_wsS RX6 168 yX6_isSampled wsX6_isSampled) := goodIn_app (goodIn_of _ (by decide +kernel)) ggX6_monitored_X6_isSampled
set_option maxRecDepth 20000 in
theorem ggX6_monitored_X6_requireIndex : GoodIn wsX6_monitored wsX6_requireIndex := goodIn_ca (goodIn_r _ [12, 1, 2] (by decide +kernel) (by decide +kernel)) (goodIn_sub (fun _ h => List.mem_cons_of_mem _ (List.mem_append_right _ h)) (by decide +kernel))
set_option maxRecDepth 20000 in
theorem gX6_monitored_X6_requireIndex : GoodIn wsX6_monitored (va_wsS RX6 75 yX6_requireIndex wsX6_requireIndex) := goodIn_app (goodIn_of _ (by decide +kernel)) ggX6_monitored_X6_requireIndex
set_option maxRecDepth 20000 in
theorem ggX6_monitored_X6_listStart : GoodIn wsX6_monitored wsX6_listStart := goodIn_r _ [18] (by decide +kernel) (by decide +kernel)
set_option maxRecDepth 20000 in
theorem gX6_monitored_X6_listStart : GoodIn wsX6_monitored (va_wsS RX6 179 yX6_listStart wsX6_listStart) := goodIn_app (goodIn_of _ (by decide +kernel)) ggX6_monitored_X6_listStart
set_option maxRecDepth 20000 in
theorem ggX6_target_X6_requireTenant : GoodIn wsX6_target wsX6_requireTenant := goodIn_ca (goodIn_r _ [7, 8, 9, 6, 10, 11, 12] (by decide +kernel) (by decide +kernel)) (goodIn_sub (fun _ h => List.mem_cons_of_mem _ (List.mem_append_right _ h)) (by decide +kernel))
set_option maxRecDepth 20000 in
theorem gX6_target_X6_requireTenant : GoodIn wsX6_target (va_wsS RX6 45 yX6_requireTenant wsX6_requireTenant) := goodIn_app (goodIn_of _ (by decide +kernel)) ggX6_target_X6_requireTenant
set_option maxRecDepth 20000 in
theorem ggX6_target_X5_compute : GoodIn wsX6_target wsX5_compute := goodIn_r _ [17, 18, 19, 20, 21, 22, 23, 16, 24, 25, 26, 27, 28, 29, 36, 37, 38, 39, 40, 41, 42, 43, 44] (by decide +kernel) (by decide +kernel)
set_option maxRecDepth 20000 in
theorem gX6_target_X5_compute : GoodIn wsX6_target (wsV RX6 182 RX5 yX5_compute wsX5_compute) := goodIn_app (goodIn_of _ (by decide +kernel)) ggX6_target_X5_compute
set_option maxRecDepth 20000 in
theorem ggX6_movesLeft_X5_compute : GoodIn wsX6_movesLeft wsX5_compute := goodIn_r _ [11, 12, 13, 14, 15, 16, 17, 10, 18, 19, 20, 21, 22, 23, 43, 44, 45, 46, 47, 48, 49, 50, 51] (by decide +kernel) (by decide +kernel)
set_option maxRecDepth 20000 in
theorem gX6_movesLeft_X5_compute : GoodIn wsX6_movesLeft (wsV RX6 182 RX5 yX5_compute wsX5_compute) := goodIn_app (goodIn_of _ (by decide +kernel)) ggX6_movesLeft_X5_compute
set_option maxRecDepth 20000 in
theorem ggX6_movesLeft_X6_deficitOf : GoodIn wsX6_movesLeft wsX6_deficitOf := goodIn_r _ [28, 1, 29, 2, 30, 31, 32, 33, 34, 35, 36, 37, 38, 39, 40, 41, 42, 43, 44, 45, 46, 47, 48, 49, 52, 53, 54] (by decide +kernel) (by decide +kernel)
set_option maxRecDepth 20000 in
theorem gX6_movesLeft_X6_deficitOf : GoodIn wsX6_movesLeft (wsV RX6 188 RX6 yX6_deficitOf wsX6_deficitOf) := goodIn_app (goodIn_of _ (by decide +kernel)) ggX6_movesLeft_X6_deficitOf
set_option maxRecDepth 20000 in
theorem ggX6_count_X6_requireTenant : GoodIn wsX6_count wsX6_requireTenant := goodIn_ca (goodIn_r _ [6, 7, 8, 5, 9, 10, 11] (by decide +kernel) (by decide +kernel)) (goodIn_sub (fun _ h => List.mem_cons_of_mem _ (List.mem_append_left _ (List.mem_append_right _ h))) (by decide +kernel))
set_option maxRecDepth 20000 in
theorem gX6_count_X6_requireTenant : GoodIn wsX6_count (va_wsS RX6 45 yX6_requireTenant wsX6_requireTenant) := goodIn_app (goodIn_of _ (by decide +kernel)) ggX6_count_X6_requireTenant
set_option maxRecDepth 20000 in
theorem ggX6_count_X6_requireArgument : GoodIn wsX6_count wsX6_requireArgument := goodIn_ca (goodIn_r _ [14, 15, 16] (by decide +kernel) (by decide +kernel)) (goodIn_sub (fun _ h => List.mem_cons_of_mem _ (List.mem_append_right _ h)) (by decide +kernel))
set_option maxRecDepth 20000 in
theorem gX6_count_X6_requireArgument : GoodIn wsX6_count (va_wsS RX6 49 yX6_requireArgument wsX6_requireArgument) := goodIn_app (goodIn_of _ (by decide +kernel)) ggX6_count_X6_requireArgument
set_option maxRecDepth 20000 in
theorem ggX6_requireTenant_X6_requireIndex : GoodIn wsX6_requireTenant wsX6_requireIndex := goodIn_ca (goodIn_r _ [4, 5, 6] (by decide +kernel) (by decide +kernel)) (goodIn_sub (fun _ h => List.mem_cons_of_mem _ (List.mem_append_right _ h)) (by decide +kernel))
set_option maxRecDepth 20000 in
theorem gX6_requireTenant_X6_requireIndex : GoodIn wsX6_requireTenant (va_wsS RX6 75 yX6_requireIndex wsX6_requireIndex) := goodIn_app (goodIn_of _ (by decide +kernel)) ggX6_requireTenant_X6_requireIndex
set_option maxRecDepth 20000 in
theorem ggX6_makeAccess_X2_note : GoodIn wsX6_makeAccess wsX2_note := goodIn_r _ [11, 12, 13, 14, 15, 16, 17, 18, 107, 108] (by decide +kernel) (by decide +kernel)
set_option maxRecDepth 20000 in
theorem gX6_makeAccess_X2_note : GoodIn wsX6_makeAccess (wsV RX6 209 RX2 yX2_note wsX2_note) := goodIn_app (goodIn_of _ (by decide +kernel)) ggX6_makeAccess_X2_note
set_option maxRecDepth 20000 in
theorem ggX6_makeAccess_X3_resultOf : GoodIn wsX6_makeAccess wsX3_resultOf := goodIn_r _ [23, 24, 25, 26, 22, 27, 28, 29, 30, 31, 32, 33, 109, 110, 111] (by decide +kernel) (by decide +kernel)
set_option maxRecDepth 20000 in
theorem gX6_makeAccess_X3_resultOf : GoodIn wsX6_makeAccess (wsV RX6 156 RX3 yX3_resultOf wsX3_resultOf) := goodIn_app (goodIn_of _ (by decide +kernel)) ggX6_makeAccess_X3_resultOf
set_option maxRecDepth 20000 in
theorem ggX6_makeAccess_X3_renew : GoodIn wsX6_makeAccess wsX3_renew := goodIn_r _ [37, 38, 24, 25, 26, 22, 27, 28, 109, 110, 111] (by decide +kernel) (by decide +kernel)
set_option maxRecDepth 20000 in
theorem gX6_makeAccess_X3_renew : GoodIn wsX6_makeAccess (wsV RX6 212 RX3 yX3_renew wsX3_renew) := goodIn_app (goodIn_of _ (by decide +kernel)) ggX6_makeAccess_X3_renew
set_option maxRecDepth 20000 in
theorem ggX6_makeAccess_X6_bringIn : GoodIn wsX6_makeAccess wsX6_bringIn := goodIn_r _ [42, 1, 4, 5, 43, 44, 3, 45, 46, 47, 22, 48, 33, 28, 38, 49, 50, 51, 52, 95, 96, 97, 98, 99, 100, 101, 102, 103, 104, 105, 106, 109, 110, 111] (by decide +kernel) (by decide +kernel)
set_option maxRecDepth 20000 in
theorem gX6_makeAccess_X6_bringIn : GoodIn wsX6_makeAccess (wsV RX6 215 RX6 yX6_bringIn wsX6_bringIn) := goodIn_app (goodIn_of _ (by decide +kernel)) ggX6_makeAccess_X6_bringIn
set_option maxRecDepth 20000 in
theorem ggX6_makeAccess_X6_moveOneWay : GoodIn wsX6_makeAccess wsX6_moveOneWay := goodIn_r _ [56, 57, 1, 4, 58, 59, 60, 61, 62, 63, 64, 65, 66, 67, 68, 69, 70, 71, 72, 73, 74, 75, 76, 77, 78, 15, 79, 80, 81, 30, 31, 22, 32, 33, 82, 83, 84, 85, 86, 87, 88, 89, 90, 50, 51, 52, 28, 95, 96, 97, 98, 99, 100, 101, 102, 103, 104, 105, 106, 109, 110, 111, 112, 107, 108] (by decide +kernel) (by decide +kernel)
set_option maxRecDepth 20000 in
theorem gX6_makeAccess_X6_moveOneWay : GoodIn wsX6_makeAccess (wsV RX6 71 RX6 yX6_moveOneWay wsX6_moveOneWay) := goodIn_app (goodIn_of _ (by decide +kernel)) ggX6_makeAccess_X6_moveOneWay
set_option maxRecDepth 20000 in
theorem ggX6_makeAccess_X2_halve : GoodIn wsX6_makeAccess wsX2_halve := goodIn_r _ [94, 13, 107, 108] (by decide +kernel) (by decide +kernel)
set_option maxRecDepth 20000 in
theorem gX6_makeAccess_X2_halve : GoodIn wsX6_makeAccess (wsV RX6 94 RX2 yX2_halve wsX2_halve) := goodIn_app (goodIn_of _ (by decide +kernel)) ggX6_makeAccess_X2_halve
set_option maxRecDepth 20000 in
theorem ggX6_bringIn_X3_placeToFill : GoodIn wsX6_bringIn wsX3_placeToFill := goodIn_r _ [11, 12, 13, 14, 31, 32, 33] (by decide +kernel) (by decide +kernel)
set_option maxRecDepth 20000 in
theorem gX6_bringIn_X3_placeToFill : GoodIn wsX6_bringIn (wsV RX6 159 RX3 yX3_placeToFill wsX3_placeToFill) := goodIn_app (goodIn_of _ (by decide +kernel)) ggX6_bringIn_X3_placeToFill
set_option maxRecDepth 20000 in
theorem ggX6_bringIn_X3_holdsLineOf : GoodIn wsX6_bringIn wsX3_holdsLineOf := goodIn_r _ [18, 13, 31, 32, 33] (by decide +kernel) (by decide +kernel)
set_option maxRecDepth 20000 in
theorem gX6_bringIn_X3_holdsLineOf : GoodIn wsX6_bringIn (wsV RX6 218 RX3 yX3_holdsLineOf wsX3_holdsLineOf) := goodIn_app (goodIn_of _ (by decide +kernel)) ggX6_bringIn_X3_holdsLineOf
set_option maxRecDepth 20000 in
theorem ggX6_moveOneWay_X5_compute : GoodIn wsX6_moveOneWay wsX5_compute := goodIn_r _ [9, 10, 11, 12, 13, 14, 15, 8, 16, 17, 18, 19, 20, 21, 62, 53, 54, 55, 56, 57, 58, 63, 64] (by decide +kernel) (by decide +kernel)
set_option maxRecDepth 20000 in
theorem gX6_moveOneWay_X5_compute : GoodIn wsX6_moveOneWay (wsV RX6 182 RX5 yX5_compute wsX5_compute) := goodIn_app (goodIn_of _ (by decide +kernel)) ggX6_moveOneWay_X5_compute
set_option maxRecDepth 20000 in
theorem ggX6_moveOneWay_X6_deficitOf : GoodIn wsX6_moveOneWay wsX6_deficitOf := goodIn_r _ [26, 1, 27, 2, 3, 28, 29, 30, 31, 32, 33, 47, 48, 49, 50, 51, 52, 62, 53, 54, 55, 56, 57, 58, 59, 60, 61] (by decide +kernel) (by decide +kernel)
set_option maxRecDepth 20000 in
theorem gX6_moveOneWay_X6_deficitOf : GoodIn wsX6_moveOneWay (wsV RX6 188 RX6 yX6_deficitOf wsX6_deficitOf) := goodIn_app (goodIn_of _ (by decide +kernel)) ggX6_moveOneWay_X6_deficitOf
set_option maxRecDepth 20000 in
theorem ggX6_moveOneWay_X3_wayWithFewestLines : GoodIn wsX6_moveOneWay wsX3_wayWithFewestLines := goodIn_r _ [37, 33, 38, 39, 40, 31, 41, 42, 43, 44, 45, 46, 59, 60, 61] (by decide +kernel) (by decide +kernel)
set_option maxRecDepth 20000 in
theorem gX6_moveOneWay_X3_wayWithFewestLines : GoodIn wsX6_moveOneWay (wsV RX6 225 RX3 yX3_wayWithFewestLines wsX3_wayWithFewestLines) := goodIn_app (goodIn_of _ (by decide +kernel)) ggX6_moveOneWay_X3_wayWithFewestLines
set_option maxRecDepth 20000 in
theorem ggX6_deficitOf_X3_ownedWays : GoodIn wsX6_deficitOf wsX3_ownedWays := goodIn_r _ [9, 10, 24, 25, 26] (by decide +kernel) (by decide +kernel)
set_option maxRecDepth 20000 in
theorem gX6_deficitOf_X3_ownedWays : GoodIn wsX6_deficitOf (wsV RX6 144 RX3 yX3_ownedWays wsX3_ownedWays) := goodIn_app (goodIn_of _ (by decide +kernel)) ggX6_deficitOf_X3_ownedWays
end
section
/-! Places: contracts. -/
section MP
theorem g_with {X : gX} {cs : List gC} {P : Prop} (head : Nat) (keep : List Nat) (Inv : Nat → List Value → List gE → Nat → Nat → Prop) (hc : cutOK X cs)
    (step : ∀ μ : Nat, cutOK X ((head, keep, fun vs es k n => ∃ ν, ν < μ ∧ Inv ν vs es k n) :: cs) → ∀ vs es k n, Inv μ vs es k n → G X head (keep.zip vs) [] es k n) (kk : cutOK X ((head, keep, fun vs es k n => ∃ ν, Inv ν vs es k n) :: cs) → P) : P := kk (g_loop head keep Inv hc step)
def cnt (p : Nat → Bool) : Nat → Nat
  | 0 => 0
  | n + 1 => if p n = true then cnt p n + 1 else cnt p n
theorem cnt_t {p : Nat → Bool} {n : Nat} (h : p n = true) : cnt p (n + 1) = cnt p n + 1 := if_pos h
theorem cnt_f {p : Nat → Bool} {n : Nat} (h : ¬ p n = true) : cnt p (n + 1) = cnt p n := if_neg h
theorem cnt_le (p : Nat → Bool) : ∀ n, cnt p n ≤ n
  | 0 => Nat.le_refl _
  | n + 1 => by
    have := cnt_le p n
    unfold cnt
    split <;> omega
theorem cnt_cong {p q : Nat → Bool} : ∀ {n : Nat}, (∀ j, j < n → p j = q j) → cnt p n = cnt q n
  | 0, _ => rfl
  | n + 1, h => by
    unfold cnt
    rw [h n (by omega), cnt_cong (fun j hj => h j (by omega))]
def sumN (f : Nat → Nat) : Nat → Nat
  | 0 => 0
  | n + 1 => sumN f n + f n
theorem sumN_cong {f g : Nat → Nat} : ∀ {n : Nat}, (∀ j, j < n → f j = g j) → sumN f n = sumN g n
  | 0, _ => rfl
  | n + 1, h => by
    unfold sumN
    rw [h n (by omega), sumN_cong (fun j hj => h j (by omega))]
/-- the first below n, else n -/
def fst1 (p : Nat → Bool) : Nat → Nat
  | 0 => 0
  | n + 1 => if fst1 p n < n then fst1 p n else if p n = true then n else n + 1
theorem fst1_le (p : Nat → Bool) : ∀ n, fst1 p n ≤ n
  | 0 => Nat.le_refl _
  | n + 1 => by
    have := fst1_le p n
    unfold fst1
    split
    · omega
    · split <;> omega
theorem fst1_none {p : Nat → Bool} : ∀ {n : Nat}, (∀ j, j < n → ¬ p j = true) → fst1 p n = n
  | 0, _ => rfl
  | n + 1, h => by
    have h1 := fst1_none (p := p) (n := n) (fun j hj => h j (by omega))
    unfold fst1
    rw [h1, if_neg (by omega), if_neg (h n (by omega))]
theorem fst1_eq {p : Nat → Bool} {i : Nat} (hi : p i = true) (h : ∀ j, j < i → ¬ p j = true) : ∀ {n : Nat}, i < n → fst1 p n = i
  | 0, hn => absurd hn (by omega)
  | n + 1, hn => by
    by_cases hin : i < n
    · have h1 := fst1_eq hi h hin
      unfold fst1
      rw [h1, if_pos hin]
    · have : i = n := by omega
      subst this
      have h1 := fst1_none (p := p) (n := i) h
      unfold fst1
      rw [h1, if_neg (by omega), if_pos hi]
theorem fst1_yes {p : Nat → Bool} : ∀ {n : Nat}, fst1 p n < n → p (fst1 p n) = true
  | 0, h => absurd h (Nat.not_lt_zero _)
  | n + 1, h => by
    unfold fst1 at h ⊢
    split
    · rename_i h1
      exact fst1_yes h1
    · rename_i h1
      rw [if_neg h1] at h
      split
      · rename_i h2
        exact h2
      · rename_i h2
        rw [if_neg h2] at h
        omega
theorem fst1_no {p : Nat → Bool} : ∀ {n j : Nat}, j < fst1 p n → ¬ p j = true
  | 0, j, h => absurd h (Nat.not_lt_zero _)
  | n + 1, j, h => by
    unfold fst1 at h
    split at h
    · exact fst1_no h
    · rename_i h1
      have hn : fst1 p n = n := by have := fst1_le p n; omega
      split at h
      · exact fst1_no (p := p) (n := n) (by omega)
      · rename_i h2
        by_cases hj : j < n
        · exact fst1_no (p := p) (n := n) (by omega)
        · have : j = n := by omega
          subst this
          exact h2
theorem fst1_cong {p q : Nat → Bool} : ∀ {n : Nat}, (∀ j, j < n → p j = q j) → fst1 p n = fst1 q n
  | 0, _ => rfl
  | n + 1, h => by
    unfold fst1
    rw [h n (by omega), fst1_cong (fun j hj => h j (by omega))]
def bI : Bool → Int32
  | true => nI 1
  | false => nI 0
theorem bI_ok (b : Bool) : bI b = 0 ∨ bI b = 1 := by cases b <;> decide
theorem bI_0 {b : Bool} : bI b = 0 ↔ b = false := by cases b <;> decide
-- the cells of a Places
abbrev plA (o : Nat) (ow hd st : Nat → Int32) : List gE := [.inr (3, [.ref (o + 1), .ref (o + 2), .ref (o + 3)]), .inl (0, 8, .inl ow), .inl (0, 32, .inl hd), .inl (0, 32, .inl st)]
abbrev plE (ow hd st : Nat → Int32) : List gE := plA 0 ow hd st
def fOwn (ow : Nat → Int32) (t : Int32) : Nat := cnt (fun w => decide (ow w = t)) 8
def sX3_ownedWays : gS := fun av es K => ∃ t ow hd st, av = [.ref 0, .int t] ∧ es = plE ow hd st ∧ K (some (.int (nI (fOwn ow t)))) es
def rmX3_ownedWays : Room := { frames := 0, cells := 0, slots := 0, locals := 0 }
def pX3_ownedWays (K : gK) : List (Nat × gO) := [(0, oConst (nI 0)), (1, oF (oIStore 4 2)), (2, oConst (nI 0)), (3, oF (oIStore 4 3)), (4, oF (oILoad 3)), (5, oConst (nI 8)), (7, oICmp_ge 29), (10, oALoad 0), (11, oGet 3 0), (14, oILoad 3), (15, oIALd 0), (16, oILoad 1), (17, oICmp_ne 23), (20, oIInc 4 2 (nI 1)), (23, oF (oIInc 4 3 (nI 1))), (26, oGoto 4), (29, oF (oILoad 2)), (30, oRet K 0 0)]
set_option maxRecDepth 100000 in
theorem kX3_ownedWays {X : gX} {l : Launch} (hM : gM X l cX3_ownedWays RX3 wsX3_ownedWays rmX3_ownedWays) {K : gK} (hE : gR X K 0 0 (some .int)) (hnL : X.2.2.2.2.2.2.2.2.2.2.2.2.2.2.2.2 = 4) : okL X (pX3_ownedWays K) := by
  obtain ⟨p, l1, e, R, s, m, args, below, meth, c, D, cA, A, ag, ad0, Q, nL⟩ := X
  cases hnL
  refine ⟨ok_iconst hM dX3_ownedWays_0 rfl,
    ok_F (ok_istore_n hM 2 dX3_ownedWays_1 rfl),
    ok_iconst hM dX3_ownedWays_2 rfl,
    ok_F (ok_istore_n hM 3 dX3_ownedWays_3 rfl),
    ok_F (ok_iload_n hM 3 dX3_ownedWays_4 rfl),
    ok_bipush hM dX3_ownedWays_5 rfl,
    ok_icmp_ge hM 29 dX3_ownedWays_7 (by decide),
    ok_aload_n hM 0 dX3_ownedWays_10 rfl,
    ok_get (C := RX3) (T := TX3) (Nf := 3) hM (fun _ h => List.mem_cons_of_mem _ (List.mem_append_right _ h)) rfl 0 (by decide) (List.mem_of_getElem? (i := 1) rfl) rfl dX3_ownedWays_11,
    ok_iload_n hM 3 dX3_ownedWays_14 rfl,
    ok_iald hM dX3_ownedWays_15,
    ok_iload_n hM 1 dX3_ownedWays_16 rfl,
    ok_icmp_ne hM 23 dX3_ownedWays_17 (by decide),
    ok_iinc hM 2 dX3_ownedWays_20 rfl,
    ok_F (ok_iinc hM 3 dX3_ownedWays_23 rfl),
    ok_goto hM 4 dX3_ownedWays_26 (by decide),
    ok_F (ok_iload_n hM 2 dX3_ownedWays_29 rfl),
    ok_ret hM hE dX3_ownedWays_30,
    trivial⟩
theorem ctX3_ownedWays (l : Launch) : Ct l yX3_ownedWays wsX3_ownedWays rmX3_ownedWays 0 0 false sX3_ownedWays := by
  refine ct_of (own := RX3) (cc := cX3_ownedWays) (maxL := 4) (ret := some .int) (by decide) rfl rfl (by rintro _ _ _ ⟨t, ow, hd, st, rfl, -⟩; exact Nat.le_of_ble_eq_true rfl) ?_
  intro X av es K hM hE _ _ hnL hsp
  obtain ⟨t, ow, hd, st, rfl, rfl, hK⟩ := hsp
  have hf := kX3_ownedWays hM hE hnL
  refine g_with (X := X) 4 [0, 1, 2, 3] (fun μ vs es k n => ∃ i : Nat, μ = 8 - i ∧ i ≤ 8 ∧ vs = [.ref 0, .int t, .int (nI (cnt (fun w => decide (ow w = t)) i)), .int (nI i)] ∧ es = plE ow hd st ∧ k = 0 ∧ n = 0) cut_nil (fun μ hc vs es k n hI => ?_) (fun hc => ?_)
  · obtain ⟨i, rfl, hi, rfl, rfl, rfl, rfl⟩ := hI
    refine g_go hf hc 5 ?_
    refine ⟨fun h => ?_, fun h => ?_⟩
    · have : i = 8 := by
        rw [nI_leI (by decide) (by omega)] at h
        omega
      subst this
      exact hK
    · rw [nI_leI (by decide) (by omega)] at h
      refine ⟨i, rfl, by omega, ?_⟩
      refine ⟨fun h2 => ?_, fun h2 => ?_⟩
      · exact ⟨8 - (i + 1), by omega, i + 1, rfl, by omega, by rw [nI_add, cnt_f (by simpa using h2)], rfl, rfl, rfl⟩
      · exact ⟨8 - (i + 1), by omega, i + 1, rfl, by omega, by rw [nI_add, nI_add, cnt_t (by simpa using h2)], rfl, rfl, rfl⟩
  · refine wr_ok hf hc 5 0 _ _ _ _ _ ?_
    exact ⟨8, 0, rfl, by omega, rfl, rfl, rfl, rfl⟩
theorem rem4 {a : Nat} (h : a < 256) : nI a - nI a / nI 4 * nI 4 = nI (a % 4) := pk_rem (by omega) (by decide) (by decide)
theorem first4 {a : Nat} (h : a < 256) : (nI a - nI a / nI 4 * nI 4) * nI 8 = nI (a % 4 * 8) := by rw [rem4 h, pk_mul]
def plV (fs i : Nat) : Int32 := if i < 8 then nI (fs + i) else -1
def fF (hd : Nat → Int32) (x : Int32) (fs : Nat) : Nat := fst1 (fun w => decide (hd (fs + w) = x)) 8
def sX3_placeOf : gS := fun av es K => ∃ t x a ow hd st, av = [.ref 0, .int t, .int x] ∧ x = nI a ∧ a < 256 ∧ es = plE ow hd st ∧ K (some (.int (plV (a % 4 * 8) (fF hd (t * nI 256 + x) (a % 4 * 8))))) es
def rmX3_placeOf : Room := { frames := 0, cells := 0, slots := 0, locals := 0 }
def pX3_placeOf (K : gK) : List (Nat × gO) := [(0, oF (oILoad 2)), (1, oConst (nI 4)), (2, oRem), (3, oConst (nI 8)), (5, oMul), (6, oIStore 5 3), (7, oConst (nI 0)), (8, oF (oIStore 5 4)), (10, oF (oILoad 4)), (12, oConst (nI 8)), (14, oICmp_ge 47), (17, oALoad 0), (18, oGet 3 1), (21, oILoad 3), (22, oILoad 4), (24, oAdd), (25, oIALd 0), (26, oILoad 1), (27, oConst (nI 256)), (30, oMul), (31, oILoad 2), (32, oAdd), (33, oICmp_ne 41), (36, oILoad 3), (37, oILoad 4), (39, oAdd), (40, oRet K 0 0), (41, oIInc 5 4 (nI 1)), (44, oGoto 10), (47, oConst (-1)), (48, oF (oRet K 0 0))]
set_option maxRecDepth 100000 in
theorem kX3_placeOf {X : gX} {l : Launch} (hM : gM X l cX3_placeOf RX3 wsX3_placeOf rmX3_placeOf) {K : gK} (hE : gR X K 0 0 (some .int)) (hnL : X.2.2.2.2.2.2.2.2.2.2.2.2.2.2.2.2 = 5) : okL X (pX3_placeOf K) := by
  obtain ⟨p, l1, e, R, s, m, args, below, meth, c, D, cA, A, ag, ad0, Q, nL⟩ := X
  cases hnL
  refine ⟨ok_F (ok_iload_n hM 2 dX3_placeOf_0 rfl),
    ok_iconst hM dX3_placeOf_1 rfl,
    ok_irem hM dX3_placeOf_2,
    ok_bipush hM dX3_placeOf_3 rfl,
    ok_imul hM dX3_placeOf_5,
    ok_istore_n hM 3 dX3_placeOf_6 rfl,
    ok_iconst hM dX3_placeOf_7 rfl,
    ok_F (ok_istore hM 4 dX3_placeOf_8),
    ok_F (ok_iload hM 4 dX3_placeOf_10),
    ok_bipush hM dX3_placeOf_12 rfl,
    ok_icmp_ge hM 47 dX3_placeOf_14 (by decide),
    ok_aload_n hM 0 dX3_placeOf_17 rfl,
    ok_get (C := RX3) (T := TX3) (Nf := 3) hM (fun _ h => List.mem_cons_of_mem _ (List.mem_append_right _ h)) rfl 1 (by decide) (List.mem_of_getElem? (i := 1) rfl) rfl dX3_placeOf_18,
    ok_iload_n hM 3 dX3_placeOf_21 rfl,
    ok_iload hM 4 dX3_placeOf_22,
    ok_iadd hM dX3_placeOf_24,
    ok_iald hM dX3_placeOf_25,
    ok_iload_n hM 1 dX3_placeOf_26 rfl,
    ok_sipush hM dX3_placeOf_27 rfl,
    ok_imul hM dX3_placeOf_30,
    ok_iload_n hM 2 dX3_placeOf_31 rfl,
    ok_iadd hM dX3_placeOf_32,
    ok_icmp_ne hM 41 dX3_placeOf_33 (by decide),
    ok_iload_n hM 3 dX3_placeOf_36 rfl,
    ok_iload hM 4 dX3_placeOf_37,
    ok_iadd hM dX3_placeOf_39,
    ok_ret hM hE dX3_placeOf_40,
    ok_iinc hM 4 dX3_placeOf_41 rfl,
    ok_goto hM 10 dX3_placeOf_44 (by decide),
    ok_iconst hM dX3_placeOf_47 rfl,
    ok_F (ok_ret hM hE dX3_placeOf_48),
    trivial⟩
theorem ctX3_placeOf (l : Launch) : Ct l yX3_placeOf wsX3_placeOf rmX3_placeOf 0 0 false sX3_placeOf := by
  refine ct_of (own := RX3) (cc := cX3_placeOf) (maxL := 5) (ret := some .int) (by decide) rfl rfl (by rintro _ _ _ ⟨t, x, a, ow, hd, st, rfl, -⟩; exact Nat.le_of_ble_eq_true rfl) ?_
  intro X av es K hM hE _ _ hnL hsp
  obtain ⟨t, x, a, ow, hd, st, rfl, rfl, ha, rfl, hK⟩ := hsp
  have hf := kX3_placeOf hM hE hnL
  refine g_with (X := X) 10 [0, 1, 2, 3, 4] (fun μ vs es k n => ∃ i : Nat, μ = 8 - i ∧ i ≤ 8 ∧ (∀ j, j < i → ¬ hd (a % 4 * 8 + j) = t * nI 256 + nI a) ∧ vs = [.ref 0, .int t, .int (nI a), .int (nI (a % 4 * 8)), .int (nI i)] ∧ es = plE ow hd st ∧ k = 0 ∧ n = 0) cut_nil (fun μ hc vs es k n hI => ?_) (fun hc => ?_)
  · obtain ⟨i, rfl, hi, hno, rfl, rfl, rfl, rfl⟩ := hI
    refine g_go hf hc 5 ?_
    refine ⟨fun h => ?_, fun h => ?_⟩
    · have : i = 8 := by
        rw [nI_leI (by decide) (by omega)] at h
        omega
      subst this
      have e : fF hd (t * nI 256 + nI a) (a % 4 * 8) = 8 := fst1_none (fun j hj => by simpa using hno j hj)
      rw [e] at hK
      exact hK
    · rw [nI_leI (by decide) (by omega)] at h
      refine ⟨a % 4 * 8 + i, nI_add _ _, by omega, ?_⟩
      refine ⟨fun h2 => ?_, fun h2 => ?_⟩
      · refine ⟨8 - (i + 1), by omega, i + 1, rfl, by omega, fun j hj => ?_, by rw [nI_add], rfl, rfl, rfl⟩
        by_cases hj2 : j = i
        · rw [hj2]; exact h2
        · exact hno j (by omega)
      · have e : fF hd (t * nI 256 + nI a) (a % 4 * 8) = i := fst1_eq (by simpa using h2) (fun j hj => by simpa using hno j hj) (by omega)
        rw [e, plV, if_pos (by omega), ← nI_add] at hK
        exact hK
  · refine wr_ok hf hc 5 0 _ _ _ _ _ ?_
    refine ⟨by decide, ?_⟩
    exact ⟨8, 0, rfl, by omega, fun j hj => absurd hj (by omega), by rw [first4 ha], rfl, rfl, rfl⟩
theorem plV_ne {fs i : Nat} (h : fs + i < 2 ^ 31) : plV fs i = -1 ↔ ¬ i < 8 := by
  unfold plV
  split
  · rename_i h1
    refine ⟨fun h2 => ?_, fun h2 => absurd h1 h2⟩
    have : ¬ nI (fs + i) < 0 := nI_pos h
    rw [h2] at this
    exact absurd (by decide) this
  · rename_i h1
    exact ⟨fun _ => h1, fun _ => rfl⟩
theorem fF_le (hd : Nat → Int32) (x : Int32) (fs : Nat) : fF hd x fs ≤ 8 := fst1_le _ _
def rsl (ow hd : Nat → Int32) (t : Int32) (a : Nat) : Nat := if fF hd (t * nI 256 + nI a) (a % 4 * 8) < 8 then 1 else if fOwn ow t = 0 then 2 else 0
def sX3_resultOf : gS := fun av es K => ∃ t x a ow hd st, av = [.ref 0, .int t, .int x] ∧ x = nI a ∧ a < 256 ∧ es = plE ow hd st ∧ K (some (.int (nI (rsl ow hd t a)))) es
def rmX3_resultOf : Room := { frames := 1, cells := 0, slots := 0, locals := 24 }
def pX3_resultOf (K : gK) : List (Nat × gO) := [(0, oF (oALoad 0)), (1, oILoad 1), (2, oILoad 2), (3, oCallV 0 0 3 2 [0,1,2,3] sX3_placeOf), (6, oConst (-1)), (7, oF (oICmp_eq 12)), (10, oConst (nI 1)), (11, oRet K 0 0), (12, oALoad 0), (13, oILoad 1), (14, oCallV 0 0 3 1 [0,1,2,3] sX3_ownedWays), (17, oF (oIf_ne 24)), (20, oConst (nI 2)), (21, oGoto 25), (24, oConst (nI 0)), (25, oRet K 0 0)]
set_option maxRecDepth 100000 in
theorem kX3_resultOf {X : gX} {l : Launch} (hM : gM X l cX3_resultOf RX3 wsX3_resultOf rmX3_resultOf) {K : gK} (hE : gR X K 0 0 (some .int)) (hnL : X.2.2.2.2.2.2.2.2.2.2.2.2.2.2.2.2 = 3) : okL X (pX3_resultOf K) := by
  obtain ⟨p, l1, e, R, s, m, args, below, meth, c, D, cA, A, ag, ad0, Q, nL⟩ := X
  cases hnL
  refine ⟨ok_F (ok_aload_n hM 0 dX3_resultOf_0 rfl),
    ok_iload_n hM 1 dX3_resultOf_1 rfl,
    ok_iload_n hM 2 dX3_resultOf_2 rfl,
    ok_callV hM [0,1,2,3] (ctX3_placeOf l) rfl rfl gX3_resultOf_X3_placeOf rfl rfl rfl (by decide +kernel) (by decide) dX3_resultOf_3,
    ok_iconst hM dX3_resultOf_6 rfl,
    ok_F (ok_icmp_eq hM 12 dX3_resultOf_7 (by decide)),
    ok_iconst hM dX3_resultOf_10 rfl,
    ok_ret hM hE dX3_resultOf_11,
    ok_aload_n hM 0 dX3_resultOf_12 rfl,
    ok_iload_n hM 1 dX3_resultOf_13 rfl,
    ok_callV hM [0,1,2,3] (ctX3_ownedWays l) rfl rfl gX3_resultOf_X3_ownedWays rfl rfl rfl (by decide +kernel) (by decide) dX3_resultOf_14,
    ok_F (ok_if_ne hM 24 dX3_resultOf_17 (by decide)),
    ok_iconst hM dX3_resultOf_20 rfl,
    ok_goto hM 25 dX3_resultOf_21 (by decide),
    ok_iconst hM dX3_resultOf_24 rfl,
    ok_ret hM hE dX3_resultOf_25,
    trivial⟩
theorem ctX3_resultOf (l : Launch) : Ct l yX3_resultOf wsX3_resultOf rmX3_resultOf 0 0 false sX3_resultOf := by
  refine ct_of (own := RX3) (cc := cX3_resultOf) (maxL := 3) (ret := some .int) (by decide) rfl rfl (by rintro _ _ _ ⟨t, x, a, ow, hd, st, rfl, -⟩; exact Nat.le_of_ble_eq_true rfl) ?_
  intro X av es K hM hE _ _ hnL hsp
  obtain ⟨t, x, a, ow, hd, st, rfl, rfl, ha, rfl, hK⟩ := hsp
  have hf := kX3_resultOf hM hE hnL
  refine wr_ok hf cut_nil 5 0 _ _ _ _ _ ?_
  have hle := fF_le hd (t * nI 256 + nI a) (a % 4 * 8)
  refine ⟨t, _, a, ow, hd, st, rfl, rfl, ha, rfl, ?_⟩
  refine ⟨fun h => ?_, fun h => ?_⟩
  · rw [plV_ne (by omega)] at h
    refine ⟨t, ow, hd, st, rfl, rfl, ?_⟩
    unfold rsl at hK
    rw [if_neg h] at hK
    have ho : fOwn ow t ≤ 8 := cnt_le _ _
    refine ⟨fun h2 => ?_, fun h2 => ?_⟩
    · have : ¬ fOwn ow t = 0 := fun q => h2 (by rw [q]; rfl)
      rw [if_neg this] at hK
      exact hK
    · have : fOwn ow t = 0 := (nI_eq (by omega) (by decide)).mp h2
      rw [if_pos this] at hK
      exact hK
  · have h1 : fF hd (t * nI 256 + nI a) (a % 4 * 8) < 8 := Decidable.of_not_not (fun q => h ((plV_ne (by omega)).mpr q))
    unfold rsl at hK
    rw [if_pos h1] at hK
    exact hK
def sX3_renew : gS := fun av es K => ∃ t x a z ow hd st, av = [.ref 0, .int t, .int x, .int z] ∧ x = nI a ∧ a < 256 ∧ es = plE ow hd st ∧ K none (plE ow hd (if fF hd (t * nI 256 + nI a) (a % 4 * 8) < 8 then upd st (a % 4 * 8 + fF hd (t * nI 256 + nI a) (a % 4 * 8)) z else st))
def rmX3_renew : Room := { frames := 1, cells := 0, slots := 0, locals := 24 }
def pX3_renew (K : gK) : List (Nat × gO) := [(0, oF (oALoad 0)), (1, oILoad 1), (2, oILoad 2), (3, oCallV 0 0 3 2 [0,1,2,3] sX3_placeOf), (6, oF (oIStore 5 4)), (8, oF (oILoad 4)), (10, oConst (-1)), (11, oICmp_eq 22), (14, oALoad 0), (15, oGet 3 2), (18, oILoad 4), (20, oILoad 3), (21, oIASt), (22, oF (oRetV K 0 0))]
set_option maxRecDepth 100000 in
theorem kX3_renew {X : gX} {l : Launch} (hM : gM X l cX3_renew RX3 wsX3_renew rmX3_renew) {K : gK} (hE : gR X K 0 0 none) (hnL : X.2.2.2.2.2.2.2.2.2.2.2.2.2.2.2.2 = 5) : okL X (pX3_renew K) := by
  obtain ⟨p, l1, e, R, s, m, args, below, meth, c, D, cA, A, ag, ad0, Q, nL⟩ := X
  cases hnL
  refine ⟨ok_F (ok_aload_n hM 0 dX3_renew_0 rfl),
    ok_iload_n hM 1 dX3_renew_1 rfl,
    ok_iload_n hM 2 dX3_renew_2 rfl,
    ok_callV hM [0,1,2,3] (ctX3_placeOf l) rfl rfl gX3_renew_X3_placeOf rfl rfl rfl (by decide +kernel) (by decide) dX3_renew_3,
    ok_F (ok_istore hM 4 dX3_renew_6),
    ok_F (ok_iload hM 4 dX3_renew_8),
    ok_iconst hM dX3_renew_10 rfl,
    ok_icmp_eq hM 22 dX3_renew_11 (by decide),
    ok_aload_n hM 0 dX3_renew_14 rfl,
    ok_get (C := RX3) (T := TX3) (Nf := 3) hM (fun _ h => List.mem_cons_of_mem _ (List.mem_append_right _ h)) rfl 2 (by decide) (List.mem_of_getElem? (i := 1) rfl) rfl dX3_renew_15,
    ok_iload hM 4 dX3_renew_18,
    ok_iload_n hM 3 dX3_renew_20 rfl,
    ok_iast hM dX3_renew_21,
    ok_F (ok_retV hM hE dX3_renew_22),
    trivial⟩
set_option maxRecDepth 100000 in
theorem ctX3_renew (l : Launch) : Ct l yX3_renew wsX3_renew rmX3_renew 0 0 false sX3_renew := by
  refine ct_of (own := RX3) (cc := cX3_renew) (maxL := 5) (ret := none) (by decide) rfl rfl (by rintro _ _ _ ⟨t, x, a, z, ow, hd, st, rfl, rfl, ha, rfl, hK⟩; exact Nat.le_of_ble_eq_true rfl) ?_
  intro X av es K hM hE hag hin hnL hsp
  obtain ⟨t, x, a, z, ow, hd, st, rfl, rfl, ha, rfl, hK⟩ := hsp
  have hf := kX3_renew hM hE hnL
  refine wr_ok hf cut_nil 5 0 _ _ _ _ _ ?_
  have hle := fF_le hd (t * nI 256 + nI a) (a % 4 * 8)
  refine ⟨t, _, a, ow, hd, st, rfl, rfl, ha, rfl, ?_⟩
  refine ⟨fun h => ?_, fun h => ?_⟩
  · rw [plV_ne (by omega)] at h
    rw [if_neg h] at hK
    exact hK
  · have h1 : fF hd (t * nI 256 + nI a) (a % 4 * 8) < 8 := Decidable.of_not_not (fun q => h ((plV_ne (by omega)).mpr q))
    rw [if_pos h1] at hK
    refine ⟨a % 4 * 8 + fF hd (t * nI 256 + nI a) (a % 4 * 8), if_pos h1, by omega, ?_⟩
    exact hK
def hol (hd : Nat → Int32) (t : Int32) (q : Nat) : Bool := decide (¬ hd q = -1) && decide (hd q / nI 256 = t)
def sX3_holdsLineOf : gS := fun av es K => ∃ t x q ow hd st, av = [.ref 0, .int t, .int x] ∧ x = nI q ∧ q < 32 ∧ es = plE ow hd st ∧ K (some (.int (bI (hol hd t q)))) es
def rmX3_holdsLineOf : Room := { frames := 0, cells := 0, slots := 0, locals := 0 }
def pX3_holdsLineOf (K : gK) : List (Nat × gO) := [(0, oF (oALoad 0)), (1, oGet 3 1), (4, oILoad 2), (5, oIALd 0), (6, oConst (-1)), (7, oICmp_eq 28), (10, oALoad 0), (11, oGet 3 1), (14, oILoad 2), (15, oIALd 0), (16, oConst (nI 256)), (19, oDiv), (20, oILoad 1), (21, oICmp_ne 28), (24, oConst (nI 1)), (25, oGoto 29), (28, oConst (nI 0)), (29, oRetZ K 0 0)]
set_option maxRecDepth 100000 in
theorem kX3_holdsLineOf {X : gX} {l : Launch} (hM : gM X l cX3_holdsLineOf RX3 wsX3_holdsLineOf rmX3_holdsLineOf) {K : gK} (hE : gR X K 0 0 (some .boolean)) (hnL : X.2.2.2.2.2.2.2.2.2.2.2.2.2.2.2.2 = 3) : okL X (pX3_holdsLineOf K) := by
  obtain ⟨p, l1, e, R, s, m, args, below, meth, c, D, cA, A, ag, ad0, Q, nL⟩ := X
  cases hnL
  refine ⟨ok_F (ok_aload_n hM 0 dX3_holdsLineOf_0 rfl),
    ok_get (C := RX3) (T := TX3) (Nf := 3) hM (fun _ h => List.mem_cons_of_mem _ (List.mem_append_right _ h)) rfl 1 (by decide) (List.mem_of_getElem? (i := 1) rfl) rfl dX3_holdsLineOf_1,
    ok_iload_n hM 2 dX3_holdsLineOf_4 rfl,
    ok_iald hM dX3_holdsLineOf_5,
    ok_iconst hM dX3_holdsLineOf_6 rfl,
    ok_icmp_eq hM 28 dX3_holdsLineOf_7 (by decide),
    ok_aload_n hM 0 dX3_holdsLineOf_10 rfl,
    ok_get (C := RX3) (T := TX3) (Nf := 3) hM (fun _ h => List.mem_cons_of_mem _ (List.mem_append_right _ h)) rfl 1 (by decide) (List.mem_of_getElem? (i := 1) rfl) rfl dX3_holdsLineOf_11,
    ok_iload_n hM 2 dX3_holdsLineOf_14 rfl,
    ok_iald hM dX3_holdsLineOf_15,
    ok_sipush hM dX3_holdsLineOf_16 rfl,
    ok_idiv hM dX3_holdsLineOf_19,
    ok_iload_n hM 1 dX3_holdsLineOf_20 rfl,
    ok_icmp_ne hM 28 dX3_holdsLineOf_21 (by decide),
    ok_iconst hM dX3_holdsLineOf_24 rfl,
    ok_goto hM 29 dX3_holdsLineOf_25 (by decide),
    ok_iconst hM dX3_holdsLineOf_28 rfl,
    ok_retZ hM hE dX3_holdsLineOf_29,
    trivial⟩
set_option maxRecDepth 100000 in
theorem ctX3_holdsLineOf (l : Launch) : Ct l yX3_holdsLineOf wsX3_holdsLineOf rmX3_holdsLineOf 0 0 false sX3_holdsLineOf := by
  refine ct_of (own := RX3) (cc := cX3_holdsLineOf) (maxL := 3) (ret := (some .boolean)) (by decide) rfl rfl (by rintro _ _ _ ⟨t, x, q, ow, hd, st, rfl, rfl, hq, rfl, hK⟩; exact Nat.le_of_ble_eq_true rfl) ?_
  intro X av es K hM hE hag hin hnL hsp
  obtain ⟨t, x, q, ow, hd, st, rfl, rfl, hq, rfl, hK⟩ := hsp
  have hf := kX3_holdsLineOf hM hE hnL
  refine wr_ok hf cut_nil 5 0 _ _ _ _ _ ?_
  refine ⟨q, rfl, hq, ?_⟩
  refine ⟨fun h => ?_, fun h => ?_⟩
  · have e : hol hd t q = false := by simp [hol, h]
    rw [e] at hK
    exact ⟨by decide, hK⟩
  · refine ⟨q, rfl, hq, ?_⟩
    refine ⟨by decide, ?_⟩
    refine ⟨fun h2 => ?_, fun h2 => ?_⟩
    · have e : hol hd t q = false := by simp [hol, h2]
      rw [e] at hK
      exact ⟨by decide, hK⟩
    · have e : hol hd t q = true := by simp [hol, h, h2]
      rw [e] at hK
      exact ⟨by decide, hK⟩
def lnW (hd : Nat → Int32) (t : Int32) (w : Nat) : Nat := cnt (fun s => hol hd t (s * 8 + w)) 4
def sX3_linesInWay : gS := fun av es K => ∃ t x w ow hd st, av = [.ref 0, .int t, .int x] ∧ x = nI w ∧ w < 8 ∧ es = plE ow hd st ∧ K (some (.int (nI (lnW hd t w)))) es
def rmX3_linesInWay : Room := { frames := 1, cells := 0, slots := 0, locals := 22 }
def pX3_linesInWay (K : gK) : List (Nat × gO) := [(0, oConst (nI 0)), (1, oF (oIStore 5 3)), (2, oConst (nI 0)), (3, oF (oIStore 5 4)), (5, oF (oILoad 4)), (7, oConst (nI 4)), (8, oICmp_ge 35), (11, oALoad 0), (12, oILoad 1), (13, oILoad 4), (15, oConst (nI 8)), (17, oMul), (18, oILoad 2), (19, oAdd), (20, oCallV 0 0 3 2 [0,1,2,3] sX3_holdsLineOf), (23, oF (oIf_eq 29)), (26, oIInc 5 3 (nI 1)), (29, oF (oIInc 5 4 (nI 1))), (32, oGoto 5), (35, oF (oILoad 3)), (36, oRet K 0 0)]
set_option maxRecDepth 100000 in
theorem kX3_linesInWay {X : gX} {l : Launch} (hM : gM X l cX3_linesInWay RX3 wsX3_linesInWay rmX3_linesInWay) {K : gK} (hE : gR X K 0 0 (some .int)) (hnL : X.2.2.2.2.2.2.2.2.2.2.2.2.2.2.2.2 = 5) : okL X (pX3_linesInWay K) := by
  obtain ⟨p, l1, e, R, s, m, args, below, meth, c, D, cA, A, ag, ad0, Q, nL⟩ := X
  cases hnL
  refine ⟨ok_iconst hM dX3_linesInWay_0 rfl,
    ok_F (ok_istore_n hM 3 dX3_linesInWay_1 rfl),
    ok_iconst hM dX3_linesInWay_2 rfl,
    ok_F (ok_istore hM 4 dX3_linesInWay_3),
    ok_F (ok_iload hM 4 dX3_linesInWay_5),
    ok_iconst hM dX3_linesInWay_7 rfl,
    ok_icmp_ge hM 35 dX3_linesInWay_8 (by decide),
    ok_aload_n hM 0 dX3_linesInWay_11 rfl,
    ok_iload_n hM 1 dX3_linesInWay_12 rfl,
    ok_iload hM 4 dX3_linesInWay_13,
    ok_bipush hM dX3_linesInWay_15 rfl,
    ok_imul hM dX3_linesInWay_17,
    ok_iload_n hM 2 dX3_linesInWay_18 rfl,
    ok_iadd hM dX3_linesInWay_19,
    ok_callV hM [0,1,2,3] (ctX3_holdsLineOf l) rfl rfl gX3_linesInWay_X3_holdsLineOf rfl rfl rfl (by decide +kernel) (by decide) dX3_linesInWay_20,
    ok_F (ok_if_eq hM 29 dX3_linesInWay_23 (by decide)),
    ok_iinc hM 3 dX3_linesInWay_26 rfl,
    ok_F (ok_iinc hM 4 dX3_linesInWay_29 rfl),
    ok_goto hM 5 dX3_linesInWay_32 (by decide),
    ok_F (ok_iload_n hM 3 dX3_linesInWay_35 rfl),
    ok_ret hM hE dX3_linesInWay_36,
    trivial⟩
set_option maxRecDepth 100000 in
theorem ctX3_linesInWay (l : Launch) : Ct l yX3_linesInWay wsX3_linesInWay rmX3_linesInWay 0 0 false sX3_linesInWay := by
  refine ct_of (own := RX3) (cc := cX3_linesInWay) (maxL := 5) (ret := (some .int)) (by decide) rfl rfl (by rintro _ _ _ ⟨t, x, w, ow, hd, st, rfl, rfl, hw, rfl, hK⟩; exact Nat.le_of_ble_eq_true rfl) ?_
  intro X av es K hM hE hag hin hnL hsp
  obtain ⟨t, x, w, ow, hd, st, rfl, rfl, hw, rfl, hK⟩ := hsp
  have hf := kX3_linesInWay hM hE hnL
  refine g_with (X := X) 5 [0, 1, 2, 3, 4] (fun μ vs es k n => ∃ i : Nat, μ = 4 - i ∧ i ≤ 4 ∧ vs = [.ref 0, .int t, .int (nI w), .int (nI (cnt (fun s => hol hd t (s * 8 + w)) i)), .int (nI i)] ∧ es = plE ow hd st ∧ k = 0 ∧ n = 0) cut_nil (fun μ hc vs es k n hI => ?_) (fun hc => ?_)
  · obtain ⟨i, rfl, hi, rfl, rfl, rfl, rfl⟩ := hI
    refine g_go hf hc 5 ?_
    refine ⟨fun h => ?_, fun h => ?_⟩
    · have : i = 4 := by
        rw [nI_leI (by decide) (by omega)] at h
        omega
      subst this
      exact hK
    · rw [nI_leI (by decide) (by omega)] at h
      refine ⟨t, _, i * 8 + w, ow, hd, st, rfl, by rw [pk_mul, nI_add], by omega, rfl, ?_⟩
      refine ⟨fun h2 => ?_, fun h2 => ?_⟩
      · exact ⟨4 - (i + 1), by omega, i + 1, rfl, by omega, by rw [nI_add, cnt_f (by rw [bI_0] at h2; simpa using h2)], rfl, rfl, rfl⟩
      · exact ⟨4 - (i + 1), by omega, i + 1, rfl, by omega, by rw [nI_add, nI_add, cnt_t (by rw [bI_0] at h2; simpa using h2)], rfl, rfl, rfl⟩
  · refine wr_ok hf hc 5 0 _ _ _ _ _ ?_
    exact ⟨4, 0, rfl, by omega, rfl, rfl, rfl, rfl⟩
theorem lnW_le (hd : Nat → Int32) (t : Int32) (w : Nat) : lnW hd t w ≤ 4 := cnt_le _ _
def sX3_linesOf : gS := fun av es K => ∃ t ow hd st, av = [.ref 0, .int t] ∧ es = plE ow hd st ∧ K (some (.int (nI (sumN (lnW hd t) 8)))) es
def rmX3_linesOf : Room := { frames := 2, cells := 0, slots := 0, locals := 46 }
def pX3_linesOf (K : gK) : List (Nat × gO) := [(0, oConst (nI 0)), (1, oF (oIStore 4 2)), (2, oConst (nI 0)), (3, oF (oIStore 4 3)), (4, oF (oILoad 3)), (5, oConst (nI 8)), (7, oICmp_ge 25), (10, oILoad 2), (11, oALoad 0), (12, oILoad 1), (13, oILoad 3), (14, oCallV 0 0 3 2 [0,1,2,3] sX3_linesInWay), (17, oAdd), (18, oF (oIStore 4 2)), (19, oF (oIInc 4 3 (nI 1))), (22, oGoto 4), (25, oF (oILoad 2)), (26, oRet K 0 0)]
set_option maxRecDepth 100000 in
theorem kX3_linesOf {X : gX} {l : Launch} (hM : gM X l cX3_linesOf RX3 wsX3_linesOf rmX3_linesOf) {K : gK} (hE : gR X K 0 0 (some .int)) (hnL : X.2.2.2.2.2.2.2.2.2.2.2.2.2.2.2.2 = 4) : okL X (pX3_linesOf K) := by
  obtain ⟨p, l1, e, R, s, m, args, below, meth, c, D, cA, A, ag, ad0, Q, nL⟩ := X
  cases hnL
  refine ⟨ok_iconst hM dX3_linesOf_0 rfl,
    ok_F (ok_istore_n hM 2 dX3_linesOf_1 rfl),
    ok_iconst hM dX3_linesOf_2 rfl,
    ok_F (ok_istore_n hM 3 dX3_linesOf_3 rfl),
    ok_F (ok_iload_n hM 3 dX3_linesOf_4 rfl),
    ok_bipush hM dX3_linesOf_5 rfl,
    ok_icmp_ge hM 25 dX3_linesOf_7 (by decide),
    ok_iload_n hM 2 dX3_linesOf_10 rfl,
    ok_aload_n hM 0 dX3_linesOf_11 rfl,
    ok_iload_n hM 1 dX3_linesOf_12 rfl,
    ok_iload_n hM 3 dX3_linesOf_13 rfl,
    ok_callV hM [0,1,2,3] (ctX3_linesInWay l) rfl rfl gX3_linesOf_X3_linesInWay rfl rfl rfl (by decide +kernel) (by decide) dX3_linesOf_14,
    ok_iadd hM dX3_linesOf_17,
    ok_F (ok_istore_n hM 2 dX3_linesOf_18 rfl),
    ok_F (ok_iinc hM 3 dX3_linesOf_19 rfl),
    ok_goto hM 4 dX3_linesOf_22 (by decide),
    ok_F (ok_iload_n hM 2 dX3_linesOf_25 rfl),
    ok_ret hM hE dX3_linesOf_26,
    trivial⟩
set_option maxRecDepth 100000 in
theorem ctX3_linesOf (l : Launch) : Ct l yX3_linesOf wsX3_linesOf rmX3_linesOf 0 0 false sX3_linesOf := by
  refine ct_of (own := RX3) (cc := cX3_linesOf) (maxL := 4) (ret := (some .int)) (by decide) rfl rfl (by rintro _ _ _ ⟨t, ow, hd, st, rfl, rfl, hK⟩; exact Nat.le_of_ble_eq_true rfl) ?_
  intro X av es K hM hE hag hin hnL hsp
  obtain ⟨t, ow, hd, st, rfl, rfl, hK⟩ := hsp
  have hf := kX3_linesOf hM hE hnL
  refine g_with (X := X) 4 [0, 1, 2, 3] (fun μ vs es k n => ∃ i : Nat, μ = 8 - i ∧ i ≤ 8 ∧ vs = [.ref 0, .int t, .int (nI (sumN (lnW hd t) i)), .int (nI i)] ∧ es = plE ow hd st ∧ k = 0 ∧ n = 0) cut_nil (fun μ hc vs es k n hI => ?_) (fun hc => ?_)
  · obtain ⟨i, rfl, hi, rfl, rfl, rfl, rfl⟩ := hI
    refine g_go hf hc 5 ?_
    refine ⟨fun h => ?_, fun h => ?_⟩
    · have : i = 8 := by
        rw [nI_leI (by decide) (by omega)] at h
        omega
      subst this
      exact hK
    · rw [nI_leI (by decide) (by omega)] at h
      refine ⟨t, _, i, ow, hd, st, rfl, rfl, by omega, rfl, ?_⟩
      exact ⟨8 - (i + 1), by omega, i + 1, rfl, by omega, by rw [nI_add, nI_add]; rfl, rfl, rfl, rfl⟩
  · refine wr_ok hf hc 5 0 _ _ _ _ _ ?_
    exact ⟨8, 0, rfl, by omega, rfl, rfl, rfl, rfl⟩
def lnO (ow hd : Nat → Int32) (t : Int32) (w : Nat) : Nat := if ow w = t then lnW hd t w else 0
def sX3_linesInOwnWays : gS := fun av es K => ∃ t ow hd st, av = [.ref 0, .int t] ∧ es = plE ow hd st ∧ K (some (.int (nI (sumN (lnO ow hd t) 8)))) es
def rmX3_linesInOwnWays : Room := { frames := 2, cells := 0, slots := 0, locals := 46 }
def pX3_linesInOwnWays (K : gK) : List (Nat × gO) := [(0, oConst (nI 0)), (1, oF (oIStore 4 2)), (2, oConst (nI 0)), (3, oF (oIStore 4 3)), (4, oF (oILoad 3)), (5, oConst (nI 8)), (7, oICmp_ge 35), (10, oALoad 0), (11, oGet 3 0), (14, oILoad 3), (15, oIALd 0), (16, oILoad 1), (17, oICmp_ne 29), (20, oILoad 2), (21, oALoad 0), (22, oILoad 1), (23, oILoad 3), (24, oCallV 0 0 3 2 [0,1,2,3] sX3_linesInWay), (27, oAdd), (28, oF (oIStore 4 2)), (29, oF (oIInc 4 3 (nI 1))), (32, oGoto 4), (35, oF (oILoad 2)), (36, oRet K 0 0)]
set_option maxRecDepth 100000 in
theorem kX3_linesInOwnWays {X : gX} {l : Launch} (hM : gM X l cX3_linesInOwnWays RX3 wsX3_linesInOwnWays rmX3_linesInOwnWays) {K : gK} (hE : gR X K 0 0 (some .int)) (hnL : X.2.2.2.2.2.2.2.2.2.2.2.2.2.2.2.2 = 4) : okL X (pX3_linesInOwnWays K) := by
  obtain ⟨p, l1, e, R, s, m, args, below, meth, c, D, cA, A, ag, ad0, Q, nL⟩ := X
  cases hnL
  refine ⟨ok_iconst hM dX3_linesInOwnWays_0 rfl,
    ok_F (ok_istore_n hM 2 dX3_linesInOwnWays_1 rfl),
    ok_iconst hM dX3_linesInOwnWays_2 rfl,
    ok_F (ok_istore_n hM 3 dX3_linesInOwnWays_3 rfl),
    ok_F (ok_iload_n hM 3 dX3_linesInOwnWays_4 rfl),
    ok_bipush hM dX3_linesInOwnWays_5 rfl,
    ok_icmp_ge hM 35 dX3_linesInOwnWays_7 (by decide),
    ok_aload_n hM 0 dX3_linesInOwnWays_10 rfl,
    ok_get (C := RX3) (T := TX3) (Nf := 3) hM (fun _ h => List.mem_cons_of_mem _ (List.mem_append_right _ h)) rfl 0 (by decide) (List.mem_of_getElem? (i := 1) rfl) rfl dX3_linesInOwnWays_11,
    ok_iload_n hM 3 dX3_linesInOwnWays_14 rfl,
    ok_iald hM dX3_linesInOwnWays_15,
    ok_iload_n hM 1 dX3_linesInOwnWays_16 rfl,
    ok_icmp_ne hM 29 dX3_linesInOwnWays_17 (by decide),
    ok_iload_n hM 2 dX3_linesInOwnWays_20 rfl,
    ok_aload_n hM 0 dX3_linesInOwnWays_21 rfl,
    ok_iload_n hM 1 dX3_linesInOwnWays_22 rfl,
    ok_iload_n hM 3 dX3_linesInOwnWays_23 rfl,
    ok_callV hM [0,1,2,3] (ctX3_linesInWay l) rfl rfl gX3_linesInOwnWays_X3_linesInWay rfl rfl rfl (by decide +kernel) (by decide) dX3_linesInOwnWays_24,
    ok_iadd hM dX3_linesInOwnWays_27,
    ok_F (ok_istore_n hM 2 dX3_linesInOwnWays_28 rfl),
    ok_F (ok_iinc hM 3 dX3_linesInOwnWays_29 rfl),
    ok_goto hM 4 dX3_linesInOwnWays_32 (by decide),
    ok_F (ok_iload_n hM 2 dX3_linesInOwnWays_35 rfl),
    ok_ret hM hE dX3_linesInOwnWays_36,
    trivial⟩
set_option maxRecDepth 100000 in
theorem ctX3_linesInOwnWays (l : Launch) : Ct l yX3_linesInOwnWays wsX3_linesInOwnWays rmX3_linesInOwnWays 0 0 false sX3_linesInOwnWays := by
  refine ct_of (own := RX3) (cc := cX3_linesInOwnWays) (maxL := 4) (ret := (some .int)) (by decide) rfl rfl (by rintro _ _ _ ⟨t, ow, hd, st, rfl, rfl, hK⟩; exact Nat.le_of_ble_eq_true rfl) ?_
  intro X av es K hM hE hag hin hnL hsp
  obtain ⟨t, ow, hd, st, rfl, rfl, hK⟩ := hsp
  have hf := kX3_linesInOwnWays hM hE hnL
  refine g_with (X := X) 4 [0, 1, 2, 3] (fun μ vs es k n => ∃ i : Nat, μ = 8 - i ∧ i ≤ 8 ∧ vs = [.ref 0, .int t, .int (nI (sumN (lnO ow hd t) i)), .int (nI i)] ∧ es = plE ow hd st ∧ k = 0 ∧ n = 0) cut_nil (fun μ hc vs es k n hI => ?_) (fun hc => ?_)
  · obtain ⟨i, rfl, hi, rfl, rfl, rfl, rfl⟩ := hI
    refine g_go hf hc 5 ?_
    refine ⟨fun h => ?_, fun h => ?_⟩
    · have : i = 8 := by
        rw [nI_leI (by decide) (by omega)] at h
        omega
      subst this
      exact hK
    · rw [nI_leI (by decide) (by omega)] at h
      refine ⟨i, rfl, by omega, ?_⟩
      refine ⟨fun h2 => ?_, fun h2 => ?_⟩
      · exact ⟨8 - (i + 1), by omega, i + 1, rfl, by omega, by rw [nI_add]; simp only [sumN, lnO, if_neg h2, Nat.add_zero], rfl, rfl, rfl⟩
      · refine ⟨t, _, i, ow, hd, st, rfl, rfl, by omega, rfl, ?_⟩
        exact ⟨8 - (i + 1), by omega, i + 1, rfl, by omega, by rw [nI_add, nI_add]; simp only [sumN, lnO, if_pos h2], rfl, rfl, rfl⟩
  · refine wr_ok hf hc 5 0 _ _ _ _ _ ?_
    exact ⟨8, 0, rfl, by omega, rfl, rfl, rfl, rfl⟩
def allN (hd : Nat → Int32) : Nat := sumN (fun t => sumN (lnW hd (nI t)) 8) 4
def rmv (hd : Nat → Int32) (t : Int32) : Nat → Int32 := fun j => if hol hd t j = true then -1 else hd j
def sX3_removeLinesOf : gS := fun av es K => ∃ t ow hd st, av = [.ref 0, .int t] ∧ es = plE ow hd st ∧ K (some (.int (nI (cnt (hol hd t) 32)))) (plE ow (rmv hd t) st)
def rmX3_removeLinesOf : Room := { frames := 1, cells := 0, slots := 0, locals := 22 }
def pX3_removeLinesOf (K : gK) : List (Nat × gO) := [(0, oConst (nI 0)), (1, oF (oIStore 4 2)), (2, oConst (nI 0)), (3, oF (oIStore 4 3)), (4, oF (oILoad 3)), (5, oConst (nI 32)), (7, oICmp_ge 35), (10, oALoad 0), (11, oILoad 1), (12, oILoad 3), (13, oCallV 0 0 3 2 [0,1,2,3] sX3_holdsLineOf), (16, oF (oIf_eq 29)), (19, oALoad 0), (20, oGet 3 1), (23, oILoad 3), (24, oConst (-1)), (25, oIASt), (26, oF (oIInc 4 2 (nI 1))), (29, oF (oIInc 4 3 (nI 1))), (32, oGoto 4), (35, oF (oILoad 2)), (36, oRet K 0 0)]
set_option maxRecDepth 100000 in
theorem kX3_removeLinesOf {X : gX} {l : Launch} (hM : gM X l cX3_removeLinesOf RX3 wsX3_removeLinesOf rmX3_removeLinesOf) {K : gK} (hE : gR X K 0 0 (some .int)) (hnL : X.2.2.2.2.2.2.2.2.2.2.2.2.2.2.2.2 = 4) : okL X (pX3_removeLinesOf K) := by
  obtain ⟨p, l1, e, R, s, m, args, below, meth, c, D, cA, A, ag, ad0, Q, nL⟩ := X
  cases hnL
  refine ⟨ok_iconst hM dX3_removeLinesOf_0 rfl,
    ok_F (ok_istore_n hM 2 dX3_removeLinesOf_1 rfl),
    ok_iconst hM dX3_removeLinesOf_2 rfl,
    ok_F (ok_istore_n hM 3 dX3_removeLinesOf_3 rfl),
    ok_F (ok_iload_n hM 3 dX3_removeLinesOf_4 rfl),
    ok_bipush hM dX3_removeLinesOf_5 rfl,
    ok_icmp_ge hM 35 dX3_removeLinesOf_7 (by decide),
    ok_aload_n hM 0 dX3_removeLinesOf_10 rfl,
    ok_iload_n hM 1 dX3_removeLinesOf_11 rfl,
    ok_iload_n hM 3 dX3_removeLinesOf_12 rfl,
    ok_callV hM [0,1,2,3] (ctX3_holdsLineOf l) rfl rfl gX3_removeLinesOf_X3_holdsLineOf rfl rfl rfl (by decide +kernel) (by decide) dX3_removeLinesOf_13,
    ok_F (ok_if_eq hM 29 dX3_removeLinesOf_16 (by decide)),
    ok_aload_n hM 0 dX3_removeLinesOf_19 rfl,
    ok_get (C := RX3) (T := TX3) (Nf := 3) hM (fun _ h => List.mem_cons_of_mem _ (List.mem_append_right _ h)) rfl 1 (by decide) (List.mem_of_getElem? (i := 1) rfl) rfl dX3_removeLinesOf_20,
    ok_iload_n hM 3 dX3_removeLinesOf_23 rfl,
    ok_iconst hM dX3_removeLinesOf_24 rfl,
    ok_iast hM dX3_removeLinesOf_25,
    ok_F (ok_iinc hM 2 dX3_removeLinesOf_26 rfl),
    ok_F (ok_iinc hM 3 dX3_removeLinesOf_29 rfl),
    ok_goto hM 4 dX3_removeLinesOf_32 (by decide),
    ok_F (ok_iload_n hM 2 dX3_removeLinesOf_35 rfl),
    ok_ret hM hE dX3_removeLinesOf_36,
    trivial⟩
set_option maxRecDepth 100000 in
theorem ctX3_removeLinesOf (l : Launch) : Ct l yX3_removeLinesOf wsX3_removeLinesOf rmX3_removeLinesOf 0 0 false sX3_removeLinesOf := by
  refine ct_of (own := RX3) (cc := cX3_removeLinesOf) (maxL := 4) (ret := (some .int)) (by decide) rfl rfl (by rintro _ _ _ ⟨t, ow, hd, st, rfl, rfl, hK⟩; exact Nat.le_of_ble_eq_true rfl) ?_
  intro X av es K hM hE hag hin hnL hsp
  obtain ⟨t, ow, hd, st, rfl, rfl, hK⟩ := hsp
  have hf := kX3_removeLinesOf hM (gR_eqv hE) hnL
  refine g_with (X := X) 4 [0, 1, 2, 3] (fun μ vs es k n => ∃ (i : Nat) (hd' : Nat → Int32), μ = 32 - i ∧ i ≤ 32 ∧ (∀ j, hd' j = if j < i ∧ hol hd t j = true then -1 else hd j) ∧ vs = [.ref 0, .int t, .int (nI (cnt (hol hd t) i)), .int (nI i)] ∧ es = plE ow hd' st ∧ k = 0 ∧ n = 0) cut_nil (fun μ hc vs es k n hI => ?_) (fun hc => ?_)
  · obtain ⟨i, hd', rfl, hi, hd1, rfl, rfl, rfl, rfl⟩ := hI
    refine g_go hf hc 5 ?_
    refine ⟨fun h => ?_, fun h => ?_⟩
    · have : i = 32 := by
        rw [nI_leI (by decide) (by omega)] at h
        omega
      subst this
      refine ⟨plE ow (rmv hd t) st, ⟨rfl, ⟨rfl, rfl, fun _ _ => rfl⟩, ⟨rfl, rfl, fun j hj => ?_⟩, ⟨rfl, rfl, fun _ _ => rfl⟩, trivial⟩, hK⟩
      rw [hd1, rmv]
      simp [hj]
    · rw [nI_leI (by decide) (by omega)] at h
      have he : hol hd' t i = hol hd t i := by simp [hol, hd1]
      refine ⟨t, _, i, ow, hd', st, rfl, rfl, by omega, rfl, ?_⟩
      refine ⟨fun h2 => ?_, fun h2 => ?_⟩
      · rw [bI_0, he] at h2
        refine ⟨32 - (i + 1), by omega, i + 1, hd', rfl, by omega, fun j => ?_, by rw [nI_add, cnt_f (by simpa using h2)], rfl, rfl, rfl⟩
        rw [hd1]
        by_cases hj : j = i
        · subst hj
          simp [h2]
        · have : (j < i) ↔ (j < i + 1) := by omega
          simp [this]
      · rw [bI_0, he] at h2
        refine ⟨i, rfl, by omega, ?_⟩
        refine ⟨32 - (i + 1), by omega, i + 1, upd hd' i (-1), rfl, by omega, fun j => ?_, by rw [nI_add, nI_add, cnt_t (by simpa using h2)], rfl, rfl, rfl⟩
        unfold upd
        by_cases hj : j = i
        · subst hj
          have h3 : hol hd t j = true := by simpa using h2
          simp [h3]
        · have : (j < i) ↔ (j < i + 1) := by omega
          rw [if_neg hj, hd1]
          simp [this]
  · refine wr_ok hf hc 5 0 _ _ _ _ _ ?_
    exact ⟨32, 0, hd, rfl, by omega, fun j => by simp, rfl, rfl, rfl, rfl⟩
end MP
end
section
/-! Places: contracts, second part. -/
section MP2
def oI : Option Nat → Int32
  | none => -1
  | some p => nI p
theorem oI_ne {o : Option Nat} (h : ∀ p, o = some p → p < 2 ^ 31) : oI o = -1 ↔ o = none := by
  cases o with
  | none => exact ⟨fun _ => rfl, fun _ => rfl⟩
  | some p =>
    refine ⟨fun h2 => ?_, fun h2 => by cases h2⟩
    have h3 : ¬ nI p < 0 := nI_pos (h p rfl)
    have h4 : nI p = -1 := h2
    rw [h4] at h3
    exact absurd (by decide) h3
def ptU (st : Nat → Int32) (q : Nat) : Option Nat → Nat
  | none => q
  | some o => if st q < st o then q else o
def ptf (ow hd st : Nat → Int32) (t : Int32) (fs : Nat) : Nat → Nat → Option Nat → Option Nat
  | 0, _, old => old
  | f + 1, w, old => if ow w = t then (if hd (fs + w) = -1 then some (fs + w) else ptf ow hd st t fs f (w + 1) (some (ptU st (fs + w) old))) else ptf ow hd st t fs f (w + 1) old
def sX3_placeToFill : gS := fun av es K => ∃ t x a ow hd st, av = [.ref 0, .int t, .int x] ∧ x = nI a ∧ a < 256 ∧ es = plE ow hd st ∧ K (some (.int (oI (ptf ow hd st t (a % 4 * 8) 8 0 none)))) es
def rmX3_placeToFill : Room := { frames := 0, cells := 0, slots := 0, locals := 0 }
def pX3_placeToFill (K : gK) : List (Nat × gO) := [(0, oF (oILoad 2)), (1, oConst (nI 4)), (2, oRem), (3, oConst (nI 8)), (5, oMul), (6, oIStore 7 3), (7, oConst (-1)), (8, oF (oIStore 7 4)), (10, oConst (nI 0)), (11, oF (oIStore 7 5)), (13, oF (oILoad 5)), (15, oConst (nI 8)), (17, oICmp_ge 87), (20, oILoad 3), (21, oILoad 5), (23, oAdd), (24, oIStore 7 6), (26, oF (oALoad 0)), (27, oGet 3 0), (30, oILoad 5), (32, oIALd 0), (33, oILoad 1), (34, oICmp_eq 40), (37, oGoto 81), (40, oALoad 0), (41, oGet 3 1), (44, oILoad 6), (46, oIALd 0), (47, oConst (-1)), (48, oICmp_ne 54), (51, oILoad 6), (53, oRet K 0 0), (54, oILoad 4), (56, oConst (-1)), (57, oICmp_eq 77), (60, oALoad 0), (61, oGet 3 2), (64, oILoad 6), (66, oIALd 0), (67, oALoad 0), (68, oGet 3 2), (71, oILoad 4), (73, oIALd 0), (74, oICmp_ge 81), (77, oILoad 6), (79, oIStore 7 4), (81, oF (oIInc 7 5 (nI 1))), (84, oGoto 13), (87, oF (oILoad 4)), (89, oRet K 0 0)]
set_option maxRecDepth 100000 in
theorem kX3_placeToFill {X : gX} {l : Launch} (hM : gM X l cX3_placeToFill RX3 wsX3_placeToFill rmX3_placeToFill) {K : gK} (hE : gR X K 0 0 (some .int)) (hnL : X.2.2.2.2.2.2.2.2.2.2.2.2.2.2.2.2 = 7) : okL X (pX3_placeToFill K) := by
  obtain ⟨p, l1, e, R, s, m, args, below, meth, c, D, cA, A, ag, ad0, Q, nL⟩ := X
  cases hnL
  refine ⟨ok_F (ok_iload_n hM 2 dX3_placeToFill_0 rfl),
    ok_iconst hM dX3_placeToFill_1 rfl,
    ok_irem hM dX3_placeToFill_2,
    ok_bipush hM dX3_placeToFill_3 rfl,
    ok_imul hM dX3_placeToFill_5,
    ok_istore_n hM 3 dX3_placeToFill_6 rfl,
    ok_iconst hM dX3_placeToFill_7 rfl,
    ok_F (ok_istore hM 4 dX3_placeToFill_8),
    ok_iconst hM dX3_placeToFill_10 rfl,
    ok_F (ok_istore hM 5 dX3_placeToFill_11),
    ok_F (ok_iload hM 5 dX3_placeToFill_13),
    ok_bipush hM dX3_placeToFill_15 rfl,
    ok_icmp_ge hM 87 dX3_placeToFill_17 (by decide),
    ok_iload_n hM 3 dX3_placeToFill_20 rfl,
    ok_iload hM 5 dX3_placeToFill_21,
    ok_iadd hM dX3_placeToFill_23,
    ok_istore hM 6 dX3_placeToFill_24,
    ok_F (ok_aload_n hM 0 dX3_placeToFill_26 rfl),
    ok_get (C := RX3) (T := TX3) (Nf := 3) hM (fun _ h => List.mem_cons_of_mem _ (List.mem_append_right _ h)) rfl 0 (by decide) (List.mem_of_getElem? (i := 1) rfl) rfl dX3_placeToFill_27,
    ok_iload hM 5 dX3_placeToFill_30,
    ok_iald hM dX3_placeToFill_32,
    ok_iload_n hM 1 dX3_placeToFill_33 rfl,
    ok_icmp_eq hM 40 dX3_placeToFill_34 (by decide),
    ok_goto hM 81 dX3_placeToFill_37 (by decide),
    ok_aload_n hM 0 dX3_placeToFill_40 rfl,
    ok_get (C := RX3) (T := TX3) (Nf := 3) hM (fun _ h => List.mem_cons_of_mem _ (List.mem_append_right _ h)) rfl 1 (by decide) (List.mem_of_getElem? (i := 2) rfl) rfl dX3_placeToFill_41,
    ok_iload hM 6 dX3_placeToFill_44,
    ok_iald hM dX3_placeToFill_46,
    ok_iconst hM dX3_placeToFill_47 rfl,
    ok_icmp_ne hM 54 dX3_placeToFill_48 (by decide),
    ok_iload hM 6 dX3_placeToFill_51,
    ok_ret hM hE dX3_placeToFill_53,
    ok_iload hM 4 dX3_placeToFill_54,
    ok_iconst hM dX3_placeToFill_56 rfl,
    ok_icmp_eq hM 77 dX3_placeToFill_57 (by decide),
    ok_aload_n hM 0 dX3_placeToFill_60 rfl,
    ok_get (C := RX3) (T := TX3) (Nf := 3) hM (fun _ h => List.mem_cons_of_mem _ (List.mem_append_right _ h)) rfl 2 (by decide) (List.mem_of_getElem? (i := 3) rfl) rfl dX3_placeToFill_61,
    ok_iload hM 6 dX3_placeToFill_64,
    ok_iald hM dX3_placeToFill_66,
    ok_aload_n hM 0 dX3_placeToFill_67 rfl,
    ok_get (C := RX3) (T := TX3) (Nf := 3) hM (fun _ h => List.mem_cons_of_mem _ (List.mem_append_right _ h)) rfl 2 (by decide) (List.mem_of_getElem? (i := 3) rfl) rfl dX3_placeToFill_68,
    ok_iload hM 4 dX3_placeToFill_71,
    ok_iald hM dX3_placeToFill_73,
    ok_icmp_ge hM 81 dX3_placeToFill_74 (by decide),
    ok_iload hM 6 dX3_placeToFill_77,
    ok_istore hM 4 dX3_placeToFill_79,
    ok_F (ok_iinc hM 5 dX3_placeToFill_81 rfl),
    ok_goto hM 13 dX3_placeToFill_84 (by decide),
    ok_F (ok_iload hM 4 dX3_placeToFill_87),
    ok_ret hM hE dX3_placeToFill_89,
    trivial⟩
set_option maxRecDepth 100000 in
theorem ctX3_placeToFill (l : Launch) : Ct l yX3_placeToFill wsX3_placeToFill rmX3_placeToFill 0 0 false sX3_placeToFill := by
  refine ct_of (own := RX3) (cc := cX3_placeToFill) (maxL := 7) (ret := (some .int)) (by decide) rfl rfl (by rintro _ _ _ ⟨t, x, a, ow, hd, st, rfl, rfl, ha, rfl, hK⟩; exact Nat.le_of_ble_eq_true rfl) ?_
  intro X av es K hM hE hag hin hnL hsp
  obtain ⟨t, x, a, ow, hd, st, rfl, rfl, ha, rfl, hK⟩ := hsp
  have hf := kX3_placeToFill hM hE hnL
  generalize hres : ptf ow hd st t (a % 4 * 8) 8 0 none = res at hK
  refine g_with (X := X) 13 [0, 1, 2, 3, 4, 5] (fun μ vs es k n => ∃ (i : Nat) (old : Option Nat), μ = 8 - i ∧ i ≤ 8 ∧ res = ptf ow hd st t (a % 4 * 8) (8 - i) i old ∧ (∀ o, old = some o → o < 32) ∧ vs = [.ref 0, .int t, .int (nI a), .int (nI (a % 4 * 8)), .int (oI old), .int (nI i)] ∧ es = plE ow hd st ∧ k = 0 ∧ n = 0) cut_nil (fun μ hc vs es k n hI => ?_) (fun hc => ?_)
  · obtain ⟨i, old, rfl, hi, hr, ho, rfl, rfl, rfl, rfl⟩ := hI
    have hon : oI old = -1 ↔ old = none := oI_ne (fun p hp => by have := ho p hp; omega)
    refine g_go hf hc 5 ?_
    refine ⟨fun h => ?_, fun h => ?_⟩
    · have : i = 8 := by
        rw [nI_leI (by decide) (by omega)] at h
        omega
      subst this
      rw [hr] at hK
      exact hK
    · rw [nI_leI (by decide) (by omega)] at h
      obtain ⟨d, hd8⟩ : ∃ d, 8 - i = d + 1 := ⟨8 - i - 1, by omega⟩
      have hd9 : 8 - (i + 1) = d := by omega
      rw [hd8] at hr
      refine ⟨i, rfl, by omega, ?_⟩
      refine ⟨fun h2 => ?_, fun h2 => ?_⟩
      · simp only [ptf, if_pos h2] at hr
        refine ⟨a % 4 * 8 + i, nI_add _ _, by omega, ?_⟩
        refine ⟨fun h3 => ?_, fun h3 => ?_⟩
        · rw [if_neg h3] at hr
          refine ⟨fun h4 => ?_, fun h4 => ?_⟩
          · rw [hon] at h4
            subst h4
            refine ⟨8 - (i + 1), by omega, i + 1, some (a % 4 * 8 + i), rfl, by omega, ?_, fun o hoo => by cases hoo; omega, by rw [nI_add, nI_add]; rfl, rfl, rfl, rfl⟩
            rw [hr, hd9]
            rfl
          · obtain ⟨o, rfl⟩ : ∃ o, old = some o := by
              cases old with
              | none => exact absurd rfl h4
              | some o => exact ⟨o, rfl⟩
            have ho1 := ho o rfl
            refine ⟨a % 4 * 8 + i, nI_add _ _, by omega, ?_⟩
            refine ⟨o, rfl, ho1, ?_⟩
            refine ⟨fun h5 => ?_, fun h5 => ?_⟩
            · refine ⟨8 - (i + 1), by omega, i + 1, some o, rfl, by omega, ?_, fun o hoo => by cases hoo; omega, by rw [nI_add], rfl, rfl, rfl⟩
              rw [hr, hd9]
              simp only [ptU, if_neg (show ¬ st (a % 4 * 8 + i) < st o from by first | exact h5 | exact Int32.not_lt.mpr h5)]
            · refine ⟨8 - (i + 1), by omega, i + 1, some (a % 4 * 8 + i), rfl, by omega, ?_, fun o hoo => by cases hoo; omega, by rw [nI_add, nI_add]; rfl, rfl, rfl, rfl⟩
              rw [hr, hd9]
              simp only [ptU, if_pos (show st (a % 4 * 8 + i) < st o from by first | exact h5 | exact Int32.not_le.mp h5)]
        · rw [if_pos h3] at hr
          rw [hr, oI, ← nI_add] at hK
          exact hK
      · simp only [ptf, if_neg h2] at hr
        refine ⟨8 - (i + 1), by omega, i + 1, old, rfl, by omega, by rw [hr, hd9], ho, by rw [nI_add], rfl, rfl, rfl⟩
  · refine wr_ok hf hc 5 0 _ _ _ _ _ ?_
    refine ⟨by decide, ?_⟩
    exact ⟨8, 0, none, rfl, by omega, hres.symm, fun o ho => (by cases ho), by rw [first4 ha]; rfl, rfl, rfl, rfl⟩
def wfl (ow : Nat → Int32) (ln : Nat → Nat) (t : Int32) : Nat → Nat → Option Nat → Nat → Option Nat
  | 0, _, b, _ => b
  | f + 1, w, b, m => if ow w = t ∧ ln w < m then wfl ow ln t f (w + 1) (some w) (ln w) else wfl ow ln t f (w + 1) b m
def sX3_wayWithFewestLines : gS := fun av es K => ∃ t ow hd st, av = [.ref 0, .int t] ∧ es = plE ow hd st ∧ K (some (.int (oI (wfl ow (lnW hd t) t 8 0 none 5)))) es
def rmX3_wayWithFewestLines : Room := { frames := 2, cells := 0, slots := 0, locals := 46 }
def pX3_wayWithFewestLines (K : gK) : List (Nat × gO) := [(0, oConst (-1)), (1, oF (oIStore 5 2)), (2, oConst (nI 5)), (3, oF (oIStore 5 3)), (4, oConst (nI 0)), (5, oF (oIStore 5 4)), (7, oF (oILoad 4)), (9, oConst (nI 8)), (11, oICmp_ge 53), (14, oALoad 0), (15, oGet 3 0), (18, oILoad 4), (20, oIALd 0), (21, oILoad 1), (22, oICmp_ne 47), (25, oALoad 0), (26, oILoad 1), (27, oILoad 4), (29, oCallV 0 0 3 2 [0,1,2,3] sX3_linesInWay), (32, oF (oILoad 3)), (33, oICmp_ge 47), (36, oILoad 4), (38, oIStore 5 2), (39, oF (oALoad 0)), (40, oILoad 1), (41, oILoad 4), (43, oCallV 0 0 3 2 [0,1,2,3] sX3_linesInWay), (46, oF (oIStore 5 3)), (47, oF (oIInc 5 4 (nI 1))), (50, oGoto 7), (53, oF (oILoad 2)), (54, oRet K 0 0)]
set_option maxRecDepth 100000 in
theorem kX3_wayWithFewestLines {X : gX} {l : Launch} (hM : gM X l cX3_wayWithFewestLines RX3 wsX3_wayWithFewestLines rmX3_wayWithFewestLines) {K : gK} (hE : gR X K 0 0 (some .int)) (hnL : X.2.2.2.2.2.2.2.2.2.2.2.2.2.2.2.2 = 5) : okL X (pX3_wayWithFewestLines K) := by
  obtain ⟨p, l1, e, R, s, m, args, below, meth, c, D, cA, A, ag, ad0, Q, nL⟩ := X
  cases hnL
  refine ⟨ok_iconst hM dX3_wayWithFewestLines_0 rfl,
    ok_F (ok_istore_n hM 2 dX3_wayWithFewestLines_1 rfl),
    ok_iconst hM dX3_wayWithFewestLines_2 rfl,
    ok_F (ok_istore_n hM 3 dX3_wayWithFewestLines_3 rfl),
    ok_iconst hM dX3_wayWithFewestLines_4 rfl,
    ok_F (ok_istore hM 4 dX3_wayWithFewestLines_5),
    ok_F (ok_iload hM 4 dX3_wayWithFewestLines_7),
    ok_bipush hM dX3_wayWithFewestLines_9 rfl,
    ok_icmp_ge hM 53 dX3_wayWithFewestLines_11 (by decide),
    ok_aload_n hM 0 dX3_wayWithFewestLines_14 rfl,
    ok_get (C := RX3) (T := TX3) (Nf := 3) hM (fun _ h => List.mem_cons_of_mem _ (List.mem_append_right _ h)) rfl 0 (by decide) (List.mem_of_getElem? (i := 1) rfl) rfl dX3_wayWithFewestLines_15,
    ok_iload hM 4 dX3_wayWithFewestLines_18,
    ok_iald hM dX3_wayWithFewestLines_20,
    ok_iload_n hM 1 dX3_wayWithFewestLines_21 rfl,
    ok_icmp_ne hM 47 dX3_wayWithFewestLines_22 (by decide),
    ok_aload_n hM 0 dX3_wayWithFewestLines_25 rfl,
    ok_iload_n hM 1 dX3_wayWithFewestLines_26 rfl,
    ok_iload hM 4 dX3_wayWithFewestLines_27,
    ok_callV hM [0,1,2,3] (ctX3_linesInWay l) rfl rfl gX3_wayWithFewestLines_X3_linesInWay rfl rfl rfl (by decide +kernel) (by decide) dX3_wayWithFewestLines_29,
    ok_F (ok_iload_n hM 3 dX3_wayWithFewestLines_32 rfl),
    ok_icmp_ge hM 47 dX3_wayWithFewestLines_33 (by decide),
    ok_iload hM 4 dX3_wayWithFewestLines_36,
    ok_istore_n hM 2 dX3_wayWithFewestLines_38 rfl,
    ok_F (ok_aload_n hM 0 dX3_wayWithFewestLines_39 rfl),
    ok_iload_n hM 1 dX3_wayWithFewestLines_40 rfl,
    ok_iload hM 4 dX3_wayWithFewestLines_41,
    ok_callV hM [0,1,2,3] (ctX3_linesInWay l) rfl rfl gX3_wayWithFewestLines_X3_linesInWay rfl rfl rfl (by decide +kernel) (by decide) dX3_wayWithFewestLines_43,
    ok_F (ok_istore_n hM 3 dX3_wayWithFewestLines_46 rfl),
    ok_F (ok_iinc hM 4 dX3_wayWithFewestLines_47 rfl),
    ok_goto hM 7 dX3_wayWithFewestLines_50 (by decide),
    ok_F (ok_iload_n hM 2 dX3_wayWithFewestLines_53 rfl),
    ok_ret hM hE dX3_wayWithFewestLines_54,
    trivial⟩
set_option maxRecDepth 100000 in
theorem ctX3_wayWithFewestLines (l : Launch) : Ct l yX3_wayWithFewestLines wsX3_wayWithFewestLines rmX3_wayWithFewestLines 0 0 false sX3_wayWithFewestLines := by
  refine ct_of (own := RX3) (cc := cX3_wayWithFewestLines) (maxL := 5) (ret := (some .int)) (by decide) rfl rfl (by rintro _ _ _ ⟨t, ow, hd, st, rfl, rfl, hK⟩; exact Nat.le_of_ble_eq_true rfl) ?_
  intro X av es K hM hE hag hin hnL hsp
  obtain ⟨t, ow, hd, st, rfl, rfl, hK⟩ := hsp
  have hf := kX3_wayWithFewestLines hM hE hnL
  generalize hres : wfl ow (lnW hd t) t 8 0 none 5 = res at hK
  refine g_with (X := X) 7 [0, 1, 2, 3, 4] (fun μ vs es k n => ∃ (i : Nat) (b : Option Nat) (m : Nat), μ = 8 - i ∧ i ≤ 8 ∧ m ≤ 5 ∧ res = wfl ow (lnW hd t) t (8 - i) i b m ∧ vs = [.ref 0, .int t, .int (oI b), .int (nI m), .int (nI i)] ∧ es = plE ow hd st ∧ k = 0 ∧ n = 0) cut_nil (fun μ hc vs es k n hI => ?_) (fun hc => ?_)
  · obtain ⟨i, b, m, rfl, hi, hm, hr, rfl, rfl, rfl, rfl⟩ := hI
    have hln := lnW_le hd t i
    refine g_go hf hc 5 ?_
    refine ⟨fun h => ?_, fun h => ?_⟩
    · have : i = 8 := by
        rw [nI_leI (by decide) (by omega)] at h
        omega
      subst this
      rw [hr] at hK
      exact hK
    · rw [nI_leI (by decide) (by omega)] at h
      obtain ⟨d, hd8⟩ : ∃ d, 8 - i = d + 1 := ⟨8 - i - 1, by omega⟩
      have hd9 : 8 - (i + 1) = d := by omega
      rw [hd8] at hr
      refine ⟨i, rfl, by omega, ?_⟩
      refine ⟨fun h2 => ?_, fun h2 => ?_⟩
      · simp only [wfl, h2, false_and, if_false] at hr
        refine ⟨8 - (i + 1), by omega, i + 1, b, m, rfl, by omega, hm, by rw [hr, hd9], by rw [nI_add], rfl, rfl, rfl⟩
      · refine ⟨t, _, i, ow, hd, st, rfl, rfl, by omega, rfl, ?_⟩
        refine ⟨fun h3 => ?_, fun h3 => ?_⟩
        · rw [nI_leI (by omega) (by omega)] at h3
          have h4 : ¬ lnW hd t i < m := by omega
          simp only [wfl, h4, and_false, if_false] at hr
          refine ⟨8 - (i + 1), by omega, i + 1, b, m, rfl, by omega, hm, by rw [hr, hd9], by rw [nI_add], rfl, rfl, rfl⟩
        · rw [nI_leI (by omega) (by omega)] at h3
          have h4 : lnW hd t i < m := by omega
          simp only [wfl, h2, h4, and_self, if_true] at hr
          refine ⟨t, _, i, ow, hd, st, rfl, rfl, by omega, rfl, ?_⟩
          refine ⟨8 - (i + 1), by omega, i + 1, some i, lnW hd t i, rfl, by omega, by omega, by rw [hr, hd9], by rw [nI_add]; rfl, rfl, rfl, rfl⟩
  · refine wr_ok hf hc 5 0 _ _ _ _ _ ?_
    exact ⟨8, 0, none, 5, rfl, by omega, by omega, hres.symm, rfl, rfl, rfl, rfl⟩
theorem cpy0 {f g : Nat → Int32} {n j : Nat} (h : j < n) : va_cpy f g 0 0 n j = f j := by
  rw [pk_cpy_in (Nat.zero_le _) (by omega)]
  simp
def sX3_copyFrom : gS := fun av es K => ∃ ow hd st ow' hd' st', av = [.ref 0, .ref 4] ∧ es = plA 0 ow hd st ++ plA 4 ow' hd' st' ∧ K none (plA 0 ow' hd' st' ++ plA 4 ow' hd' st')
def rmX3_copyFrom : Room := { frames := 1, cells := 0, slots := 0, locals := 60 }
def pX3_copyFrom (K : gK) : List (Nat × gO) := [(0, oF (oALoad 1)), (1, oGet 3 0), (4, oConst (nI 0)), (5, oALoad 0), (6, oGet 3 0), (9, oConst (nI 0)), (10, oConst (nI 8)), (12, oCopy 60), (15, oF (oALoad 1)), (16, oGet 3 1), (19, oConst (nI 0)), (20, oALoad 0), (21, oGet 3 1), (24, oConst (nI 0)), (25, oConst (nI 32)), (27, oCopy 60), (30, oF (oALoad 1)), (31, oGet 3 2), (34, oConst (nI 0)), (35, oALoad 0), (36, oGet 3 2), (39, oConst (nI 0)), (40, oConst (nI 32)), (42, oCopy 60), (45, oF (oRetV K 0 0))]
set_option maxRecDepth 100000 in
theorem kX3_copyFrom {X : gX} {l : Launch} (hM : gM X l cX3_copyFrom RX3 wsX3_copyFrom rmX3_copyFrom) {K : gK} (hE : gR X K 0 0 none) (hnL : X.2.2.2.2.2.2.2.2.2.2.2.2.2.2.2.2 = 2) : okL X (pX3_copyFrom K) := by
  obtain ⟨p, l1, e, R, s, m, args, below, meth, c, D, cA, A, ag, ad0, Q, nL⟩ := X
  cases hnL
  refine ⟨ok_F (ok_aload_n hM 1 dX3_copyFrom_0 rfl),
    ok_get (C := RX3) (T := TX3) (Nf := 3) hM (fun _ h => List.mem_cons_of_mem _ (List.mem_append_right _ h)) rfl 0 (by decide) (List.mem_of_getElem? (i := 1) rfl) rfl dX3_copyFrom_1,
    ok_iconst hM dX3_copyFrom_4 rfl,
    ok_aload_n hM 0 dX3_copyFrom_5 rfl,
    ok_get (C := RX3) (T := TX3) (Nf := 3) hM (fun _ h => List.mem_cons_of_mem _ (List.mem_append_right _ h)) rfl 0 (by decide) (List.mem_of_getElem? (i := 1) rfl) rfl dX3_copyFrom_6,
    ok_iconst hM dX3_copyFrom_9 rfl,
    ok_bipush hM dX3_copyFrom_10 rfl,
    ok_copy hM (List.mem_of_getElem? (i := 2) rfl) (List.mem_of_getElem? (i := 3) rfl) (List.mem_of_getElem? (i := 4) rfl) (List.mem_of_getElem? (i := 5) rfl) (by decide) (by decide +kernel) dX3_copyFrom_12,
    ok_F (ok_aload_n hM 1 dX3_copyFrom_15 rfl),
    ok_get (C := RX3) (T := TX3) (Nf := 3) hM (fun _ h => List.mem_cons_of_mem _ (List.mem_append_right _ h)) rfl 1 (by decide) (List.mem_of_getElem? (i := 6) rfl) rfl dX3_copyFrom_16,
    ok_iconst hM dX3_copyFrom_19 rfl,
    ok_aload_n hM 0 dX3_copyFrom_20 rfl,
    ok_get (C := RX3) (T := TX3) (Nf := 3) hM (fun _ h => List.mem_cons_of_mem _ (List.mem_append_right _ h)) rfl 1 (by decide) (List.mem_of_getElem? (i := 6) rfl) rfl dX3_copyFrom_21,
    ok_iconst hM dX3_copyFrom_24 rfl,
    ok_bipush hM dX3_copyFrom_25 rfl,
    ok_copy hM (List.mem_of_getElem? (i := 2) rfl) (List.mem_of_getElem? (i := 3) rfl) (List.mem_of_getElem? (i := 4) rfl) (List.mem_of_getElem? (i := 5) rfl) (by decide) (by decide +kernel) dX3_copyFrom_27,
    ok_F (ok_aload_n hM 1 dX3_copyFrom_30 rfl),
    ok_get (C := RX3) (T := TX3) (Nf := 3) hM (fun _ h => List.mem_cons_of_mem _ (List.mem_append_right _ h)) rfl 2 (by decide) (List.mem_of_getElem? (i := 7) rfl) rfl dX3_copyFrom_31,
    ok_iconst hM dX3_copyFrom_34 rfl,
    ok_aload_n hM 0 dX3_copyFrom_35 rfl,
    ok_get (C := RX3) (T := TX3) (Nf := 3) hM (fun _ h => List.mem_cons_of_mem _ (List.mem_append_right _ h)) rfl 2 (by decide) (List.mem_of_getElem? (i := 7) rfl) rfl dX3_copyFrom_36,
    ok_iconst hM dX3_copyFrom_39 rfl,
    ok_bipush hM dX3_copyFrom_40 rfl,
    ok_copy hM (List.mem_of_getElem? (i := 2) rfl) (List.mem_of_getElem? (i := 3) rfl) (List.mem_of_getElem? (i := 4) rfl) (List.mem_of_getElem? (i := 5) rfl) (by decide) (by decide +kernel) dX3_copyFrom_42,
    ok_F (ok_retV hM hE dX3_copyFrom_45),
    trivial⟩
set_option maxRecDepth 100000 in
theorem ctX3_copyFrom (l : Launch) : Ct l yX3_copyFrom wsX3_copyFrom rmX3_copyFrom 0 0 false sX3_copyFrom := by
  refine ct_of (own := RX3) (cc := cX3_copyFrom) (maxL := 2) (ret := none) (by decide) rfl rfl (by rintro _ _ _ ⟨ow, hd, st, ow', hd', st', rfl, rfl, hK⟩; exact Nat.le_of_ble_eq_true rfl) ?_
  intro X av es K hM hE hag hin hnL hsp
  obtain ⟨ow, hd, st, ow', hd', st', rfl, rfl, hK⟩ := hsp
  have hf := kX3_copyFrom hM (gR_eqv hE) hnL
  refine wr_ok hf cut_nil 5 0 _ _ _ _ _ ?_
  refine ⟨8, rfl, rfl, rfl, by omega, by omega, ?_⟩
  refine ⟨32, rfl, rfl, rfl, by omega, by omega, ?_⟩
  refine ⟨32, rfl, rfl, rfl, by omega, by omega, ?_⟩
  exact ⟨plA 0 ow' hd' st' ++ plA 4 ow' hd' st', ⟨rfl, ⟨rfl, rfl, fun _ h => cpy0 h⟩, ⟨rfl, rfl, fun _ h => cpy0 h⟩, ⟨rfl, rfl, fun _ h => cpy0 h⟩, rfl, ⟨rfl, rfl, fun _ _ => rfl⟩, ⟨rfl, rfl, fun _ _ => rfl⟩, ⟨rfl, rfl, fun _ _ => rfl⟩, trivial⟩, hK⟩
end MP2
end
section
/-! Monitors: contracts. -/
section MM
def sX6_isSampled : gS := fun av es K => ∃ s, av = [.int s] ∧ es = [] ∧ K (some (.int (bI (decide (s = nI 0) || decide (s = nI 2))))) []
def rmX6_isSampled : Room := { frames := 0, cells := 0, slots := 0, locals := 0 }
def pX6_isSampled (K : gK) : List (Nat × gO) := [(0, oF (oILoad 0)), (1, oIf_eq 9), (4, oILoad 0), (5, oConst (nI 2)), (6, oICmp_ne 13), (9, oConst (nI 1)), (10, oGoto 14), (13, oConst (nI 0)), (14, oRetZ K 0 0)]
set_option maxRecDepth 100000 in
theorem kX6_isSampled {X : gX} {l : Launch} (hM : gM X l cX6_isSampled RX6 wsX6_isSampled rmX6_isSampled) {K : gK} (hE : gR X K 0 0 (some .boolean)) (hnL : X.2.2.2.2.2.2.2.2.2.2.2.2.2.2.2.2 = 1) : okL X (pX6_isSampled K) := by
  obtain ⟨p, l1, e, R, s, m, args, below, meth, c, D, cA, A, ag, ad0, Q, nL⟩ := X
  cases hnL
  refine ⟨ok_F (ok_iload_n hM 0 dX6_isSampled_0 rfl),
    ok_if_eq hM 9 dX6_isSampled_1 (by decide),
    ok_iload_n hM 0 dX6_isSampled_4 rfl,
    ok_iconst hM dX6_isSampled_5 rfl,
    ok_icmp_ne hM 13 dX6_isSampled_6 (by decide),
    ok_iconst hM dX6_isSampled_9 rfl,
    ok_goto hM 14 dX6_isSampled_10 (by decide),
    ok_iconst hM dX6_isSampled_13 rfl,
    ok_retZ hM hE dX6_isSampled_14,
    trivial⟩
set_option maxRecDepth 100000 in
theorem ctX6_isSampled (l : Launch) : Ct l yX6_isSampled wsX6_isSampled rmX6_isSampled 0 0 false sX6_isSampled := by
  refine ct_of (own := RX6) (cc := cX6_isSampled) (maxL := 1) (ret := (some .boolean)) (by decide) rfl rfl (by rintro _ _ _ ⟨s, rfl, rfl, hK⟩; exact Nat.le_of_ble_eq_true rfl) ?_
  intro X av es K hM hE hag hin hnL hsp
  obtain ⟨s, rfl, rfl, hK⟩ := hsp
  have hf := kX6_isSampled hM hE hnL
  refine wr_ok hf cut_nil 5 0 _ _ _ _ _ ?_
  refine ⟨fun h => ?_, fun h => ?_⟩
  · have e : (decide (s = nI 0) || decide (s = nI 2)) = true := by rw [show s = nI 0 from h]; rfl
    rw [e] at hK
    exact ⟨by decide, hK⟩
  · have h0 : ¬ s = nI 0 := h
    refine ⟨fun h2 => ?_, fun h2 => ?_⟩
    · have e : (decide (s = nI 0) || decide (s = nI 2)) = false := by rw [decide_eq_false h0, decide_eq_false h2]; rfl
      rw [e] at hK
      exact ⟨by decide, hK⟩
    · have e : (decide (s = nI 0) || decide (s = nI 2)) = true := by rw [h2]; rfl
      rw [e] at hK
      exact ⟨by decide, hK⟩
def sX6_listStart : gS := fun av es K => ∃ x y t s, av = [.int x, .int y] ∧ x = nI t ∧ y = nI s ∧ t < 4 ∧ s < 4 ∧ es = [] ∧ K (some (.int (nI ((t * 2 + s / 2) * 8)))) []
def rmX6_listStart : Room := { frames := 0, cells := 0, slots := 0, locals := 0 }
def pX6_listStart (K : gK) : List (Nat × gO) := [(0, oF (oILoad 0)), (1, oConst (nI 2)), (2, oMul), (3, oILoad 1), (4, oConst (nI 2)), (5, oDiv), (6, oAdd), (7, oConst (nI 8)), (9, oMul), (10, oRet K 0 0)]
set_option maxRecDepth 100000 in
theorem kX6_listStart {X : gX} {l : Launch} (hM : gM X l cX6_listStart RX6 wsX6_listStart rmX6_listStart) {K : gK} (hE : gR X K 0 0 (some .int)) (hnL : X.2.2.2.2.2.2.2.2.2.2.2.2.2.2.2.2 = 2) : okL X (pX6_listStart K) := by
  obtain ⟨p, l1, e, R, s, m, args, below, meth, c, D, cA, A, ag, ad0, Q, nL⟩ := X
  cases hnL
  refine ⟨ok_F (ok_iload_n hM 0 dX6_listStart_0 rfl),
    ok_iconst hM dX6_listStart_1 rfl,
    ok_imul hM dX6_listStart_2,
    ok_iload_n hM 1 dX6_listStart_3 rfl,
    ok_iconst hM dX6_listStart_4 rfl,
    ok_idiv hM dX6_listStart_5,
    ok_iadd hM dX6_listStart_6,
    ok_bipush hM dX6_listStart_7 rfl,
    ok_imul hM dX6_listStart_9,
    ok_ret hM hE dX6_listStart_10,
    trivial⟩
set_option maxRecDepth 100000 in
theorem ctX6_listStart (l : Launch) : Ct l yX6_listStart wsX6_listStart rmX6_listStart 0 0 false sX6_listStart := by
  refine ct_of (own := RX6) (cc := cX6_listStart) (maxL := 2) (ret := (some .int)) (by decide) rfl rfl (by rintro _ _ _ ⟨x, y, t, s, rfl, rfl, rfl, ht, hs, rfl, hK⟩; exact Nat.le_of_ble_eq_true rfl) ?_
  intro X av es K hM hE hag hin hnL hsp
  obtain ⟨x, y, t, s, rfl, rfl, rfl, ht, hs, rfl, hK⟩ := hsp
  have hf := kX6_listStart hM hE hnL
  refine wr_ok hf cut_nil 5 0 _ _ _ _ _ ?_
  refine ⟨by decide, ?_⟩
  have e : (nI t * nI 2 + nI s / nI 2) * nI 8 = nI ((t * 2 + s / 2) * 8) := by
    rw [pk_mul, pk_div (by omega) (by decide) (by decide), nI_add, pk_mul]
  rw [← e] at hK
  exact hK
abbrev moA (o : Nat) (ad ga : Nat → Int32) : List gE := [.inr (2, [.ref (o + 1), .ref (o + 2)]), .inl (0, 64, .inl ad), .inl (0, 32, .inl ga)]
abbrev moE (ad ga : Nat → Int32) : List gE := moA 0 ad ga
def sumI (f : Nat → Int32) : Nat → Int32
  | 0 => nI 0
  | n + 1 => sumI f n + f n
theorem sumI_cong {f g : Nat → Int32} : ∀ {n : Nat}, (∀ j, j < n → f j = g j) → sumI f n = sumI g n
  | 0, _ => rfl
  | n + 1, h => by
    unfold sumI
    rw [h n (by omega), sumI_cong (fun j hj => h j (by omega))]
def sX2_utilityOf : gS := fun av es K => ∃ x y t w ad ga, av = [.ref 0, .int x, .int y] ∧ x = nI t ∧ y = nI w ∧ t < 4 ∧ w ≤ 8 ∧ es = moE ad ga ∧ K (some (.int (sumI (fun p => ga (t * 8 + p)) w))) es
def rmX2_utilityOf : Room := { frames := 0, cells := 0, slots := 0, locals := 0 }
def pX2_utilityOf (K : gK) : List (Nat × gO) := [(0, oConst (nI 0)), (1, oF (oIStore 5 3)), (2, oConst (nI 0)), (3, oF (oIStore 5 4)), (5, oF (oILoad 4)), (7, oConst (nI 8)), (9, oICmp_ge 39), (12, oILoad 4), (14, oILoad 2), (15, oICmp_ge 39), (18, oILoad 3), (19, oALoad 0), (20, oGet 2 1), (23, oILoad 1), (24, oConst (nI 8)), (26, oMul), (27, oILoad 4), (29, oAdd), (30, oIALd 0), (31, oAdd), (32, oIStore 5 3), (33, oF (oIInc 5 4 (nI 1))), (36, oGoto 5), (39, oF (oILoad 3)), (40, oRet K 0 0)]
set_option maxRecDepth 100000 in
theorem kX2_utilityOf {X : gX} {l : Launch} (hM : gM X l cX2_utilityOf RX2 wsX2_utilityOf rmX2_utilityOf) {K : gK} (hE : gR X K 0 0 (some .int)) (hnL : X.2.2.2.2.2.2.2.2.2.2.2.2.2.2.2.2 = 5) : okL X (pX2_utilityOf K) := by
  obtain ⟨p, l1, e, R, s, m, args, below, meth, c, D, cA, A, ag, ad0, Q, nL⟩ := X
  cases hnL
  refine ⟨ok_iconst hM dX2_utilityOf_0 rfl,
    ok_F (ok_istore_n hM 3 dX2_utilityOf_1 rfl),
    ok_iconst hM dX2_utilityOf_2 rfl,
    ok_F (ok_istore hM 4 dX2_utilityOf_3),
    ok_F (ok_iload hM 4 dX2_utilityOf_5),
    ok_bipush hM dX2_utilityOf_7 rfl,
    ok_icmp_ge hM 39 dX2_utilityOf_9 (by decide),
    ok_iload hM 4 dX2_utilityOf_12,
    ok_iload_n hM 2 dX2_utilityOf_14 rfl,
    ok_icmp_ge hM 39 dX2_utilityOf_15 (by decide),
    ok_iload_n hM 3 dX2_utilityOf_18 rfl,
    ok_aload_n hM 0 dX2_utilityOf_19 rfl,
    ok_get (C := RX2) (T := TX2) (Nf := 2) hM (fun _ h => List.mem_cons_of_mem _ (List.mem_append_right _ h)) rfl 1 (by decide) (List.mem_of_getElem? (i := 1) rfl) rfl dX2_utilityOf_20,
    ok_iload_n hM 1 dX2_utilityOf_23 rfl,
    ok_bipush hM dX2_utilityOf_24 rfl,
    ok_imul hM dX2_utilityOf_26,
    ok_iload hM 4 dX2_utilityOf_27,
    ok_iadd hM dX2_utilityOf_29,
    ok_iald hM dX2_utilityOf_30,
    ok_iadd hM dX2_utilityOf_31,
    ok_istore_n hM 3 dX2_utilityOf_32 rfl,
    ok_F (ok_iinc hM 4 dX2_utilityOf_33 rfl),
    ok_goto hM 5 dX2_utilityOf_36 (by decide),
    ok_F (ok_iload_n hM 3 dX2_utilityOf_39 rfl),
    ok_ret hM hE dX2_utilityOf_40,
    trivial⟩
set_option maxRecDepth 100000 in
theorem ctX2_utilityOf (l : Launch) : Ct l yX2_utilityOf wsX2_utilityOf rmX2_utilityOf 0 0 false sX2_utilityOf := by
  refine ct_of (own := RX2) (cc := cX2_utilityOf) (maxL := 5) (ret := (some .int)) (by decide) rfl rfl (by rintro _ _ _ ⟨x, y, t, w, ad, ga, rfl, rfl, rfl, ht, hw, rfl, hK⟩; exact Nat.le_of_ble_eq_true rfl) ?_
  intro X av es K hM hE hag hin hnL hsp
  obtain ⟨x, y, t, w, ad, ga, rfl, rfl, rfl, ht, hw, rfl, hK⟩ := hsp
  have hf := kX2_utilityOf hM hE hnL
  refine g_with (X := X) 5 [0, 1, 2, 3, 4] (fun μ vs es k n => ∃ i : Nat, μ = 8 - i ∧ i ≤ w ∧ vs = [.ref 0, .int (nI t), .int (nI w), .int (sumI (fun p => ga (t * 8 + p)) i), .int (nI i)] ∧ es = moE ad ga ∧ k = 0 ∧ n = 0) cut_nil (fun μ hc vs es k n hI => ?_) (fun hc => ?_)
  · obtain ⟨i, rfl, hi, rfl, rfl, rfl, rfl⟩ := hI
    refine g_go hf hc 5 ?_
    refine ⟨fun h => ?_, fun h => ?_⟩
    · have : i = w := by
        rw [nI_leI (by decide) (by omega)] at h
        omega
      subst this
      exact hK
    · rw [nI_leI (by decide) (by omega)] at h
      refine ⟨fun h2 => ?_, fun h2 => ?_⟩
      · have : i = w := by
          rw [nI_leI (by omega) (by omega)] at h2
          omega
        subst this
        exact hK
      · rw [nI_leI (by omega) (by omega)] at h2
        refine ⟨t * 8 + i, by rw [pk_mul, nI_add], by omega, ?_⟩
        exact ⟨8 - (i + 1), by omega, i + 1, rfl, by omega, by rw [nI_add]; rfl, rfl, rfl, rfl⟩
  · refine wr_ok hf hc 5 0 _ _ _ _ _ ?_
    exact ⟨8, 0, rfl, by omega, rfl, rfl, rfl, rfl⟩
def sX2_sumOfGains : gS := fun av es K => ∃ ad ga, av = [.ref 0] ∧ es = moE ad ga ∧ K (some (.int (sumI ga 32))) es
def rmX2_sumOfGains : Room := { frames := 0, cells := 0, slots := 0, locals := 0 }
def pX2_sumOfGains (K : gK) : List (Nat × gO) := [(0, oConst (nI 0)), (1, oF (oIStore 3 1)), (2, oConst (nI 0)), (3, oF (oIStore 3 2)), (4, oF (oILoad 2)), (5, oALoad 0), (6, oGet 2 1), (9, oALen), (10, oICmp_ge 28), (13, oILoad 1), (14, oALoad 0), (15, oGet 2 1), (18, oILoad 2), (19, oIALd 0), (20, oAdd), (21, oIStore 3 1), (22, oF (oIInc 3 2 (nI 1))), (25, oGoto 4), (28, oF (oILoad 1)), (29, oRet K 0 0)]
set_option maxRecDepth 100000 in
theorem kX2_sumOfGains {X : gX} {l : Launch} (hM : gM X l cX2_sumOfGains RX2 wsX2_sumOfGains rmX2_sumOfGains) {K : gK} (hE : gR X K 0 0 (some .int)) (hnL : X.2.2.2.2.2.2.2.2.2.2.2.2.2.2.2.2 = 3) : okL X (pX2_sumOfGains K) := by
  obtain ⟨p, l1, e, R, s, m, args, below, meth, c, D, cA, A, ag, ad0, Q, nL⟩ := X
  cases hnL
  refine ⟨ok_iconst hM dX2_sumOfGains_0 rfl,
    ok_F (ok_istore_n hM 1 dX2_sumOfGains_1 rfl),
    ok_iconst hM dX2_sumOfGains_2 rfl,
    ok_F (ok_istore_n hM 2 dX2_sumOfGains_3 rfl),
    ok_F (ok_iload_n hM 2 dX2_sumOfGains_4 rfl),
    ok_aload_n hM 0 dX2_sumOfGains_5 rfl,
    ok_get (C := RX2) (T := TX2) (Nf := 2) hM (fun _ h => List.mem_cons_of_mem _ (List.mem_append_right _ h)) rfl 1 (by decide) (List.mem_of_getElem? (i := 1) rfl) rfl dX2_sumOfGains_6,
    ok_alen hM dX2_sumOfGains_9,
    ok_icmp_ge hM 28 dX2_sumOfGains_10 (by decide),
    ok_iload_n hM 1 dX2_sumOfGains_13 rfl,
    ok_aload_n hM 0 dX2_sumOfGains_14 rfl,
    ok_get (C := RX2) (T := TX2) (Nf := 2) hM (fun _ h => List.mem_cons_of_mem _ (List.mem_append_right _ h)) rfl 1 (by decide) (List.mem_of_getElem? (i := 1) rfl) rfl dX2_sumOfGains_15,
    ok_iload_n hM 2 dX2_sumOfGains_18 rfl,
    ok_iald hM dX2_sumOfGains_19,
    ok_iadd hM dX2_sumOfGains_20,
    ok_istore_n hM 1 dX2_sumOfGains_21 rfl,
    ok_F (ok_iinc hM 2 dX2_sumOfGains_22 rfl),
    ok_goto hM 4 dX2_sumOfGains_25 (by decide),
    ok_F (ok_iload_n hM 1 dX2_sumOfGains_28 rfl),
    ok_ret hM hE dX2_sumOfGains_29,
    trivial⟩
set_option maxRecDepth 100000 in
theorem ctX2_sumOfGains (l : Launch) : Ct l yX2_sumOfGains wsX2_sumOfGains rmX2_sumOfGains 0 0 false sX2_sumOfGains := by
  refine ct_of (own := RX2) (cc := cX2_sumOfGains) (maxL := 3) (ret := (some .int)) (by decide) rfl rfl (by rintro _ _ _ ⟨ad, ga, rfl, rfl, hK⟩; exact Nat.le_of_ble_eq_true rfl) ?_
  intro X av es K hM hE hag hin hnL hsp
  obtain ⟨ad, ga, rfl, rfl, hK⟩ := hsp
  have hf := kX2_sumOfGains hM hE hnL
  refine g_with (X := X) 4 [0, 1, 2] (fun μ vs es k n => ∃ i : Nat, μ = 32 - i ∧ i ≤ 32 ∧ vs = [.ref 0, .int (sumI ga i), .int (nI i)] ∧ es = moE ad ga ∧ k = 0 ∧ n = 0) cut_nil (fun μ hc vs es k n hI => ?_) (fun hc => ?_)
  · obtain ⟨i, rfl, hi, rfl, rfl, rfl, rfl⟩ := hI
    refine g_go hf hc 5 ?_
    refine ⟨fun h => ?_, fun h => ?_⟩
    · have : i = 32 := by
        rw [nI_leI (by decide) (by omega)] at h
        omega
      subst this
      exact hK
    · rw [nI_leI (by decide) (by omega)] at h
      refine ⟨i, rfl, by omega, ?_⟩
      exact ⟨32 - (i + 1), by omega, i + 1, rfl, by omega, by rw [nI_add]; rfl, rfl, rfl, rfl⟩
  · refine wr_ok hf hc 5 0 _ _ _ _ _ ?_
    exact ⟨32, 0, rfl, by omega, rfl, rfl, rfl, rfl⟩
def hlv (ga : Nat → Int32) : Nat → Int32 := fun j => ga j / nI 2
def sX2_halve : gS := fun av es K => ∃ ad ga, av = [.ref 0] ∧ es = moE ad ga ∧ K none (moE ad (hlv ga))
def rmX2_halve : Room := { frames := 0, cells := 0, slots := 0, locals := 0 }
def pX2_halve (K : gK) : List (Nat × gO) := [(0, oConst (nI 0)), (1, oF (oIStore 2 1)), (2, oF (oILoad 1)), (3, oALoad 0), (4, oGet 2 1), (7, oALen), (8, oICmp_ge 27), (11, oALoad 0), (12, oGet 2 1), (15, oILoad 1), (16, oDup2), (17, oIALd 0), (18, oConst (nI 2)), (19, oDiv), (20, oIASt), (21, oF (oIInc 2 1 (nI 1))), (24, oGoto 2), (27, oF (oRetV K 0 0))]
set_option maxRecDepth 100000 in
theorem kX2_halve {X : gX} {l : Launch} (hM : gM X l cX2_halve RX2 wsX2_halve rmX2_halve) {K : gK} (hE : gR X K 0 0 none) (hnL : X.2.2.2.2.2.2.2.2.2.2.2.2.2.2.2.2 = 2) : okL X (pX2_halve K) := by
  obtain ⟨p, l1, e, R, s, m, args, below, meth, c, D, cA, A, ag, ad0, Q, nL⟩ := X
  cases hnL
  refine ⟨ok_iconst hM dX2_halve_0 rfl,
    ok_F (ok_istore_n hM 1 dX2_halve_1 rfl),
    ok_F (ok_iload_n hM 1 dX2_halve_2 rfl),
    ok_aload_n hM 0 dX2_halve_3 rfl,
    ok_get (C := RX2) (T := TX2) (Nf := 2) hM (fun _ h => List.mem_cons_of_mem _ (List.mem_append_right _ h)) rfl 1 (by decide) (List.mem_of_getElem? (i := 1) rfl) rfl dX2_halve_4,
    ok_alen hM dX2_halve_7,
    ok_icmp_ge hM 27 dX2_halve_8 (by decide),
    ok_aload_n hM 0 dX2_halve_11 rfl,
    ok_get (C := RX2) (T := TX2) (Nf := 2) hM (fun _ h => List.mem_cons_of_mem _ (List.mem_append_right _ h)) rfl 1 (by decide) (List.mem_of_getElem? (i := 1) rfl) rfl dX2_halve_12,
    ok_iload_n hM 1 dX2_halve_15 rfl,
    ok_dup2 hM dX2_halve_16,
    ok_iald hM dX2_halve_17,
    ok_iconst hM dX2_halve_18 rfl,
    ok_idiv hM dX2_halve_19,
    ok_iast hM dX2_halve_20,
    ok_F (ok_iinc hM 1 dX2_halve_21 rfl),
    ok_goto hM 2 dX2_halve_24 (by decide),
    ok_F (ok_retV hM hE dX2_halve_27),
    trivial⟩
set_option maxRecDepth 100000 in
theorem ctX2_halve (l : Launch) : Ct l yX2_halve wsX2_halve rmX2_halve 0 0 false sX2_halve := by
  refine ct_of (own := RX2) (cc := cX2_halve) (maxL := 2) (ret := none) (by decide) rfl rfl (by rintro _ _ _ ⟨ad, ga, rfl, rfl, hK⟩; exact Nat.le_of_ble_eq_true rfl) ?_
  intro X av es K hM hE hag hin hnL hsp
  obtain ⟨ad, ga, rfl, rfl, hK⟩ := hsp
  have hf := kX2_halve hM (gR_eqv hE) hnL
  refine g_with (X := X) 2 [0, 1] (fun μ vs es k n => ∃ (i : Nat) (g : Nat → Int32), μ = 32 - i ∧ i ≤ 32 ∧ (∀ j, g j = if j < i then ga j / nI 2 else ga j) ∧ vs = [.ref 0, .int (nI i)] ∧ es = moE ad g ∧ k = 0 ∧ n = 0) cut_nil (fun μ hc vs es k n hI => ?_) (fun hc => ?_)
  · obtain ⟨i, g, rfl, hi, hg, rfl, rfl, rfl, rfl⟩ := hI
    refine g_go hf hc 5 ?_
    refine ⟨fun h => ?_, fun h => ?_⟩
    · have : i = 32 := by
        rw [nI_leI (by decide) (by omega)] at h
        omega
      subst this
      exact ⟨moE ad (hlv ga), ⟨rfl, ⟨rfl, rfl, fun _ _ => rfl⟩, ⟨rfl, rfl, fun j hj => by rw [hg, if_pos hj]; rfl⟩, trivial⟩, hK⟩
    · rw [nI_leI (by decide) (by omega)] at h
      refine ⟨i, rfl, by omega, ?_⟩
      refine ⟨by decide, ?_⟩
      refine ⟨i, rfl, by omega, ?_⟩
      refine ⟨32 - (i + 1), by omega, i + 1, upd g i (g i / nI 2), rfl, by omega, fun j => ?_, by rw [nI_add], rfl, rfl, rfl⟩
      unfold upd
      by_cases hj : j = i
      · subst hj
        rw [if_pos rfl, if_pos (by omega), hg, if_neg (by omega)]
      · rw [if_neg hj, hg]
        by_cases hj2 : j < i
        · rw [if_pos hj2, if_pos (by omega)]
        · rw [if_neg hj2, if_neg (by omega)]
  · refine wr_ok hf hc 5 0 _ _ _ _ _ ?_
    exact ⟨32, 0, ga, rfl, by omega, fun j => by simp, rfl, rfl, rfl, rfl⟩
def sX2_copyFrom : gS := fun av es K => ∃ ad ga ad' ga', av = [.ref 0, .ref 3] ∧ es = moA 0 ad ga ++ moA 3 ad' ga' ∧ K none (moA 0 ad' ga' ++ moA 3 ad' ga')
def rmX2_copyFrom : Room := { frames := 1, cells := 0, slots := 0, locals := 60 }
def pX2_copyFrom (K : gK) : List (Nat × gO) := [(0, oF (oALoad 1)), (1, oGet 2 0), (4, oConst (nI 0)), (5, oALoad 0), (6, oGet 2 0), (9, oConst (nI 0)), (10, oALoad 0), (11, oGet 2 0), (14, oALen), (15, oCopy 60), (18, oF (oALoad 1)), (19, oGet 2 1), (22, oConst (nI 0)), (23, oALoad 0), (24, oGet 2 1), (27, oConst (nI 0)), (28, oALoad 0), (29, oGet 2 1), (32, oALen), (33, oCopy 60), (36, oF (oRetV K 0 0))]
set_option maxRecDepth 100000 in
theorem kX2_copyFrom {X : gX} {l : Launch} (hM : gM X l cX2_copyFrom RX2 wsX2_copyFrom rmX2_copyFrom) {K : gK} (hE : gR X K 0 0 none) (hnL : X.2.2.2.2.2.2.2.2.2.2.2.2.2.2.2.2 = 2) : okL X (pX2_copyFrom K) := by
  obtain ⟨p, l1, e, R, s, m, args, below, meth, c, D, cA, A, ag, ad0, Q, nL⟩ := X
  cases hnL
  refine ⟨ok_F (ok_aload_n hM 1 dX2_copyFrom_0 rfl),
    ok_get (C := RX2) (T := TX2) (Nf := 2) hM (fun _ h => List.mem_cons_of_mem _ (List.mem_append_right _ h)) rfl 0 (by decide) (List.mem_of_getElem? (i := 1) rfl) rfl dX2_copyFrom_1,
    ok_iconst hM dX2_copyFrom_4 rfl,
    ok_aload_n hM 0 dX2_copyFrom_5 rfl,
    ok_get (C := RX2) (T := TX2) (Nf := 2) hM (fun _ h => List.mem_cons_of_mem _ (List.mem_append_right _ h)) rfl 0 (by decide) (List.mem_of_getElem? (i := 1) rfl) rfl dX2_copyFrom_6,
    ok_iconst hM dX2_copyFrom_9 rfl,
    ok_aload_n hM 0 dX2_copyFrom_10 rfl,
    ok_get (C := RX2) (T := TX2) (Nf := 2) hM (fun _ h => List.mem_cons_of_mem _ (List.mem_append_right _ h)) rfl 0 (by decide) (List.mem_of_getElem? (i := 1) rfl) rfl dX2_copyFrom_11,
    ok_alen hM dX2_copyFrom_14,
    ok_copy hM (List.mem_of_getElem? (i := 2) rfl) (List.mem_of_getElem? (i := 3) rfl) (List.mem_of_getElem? (i := 4) rfl) (List.mem_of_getElem? (i := 5) rfl) (by decide) (by decide +kernel) dX2_copyFrom_15,
    ok_F (ok_aload_n hM 1 dX2_copyFrom_18 rfl),
    ok_get (C := RX2) (T := TX2) (Nf := 2) hM (fun _ h => List.mem_cons_of_mem _ (List.mem_append_right _ h)) rfl 1 (by decide) (List.mem_of_getElem? (i := 6) rfl) rfl dX2_copyFrom_19,
    ok_iconst hM dX2_copyFrom_22 rfl,
    ok_aload_n hM 0 dX2_copyFrom_23 rfl,
    ok_get (C := RX2) (T := TX2) (Nf := 2) hM (fun _ h => List.mem_cons_of_mem _ (List.mem_append_right _ h)) rfl 1 (by decide) (List.mem_of_getElem? (i := 6) rfl) rfl dX2_copyFrom_24,
    ok_iconst hM dX2_copyFrom_27 rfl,
    ok_aload_n hM 0 dX2_copyFrom_28 rfl,
    ok_get (C := RX2) (T := TX2) (Nf := 2) hM (fun _ h => List.mem_cons_of_mem _ (List.mem_append_right _ h)) rfl 1 (by decide) (List.mem_of_getElem? (i := 6) rfl) rfl dX2_copyFrom_29,
    ok_alen hM dX2_copyFrom_32,
    ok_copy hM (List.mem_of_getElem? (i := 2) rfl) (List.mem_of_getElem? (i := 3) rfl) (List.mem_of_getElem? (i := 4) rfl) (List.mem_of_getElem? (i := 5) rfl) (by decide) (by decide +kernel) dX2_copyFrom_33,
    ok_F (ok_retV hM hE dX2_copyFrom_36),
    trivial⟩
set_option maxRecDepth 100000 in
theorem ctX2_copyFrom (l : Launch) : Ct l yX2_copyFrom wsX2_copyFrom rmX2_copyFrom 0 0 false sX2_copyFrom := by
  refine ct_of (own := RX2) (cc := cX2_copyFrom) (maxL := 2) (ret := none) (by decide) rfl rfl (by rintro _ _ _ ⟨ad, ga, ad', ga', rfl, rfl, hK⟩; exact Nat.le_of_ble_eq_true rfl) ?_
  intro X av es K hM hE hag hin hnL hsp
  obtain ⟨ad, ga, ad', ga', rfl, rfl, hK⟩ := hsp
  have hf := kX2_copyFrom hM (gR_eqv hE) hnL
  refine wr_ok hf cut_nil 5 0 _ _ _ _ _ ?_
  refine ⟨64, rfl, rfl, rfl, by omega, by omega, ?_⟩
  refine ⟨32, rfl, rfl, rfl, by omega, by omega, ?_⟩
  exact ⟨moA 0 ad' ga' ++ moA 3 ad' ga', ⟨rfl, ⟨rfl, rfl, fun _ h => cpy0 h⟩, ⟨rfl, rfl, fun _ h => cpy0 h⟩, rfl, ⟨rfl, rfl, fun _ _ => rfl⟩, ⟨rfl, rfl, fun _ _ => rfl⟩, trivial⟩, hK⟩
-- note
def lastm (p : Nat → Bool) : Nat → Nat
  | 0 => 7
  | n + 1 => if p n = true then n else lastm p n
theorem lastm_le (p : Nat → Bool) : ∀ {n : Nat}, n ≤ 8 → lastm p n ≤ 7
  | 0, _ => Nat.le_refl _
  | n + 1, h => by
    unfold lastm
    split
    · omega
    · exact lastm_le p (by omega)
def nGa (ad ga : Nat → Int32) (t s a : Nat) : Nat → Int32 := fun j => if 8 * t ≤ j ∧ j < 8 * t + 8 ∧ ad (s + (j - 8 * t)) = nI a then ga j + nI 1 else ga j
def nL (ad : Nat → Int32) (s a : Nat) : Nat := lastm (fun p => decide (ad (s + p) = nI a)) 8
def nAd (ad : Nat → Int32) (s a : Nat) : Nat → Int32 := fun j => if j = s then nI a else if s < j ∧ j ≤ s + nL ad s a then ad (j - 1) else ad j
def sX2_note : gS := fun av es K => ∃ x y t a ad ga, av = [.ref 0, .int x, .int y] ∧ x = nI t ∧ y = nI a ∧ t < 4 ∧ a < 256 ∧ es = moE ad ga ∧ K none (moE (if a % 2 = 0 then nAd ad ((t * 2 + a % 4 / 2) * 8) a else ad) (if a % 2 = 0 then nGa ad ga t ((t * 2 + a % 4 / 2) * 8) a else ga))
def rmX2_note : Room := { frames := 1, cells := 0, slots := 0, locals := 21 }
def pX2_note (K : gK) : List (Nat × gO) := [(0, oF (oILoad 2)), (1, oConst (nI 4)), (2, oRem), (3, oIStore 7 3), (4, oF (oILoad 3)), (5, oCallS 0 0 1 [] sX6_isSampled), (8, oF (oIf_ne 12)), (11, oRetV K 0 0), (12, oILoad 1), (13, oILoad 3), (14, oCallS 0 0 2 [] sX6_listStart), (17, oF (oIStore 7 4)), (19, oConst (nI 7)), (21, oF (oIStore 7 5)), (23, oConst (nI 0)), (24, oF (oIStore 7 6)), (26, oF (oILoad 6)), (28, oConst (nI 8)), (30, oICmp_ge 73), (33, oALoad 0), (34, oGet 2 0), (37, oILoad 4), (39, oILoad 6), (41, oAdd), (42, oIALd 0), (43, oILoad 2), (44, oICmp_ne 67), (47, oALoad 0), (48, oGet 2 1), (51, oILoad 1), (52, oConst (nI 8)), (54, oMul), (55, oILoad 6), (57, oAdd), (58, oDup2), (59, oIALd 0), (60, oConst (nI 1)), (61, oAdd), (62, oIASt), (63, oF (oILoad 6)), (65, oIStore 7 5), (67, oF (oIInc 7 6 (nI 1))), (70, oGoto 26), (73, oF (oILoad 5)), (75, oIStore 7 6), (77, oF (oILoad 6)), (79, oIf_le 110), (82, oALoad 0), (83, oGet 2 0), (86, oILoad 4), (88, oILoad 6), (90, oAdd), (91, oALoad 0), (92, oGet 2 0), (95, oILoad 4), (97, oILoad 6), (99, oAdd), (100, oConst (nI 1)), (101, oSub), (102, oIALd 0), (103, oIASt), (104, oF (oIInc 7 6 (-1))), (107, oGoto 77), (110, oF (oALoad 0)), (111, oGet 2 0), (114, oILoad 4), (116, oILoad 2), (117, oIASt), (118, oF (oRetV K 0 0))]
set_option maxRecDepth 100000 in
theorem kX2_note {X : gX} {l : Launch} (hM : gM X l cX2_note RX2 wsX2_note rmX2_note) {K : gK} (hE : gR X K 0 0 none) (hnL : X.2.2.2.2.2.2.2.2.2.2.2.2.2.2.2.2 = 7) : okL X (pX2_note K) := by
  obtain ⟨p, l1, e, R, s, m, args, below, meth, c, D, cA, A, ag, ad0, Q, nL⟩ := X
  cases hnL
  refine ⟨ok_F (ok_iload_n hM 2 dX2_note_0 rfl),
    ok_iconst hM dX2_note_1 rfl,
    ok_irem hM dX2_note_2,
    ok_istore_n hM 3 dX2_note_3 rfl,
    ok_F (ok_iload_n hM 3 dX2_note_4 rfl),
    ok_callSN hM [] (ctX6_isSampled l) rfl gX2_note_X6_isSampled_n24 rfl rfl rfl (by decide) (List.mem_of_getElem? (i := 3) rfl) (List.mem_of_getElem? (i := 4) rfl) (by decide +kernel) (by decide) dX2_note_5,
    ok_F (ok_if_ne hM 12 dX2_note_8 (by decide)),
    ok_retV hM hE dX2_note_11,
    ok_iload_n hM 1 dX2_note_12 rfl,
    ok_iload_n hM 3 dX2_note_13 rfl,
    ok_callSN hM [] (ctX6_listStart l) rfl gX2_note_X6_listStart_n28 rfl rfl rfl (by decide) (List.mem_of_getElem? (i := 6) rfl) (List.mem_of_getElem? (i := 4) rfl) (by decide +kernel) (by decide) dX2_note_14,
    ok_F (ok_istore hM 4 dX2_note_17),
    ok_bipush hM dX2_note_19 rfl,
    ok_F (ok_istore hM 5 dX2_note_21),
    ok_iconst hM dX2_note_23 rfl,
    ok_F (ok_istore hM 6 dX2_note_24),
    ok_F (ok_iload hM 6 dX2_note_26),
    ok_bipush hM dX2_note_28 rfl,
    ok_icmp_ge hM 73 dX2_note_30 (by decide),
    ok_aload_n hM 0 dX2_note_33 rfl,
    ok_get (C := RX2) (T := TX2) (Nf := 2) hM (fun _ h => List.mem_cons_of_mem _ (List.mem_append_right _ h)) rfl 0 (by decide) (List.mem_of_getElem? (i := 1) rfl) rfl dX2_note_34,
    ok_iload hM 4 dX2_note_37,
    ok_iload hM 6 dX2_note_39,
    ok_iadd hM dX2_note_41,
    ok_iald hM dX2_note_42,
    ok_iload_n hM 2 dX2_note_43 rfl,
    ok_icmp_ne hM 67 dX2_note_44 (by decide),
    ok_aload_n hM 0 dX2_note_47 rfl,
    ok_get (C := RX2) (T := TX2) (Nf := 2) hM (fun _ h => List.mem_cons_of_mem _ (List.mem_append_right _ h)) rfl 1 (by decide) (List.mem_of_getElem? (i := 2) rfl) rfl dX2_note_48,
    ok_iload_n hM 1 dX2_note_51 rfl,
    ok_bipush hM dX2_note_52 rfl,
    ok_imul hM dX2_note_54,
    ok_iload hM 6 dX2_note_55,
    ok_iadd hM dX2_note_57,
    ok_dup2 hM dX2_note_58,
    ok_iald hM dX2_note_59,
    ok_iconst hM dX2_note_60 rfl,
    ok_iadd hM dX2_note_61,
    ok_iast hM dX2_note_62,
    ok_F (ok_iload hM 6 dX2_note_63),
    ok_istore hM 5 dX2_note_65,
    ok_F (ok_iinc hM 6 dX2_note_67 rfl),
    ok_goto hM 26 dX2_note_70 (by decide),
    ok_F (ok_iload hM 5 dX2_note_73),
    ok_istore hM 6 dX2_note_75,
    ok_F (ok_iload hM 6 dX2_note_77),
    ok_if_le hM 110 dX2_note_79 (by decide),
    ok_aload_n hM 0 dX2_note_82 rfl,
    ok_get (C := RX2) (T := TX2) (Nf := 2) hM (fun _ h => List.mem_cons_of_mem _ (List.mem_append_right _ h)) rfl 0 (by decide) (List.mem_of_getElem? (i := 1) rfl) rfl dX2_note_83,
    ok_iload hM 4 dX2_note_86,
    ok_iload hM 6 dX2_note_88,
    ok_iadd hM dX2_note_90,
    ok_aload_n hM 0 dX2_note_91 rfl,
    ok_get (C := RX2) (T := TX2) (Nf := 2) hM (fun _ h => List.mem_cons_of_mem _ (List.mem_append_right _ h)) rfl 0 (by decide) (List.mem_of_getElem? (i := 1) rfl) rfl dX2_note_92,
    ok_iload hM 4 dX2_note_95,
    ok_iload hM 6 dX2_note_97,
    ok_iadd hM dX2_note_99,
    ok_iconst hM dX2_note_100 rfl,
    ok_isub hM dX2_note_101,
    ok_iald hM dX2_note_102,
    ok_iast hM dX2_note_103,
    ok_F (ok_iinc hM 6 dX2_note_104 rfl),
    ok_goto hM 77 dX2_note_107 (by decide),
    ok_F (ok_aload_n hM 0 dX2_note_110 rfl),
    ok_get (C := RX2) (T := TX2) (Nf := 2) hM (fun _ h => List.mem_cons_of_mem _ (List.mem_append_right _ h)) rfl 0 (by decide) (List.mem_of_getElem? (i := 1) rfl) rfl dX2_note_111,
    ok_iload hM 4 dX2_note_114,
    ok_iload_n hM 2 dX2_note_116 rfl,
    ok_iast hM dX2_note_117,
    ok_F (ok_retV hM hE dX2_note_118),
    trivial⟩
set_option maxRecDepth 100000 in
theorem ctX2_note (l : Launch) : Ct l yX2_note wsX2_note rmX2_note 0 0 false sX2_note := by
  refine ct_of (own := RX2) (cc := cX2_note) (maxL := 7) (ret := none) (by decide) rfl rfl (by rintro _ _ _ ⟨x, y, t, a, ad, ga, rfl, rfl, rfl, ht, ha, rfl, hK⟩; exact Nat.le_of_ble_eq_true rfl) ?_
  intro X av es K hM hE hag hin hnL hsp
  obtain ⟨x, y, t, a, ad, ga, rfl, rfl, rfl, ht, ha, rfl, hK⟩ := hsp
  have hf := kX2_note hM (gR_eqv hE) hnL
  have hs : (t * 2 + a % 4 / 2) * 8 + 8 ≤ 64 := by omega
  generalize hsd : (t * 2 + a % 4 / 2) * 8 = sr at hK hs
  have hl7 : nL ad sr a ≤ 7 := lastm_le _ (by omega)
  refine g_with (X := X) 77 [0, 1, 2, 4, 6] (fun μ vs es k n => ∃ (i : Nat) (ad' : Nat → Int32), μ = i + 1 ∧ i ≤ nL ad sr a ∧ a % 2 = 0 ∧ (∀ j, ad' j = if sr + i < j ∧ j ≤ sr + nL ad sr a then ad (j - 1) else ad j) ∧ vs = [.ref 0, .int (nI t), .int (nI a), .int (nI sr), .int (nI i)] ∧ eqL es (moE ad' (nGa ad ga t sr a)) ∧ k = 0 ∧ n = 0) cut_nil (fun μ hc vs es k n hI => ?_) (fun hc2 => ?_)
  · obtain ⟨i, ad', rfl, hi, hev, had, rfl, he, rfl, rfl⟩ := hI
    refine G_eqv he ?_
    refine g_go hf hc 5 ?_
    refine ⟨fun h => ?_, fun h => ?_⟩
    · have h0 : i = 0 := by
        rcases Nat.eq_zero_or_pos i with q | q
        · exact q
        · exact absurd h (nI_nle q (by omega))
      subst h0
      rw [if_pos hev, if_pos hev] at hK
      refine ⟨sr, rfl, by omega, ?_⟩
      refine ⟨moE (nAd ad sr a) (nGa ad ga t sr a), ⟨rfl, ⟨rfl, rfl, fun j hj => ?_⟩, ⟨rfl, rfl, fun _ _ => rfl⟩, trivial⟩, hK⟩
      simp only [upd, nAd, had, Nat.add_zero]
    · have h0 : 0 < i := by
        rcases Nat.eq_zero_or_pos i with q | q
        · subst q; exact absurd (by decide) h
        · exact q
      have e1 : nI sr + nI i - nI 1 = nI (sr + i - 1) := by rw [nI_add, pk_sub (by omega)]
      refine ⟨sr + i - 1, e1, by omega, ?_⟩
      refine ⟨sr + i, nI_add _ _, by omega, ?_⟩
      refine ⟨i - 1 + 1, by omega, i - 1, upd ad' (sr + i) (ad' (sr + i - 1)), rfl, by omega, hev, fun j => ?_, ?_, eqL_rfl _, rfl, rfl⟩
      · unfold upd
        by_cases hj : j = sr + i
        · subst hj
          rw [if_pos rfl, if_pos ⟨by omega, by omega⟩, had, if_neg (by omega)]
        · rw [if_neg hj, had]
          by_cases hj2 : sr + i < j ∧ j ≤ sr + nL ad sr a
          · rw [if_pos hj2, if_pos ⟨by omega, hj2.2⟩]
          · rw [if_neg hj2, if_neg (by omega)]
      · have e2 : nI i + (-1) = nI (i - 1) := sb_m1 h0
        rw [e2]
  · refine g_with (X := X) 26 [0, 1, 2, 4, 5, 6] (fun μ vs es k n => ∃ (i : Nat) (g : Nat → Int32), μ = 8 - i ∧ i ≤ 8 ∧ a % 2 = 0 ∧ (∀ j, g j = if 8 * t ≤ j ∧ j < 8 * t + i ∧ ad (sr + (j - 8 * t)) = nI a then ga j + nI 1 else ga j) ∧ vs = [.ref 0, .int (nI t), .int (nI a), .int (nI sr), .int (nI (lastm (fun p => decide (ad (sr + p) = nI a)) i)), .int (nI i)] ∧ es = moE ad g ∧ k = 0 ∧ n = 0) hc2 (fun μ hc vs es k n hI => ?_) (fun hc => ?_)
    · obtain ⟨i, g, rfl, hi, hev, hg, rfl, rfl, rfl, rfl⟩ := hI
      refine g_go hf hc 5 ?_
      refine ⟨fun h => ?_, fun h => ?_⟩
      · have h8 : i = 8 := by
          rw [nI_leI (by decide) (by omega)] at h
          omega
        subst h8
        refine ⟨nL ad sr a + 1, nL ad sr a, ad, rfl, Nat.le_refl _, hev, fun j => by rw [if_neg (by omega)], rfl, ⟨rfl, ⟨rfl, rfl, fun _ _ => rfl⟩, ⟨rfl, rfl, fun j _ => ?_⟩, trivial⟩, rfl, rfl⟩
        rw [hg]
        rfl
      · rw [nI_leI (by decide) (by omega)] at h
        refine ⟨sr + i, nI_add _ _, by omega, ?_⟩
        refine ⟨fun h2 => ?_, fun h2 => ?_⟩
        · refine ⟨8 - (i + 1), by omega, i + 1, g, rfl, by omega, hev, fun j => ?_, by rw [nI_add]; simp only [lastm, decide_eq_false h2, Bool.false_eq_true, if_false], rfl, rfl, rfl⟩
          rw [hg]
          by_cases hj : j = 8 * t + i
          · subst hj
            have e3 : sr + (8 * t + i - 8 * t) = sr + i := by omega
            rw [if_neg (by omega), if_neg (by rw [e3]; exact fun q => h2 q.2.2)]
          · have : (8 * t ≤ j ∧ j < 8 * t + i ∧ ad (sr + (j - 8 * t)) = nI a) ↔ (8 * t ≤ j ∧ j < 8 * t + (i + 1) ∧ ad (sr + (j - 8 * t)) = nI a) := ⟨fun q => ⟨q.1, by omega, q.2.2⟩, fun q => ⟨q.1, by omega, q.2.2⟩⟩
            simp only [this]
        · have e4 : nI t * nI 8 + nI i = nI (8 * t + i) := by rw [pk_mul, nI_add, Nat.mul_comm]
          refine ⟨8 * t + i, e4, by omega, ?_⟩
          refine ⟨8 * t + i, e4, by omega, ?_⟩
          refine ⟨8 - (i + 1), by omega, i + 1, upd g (8 * t + i) (g (8 * t + i) + nI 1), rfl, by omega, hev, fun j => ?_, by rw [nI_add]; simp only [lastm, decide_eq_true h2, if_true], rfl, rfl, rfl⟩
          unfold upd
          by_cases hj : j = 8 * t + i
          · subst hj
            have e3 : sr + (8 * t + i - 8 * t) = sr + i := by omega
            rw [if_pos rfl, if_pos ⟨by omega, by omega, by rw [e3]; exact h2⟩, hg, if_neg (by omega)]
          · rw [if_neg hj, hg]
            have : (8 * t ≤ j ∧ j < 8 * t + i ∧ ad (sr + (j - 8 * t)) = nI a) ↔ (8 * t ≤ j ∧ j < 8 * t + (i + 1) ∧ ad (sr + (j - 8 * t)) = nI a) := ⟨fun q => ⟨q.1, by omega, q.2.2⟩, fun q => ⟨q.1, by omega, q.2.2⟩⟩
            simp only [this]
    · refine wr_ok hf hc 5 0 _ _ _ _ _ ?_
      refine ⟨by decide, ?_⟩
      refine ⟨_, rfl, rfl, ?_⟩
      rw [rem4 ha]
      have hd0 : (nI (a % 4) = nI 0) ↔ a % 4 = 0 := nI_eq (by omega) (by decide)
      have hd2 : (nI (a % 4) = nI 2) ↔ a % 4 = 2 := nI_eq (by omega) (by decide)
      refine ⟨fun h => ?_, fun h => ?_⟩
      · refine ⟨_, _, t, a % 4, rfl, rfl, rfl, ht, by omega, rfl, ?_⟩
        have hev : a % 2 = 0 := by
          by_cases q : a % 2 = 0
          · exact q
          · exfalso
            apply h
            rw [bI_0, decide_eq_false (by rw [hd0]; omega), decide_eq_false (by rw [hd2]; omega)]
            rfl
        rw [hsd]
        exact ⟨8, 0, ga, rfl, by omega, hev, fun j => by rw [if_neg (by omega)], rfl, rfl, rfl, rfl⟩
      · have hev : ¬ a % 2 = 0 := by
          intro q
          rw [bI_0] at h
          have : a % 4 = 0 ∨ a % 4 = 2 := by omega
          rcases this with q | q
          · rw [decide_eq_true (hd0.mpr q)] at h
            cases h
          · rw [decide_eq_true (hd2.mpr q), Bool.or_true] at h
            cases h
        rw [if_neg hev, if_neg hev] at hK
        exact ⟨moE ad ga, eqL_rfl _, hK⟩
end MM
end
section
/-! Targets: contracts. -/
section MT
abbrev tgA (o : Nat) (wy : Nat → Int32) : List gE := [.inr (5, [.ref (o + 1)]), .inl (0, 4, .inl wy)]
def nF (W : Nat → Nat) : Nat → Int32 := fun t => nI (W t)
def lowI (W : Nat → Nat) : Nat → Nat
  | 0 => 0
  | n + 1 => if W (n + 1) < W (lowI W n) then n + 1 else lowI W n
theorem lowI_le (W : Nat → Nat) : ∀ n, lowI W n ≤ n
  | 0 => Nat.le_refl _
  | n + 1 => by
    have := lowI_le W n
    unfold lowI
    split <;> omega
theorem lowI_min (W : Nat → Nat) : ∀ n j, j ≤ n → W (lowI W n) ≤ W j
  | 0, j, h => by
    have : j = 0 := by omega
    subst this
    exact Nat.le_refl _
  | n + 1, j, h => by
    unfold lowI
    by_cases hj : j = n + 1
    · subst hj
      split <;> omega
    · have := lowI_min W n j (by omega)
      split <;> omega
def sX5_lowest : gS := fun av es K => ∃ W, av = [.ref 0] ∧ (∀ t, t < 4 → W t ≤ 100) ∧ es = tgA 0 (nF W) ∧ K (some (.int (nI (lowI W 3)))) es
def rmX5_lowest : Room := { frames := 0, cells := 0, slots := 0, locals := 0 }
def pX5_lowest (K : gK) : List (Nat × gO) := [(0, oConst (nI 0)), (1, oF (oIStore 3 1)), (2, oConst (nI 1)), (3, oF (oIStore 3 2)), (4, oF (oILoad 2)), (5, oConst (nI 4)), (6, oICmp_ge 32), (9, oALoad 0), (10, oGet 5 0), (13, oILoad 2), (14, oIALd 0), (15, oALoad 0), (16, oGet 5 0), (19, oILoad 1), (20, oIALd 0), (21, oICmp_ge 26), (24, oILoad 2), (25, oIStore 3 1), (26, oF (oIInc 3 2 (nI 1))), (29, oGoto 4), (32, oF (oILoad 1)), (33, oRet K 0 0)]
set_option maxRecDepth 100000 in
theorem kX5_lowest {X : gX} {l : Launch} (hM : gM X l cX5_lowest RX5 wsX5_lowest rmX5_lowest) {K : gK} (hE : gR X K 0 0 (some .int)) (hnL : X.2.2.2.2.2.2.2.2.2.2.2.2.2.2.2.2 = 3) : okL X (pX5_lowest K) := by
  obtain ⟨p, l1, e, R, s, m, args, below, meth, c, D, cA, A, ag, ad0, Q, nL⟩ := X
  cases hnL
  refine ⟨ok_iconst hM dX5_lowest_0 rfl,
    ok_F (ok_istore_n hM 1 dX5_lowest_1 rfl),
    ok_iconst hM dX5_lowest_2 rfl,
    ok_F (ok_istore_n hM 2 dX5_lowest_3 rfl),
    ok_F (ok_iload_n hM 2 dX5_lowest_4 rfl),
    ok_iconst hM dX5_lowest_5 rfl,
    ok_icmp_ge hM 32 dX5_lowest_6 (by decide),
    ok_aload_n hM 0 dX5_lowest_9 rfl,
    ok_get (C := RX5) (T := TX5) (Nf := 1) hM (fun _ h => List.mem_cons_of_mem _ (List.mem_append_right _ h)) rfl 0 (by decide) (List.mem_of_getElem? (i := 1) rfl) rfl dX5_lowest_10,
    ok_iload_n hM 2 dX5_lowest_13 rfl,
    ok_iald hM dX5_lowest_14,
    ok_aload_n hM 0 dX5_lowest_15 rfl,
    ok_get (C := RX5) (T := TX5) (Nf := 1) hM (fun _ h => List.mem_cons_of_mem _ (List.mem_append_right _ h)) rfl 0 (by decide) (List.mem_of_getElem? (i := 1) rfl) rfl dX5_lowest_16,
    ok_iload_n hM 1 dX5_lowest_19 rfl,
    ok_iald hM dX5_lowest_20,
    ok_icmp_ge hM 26 dX5_lowest_21 (by decide),
    ok_iload_n hM 2 dX5_lowest_24 rfl,
    ok_istore_n hM 1 dX5_lowest_25 rfl,
    ok_F (ok_iinc hM 2 dX5_lowest_26 rfl),
    ok_goto hM 4 dX5_lowest_29 (by decide),
    ok_F (ok_iload_n hM 1 dX5_lowest_32 rfl),
    ok_ret hM hE dX5_lowest_33,
    trivial⟩
set_option maxRecDepth 100000 in
theorem ctX5_lowest (l : Launch) : Ct l yX5_lowest wsX5_lowest rmX5_lowest 0 0 false sX5_lowest := by
  refine ct_of (own := RX5) (cc := cX5_lowest) (maxL := 3) (ret := (some .int)) (by decide) rfl rfl (by rintro _ _ _ ⟨W, rfl, hW, rfl, hK⟩; exact Nat.le_of_ble_eq_true rfl) ?_
  intro X av es K hM hE hag hin hnL hsp
  obtain ⟨W, rfl, hW, rfl, hK⟩ := hsp
  have hf := kX5_lowest hM hE hnL
  refine g_with (X := X) 4 [0, 1, 2] (fun μ vs es k n => ∃ i : Nat, μ = 4 - i ∧ 1 ≤ i ∧ i ≤ 4 ∧ vs = [.ref 0, .int (nI (lowI W (i - 1))), .int (nI i)] ∧ es = tgA 0 (nF W) ∧ k = 0 ∧ n = 0) cut_nil (fun μ hc vs es k n hI => ?_) (fun hc => ?_)
  · obtain ⟨i, rfl, hi1, hi, rfl, rfl, rfl, rfl⟩ := hI
    refine g_go hf hc 5 ?_
    refine ⟨fun h => ?_, fun h => ?_⟩
    · have : i = 4 := by
        rw [nI_leI (by decide) (by omega)] at h
        omega
      subst this
      exact hK
    · rw [nI_leI (by decide) (by omega)] at h
      have hb := lowI_le W (i - 1)
      have h1 := hW i (by omega)
      have h2 := hW (lowI W (i - 1)) (by omega)
      obtain ⟨d, rfl⟩ : ∃ d, i = d + 1 := ⟨i - 1, by omega⟩
      simp only [Nat.add_sub_cancel] at hb h2 ⊢
      refine ⟨d + 1, rfl, by omega, ?_⟩
      refine ⟨lowI W d, rfl, by omega, ?_⟩
      refine ⟨fun h3 => ?_, fun h3 => ?_⟩
      · have h4 : ¬ W (d + 1) < W (lowI W d) := by
          have h5 : nI (W (lowI W d)) ≤ nI (W (d + 1)) := h3
          rw [nI_leI (by omega) (by omega)] at h5
          omega
        exact ⟨4 - (d + 1 + 1), by omega, d + 1 + 1, rfl, by omega, by omega, by rw [nI_add]; simp only [Nat.add_sub_cancel, lowI, if_neg h4], rfl, rfl, rfl⟩
      · have h4 : W (d + 1) < W (lowI W d) := by
          have h5 : ¬ nI (W (lowI W d)) ≤ nI (W (d + 1)) := h3
          rw [nI_leI (by omega) (by omega)] at h5
          omega
        exact ⟨4 - (d + 1 + 1), by omega, d + 1 + 1, rfl, by omega, by omega, by rw [nI_add]; simp only [Nat.add_sub_cancel, lowI, if_pos h4], rfl, rfl, rfl⟩
  · refine wr_ok hf hc 5 0 _ _ _ _ _ ?_
    exact ⟨3, 1, rfl, by omega, by omega, rfl, rfl, rfl, rfl⟩
abbrev gB : Type := Option Nat × Nat × Int32
def gTry (t e : Nat) (g : Int32) (b : gB) : gB := if b.2.2 * nI e < g * nI b.2.1 then (some t, e, g) else b
def gIn (ga : Nat → Int32) (t w r : Nat) : Nat → Nat → Int32 → gB → gB
  | 0, _, _, b => b
  | f + 1, e, g, b => if e ≤ r ∧ w + e ≤ 8 then gIn ga t w r f (e + 1) (g + ga (t * 8 + w + e - 1)) (gTry t e (g + ga (t * 8 + w + e - 1)) b) else b
def gOut (ga : Nat → Int32) (W : Nat → Nat) (r : Nat) : Nat → Nat → gB → gB
  | 0, _, b => b
  | f + 1, t, b => gOut ga W r f (t + 1) (gIn ga t (W t) r 8 1 (nI 0) b)
def gBest (ga : Nat → Int32) (W : Nat → Nat) (r : Nat) : gB := gOut ga W r 4 0 (none, 1, nI 0)
def gTen (W : Nat → Nat) (b : gB) : Nat := match b.1 with
  | none => lowI W 3
  | some p => p
def gNew (W : Nat → Nat) (t e : Nat) : Nat → Nat := fun j => if j = t then W j + e else W j
def gOK (W : Nat → Nat) (r : Nat) (b : gB) : Prop := 1 ≤ b.2.1 ∧ b.2.1 ≤ 8 ∧ (∀ p, b.1 = some p → p < 4 ∧ b.2.1 ≤ r ∧ W p + b.2.1 ≤ 8) ∧ (b.1 = none → b.2.1 = 1)
theorem gTry_ok {W : Nat → Nat} {r t e : Nat} {g : Int32} {b : gB} (h : gOK W r b) (ht : t < 4) (he1 : 1 ≤ e) (he : e ≤ r) (hw : W t + e ≤ 8) : gOK W r (gTry t e g b) := by
  unfold gTry
  split
  · exact ⟨he1, (by show e ≤ 8; omega), fun p hp => (by cases hp; exact ⟨ht, he, hw⟩), fun hp => (by cases hp)⟩
  · exact h
theorem gIn_ok {ga : Nat → Int32} {W : Nat → Nat} {r t : Nat} (ht : t < 4) : ∀ (f e : Nat) (g : Int32) (b : gB), 1 ≤ e → gOK W r b → gOK W r (gIn ga t (W t) r f e g b)
  | 0, _, _, _, _, h => h
  | f + 1, e, g, b, he, h => by
    unfold gIn
    split
    · rename_i hc
      exact gIn_ok ht f (e + 1) _ _ (by omega) (gTry_ok h ht he hc.1 hc.2)
    · exact h
theorem gOut_ok {ga : Nat → Int32} {W : Nat → Nat} {r : Nat} : ∀ (f t : Nat) (b : gB), t + f ≤ 4 → gOK W r b → gOK W r (gOut ga W r f t b)
  | 0, _, _, _, h => h
  | f + 1, t, b, ht, h => by
    unfold gOut
    exact gOut_ok f (t + 1) _ (by omega) (gIn_ok (by omega) 8 1 _ b (Nat.le_refl _) h)
theorem gBest_ok (ga : Nat → Int32) (W : Nat → Nat) (r : Nat) : gOK W r (gBest ga W r) := gOut_ok 4 0 _ (by omega) ⟨Nat.le_refl _, by decide, fun p hp => (by cases hp), fun _ => rfl⟩
theorem gNew_fun (W : Nat → Nat) (t e : Nat) : upd (nF W) t (nI (W t) + nI e) = nF (gNew W t e) := by
  funext j
  unfold upd nF gNew
  by_cases h : j = t
  · subst h
    rw [if_pos rfl, if_pos rfl, nI_add]
  · rw [if_neg h, if_neg h]
def sX5_growOne : gS := fun av es K => ∃ x r W ad ga, av = [.ref 0, .ref 2, .int x] ∧ x = nI r ∧ r ≤ 8 ∧ (∀ t, t < 4 → W t ≤ 8) ∧ es = tgA 0 (nF W) ++ moA 2 ad ga ∧ K (some (.int (nI (gBest ga W r).2.1))) (tgA 0 (nF (gNew W (gTen W (gBest ga W r)) (gBest ga W r).2.1)) ++ moA 2 ad ga)
def rmX5_growOne : Room := { frames := 1, cells := 0, slots := 0, locals := 22 }
def pX5_growOne (K : gK) : List (Nat × gO) := [(0, oConst (-1)), (1, oF (oIStore 9 3)), (2, oConst (nI 1)), (3, oF (oIStore 9 4)), (5, oConst (nI 0)), (6, oF (oIStore 9 5)), (8, oConst (nI 0)), (9, oF (oIStore 9 6)), (11, oF (oILoad 6)), (13, oConst (nI 4)), (14, oICmp_ge 108), (17, oConst (nI 0)), (18, oIStore 9 7), (20, oConst (nI 1)), (21, oF (oIStore 9 8)), (23, oF (oILoad 8)), (25, oILoad 2), (26, oICmp_gt 102), (29, oALoad 0), (30, oGet 5 0), (33, oILoad 6), (35, oIALd 0), (36, oILoad 8), (38, oAdd), (39, oConst (nI 8)), (41, oICmp_gt 102), (44, oILoad 7), (46, oALoad 1), (47, oGet 2 1), (50, oILoad 6), (52, oConst (nI 8)), (54, oMul), (55, oALoad 0), (56, oGet 5 0), (59, oILoad 6), (61, oIALd 0), (62, oAdd), (63, oILoad 8), (65, oAdd), (66, oConst (nI 1)), (67, oSub), (68, oIALd 0), (69, oAdd), (70, oIStore 9 7), (72, oF (oILoad 7)), (74, oILoad 4), (76, oMul), (77, oILoad 5), (79, oILoad 8), (81, oMul), (82, oICmp_le 96), (85, oILoad 6), (87, oIStore 9 3), (88, oF (oILoad 8)), (90, oIStore 9 4), (92, oF (oILoad 7)), (94, oIStore 9 5), (96, oF (oIInc 9 8 (nI 1))), (99, oGoto 23), (102, oF (oIInc 9 6 (nI 1))), (105, oGoto 11), (108, oF (oALoad 0)), (109, oGet 5 0), (112, oILoad 3), (113, oConst (-1)), (114, oICmp_ne 124), (117, oALoad 0), (118, oCallV 0 0 5 0 [0,1] sX5_lowest), (121, oGoto 125), (124, oF (oILoad 3)), (125, oDup2), (126, oIALd 0), (127, oILoad 4), (129, oAdd), (130, oIASt), (131, oF (oILoad 4)), (133, oRet K 0 0)]
set_option maxRecDepth 100000 in
theorem kX5_growOne {X : gX} {l : Launch} (hM : gM X l cX5_growOne RX5 wsX5_growOne rmX5_growOne) {K : gK} (hE : gR X K 0 0 (some .int)) (hnL : X.2.2.2.2.2.2.2.2.2.2.2.2.2.2.2.2 = 9) : okL X (pX5_growOne K) := by
  obtain ⟨p, l1, e, R, s, m, args, below, meth, c, D, cA, A, ag, ad0, Q, nL⟩ := X
  cases hnL
  refine ⟨ok_iconst hM dX5_growOne_0 rfl,
    ok_F (ok_istore_n hM 3 dX5_growOne_1 rfl),
    ok_iconst hM dX5_growOne_2 rfl,
    ok_F (ok_istore hM 4 dX5_growOne_3),
    ok_iconst hM dX5_growOne_5 rfl,
    ok_F (ok_istore hM 5 dX5_growOne_6),
    ok_iconst hM dX5_growOne_8 rfl,
    ok_F (ok_istore hM 6 dX5_growOne_9),
    ok_F (ok_iload hM 6 dX5_growOne_11),
    ok_iconst hM dX5_growOne_13 rfl,
    ok_icmp_ge hM 108 dX5_growOne_14 (by decide),
    ok_iconst hM dX5_growOne_17 rfl,
    ok_istore hM 7 dX5_growOne_18,
    ok_iconst hM dX5_growOne_20 rfl,
    ok_F (ok_istore hM 8 dX5_growOne_21),
    ok_F (ok_iload hM 8 dX5_growOne_23),
    ok_iload_n hM 2 dX5_growOne_25 rfl,
    ok_icmp_gt hM 102 dX5_growOne_26 (by decide),
    ok_aload_n hM 0 dX5_growOne_29 rfl,
    ok_get (C := RX5) (T := TX5) (Nf := 1) hM (fun _ h => List.mem_cons_of_mem _ (List.mem_append_left _ (List.mem_append_right _ h))) rfl 0 (by decide) (List.mem_of_getElem? (i := 1) rfl) rfl dX5_growOne_30,
    ok_iload hM 6 dX5_growOne_33,
    ok_iald hM dX5_growOne_35,
    ok_iload hM 8 dX5_growOne_36,
    ok_iadd hM dX5_growOne_38,
    ok_bipush hM dX5_growOne_39 rfl,
    ok_icmp_gt hM 102 dX5_growOne_41 (by decide),
    ok_iload hM 7 dX5_growOne_44,
    ok_aload_n hM 1 dX5_growOne_46 rfl,
    ok_get (C := RX2) (T := TX2) (Nf := 2) hM (fun _ h => List.mem_cons_of_mem _ (List.mem_append_right _ h)) rfl 1 (by decide) (List.mem_of_getElem? (i := 2) rfl) rfl dX5_growOne_47,
    ok_iload hM 6 dX5_growOne_50,
    ok_bipush hM dX5_growOne_52 rfl,
    ok_imul hM dX5_growOne_54,
    ok_aload_n hM 0 dX5_growOne_55 rfl,
    ok_get (C := RX5) (T := TX5) (Nf := 1) hM (fun _ h => List.mem_cons_of_mem _ (List.mem_append_left _ (List.mem_append_right _ h))) rfl 0 (by decide) (List.mem_of_getElem? (i := 1) rfl) rfl dX5_growOne_56,
    ok_iload hM 6 dX5_growOne_59,
    ok_iald hM dX5_growOne_61,
    ok_iadd hM dX5_growOne_62,
    ok_iload hM 8 dX5_growOne_63,
    ok_iadd hM dX5_growOne_65,
    ok_iconst hM dX5_growOne_66 rfl,
    ok_isub hM dX5_growOne_67,
    ok_iald hM dX5_growOne_68,
    ok_iadd hM dX5_growOne_69,
    ok_istore hM 7 dX5_growOne_70,
    ok_F (ok_iload hM 7 dX5_growOne_72),
    ok_iload hM 4 dX5_growOne_74,
    ok_imul hM dX5_growOne_76,
    ok_iload hM 5 dX5_growOne_77,
    ok_iload hM 8 dX5_growOne_79,
    ok_imul hM dX5_growOne_81,
    ok_icmp_le hM 96 dX5_growOne_82 (by decide),
    ok_iload hM 6 dX5_growOne_85,
    ok_istore_n hM 3 dX5_growOne_87 rfl,
    ok_F (ok_iload hM 8 dX5_growOne_88),
    ok_istore hM 4 dX5_growOne_90,
    ok_F (ok_iload hM 7 dX5_growOne_92),
    ok_istore hM 5 dX5_growOne_94,
    ok_F (ok_iinc hM 8 dX5_growOne_96 rfl),
    ok_goto hM 23 dX5_growOne_99 (by decide),
    ok_F (ok_iinc hM 6 dX5_growOne_102 rfl),
    ok_goto hM 11 dX5_growOne_105 (by decide),
    ok_F (ok_aload_n hM 0 dX5_growOne_108 rfl),
    ok_get (C := RX5) (T := TX5) (Nf := 1) hM (fun _ h => List.mem_cons_of_mem _ (List.mem_append_left _ (List.mem_append_right _ h))) rfl 0 (by decide) (List.mem_of_getElem? (i := 1) rfl) rfl dX5_growOne_109,
    ok_iload_n hM 3 dX5_growOne_112 rfl,
    ok_iconst hM dX5_growOne_113 rfl,
    ok_icmp_ne hM 124 dX5_growOne_114 (by decide),
    ok_aload_n hM 0 dX5_growOne_117 rfl,
    ok_callV hM [0,1] (ctX5_lowest l) rfl rfl gX5_growOne_X5_lowest rfl rfl rfl (by decide +kernel) (by decide) dX5_growOne_118,
    ok_goto hM 125 dX5_growOne_121 (by decide),
    ok_F (ok_iload_n hM 3 dX5_growOne_124 rfl),
    ok_dup2 hM dX5_growOne_125,
    ok_iald hM dX5_growOne_126,
    ok_iload hM 4 dX5_growOne_127,
    ok_iadd hM dX5_growOne_129,
    ok_iast hM dX5_growOne_130,
    ok_F (ok_iload hM 4 dX5_growOne_131),
    ok_ret hM hE dX5_growOne_133,
    trivial⟩
set_option maxRecDepth 100000 in
theorem ctX5_growOne (l : Launch) : Ct l yX5_growOne wsX5_growOne rmX5_growOne 0 0 false sX5_growOne := by
  refine ct_of (own := RX5) (cc := cX5_growOne) (maxL := 9) (ret := (some .int)) (by decide) rfl rfl (by rintro _ _ _ ⟨x, r, W, ad, ga, rfl, rfl, hr, hW, rfl, hK⟩; exact Nat.le_of_ble_eq_true rfl) ?_
  intro X av es K hM hE hag hin hnL hsp
  obtain ⟨x, r, W, ad, ga, rfl, rfl, hr, hW, rfl, hK⟩ := hsp
  have hf := kX5_growOne hM hE hnL
  have hbo := gBest_ok ga W r
  generalize hres : gBest ga W r = res at hK hbo
  refine g_with (X := X) 11 [0, 1, 2, 3, 4, 5, 6] (fun μ vs es k n => ∃ (t : Nat) (b : gB), μ = 4 - t ∧ t ≤ 4 ∧ res = gOut ga W r (4 - t) t b ∧ gOK W r b ∧ vs = [.ref 0, .ref 2, .int (nI r), .int (oI b.1), .int (nI b.2.1), .int b.2.2, .int (nI t)] ∧ es = tgA 0 (nF W) ++ moA 2 ad ga ∧ k = 0 ∧ n = 0) cut_nil (fun μ hc vs es k n hI => ?_) (fun hc => ?_)
  · obtain ⟨t, b, rfl, ht, hr1, hb, rfl, rfl, rfl, rfl⟩ := hI
    refine g_with (X := X) 23 [0, 1, 2, 3, 4, 5, 6, 7, 8] (fun μ vs es k n => ∃ (e : Nat) (g : Int32) (b : gB), μ = 9 - e ∧ 1 ≤ e ∧ e ≤ 9 ∧ t < 4 ∧ res = gOut ga W r (4 - (t + 1)) (t + 1) (gIn ga t (W t) r (9 - e) e g b) ∧ gOK W r b ∧ vs = [.ref 0, .ref 2, .int (nI r), .int (oI b.1), .int (nI b.2.1), .int b.2.2, .int (nI t), .int g, .int (nI e)] ∧ es = tgA 0 (nF W) ++ moA 2 ad ga ∧ k = 0 ∧ n = 0) hc (fun μ hc' vs es k n hI => ?_) (fun hc' => ?_)
    · obtain ⟨e, g, b, rfl, he1, he9, ht4, hr2, hb, rfl, rfl, rfl, rfl⟩ := hI
      have hwt := hW t ht4
      refine g_go hf hc' 5 ?_
      have stop : ∀ (hno : ¬ (e ≤ r ∧ W t + e ≤ 8)), res = gOut ga W r (4 - (t + 1)) (t + 1) b := fun hno => by
        rw [hr2]
        cases h9 : 9 - e with
        | zero => rfl
        | succ d => simp only [gIn, if_neg hno]
      refine ⟨fun h => ?_, fun h => ?_⟩
      · rw [nI_ltI (by omega) (by omega)] at h
        exact ⟨4 - (t + 1), by omega, t + 1, b, rfl, by omega, stop (by omega), hb, by rw [nI_add], rfl, rfl, rfl⟩
      · rw [nI_ltI (by omega) (by omega)] at h
        refine ⟨t, rfl, ht4, ?_⟩
        refine ⟨fun h2 => ?_, fun h2 => ?_⟩
        · have h3 : nI 8 < nI (W t) + nI e := h2
          rw [nI_add, nI_ltI (by decide) (by omega)] at h3
          exact ⟨4 - (t + 1), by omega, t + 1, b, rfl, by omega, stop (by omega), hb, by rw [nI_add], rfl, rfl, rfl⟩
        · have h3 : ¬ nI 8 < nI (W t) + nI e := h2
          rw [nI_add, nI_ltI (by decide) (by omega)] at h3
          obtain ⟨d, hd⟩ : ∃ d, 9 - e = d + 1 := ⟨9 - e - 1, by omega⟩
          have hd9 : 9 - (e + 1) = d := by omega
          rw [hd] at hr2
          simp only [gIn, if_pos (show e ≤ r ∧ W t + e ≤ 8 by omega)] at hr2
          have hok := gTry_ok (g := g + ga (t * 8 + W t + e - 1)) hb ht4 he1 (by omega) (by omega)
          refine ⟨t, rfl, ht4, ?_⟩
          refine ⟨t * 8 + W t + e - 1, ?_, by omega, ?_⟩
          · show nI t * nI 8 + nI (W t) + nI e - nI 1 = _
            rw [pk_mul, nI_add, nI_add, pk_sub (by omega)]
          · refine ⟨fun h4 => ?_, fun h4 => ?_⟩
            · refine ⟨9 - (e + 1), by omega, e + 1, g + ga (t * 8 + W t + e - 1), b, rfl, by omega, by omega, ht4, ?_, hb, by rw [nI_add], rfl, rfl, rfl⟩
              rw [hr2, hd9]
              unfold gTry
              rw [if_neg (by first | exact Int32.not_lt.mpr h4 | exact h4)]
            · refine ⟨9 - (e + 1), by omega, e + 1, g + ga (t * 8 + W t + e - 1), (some t, e, g + ga (t * 8 + W t + e - 1)), rfl, by omega, by omega, ht4, ?_, ?_, by rw [nI_add]; rfl, rfl, rfl, rfl⟩
              · rw [hr2, hd9]
                unfold gTry
                rw [if_pos (by first | exact Int32.not_le.mp h4 | exact h4)]
              · unfold gTry at hok
                rw [if_pos (by first | exact Int32.not_le.mp h4 | exact h4)] at hok
                exact hok
    · refine g_go hf hc' 5 ?_
      refine ⟨fun h => ?_, fun h => ?_⟩
      · have h4 : t = 4 := by
          rw [nI_leI (by decide) (by omega)] at h
          omega
        subst h4
        have hrb : res = b := hr1
        subst hrb
        have hne : oI res.1 = -1 ↔ res.1 = none := oI_ne (fun p hp => by have := (hb.2.2.1 p hp).1; omega)
        have h8 := hb.2.1
        refine ⟨fun h2 => ?_, fun h2 => ?_⟩
        · have h2 : ¬ res.1 = none := fun q => h2 (hne.mpr q)
          obtain ⟨p, hp⟩ : ∃ p, res.1 = some p := by
            cases hq : res.1 with
            | none => exact absurd hq h2
            | some p => exact ⟨p, rfl⟩
          have hp4 := (hb.2.2.1 p hp).1
          have e1 : gTen W res = p := by unfold gTen; rw [hp]
          rw [e1, ← gNew_fun] at hK
          rw [hp]
          refine ⟨p, rfl, hp4, ?_⟩
          refine ⟨p, rfl, hp4, ?_⟩
          exact hK
        · have h2 : res.1 = none := hne.mp h2
          have e1 : gTen W res = lowI W 3 := by unfold gTen; rw [h2]
          rw [e1, ← gNew_fun] at hK
          have hl := lowI_le W 3
          refine ⟨W, rfl, fun t ht => by have := hW t ht; omega, rfl, ?_⟩
          refine ⟨lowI W 3, rfl, by omega, ?_⟩
          refine ⟨lowI W 3, rfl, by omega, ?_⟩
          exact hK
      · have ht4 : t < 4 := by
          rw [nI_leI (by decide) (by omega)] at h
          omega
        obtain ⟨d, hd⟩ : ∃ d, 4 - t = d + 1 := ⟨4 - t - 1, by omega⟩
        have hd9 : 4 - (t + 1) = d := by omega
        rw [hd] at hr1
        refine ⟨8, 1, nI 0, b, rfl, by omega, by omega, ht4, ?_, hb, rfl, rfl, rfl, rfl⟩
        rw [hr1, hd9]
        rfl
  · refine wr_ok hf hc 5 0 _ _ _ _ _ ?_
    exact ⟨4, 0, (none, 1, nI 0), rfl, by omega, hres.symm, ⟨Nat.le_refl _, by decide, fun p hp => (by cases hp), fun _ => rfl⟩, rfl, rfl, rfl, rfl⟩
-- compute
abbrev gV : Type := (Nat → Int32) × (Nat → Int32) × (Nat → Int32) × (Nat → Int32) × (Nat → Int32) × (Nat → Int32) × (Nat → Int32) × Int32 × Int32
abbrev vOw (v : gV) : Nat → Int32 := v.1
abbrev vHd (v : gV) : Nat → Int32 := v.2.1
abbrev vSt (v : gV) : Nat → Int32 := v.2.2.1
abbrev vAd (v : gV) : Nat → Int32 := v.2.2.2.1
abbrev vGa (v : gV) : Nat → Int32 := v.2.2.2.2.1
abbrev vLe (v : gV) : Nat → Int32 := v.2.2.2.2.2.1
abbrev vCo (v : gV) : Nat → Int32 := v.2.2.2.2.2.2.1
abbrev vEp (v : gV) : Int32 := v.2.2.2.2.2.2.2.1
abbrev vAc (v : gV) : Int32 := v.2.2.2.2.2.2.2.2
abbrev stA (o : Nat) (ow hd st ad ga le co : Nat → Int32) (ep ac : Int32) : List gE := [.inr (4, [.ref (o + 1), .ref (o + 5), .ref (o + 8), .ref (o + 9), .int ep, .int ac]), .inr (3, [.ref (o + 2), .ref (o + 3), .ref (o + 4)]), .inl (0, 8, .inl ow), .inl (0, 32, .inl hd), .inl (0, 32, .inl st), .inr (2, [.ref (o + 6), .ref (o + 7)]), .inl (0, 64, .inl ad), .inl (0, 32, .inl ga), .inl (0, 4, .inl le), .inl (0, 16, .inl co)]
abbrev stV (o : Nat) (v : gV) : List gE := stA o (vOw v) (vHd v) (vSt v) (vAd v) (vGa v) (vLe v) (vCo v) (vEp v) (vAc v)
def cmpW (ga : Nat → Int32) : Nat → (Nat → Nat) → Nat → Nat → Nat
  | 0, W, _ => W
  | f + 1, W, r => if 0 < r then cmpW ga f (gNew W (gTen W (gBest ga W r)) (gBest ga W r).2.1) (r - (gBest ga W r).2.1) else W
def tgt (L : Nat → Nat) (ga : Nat → Int32) : Nat → Nat := cmpW ga 8 L (8 - sumN L 4)
theorem sum_new {W : Nat → Nat} {t e : Nat} (h : t < 4) : sumN (gNew W t e) 4 = sumN W 4 + e := by
  have : t = 0 ∨ t = 1 ∨ t = 2 ∨ t = 3 := by omega
  rcases this with rfl | rfl | rfl | rfl <;> simp [sumN, gNew] <;> omega
theorem sum_le {W : Nat → Nat} {t : Nat} (h : t < 4) : W t ≤ sumN W 4 := by
  have : t = 0 ∨ t = 1 ∨ t = 2 ∨ t = 3 := by omega
  rcases this with rfl | rfl | rfl | rfl <;> simp [sumN] <;> omega
theorem gTen_lt {W : Nat → Nat} {r : Nat} {b : gB} (h : gOK W r b) : gTen W b < 4 := by
  unfold gTen
  cases hb : b.1 with
  | none => have := lowI_le W 3; simp only; omega
  | some p => exact (h.2.2.1 p hb).1
theorem gE_le {W : Nat → Nat} {r : Nat} {b : gB} (h : gOK W r b) (hr : 0 < r) : b.2.1 ≤ r := by
  cases hb : b.1 with
  | none => rw [h.2.2.2 hb]; exact hr
  | some p => exact (h.2.2.1 p hb).2.1
theorem grow_sum {ga : Nat → Int32} {W : Nat → Nat} {r : Nat} (hr : 0 < r) (h : sumN W 4 + r = 8) : sumN (gNew W (gTen W (gBest ga W r)) (gBest ga W r).2.1) 4 + (r - (gBest ga W r).2.1) = 8 := by
  have hb := gBest_ok ga W r
  rw [sum_new (gTen_lt hb)]
  have := gE_le hb hr
  omega
theorem cmpW_sum {ga : Nat → Int32} : ∀ (f : Nat) (W : Nat → Nat) (r : Nat), sumN W 4 + r = 8 → r ≤ f → sumN (cmpW ga f W r) 4 = 8
  | 0, W, r, h, hf => by
    unfold cmpW
    omega
  | f + 1, W, r, h, hf => by
    unfold cmpW
    split
    · rename_i hr
      have h1 := (gBest_ok ga W r).1
      exact cmpW_sum f _ _ (grow_sum hr h) (by omega)
    · omega
theorem tgt_sum {L : Nat → Nat} {ga : Nat → Int32} (h : sumN L 4 ≤ 8) : sumN (tgt L ga) 4 = 8 := cmpW_sum 8 L _ (by omega) (by omega)
theorem cmpW_0 {ga : Nat → Int32} : ∀ (f : Nat) (W : Nat → Nat), cmpW ga f W 0 = W
  | 0, _ => rfl
  | f + 1, W => by unfold cmpW; rw [if_neg (by omega)]
def sX5_compute : gS := fun av es K => ∃ wy v L, av = [.ref 0, .ref 2] ∧ (∀ t, t < 4 → vLe v t = nI (L t) ∧ L t ≤ 2) ∧ es = tgA 0 wy ++ stV 2 v ∧ K none (tgA 0 (nF (tgt L (vGa v))) ++ stV 2 v)
def rmX5_compute : Room := { frames := 2, cells := 0, slots := 0, locals := 50 }
def pX5_compute (K : gK) : List (Nat × gO) := [(0, oConst (nI 8)), (2, oF (oIStore 4 2)), (3, oConst (nI 0)), (4, oF (oIStore 4 3)), (5, oF (oILoad 3)), (6, oConst (nI 4)), (7, oICmp_ge 37), (10, oALoad 0), (11, oGet 5 0), (14, oILoad 3), (15, oALoad 1), (16, oGet 4 2), (19, oILoad 3), (20, oIALd 0), (21, oIASt), (22, oF (oILoad 2)), (23, oALoad 0), (24, oGet 5 0), (27, oILoad 3), (28, oIALd 0), (29, oSub), (30, oIStore 4 2), (31, oF (oIInc 4 3 (nI 1))), (34, oGoto 5), (37, oConst (nI 0)), (38, oF (oIStore 4 3)), (39, oF (oILoad 3)), (40, oConst (nI 8)), (42, oICmp_ge 67), (45, oILoad 2), (46, oIf_le 67), (49, oILoad 2), (50, oALoad 0), (51, oALoad 1), (52, oGet 4 1), (55, oILoad 2), (56, oCallV 0 0 5 2 [0,1,7,8,9] sX5_growOne), (59, oSub), (60, oF (oIStore 4 2)), (61, oF (oIInc 4 3 (nI 1))), (64, oGoto 39), (67, oF (oRetV K 0 0))]
set_option maxRecDepth 100000 in
theorem kX5_compute {X : gX} {l : Launch} (hM : gM X l cX5_compute RX5 wsX5_compute rmX5_compute) {K : gK} (hE : gR X K 0 0 none) (hnL : X.2.2.2.2.2.2.2.2.2.2.2.2.2.2.2.2 = 4) : okL X (pX5_compute K) := by
  obtain ⟨p, l1, e, R, s, m, args, below, meth, c, D, cA, A, ag, ad0, Q, nL⟩ := X
  cases hnL
  refine ⟨ok_bipush hM dX5_compute_0 rfl,
    ok_F (ok_istore_n hM 2 dX5_compute_2 rfl),
    ok_iconst hM dX5_compute_3 rfl,
    ok_F (ok_istore_n hM 3 dX5_compute_4 rfl),
    ok_F (ok_iload_n hM 3 dX5_compute_5 rfl),
    ok_iconst hM dX5_compute_6 rfl,
    ok_icmp_ge hM 37 dX5_compute_7 (by decide),
    ok_aload_n hM 0 dX5_compute_10 rfl,
    ok_get (C := RX5) (T := TX5) (Nf := 1) hM (fun _ h => List.mem_cons_of_mem _ (List.mem_append_left _ (List.mem_append_left _ (List.mem_append_right _ h)))) rfl 0 (by decide) (List.mem_of_getElem? (i := 1) rfl) rfl dX5_compute_11,
    ok_iload_n hM 3 dX5_compute_14 rfl,
    ok_aload_n hM 1 dX5_compute_15 rfl,
    ok_get (C := RX4) (T := TX4) (Nf := 6) hM (fun _ h => List.mem_cons_of_mem _ (List.mem_append_left _ (List.mem_append_right _ h))) rfl 2 (by decide) (List.mem_of_getElem? (i := 2) rfl) rfl dX5_compute_16,
    ok_iload_n hM 3 dX5_compute_19 rfl,
    ok_iald hM dX5_compute_20,
    ok_iast hM dX5_compute_21,
    ok_F (ok_iload_n hM 2 dX5_compute_22 rfl),
    ok_aload_n hM 0 dX5_compute_23 rfl,
    ok_get (C := RX5) (T := TX5) (Nf := 1) hM (fun _ h => List.mem_cons_of_mem _ (List.mem_append_left _ (List.mem_append_left _ (List.mem_append_right _ h)))) rfl 0 (by decide) (List.mem_of_getElem? (i := 1) rfl) rfl dX5_compute_24,
    ok_iload_n hM 3 dX5_compute_27 rfl,
    ok_iald hM dX5_compute_28,
    ok_isub hM dX5_compute_29,
    ok_istore_n hM 2 dX5_compute_30 rfl,
    ok_F (ok_iinc hM 3 dX5_compute_31 rfl),
    ok_goto hM 5 dX5_compute_34 (by decide),
    ok_iconst hM dX5_compute_37 rfl,
    ok_F (ok_istore_n hM 3 dX5_compute_38 rfl),
    ok_F (ok_iload_n hM 3 dX5_compute_39 rfl),
    ok_bipush hM dX5_compute_40 rfl,
    ok_icmp_ge hM 67 dX5_compute_42 (by decide),
    ok_iload_n hM 2 dX5_compute_45 rfl,
    ok_if_le hM 67 dX5_compute_46 (by decide),
    ok_iload_n hM 2 dX5_compute_49 rfl,
    ok_aload_n hM 0 dX5_compute_50 rfl,
    ok_aload_n hM 1 dX5_compute_51 rfl,
    ok_get (C := RX4) (T := TX4) (Nf := 6) hM (fun _ h => List.mem_cons_of_mem _ (List.mem_append_left _ (List.mem_append_right _ h))) rfl 1 (by decide) (List.mem_of_getElem? (i := 3) rfl) rfl dX5_compute_52,
    ok_iload_n hM 2 dX5_compute_55 rfl,
    ok_callV hM [0,1,7,8,9] (ctX5_growOne l) rfl rfl gX5_compute_X5_growOne rfl rfl rfl (by decide +kernel) (by decide) dX5_compute_56,
    ok_isub hM dX5_compute_59,
    ok_F (ok_istore_n hM 2 dX5_compute_60 rfl),
    ok_F (ok_iinc hM 3 dX5_compute_61 rfl),
    ok_goto hM 39 dX5_compute_64 (by decide),
    ok_F (ok_retV hM hE dX5_compute_67),
    trivial⟩
set_option maxRecDepth 100000 in
theorem ctX5_compute (l : Launch) : Ct l yX5_compute wsX5_compute rmX5_compute 0 0 false sX5_compute := by
  refine ct_of (own := RX5) (cc := cX5_compute) (maxL := 4) (ret := none) (by decide) rfl rfl (by rintro _ _ _ ⟨wy, v, L, rfl, hL, rfl, hK⟩; exact Nat.le_of_ble_eq_true rfl) ?_
  intro X av es K hM hE hag hin hnL hsp
  obtain ⟨wy, v, L, rfl, hL, rfl, hK⟩ := hsp
  have hf := kX5_compute hM hE hnL
  generalize hres : tgt L (vGa v) = res at hK
  refine g_with (X := X) 39 [0, 1, 2, 3] (fun μ vs es k n => ∃ (i : Nat) (W : Nat → Nat) (r : Nat), μ = 8 - i ∧ i ≤ 8 ∧ sumN W 4 + r = 8 ∧ res = cmpW (vGa v) (8 - i) W r ∧ vs = [.ref 0, .ref 2, .int (nI r), .int (nI i)] ∧ eqL es (tgA 0 (nF W) ++ stV 2 v) ∧ k = 0 ∧ n = 0) cut_nil (fun μ hc vs es k n hI => ?_) (fun hc2 => ?_)
  · obtain ⟨i, W, r, rfl, hi, hs, hr, rfl, he, rfl, rfl⟩ := hI
    refine G_eqv he ?_
    refine g_go hf hc 5 ?_
    refine ⟨fun h => ?_, fun h => ?_⟩
    · have : i = 8 := by
        rw [nI_leI (by decide) (by omega)] at h
        omega
      subst this
      have e1 : res = W := hr
      rw [e1] at hK
      exact hK
    · rw [nI_leI (by decide) (by omega)] at h
      obtain ⟨d, hd⟩ : ∃ d, 8 - i = d + 1 := ⟨8 - i - 1, by omega⟩
      have hd9 : 8 - (i + 1) = d := by omega
      rw [hd] at hr
      refine ⟨fun h2 => ?_, fun h2 => ?_⟩
      · have h0 : r = 0 := by
          rcases Nat.eq_zero_or_pos r with q | q
          · exact q
          · exact absurd h2 (nI_nle q (by omega))
        subst h0
        rw [cmpW_0] at hr
        rw [hr] at hK
        exact hK
      · have h0 : 0 < r := by
          rcases Nat.eq_zero_or_pos r with q | q
          · subst q; exact absurd (by decide) h2
          · exact q
        have hb := gBest_ok (vGa v) W r
        have hel := gE_le hb h0
        simp only [cmpW, if_pos h0] at hr
        refine ⟨_, r, W, vAd v, vGa v, rfl, rfl, by omega, fun t ht => by have := sum_le (W := W) ht; omega, rfl, ?_⟩
        refine ⟨8 - (i + 1), by omega, i + 1, _, r - (gBest (vGa v) W r).2.1, rfl, by omega, grow_sum h0 hs, by rw [hr, hd9], by rw [nI_add, pk_sub hel], eqL_rfl _, rfl, rfl⟩
  · refine g_with (X := X) 5 [0, 1, 2, 3] (fun μ vs es k n => ∃ (i : Nat) (w : Nat → Int32), μ = 4 - i ∧ i ≤ 4 ∧ sumN L i ≤ 2 * i ∧ (∀ j, j < i → w j = nI (L j)) ∧ vs = [.ref 0, .ref 2, .int (nI (8 - sumN L i)), .int (nI i)] ∧ es = tgA 0 w ++ stV 2 v ∧ k = 0 ∧ n = 0) hc2 (fun μ hc vs es k n hI => ?_) (fun hc => ?_)
    · obtain ⟨i, w, rfl, hi, hsl, hw, rfl, rfl, rfl, rfl⟩ := hI
      refine g_go hf hc 5 ?_
      refine ⟨fun h => ?_, fun h => ?_⟩
      · have h4 : i = 4 := by
          rw [nI_leI (by decide) (by omega)] at h
          omega
        subst h4
        refine ⟨8, 0, L, 8 - sumN L 4, rfl, by omega, by omega, hres.symm, rfl, ⟨rfl, ⟨rfl, rfl, fun j hj => hw j hj⟩, eqL_rfl _⟩, rfl, rfl⟩
      · have h4 : i < 4 := by
          rw [nI_leI (by decide) (by omega)] at h
          omega
        obtain ⟨hl1, hl2⟩ := hL i h4
        refine ⟨i, rfl, h4, ?_⟩
        refine ⟨i, rfl, h4, ?_⟩
        refine ⟨i, rfl, h4, ?_⟩
        refine ⟨4 - (i + 1), by omega, i + 1, upd w i (vLe v i), rfl, by omega, by simp only [sumN]; omega, fun j hj => ?_, ?_, rfl, rfl, rfl⟩
        · unfold upd
          by_cases hj2 : j = i
          · subst hj2
            rw [if_pos rfl, hl1]
          · rw [if_neg hj2]
            exact hw j (by omega)
        · have e1 : upd w i (vLe v i) i = nI (L i) := by unfold upd; rw [if_pos rfl, hl1]
          rw [e1, nI_add, pk_sub (by omega)]
          simp only [sumN]
          rw [Nat.sub_sub]
    · refine wr_ok hf hc 5 0 _ _ _ _ _ ?_
      exact ⟨4, 0, wy, rfl, by omega, by simp [sumN], fun j hj => absurd hj (by omega), rfl, rfl, rfl, rfl⟩
end MT
end
section
/-! State and History: contracts. -/
section MS
abbrev st0 (v : gV) : List gE := [.inr (4, [.ref 1, .ref 5, .ref 8, .ref 9, .int (vEp v), .int (vAc v)]), .inr (3, [.ref 2, .ref 3, .ref 4]), .inl (0, 8, .inl (vOw v)), .inl (0, 32, .inl (vHd v)), .inl (0, 32, .inl (vSt v)), .inr (2, [.ref 6, .ref 7]), .inl (0, 64, .inl (vAd v)), .inl (0, 32, .inl (vGa v)), .inl (0, 4, .inl (vLe v)), .inl (0, 16, .inl (vCo v))]
abbrev st10 (v : gV) : List gE := [.inr (4, [.ref 11, .ref 15, .ref 18, .ref 19, .int (vEp v), .int (vAc v)]), .inr (3, [.ref 12, .ref 13, .ref 14]), .inl (0, 8, .inl (vOw v)), .inl (0, 32, .inl (vHd v)), .inl (0, 32, .inl (vSt v)), .inr (2, [.ref 16, .ref 17]), .inl (0, 64, .inl (vAd v)), .inl (0, 32, .inl (vGa v)), .inl (0, 4, .inl (vLe v)), .inl (0, 16, .inl (vCo v))]
abbrev st2 (v : gV) : List gE := [.inr (4, [.ref 3, .ref 7, .ref 10, .ref 11, .int (vEp v), .int (vAc v)]), .inr (3, [.ref 4, .ref 5, .ref 6]), .inl (0, 8, .inl (vOw v)), .inl (0, 32, .inl (vHd v)), .inl (0, 32, .inl (vSt v)), .inr (2, [.ref 8, .ref 9]), .inl (0, 64, .inl (vAd v)), .inl (0, 32, .inl (vGa v)), .inl (0, 4, .inl (vLe v)), .inl (0, 16, .inl (vCo v))]
abbrev st12 (v : gV) : List gE := [.inr (4, [.ref 13, .ref 17, .ref 20, .ref 21, .int (vEp v), .int (vAc v)]), .inr (3, [.ref 14, .ref 15, .ref 16]), .inl (0, 8, .inl (vOw v)), .inl (0, 32, .inl (vHd v)), .inl (0, 32, .inl (vSt v)), .inr (2, [.ref 18, .ref 19]), .inl (0, 64, .inl (vAd v)), .inl (0, 32, .inl (vGa v)), .inl (0, 4, .inl (vLe v)), .inl (0, 16, .inl (vCo v))]
abbrev st22 (v : gV) : List gE := [.inr (4, [.ref 23, .ref 27, .ref 30, .ref 31, .int (vEp v), .int (vAc v)]), .inr (3, [.ref 24, .ref 25, .ref 26]), .inl (0, 8, .inl (vOw v)), .inl (0, 32, .inl (vHd v)), .inl (0, 32, .inl (vSt v)), .inr (2, [.ref 28, .ref 29]), .inl (0, 64, .inl (vAd v)), .inl (0, 32, .inl (vGa v)), .inl (0, 4, .inl (vLe v)), .inl (0, 16, .inl (vCo v))]
abbrev st32 (v : gV) : List gE := [.inr (4, [.ref 33, .ref 37, .ref 40, .ref 41, .int (vEp v), .int (vAc v)]), .inr (3, [.ref 34, .ref 35, .ref 36]), .inl (0, 8, .inl (vOw v)), .inl (0, 32, .inl (vHd v)), .inl (0, 32, .inl (vSt v)), .inr (2, [.ref 38, .ref 39]), .inl (0, 64, .inl (vAd v)), .inl (0, 32, .inl (vGa v)), .inl (0, 4, .inl (vLe v)), .inl (0, 16, .inl (vCo v))]
abbrev st42 (v : gV) : List gE := [.inr (4, [.ref 43, .ref 47, .ref 50, .ref 51, .int (vEp v), .int (vAc v)]), .inr (3, [.ref 44, .ref 45, .ref 46]), .inl (0, 8, .inl (vOw v)), .inl (0, 32, .inl (vHd v)), .inl (0, 32, .inl (vSt v)), .inr (2, [.ref 48, .ref 49]), .inl (0, 64, .inl (vAd v)), .inl (0, 32, .inl (vGa v)), .inl (0, 4, .inl (vLe v)), .inl (0, 16, .inl (vCo v))]
abbrev st52 (v : gV) : List gE := [.inr (4, [.ref 53, .ref 57, .ref 60, .ref 61, .int (vEp v), .int (vAc v)]), .inr (3, [.ref 54, .ref 55, .ref 56]), .inl (0, 8, .inl (vOw v)), .inl (0, 32, .inl (vHd v)), .inl (0, 32, .inl (vSt v)), .inr (2, [.ref 58, .ref 59]), .inl (0, 64, .inl (vAd v)), .inl (0, 32, .inl (vGa v)), .inl (0, 4, .inl (vLe v)), .inl (0, 16, .inl (vCo v))]
abbrev st62 (v : gV) : List gE := [.inr (4, [.ref 63, .ref 67, .ref 70, .ref 71, .int (vEp v), .int (vAc v)]), .inr (3, [.ref 64, .ref 65, .ref 66]), .inl (0, 8, .inl (vOw v)), .inl (0, 32, .inl (vHd v)), .inl (0, 32, .inl (vSt v)), .inr (2, [.ref 68, .ref 69]), .inl (0, 64, .inl (vAd v)), .inl (0, 32, .inl (vGa v)), .inl (0, 4, .inl (vLe v)), .inl (0, 16, .inl (vCo v))]
def sX4_copyFrom : gS := fun av es K => ∃ v v', av = [.ref 0, .ref 10] ∧ es = st0 v ++ st10 v' ∧ K none (st0 v' ++ st10 v')
def rmX4_copyFrom : Room := { frames := 2, cells := 0, slots := 0, locals := 81 }
def pX4_copyFrom (K : gK) : List (Nat × gO) := [(0, oF (oALoad 0)), (1, oGet 4 0), (4, oALoad 1), (5, oGet 4 0), (8, oCallV 0 0 3 1 [1,2,3,4,11,12,13,14] sX3_copyFrom), (11, oF (oALoad 0)), (12, oGet 4 1), (15, oALoad 1), (16, oGet 4 1), (19, oCallV 0 0 2 1 [5,6,7,15,16,17] sX2_copyFrom), (22, oF (oALoad 1)), (23, oGet 4 2), (26, oConst (nI 0)), (27, oALoad 0), (28, oGet 4 2), (31, oConst (nI 0)), (32, oALoad 0), (33, oGet 4 2), (36, oALen), (37, oCopy 81), (40, oF (oALoad 1)), (41, oGet 4 3), (44, oConst (nI 0)), (45, oALoad 0), (46, oGet 4 3), (49, oConst (nI 0)), (50, oALoad 0), (51, oGet 4 3), (54, oALen), (55, oCopy 81), (58, oF (oALoad 0)), (59, oALoad 1), (60, oGet 4 4), (63, oPutI 4 4), (66, oF (oALoad 0)), (67, oALoad 1), (68, oGet 4 5), (71, oPutI 4 5), (74, oF (oRetV K 0 0))]
set_option maxRecDepth 100000 in
theorem kX4_copyFrom {X : gX} {l : Launch} (hM : gM X l cX4_copyFrom RX4 wsX4_copyFrom rmX4_copyFrom) {K : gK} (hE : gR X K 0 0 none) (hnL : X.2.2.2.2.2.2.2.2.2.2.2.2.2.2.2.2 = 2) : okL X (pX4_copyFrom K) := by
  obtain ⟨p, l1, e, R, s, m, args, below, meth, c, D, cA, A, ag, ad0, Q, nL⟩ := X
  cases hnL
  refine ⟨ok_F (ok_aload_n hM 0 dX4_copyFrom_0 rfl),
    ok_get (C := RX4) (T := TX4) (Nf := 6) hM (fun _ h => List.mem_cons_of_mem _ (List.mem_append_left _ (List.mem_append_left _ (List.mem_append_right _ h)))) rfl 0 (by decide) (List.mem_of_getElem? (i := 1) rfl) rfl dX4_copyFrom_1,
    ok_aload_n hM 1 dX4_copyFrom_4 rfl,
    ok_get (C := RX4) (T := TX4) (Nf := 6) hM (fun _ h => List.mem_cons_of_mem _ (List.mem_append_left _ (List.mem_append_left _ (List.mem_append_right _ h)))) rfl 0 (by decide) (List.mem_of_getElem? (i := 1) rfl) rfl dX4_copyFrom_5,
    ok_callV hM [1,2,3,4,11,12,13,14] (ctX3_copyFrom l) rfl rfl gX4_copyFrom_X3_copyFrom rfl rfl rfl (by decide +kernel) (by decide) dX4_copyFrom_8,
    ok_F (ok_aload_n hM 0 dX4_copyFrom_11 rfl),
    ok_get (C := RX4) (T := TX4) (Nf := 6) hM (fun _ h => List.mem_cons_of_mem _ (List.mem_append_left _ (List.mem_append_left _ (List.mem_append_right _ h)))) rfl 1 (by decide) (List.mem_of_getElem? (i := 2) rfl) rfl dX4_copyFrom_12,
    ok_aload_n hM 1 dX4_copyFrom_15 rfl,
    ok_get (C := RX4) (T := TX4) (Nf := 6) hM (fun _ h => List.mem_cons_of_mem _ (List.mem_append_left _ (List.mem_append_left _ (List.mem_append_right _ h)))) rfl 1 (by decide) (List.mem_of_getElem? (i := 2) rfl) rfl dX4_copyFrom_16,
    ok_callV hM [5,6,7,15,16,17] (ctX2_copyFrom l) rfl rfl gX4_copyFrom_X2_copyFrom rfl rfl rfl (by decide +kernel) (by decide) dX4_copyFrom_19,
    ok_F (ok_aload_n hM 1 dX4_copyFrom_22 rfl),
    ok_get (C := RX4) (T := TX4) (Nf := 6) hM (fun _ h => List.mem_cons_of_mem _ (List.mem_append_left _ (List.mem_append_left _ (List.mem_append_right _ h)))) rfl 2 (by decide) (List.mem_of_getElem? (i := 3) rfl) rfl dX4_copyFrom_23,
    ok_iconst hM dX4_copyFrom_26 rfl,
    ok_aload_n hM 0 dX4_copyFrom_27 rfl,
    ok_get (C := RX4) (T := TX4) (Nf := 6) hM (fun _ h => List.mem_cons_of_mem _ (List.mem_append_left _ (List.mem_append_left _ (List.mem_append_right _ h)))) rfl 2 (by decide) (List.mem_of_getElem? (i := 3) rfl) rfl dX4_copyFrom_28,
    ok_iconst hM dX4_copyFrom_31 rfl,
    ok_aload_n hM 0 dX4_copyFrom_32 rfl,
    ok_get (C := RX4) (T := TX4) (Nf := 6) hM (fun _ h => List.mem_cons_of_mem _ (List.mem_append_left _ (List.mem_append_left _ (List.mem_append_right _ h)))) rfl 2 (by decide) (List.mem_of_getElem? (i := 3) rfl) rfl dX4_copyFrom_33,
    ok_alen hM dX4_copyFrom_36,
    ok_copy hM (List.mem_of_getElem? (i := 4) rfl) (List.mem_of_getElem? (i := 5) rfl) (List.mem_of_getElem? (i := 6) rfl) (List.mem_of_getElem? (i := 7) rfl) (by decide) (by decide +kernel) dX4_copyFrom_37,
    ok_F (ok_aload_n hM 1 dX4_copyFrom_40 rfl),
    ok_get (C := RX4) (T := TX4) (Nf := 6) hM (fun _ h => List.mem_cons_of_mem _ (List.mem_append_left _ (List.mem_append_left _ (List.mem_append_right _ h)))) rfl 3 (by decide) (List.mem_of_getElem? (i := 8) rfl) rfl dX4_copyFrom_41,
    ok_iconst hM dX4_copyFrom_44 rfl,
    ok_aload_n hM 0 dX4_copyFrom_45 rfl,
    ok_get (C := RX4) (T := TX4) (Nf := 6) hM (fun _ h => List.mem_cons_of_mem _ (List.mem_append_left _ (List.mem_append_left _ (List.mem_append_right _ h)))) rfl 3 (by decide) (List.mem_of_getElem? (i := 8) rfl) rfl dX4_copyFrom_46,
    ok_iconst hM dX4_copyFrom_49 rfl,
    ok_aload_n hM 0 dX4_copyFrom_50 rfl,
    ok_get (C := RX4) (T := TX4) (Nf := 6) hM (fun _ h => List.mem_cons_of_mem _ (List.mem_append_left _ (List.mem_append_left _ (List.mem_append_right _ h)))) rfl 3 (by decide) (List.mem_of_getElem? (i := 8) rfl) rfl dX4_copyFrom_51,
    ok_alen hM dX4_copyFrom_54,
    ok_copy hM (List.mem_of_getElem? (i := 4) rfl) (List.mem_of_getElem? (i := 5) rfl) (List.mem_of_getElem? (i := 6) rfl) (List.mem_of_getElem? (i := 7) rfl) (by decide) (by decide +kernel) dX4_copyFrom_55,
    ok_F (ok_aload_n hM 0 dX4_copyFrom_58 rfl),
    ok_aload_n hM 1 dX4_copyFrom_59 rfl,
    ok_get (C := RX4) (T := TX4) (Nf := 6) hM (fun _ h => List.mem_cons_of_mem _ (List.mem_append_left _ (List.mem_append_left _ (List.mem_append_right _ h)))) rfl 4 (by decide) (List.mem_of_getElem? (i := 9) rfl) rfl dX4_copyFrom_60,
    ok_putI (C := RX4) (T := TX4) (Nf := 6) hM (fun _ h => List.mem_cons_of_mem _ (List.mem_append_left _ (List.mem_append_left _ (List.mem_append_right _ h)))) tyX4 tyX4_ok nmX4 rfl 4 (by decide) (List.mem_of_getElem? (i := 9) rfl) rfl rfl (by decide +kernel) dX4_copyFrom_63,
    ok_F (ok_aload_n hM 0 dX4_copyFrom_66 rfl),
    ok_aload_n hM 1 dX4_copyFrom_67 rfl,
    ok_get (C := RX4) (T := TX4) (Nf := 6) hM (fun _ h => List.mem_cons_of_mem _ (List.mem_append_left _ (List.mem_append_left _ (List.mem_append_right _ h)))) rfl 5 (by decide) (List.mem_of_getElem? (i := 10) rfl) rfl dX4_copyFrom_68,
    ok_putI (C := RX4) (T := TX4) (Nf := 6) hM (fun _ h => List.mem_cons_of_mem _ (List.mem_append_left _ (List.mem_append_left _ (List.mem_append_right _ h)))) tyX4 tyX4_ok nmX4 rfl 5 (by decide) (List.mem_of_getElem? (i := 10) rfl) rfl rfl (by decide +kernel) dX4_copyFrom_71,
    ok_F (ok_retV hM hE dX4_copyFrom_74),
    trivial⟩
set_option maxRecDepth 100000 in
theorem ctX4_copyFrom (l : Launch) : Ct l yX4_copyFrom wsX4_copyFrom rmX4_copyFrom 0 0 false sX4_copyFrom := by
  refine ct_of (own := RX4) (cc := cX4_copyFrom) (maxL := 2) (ret := none) (by decide) rfl rfl (by rintro _ _ _ ⟨v, v', rfl, rfl, hK⟩; exact Nat.le_of_ble_eq_true rfl) ?_
  intro X av es K hM hE hag hin hnL hsp
  obtain ⟨v, v', rfl, rfl, hK⟩ := hsp
  have hf := kX4_copyFrom hM (gR_eqv hE) hnL
  refine wr_ok hf cut_nil 5 0 _ _ _ _ _ ?_
  refine ⟨vOw v, vHd v, vSt v, vOw v', vHd v', vSt v', rfl, rfl, ?_⟩
  refine ⟨vAd v, vGa v, vAd v', vGa v', rfl, rfl, ?_⟩
  refine ⟨4, rfl, rfl, rfl, by omega, by omega, ?_⟩
  refine ⟨16, rfl, rfl, rfl, by omega, by omega, ?_⟩
  refine ⟨st0 v' ++ st10 v', ⟨rfl, rfl, eqE_rfl _, eqE_rfl _, eqE_rfl _, rfl, eqE_rfl _, eqE_rfl _, ⟨rfl, rfl, fun _ h => cpy0 h⟩, ⟨rfl, rfl, fun _ h => cpy0 h⟩, eqL_rfl _⟩, hK⟩
abbrev hs0 (H : Nat → gV) (old sz : Int32) : List gE := .inr (1, [.ref 1, .int old, .int sz]) :: .inl (5, 6, .inr (.inr (.inr [some 2, some 12, some 22, some 32, some 42, some 52]))) :: (st2 (H 0) ++ (st12 (H 1) ++ (st22 (H 2) ++ (st32 (H 3) ++ (st42 (H 4) ++ st52 (H 5))))))
def hUp (H : Nat → gV) (j : Nat) (v : gV) : Nat → gV := fun i => bif Nat.beq i j then v else H i
theorem rem6 {a : Nat} (h : a < 100) : nI a - nI a / nI 6 * nI 6 = nI (a % 6) := pk_rem (by omega) (by decide) (by decide)
def sX1_push : gS := fun av es K => ∃ H o s v, av = [.ref 0, .ref 62] ∧ o < 6 ∧ s ≤ 6 ∧ es = hs0 H (nI o) (nI s) ++ st62 v ∧ K none (hs0 (hUp H ((o + s) % 6) v) (nI (if s < 6 then o else (o + 1) % 6)) (nI (if s < 6 then s + 1 else 6)) ++ st62 v)
def rmX1_push : Room := { frames := 3, cells := 0, slots := 0, locals := 102 }
def pX1_push (K : gK) : List (Nat × gO) := [(0, oF (oALoad 0)), (1, oGet 1 0), (4, oALoad 0), (5, oGet 1 1), (8, oALoad 0), (9, oGet 1 2), (12, oAdd), (13, oConst (nI 6)), (15, oRem), (16, oAALd), (17, oALoad 1), (18, oCallVD 0 0 4 1 sX4_copyFrom), (21, oF (oALoad 0)), (22, oGet 1 2), (25, oConst (nI 6)), (27, oICmp_ge 43), (30, oALoad 0), (31, oDup), (32, oGet 1 2), (35, oConst (nI 1)), (36, oAdd), (37, oPutI 1 2), (40, oGoto 56), (43, oF (oALoad 0)), (44, oALoad 0), (45, oGet 1 1), (48, oConst (nI 1)), (49, oAdd), (50, oConst (nI 6)), (52, oRem), (53, oPutI 1 1), (56, oF (oRetV K 0 0))]
set_option maxRecDepth 100000 in
theorem kX1_push {X : gX} {l : Launch} (hM : gM X l cX1_push RX1 wsX1_push rmX1_push) {K : gK} (hE : gR X K 0 0 none) (hnL : X.2.2.2.2.2.2.2.2.2.2.2.2.2.2.2.2 = 2) : okL X (pX1_push K) := by
  obtain ⟨p, l1, e, R, s, m, args, below, meth, c, D, cA, A, ag, ad0, Q, nL⟩ := X
  cases hnL
  refine ⟨ok_F (ok_aload_n hM 0 dX1_push_0 rfl),
    ok_get (C := RX1) (T := TX1) (Nf := 3) hM (fun _ h => List.mem_cons_of_mem _ (List.mem_append_left _ (List.mem_append_left _ (List.mem_append_left _ (List.mem_append_right _ h))))) rfl 0 (by decide) (List.mem_of_getElem? (i := 1) rfl) rfl dX1_push_1,
    ok_aload_n hM 0 dX1_push_4 rfl,
    ok_get (C := RX1) (T := TX1) (Nf := 3) hM (fun _ h => List.mem_cons_of_mem _ (List.mem_append_left _ (List.mem_append_left _ (List.mem_append_left _ (List.mem_append_right _ h))))) rfl 1 (by decide) (List.mem_of_getElem? (i := 2) rfl) rfl dX1_push_5,
    ok_aload_n hM 0 dX1_push_8 rfl,
    ok_get (C := RX1) (T := TX1) (Nf := 3) hM (fun _ h => List.mem_cons_of_mem _ (List.mem_append_left _ (List.mem_append_left _ (List.mem_append_left _ (List.mem_append_right _ h))))) rfl 2 (by decide) (List.mem_of_getElem? (i := 3) rfl) rfl dX1_push_9,
    ok_iadd hM dX1_push_12,
    ok_bipush hM dX1_push_13 rfl,
    ok_irem hM dX1_push_15,
    ok_aald hM dX1_push_16,
    ok_aload_n hM 1 dX1_push_17 rfl,
    ok_callVD hM (ctX4_copyFrom l) rfl gX1_push_X4_copyFrom rfl rfl rfl (by decide +kernel) (by decide) dX1_push_18,
    ok_F (ok_aload_n hM 0 dX1_push_21 rfl),
    ok_get (C := RX1) (T := TX1) (Nf := 3) hM (fun _ h => List.mem_cons_of_mem _ (List.mem_append_left _ (List.mem_append_left _ (List.mem_append_left _ (List.mem_append_right _ h))))) rfl 2 (by decide) (List.mem_of_getElem? (i := 3) rfl) rfl dX1_push_22,
    ok_bipush hM dX1_push_25 rfl,
    ok_icmp_ge hM 43 dX1_push_27 (by decide),
    ok_aload_n hM 0 dX1_push_30 rfl,
    ok_dup hM dX1_push_31,
    ok_get (C := RX1) (T := TX1) (Nf := 3) hM (fun _ h => List.mem_cons_of_mem _ (List.mem_append_left _ (List.mem_append_left _ (List.mem_append_left _ (List.mem_append_right _ h))))) rfl 2 (by decide) (List.mem_of_getElem? (i := 3) rfl) rfl dX1_push_32,
    ok_iconst hM dX1_push_35 rfl,
    ok_iadd hM dX1_push_36,
    ok_putI (C := RX1) (T := TX1) (Nf := 3) hM (fun _ h => List.mem_cons_of_mem _ (List.mem_append_left _ (List.mem_append_left _ (List.mem_append_left _ (List.mem_append_right _ h))))) tyX1 tyX1_ok nmX1 rfl 2 (by decide) (List.mem_of_getElem? (i := 3) rfl) rfl rfl (by decide +kernel) dX1_push_37,
    ok_goto hM 56 dX1_push_40 (by decide),
    ok_F (ok_aload_n hM 0 dX1_push_43 rfl),
    ok_aload_n hM 0 dX1_push_44 rfl,
    ok_get (C := RX1) (T := TX1) (Nf := 3) hM (fun _ h => List.mem_cons_of_mem _ (List.mem_append_left _ (List.mem_append_left _ (List.mem_append_left _ (List.mem_append_right _ h))))) rfl 1 (by decide) (List.mem_of_getElem? (i := 2) rfl) rfl dX1_push_45,
    ok_iconst hM dX1_push_48 rfl,
    ok_iadd hM dX1_push_49,
    ok_bipush hM dX1_push_50 rfl,
    ok_irem hM dX1_push_52,
    ok_putI (C := RX1) (T := TX1) (Nf := 3) hM (fun _ h => List.mem_cons_of_mem _ (List.mem_append_left _ (List.mem_append_left _ (List.mem_append_left _ (List.mem_append_right _ h))))) tyX1 tyX1_ok nmX1 rfl 1 (by decide) (List.mem_of_getElem? (i := 2) rfl) rfl rfl (by decide +kernel) dX1_push_53,
    ok_F (ok_retV hM hE dX1_push_56),
    trivial⟩
set_option maxRecDepth 100000 in
theorem ctX1_push (l : Launch) : Ct l yX1_push wsX1_push rmX1_push 0 0 false sX1_push := by
  refine ct_of (own := RX1) (cc := cX1_push) (maxL := 2) (ret := none) (by decide) rfl rfl (by rintro _ _ _ ⟨H, o, s, v, rfl, ho, hs, rfl, hK⟩; exact Nat.le_of_ble_eq_true rfl) ?_
  intro X av es K hM hE hag hin hnL hsp
  obtain ⟨H, o, s, v, rfl, ho, hs, rfl, hK⟩ := hsp
  have hf := kX1_push hM hE hnL
  refine wr_ok hf cut_nil 5 0 _ _ _ _ _ ?_
  refine ⟨by decide, ?_⟩
  refine ⟨(o + s) % 6, by rw [nI_add, rem6 (by omega)], by omega, ?_⟩
  have hj : (o + s) % 6 = 0 ∨ (o + s) % 6 = 1 ∨ (o + s) % 6 = 2 ∨ (o + s) % 6 = 3 ∨ (o + s) % 6 = 4 ∨ (o + s) % 6 = 5 := by omega
  generalize (o + s) % 6 = j at hj hK
  rcases hj with rfl | rfl | rfl | rfl | rfl | rfl
  · refine ⟨[2, 3, 4, 5, 6, 7, 8, 9, 10, 11, 62, 63, 64, 65, 66, 67, 68, 69, 70, 71], rfl, H 0, v, rfl, rfl, ?_⟩
    refine ⟨fun h => ?_, fun h => ?_⟩
    · have h6 : ¬ s < 6 := by
        rw [nI_leI (by decide) (by omega)] at h
        omega
      have h7 : s = 6 := by omega
      subst h7
      rw [if_neg h6, if_neg h6] at hK
      have e9 : nI o + nI 1 - (nI o + nI 1) / nI 6 * nI 6 = nI ((o + 1) % 6) := by rw [nI_add, rem6 (by omega)]
      rw [← e9] at hK
      exact ⟨by decide, hK⟩
    · have h6 : s < 6 := by
        rw [nI_leI (by decide) (by omega)] at h
        omega
      rw [if_pos h6, if_pos h6] at hK
      rw [← nI_add] at hK
      exact hK
  · refine ⟨[12, 13, 14, 15, 16, 17, 18, 19, 20, 21, 62, 63, 64, 65, 66, 67, 68, 69, 70, 71], rfl, H 1, v, rfl, rfl, ?_⟩
    refine ⟨fun h => ?_, fun h => ?_⟩
    · have h6 : ¬ s < 6 := by
        rw [nI_leI (by decide) (by omega)] at h
        omega
      have h7 : s = 6 := by omega
      subst h7
      rw [if_neg h6, if_neg h6] at hK
      have e9 : nI o + nI 1 - (nI o + nI 1) / nI 6 * nI 6 = nI ((o + 1) % 6) := by rw [nI_add, rem6 (by omega)]
      rw [← e9] at hK
      exact ⟨by decide, hK⟩
    · have h6 : s < 6 := by
        rw [nI_leI (by decide) (by omega)] at h
        omega
      rw [if_pos h6, if_pos h6] at hK
      rw [← nI_add] at hK
      exact hK
  · refine ⟨[22, 23, 24, 25, 26, 27, 28, 29, 30, 31, 62, 63, 64, 65, 66, 67, 68, 69, 70, 71], rfl, H 2, v, rfl, rfl, ?_⟩
    refine ⟨fun h => ?_, fun h => ?_⟩
    · have h6 : ¬ s < 6 := by
        rw [nI_leI (by decide) (by omega)] at h
        omega
      have h7 : s = 6 := by omega
      subst h7
      rw [if_neg h6, if_neg h6] at hK
      have e9 : nI o + nI 1 - (nI o + nI 1) / nI 6 * nI 6 = nI ((o + 1) % 6) := by rw [nI_add, rem6 (by omega)]
      rw [← e9] at hK
      exact ⟨by decide, hK⟩
    · have h6 : s < 6 := by
        rw [nI_leI (by decide) (by omega)] at h
        omega
      rw [if_pos h6, if_pos h6] at hK
      rw [← nI_add] at hK
      exact hK
  · refine ⟨[32, 33, 34, 35, 36, 37, 38, 39, 40, 41, 62, 63, 64, 65, 66, 67, 68, 69, 70, 71], rfl, H 3, v, rfl, rfl, ?_⟩
    refine ⟨fun h => ?_, fun h => ?_⟩
    · have h6 : ¬ s < 6 := by
        rw [nI_leI (by decide) (by omega)] at h
        omega
      have h7 : s = 6 := by omega
      subst h7
      rw [if_neg h6, if_neg h6] at hK
      have e9 : nI o + nI 1 - (nI o + nI 1) / nI 6 * nI 6 = nI ((o + 1) % 6) := by rw [nI_add, rem6 (by omega)]
      rw [← e9] at hK
      exact ⟨by decide, hK⟩
    · have h6 : s < 6 := by
        rw [nI_leI (by decide) (by omega)] at h
        omega
      rw [if_pos h6, if_pos h6] at hK
      rw [← nI_add] at hK
      exact hK
  · refine ⟨[42, 43, 44, 45, 46, 47, 48, 49, 50, 51, 62, 63, 64, 65, 66, 67, 68, 69, 70, 71], rfl, H 4, v, rfl, rfl, ?_⟩
    refine ⟨fun h => ?_, fun h => ?_⟩
    · have h6 : ¬ s < 6 := by
        rw [nI_leI (by decide) (by omega)] at h
        omega
      have h7 : s = 6 := by omega
      subst h7
      rw [if_neg h6, if_neg h6] at hK
      have e9 : nI o + nI 1 - (nI o + nI 1) / nI 6 * nI 6 = nI ((o + 1) % 6) := by rw [nI_add, rem6 (by omega)]
      rw [← e9] at hK
      exact ⟨by decide, hK⟩
    · have h6 : s < 6 := by
        rw [nI_leI (by decide) (by omega)] at h
        omega
      rw [if_pos h6, if_pos h6] at hK
      rw [← nI_add] at hK
      exact hK
  · refine ⟨[52, 53, 54, 55, 56, 57, 58, 59, 60, 61, 62, 63, 64, 65, 66, 67, 68, 69, 70, 71], rfl, H 5, v, rfl, rfl, ?_⟩
    refine ⟨fun h => ?_, fun h => ?_⟩
    · have h6 : ¬ s < 6 := by
        rw [nI_leI (by decide) (by omega)] at h
        omega
      have h7 : s = 6 := by omega
      subst h7
      rw [if_neg h6, if_neg h6] at hK
      have e9 : nI o + nI 1 - (nI o + nI 1) / nI 6 * nI 6 = nI ((o + 1) % 6) := by rw [nI_add, rem6 (by omega)]
      rw [← e9] at hK
      exact ⟨by decide, hK⟩
    · have h6 : s < 6 := by
        rw [nI_leI (by decide) (by omega)] at h
        omega
      rw [if_pos h6, if_pos h6] at hK
      rw [← nI_add] at hK
      exact hK
end MS
end
section
/-! CommandText: its cells. -/
section MC
abbrev tx0 (f : Nat → Int32) (len : Int32) : List gE := [.inr (0, [.ref 1, .int len]), .inl (1, 80, .inl f)]
end MC
end
section
/-! Worlds with an open rest: only the first fz cells are looked at; calls that hand over the whole world. -/
section GR
def gforN : Nat → List gE → (List gE → Prop) → Prop
  | 0, es, F => F es
  | f + 1, e :: es, F => gforN f es (fun es' => F (e :: es'))
  | _ + 1, [], F => F []
theorem gforN_eq : ∀ (f : Nat) (es : List gE) (F : List gE → Prop), gforN f es F = F es
  | 0, _, _ => rfl
  | f + 1, [], _ => rfl
  | f + 1, e :: es, F => by rw [gforN, gforN_eq f es]
def oFR (fz : Nat) (o : gO) : gO := fun J N L S es k n => gforN fz es (fun es' => lforce L (fun L' => o J N L' S es' k n))
theorem ok_FR {X : gX} {pc nx fz : Nat} {o : gO} (h : okO X pc nx o) : okO X pc nx (oFR fz o) := by
  intro J N hJ hN L S es k n ho
  unfold oFR at ho
  rw [gforN_eq, lforce_eq] at ho
  exact h J N hJ hN L S es k n ho
def gputR (fz : Nat) : List gE → List Nat → List gE → (List gE → Prop) → Prop
  | es, i :: is, f :: fs, F => gforN fz (es.set i f) (fun es' => gputR fz es' is fs F)
  | es, _, _, F => F es
theorem gputR_eq (fz : Nat) : ∀ (ids : List Nat) (es fs : List gE) (F : List gE → Prop), gputR fz es ids fs F = F (gput es ids fs)
  | [], es, [], F => rfl
  | [], es, _ :: _, F => rfl
  | _ :: _, es, [], F => rfl
  | i :: is, es, f :: fs, F => by rw [gputR, gforN_eq, gputR_eq fz is, gput]
def gspecR (fz : Nat) (ids : List Nat) (sp : gS) (av : List Value) (N : gP) (L : List (Nat × Value)) (S' : List Value) (es : List gE) (k n : Nat) : Prop := match gpick es ids with
  | some esc => gif (Nat.ble ids.length 1000) (sp (av.map (canV ids)) (esc.map (canE ids)) (fun v es' => gif (Nat.beq es'.length ids.length) (gputR fz es ids (es'.map (renE (gid ids))) (fun es2 => N L (vpush (gid ids) v S') es2 k n))))
  | none => False
theorem gspecR_eq (fz : Nat) (ids : List Nat) (sp : gS) (av : List Value) (N : gP) (L : List (Nat × Value)) (S' : List Value) (es : List gE) (k n : Nat) : gspecR fz ids sp av N L S' es k n = gspec ids sp av N L S' es k n := by
  unfold gspecR gspec
  cases gpick es ids with
  | none => rfl
  | some esc => simp only [gputR_eq, gputF_eq]
def oCallVR (fz rc rs ci np : Nat) (ids : List Nat) (sp : gS) : gO := fun _ N L S es k n => match gtake np [] S with
  | some (as, .ref b :: S') => eObj es b ci (fun _ => gif (Nat.ble (scat S') 8 && (Nat.ble k rc && Nat.ble n rs)) (gspecR fz ids sp (.ref b :: as) N L S' es k n))
  | _ => False
variable {X : gX} {l0 : Launch} {cc : ByteArray} {own : String} {Ts : List Cond} {R0 : Room} {pc : Nat}
theorem ok_R {fz rc rs ci np nx : Nat} {ids : List Nat} {sp : gS} (h : okO X pc nx (oCallV rc rs ci np ids sp)) : okO X pc nx (oCallVR fz rc rs ci np ids sp) := by
  have e : oCallVR fz rc rs ci np ids sp = oCallV rc rs ci np ids sp := by
    funext J N L S es k n
    unfold oCallVR oCallV
    simp only [gspecR_eq]
    try rfl
  rw [e]
  exact h
def oSR (fz rc rs np : Nat) (ids : List Nat) (sp : gS) : gO := fun _ N L S es k n => match gtake np [] S with
  | some (as, S') => gif (Nat.ble (scat S') 8 && (Nat.ble k rc && Nat.ble n rs)) (gspecR fz ids sp as N L S' es k n)
  | _ => False
theorem ok_SR {fz rc rs np nx : Nat} {ids : List Nat} {sp : gS} (h : okO X pc nx (oCallS rc rs np ids sp)) : okO X pc nx (oSR fz rc rs np ids sp) := by
  have e : oSR fz rc rs np ids sp = oCallS rc rs np ids sp := by
    funext J N L S es k n
    unfold oSR oCallS
    simp only [gspecR_eq]
    try rfl
  rw [e]
  exact h
-- the whole world handed over, numbers and all
def vpushI : Option Value → List Value → List Value
  | none, S => S
  | some v, S => v :: S
theorem vpushI_map {ad : Nat → Nat} (v : Option Value) (S : List Value) : (vpushI v S).map (gv ad) = (v.map (gv ad)).toList ++ S.map (gv ad) := by
  cases v <;> rfl
def oCallV0 (rc rs ci np : Nat) (sp : gS) : gO := fun _ N L S es k n => match gtake np [] S with
  | some (as, .ref b :: S') => eObj es b ci (fun _ => gif (Nat.ble (scat S') 8 && (Nat.ble k rc && Nat.ble n rs)) (sp (.ref b :: as) es (fun v es' => N L (vpushI v S') es' k n)))
  | _ => False
theorem ok_callV0 (hM : gM X l0 cc own Ts R0) {y : MethodName} {ws ws' : List Cond} {rm : Room} {bytes : ByteArray} {maxL index ci np : Nat} {ret : Option FieldType} {sp : gS} {Cn : String} {Tn : u_T} {Nn : Nat} (hC : Ct l0 y ws rm 0 0 false sp) (hci : vwCl[ci]? = some (Cn, Tn, Nn)) (hG : GoodIn Ts (wsV own index Cn y ws)) (hw : ws = Cond.code y bytes maxL ret :: ws') (hrc : rm.cells = 0) (hrs : rm.slots = 0)
    (hdy : y.cls = Cn ∧ y.cls ≠ "java/lang/invoke/MethodHandle" ∧ y.cls ≠ "java/lang/invoke/VarHandle" ∧ (parseMethodDescriptor y.desc).map (fun d => d.parameters.length) = some np) (hRm : rm.frames + 1 ≤ R0.frames ∧ 8 + (maxL + 11) + rm.locals ≤ R0.locals) (hd : decode cc pc = .ok (.invokevirtual index, 3)) :
    okO X pc (pc + 3) (oCallV0 R0.cells R0.slots ci np sp) := by
  obtain ⟨p, l, e, R, s, m, args, below, meth, c, D, cA, A, ag, ad0, Q, nL⟩ := X
  obtain ⟨hx, hb, hown, hts, hml, hlk, hY, hA, hR, hL0⟩ := hM
  have hK := hY.1
  subst hR
  subst hL0
  intro J N hJ hN L S es k n h ad H locs ls hag hP hD hS hl
  unfold oCallV0 at h
  split at h
  · rename_i as b S' htk
    obtain ⟨pre, h1, h2, h3⟩ := gtake_ok htk
    simp only [List.append_nil] at h1
    subst h1
    subst h2
    obtain ⟨fs, hes, h⟩ := eObj_ok h
    obtain ⟨hc1, h⟩ := bif_t (b := Nat.ble (scat S') 8 && (Nat.ble k R.cells && Nat.ble n R.slots)) h
    obtain ⟨hc1, hc2⟩ := and_t hc1
    obtain ⟨hc2, hc3⟩ := and_t hc2
    have hF : ∀ q, va_A (gw cA ad es) H.size q → A q := by
      intro q hq
      rcases hq with ⟨j, e9, hq⟩ | hq
      · exact hD.2 j _ hq
      · exact hA q (Nat.le_trans hS.1 hq)
    have hMet := hC D cA ad H.size _ _ _ h
    refine g_call (va_runV (As := as.map (gv ad)) (rest := S'.map (gv ad)) (b := ad b) ⟨hx, hb, hml, hown, hts⟩ hMet (cwV np hts hG hw hrc hrs hdy hRm) ⟨gPc_blind, va_recv hK hP hci (q0 := b) (gw_get hes), fun U hU hW => ?_⟩ rfl (by simp [h3]) hl.1 (by simp [gv]) (lv_room (by rw [scat_eq]; exact Nat.le_of_ble_eq_true hc1)) hd ⟨Nat.le_of_ble_eq_true hc2, Nat.le_of_ble_eq_true hc3⟩) hS hF (fun v es' ad' H1 locs1 hKv hag' hP1 hD1 hz hk hS1 => ?_)
    · exact ⟨rfl, by rw [hU], by rw [hU]; exact hP, gY.call hY hS hF hW hU, hD.weaken (fun _ _ _ _ => trivial)⟩
    · have had : ad' = ad := funext fun i => hag' i trivial
      subst had
      rw [← vpushI_map]
      exact hN _ _ _ _ _ hKv ad' H1 locs1 ls hag hP1 (hD1.weaken (fun _ q _ h => hF q.1 h)) hS1 hl
  · exact h.elim
end GR
end
section
/-! PartitionedCache: what its public methods share. -/
section MQ1
abbrev st1 (v : gV) : List gE := [.inr (4, [.ref 2, .ref 6, .ref 9, .ref 10, .int (vEp v), .int (vAc v)]), .inr (3, [.ref 3, .ref 4, .ref 5]), .inl (0, 8, .inl (vOw v)), .inl (0, 32, .inl (vHd v)), .inl (0, 32, .inl (vSt v)), .inr (2, [.ref 7, .ref 8]), .inl (0, 64, .inl (vAd v)), .inl (0, 32, .inl (vGa v)), .inl (0, 4, .inl (vLe v)), .inl (0, 16, .inl (vCo v))]
abbrev pcO (n t h x sl sf : Nat) : gE := .inr (6, [.ref n, .ref t, .ref h, .ref x, .ref sl, .ref sf])
abbrev w13 (v : gV) (wy : Nat → Int32) (r : List gE) : List gE := pcO 1 11 15 13 77 78 :: (st1 v ++ (.inr (5, [.ref 12]) :: .inl (0, 4, .inl wy) :: r))
def sX6_deficitOf : gS := fun av es K => ∃ z t v wy r, av = [.ref 0, .int z] ∧ z = nI t ∧ t < 4 ∧ es = w13 v wy r ∧ K (some (.int (wy t - nI (fOwn (vOw v) (nI t))))) es
def rmX6_deficitOf : Room := { frames := 1, cells := 0, slots := 0, locals := 23 }
def pX6_deficitOf (K : gK) : List (Nat × gO) := [(0, oFR 13 (oALoad 0)), (1, oGet 6 1), (4, oGet 5 0), (7, oILoad 1), (8, oIALd 0), (9, oALoad 0), (10, oGet 6 0), (13, oGet 4 0), (16, oILoad 1), (17, oCallVR 13 0 0 3 1 [2,3,4,5] sX3_ownedWays), (20, oSub), (21, oFR 13 (oRet K 0 0))]
set_option maxRecDepth 100000 in
theorem kX6_deficitOf {X : gX} {l : Launch} (hM : gM X l cX6_deficitOf RX6 wsX6_deficitOf rmX6_deficitOf) {K : gK} (hE : gR X K 0 0 (some .int)) (hnL : X.2.2.2.2.2.2.2.2.2.2.2.2.2.2.2.2 = 2) : okL X (pX6_deficitOf K) := by
  obtain ⟨p, l1, e, R, s, m, args, below, meth, c, D, cA, A, ag, ad0, Q, nL⟩ := X
  cases hnL
  refine ⟨ok_FR (ok_aload_n hM 0 dX6_deficitOf_0 rfl),
    ok_get (C := RX6) (T := TX6) (Nf := 6) hM (fun _ h => List.mem_cons_of_mem _ (List.mem_append_left _ (List.mem_append_left _ (List.mem_append_left _ (List.mem_append_right _ h))))) rfl 1 (by decide) (List.mem_of_getElem? (i := 1) rfl) rfl dX6_deficitOf_1,
    ok_get (C := RX5) (T := TX5) (Nf := 1) hM (fun _ h => List.mem_cons_of_mem _ (List.mem_append_left _ (List.mem_append_left _ (List.mem_append_right _ h)))) rfl 0 (by decide) (List.mem_of_getElem? (i := 2) rfl) rfl dX6_deficitOf_4,
    ok_iload_n hM 1 dX6_deficitOf_7 rfl,
    ok_iald hM dX6_deficitOf_8,
    ok_aload_n hM 0 dX6_deficitOf_9 rfl,
    ok_get (C := RX6) (T := TX6) (Nf := 6) hM (fun _ h => List.mem_cons_of_mem _ (List.mem_append_left _ (List.mem_append_left _ (List.mem_append_left _ (List.mem_append_right _ h))))) rfl 0 (by decide) (List.mem_of_getElem? (i := 3) rfl) rfl dX6_deficitOf_10,
    ok_get (C := RX4) (T := TX4) (Nf := 6) hM (fun _ h => List.mem_cons_of_mem _ (List.mem_append_left _ (List.mem_append_right _ h))) rfl 0 (by decide) (List.mem_of_getElem? (i := 4) rfl) rfl dX6_deficitOf_13,
    ok_iload_n hM 1 dX6_deficitOf_16 rfl,
    ok_R (ok_callV hM [2,3,4,5] (ctX3_ownedWays l) rfl rfl gX6_deficitOf_X3_ownedWays rfl rfl rfl (by decide +kernel) (by decide) dX6_deficitOf_17),
    ok_isub hM dX6_deficitOf_20,
    ok_FR (ok_ret hM hE dX6_deficitOf_21),
    trivial⟩
set_option maxRecDepth 100000 in
theorem ctX6_deficitOf (l : Launch) : Ct l yX6_deficitOf wsX6_deficitOf rmX6_deficitOf 0 0 false sX6_deficitOf := by
  refine ct_of (own := RX6) (cc := cX6_deficitOf) (maxL := 2) (ret := (some .int)) (by decide) rfl rfl (by rintro _ _ _ ⟨z, t, v, wy, r, rfl, rfl, ht, rfl, hK⟩; exact Nat.le_of_ble_eq_true rfl) ?_
  intro X av es K hM hE hag hin hnL hsp
  obtain ⟨z, t, v, wy, r, rfl, rfl, ht, rfl, hK⟩ := hsp
  have hf := kX6_deficitOf hM hE hnL
  refine wr_ok hf cut_nil 5 0 _ _ _ _ _ ?_
  refine ⟨t, rfl, ht, ?_⟩
  refine ⟨nI t, vOw v, vHd v, vSt v, rfl, rfl, ?_⟩
  exact hK
def amax (d : Nat → Int32) : Nat → Nat
  | 0 => 0
  | n + 1 => if d (amax d n) < d (n + 1) then n + 1 else amax d n
def amin (d : Nat → Int32) : Nat → Nat
  | 0 => 0
  | n + 1 => if d (n + 1) < d (amin d n) then n + 1 else amin d n
theorem amax_le (d : Nat → Int32) : ∀ n, amax d n ≤ n
  | 0 => Nat.le_refl _
  | n + 1 => by
    have := amax_le d n
    unfold amax
    split <;> omega
theorem amin_le (d : Nat → Int32) : ∀ n, amin d n ≤ n
  | 0 => Nat.le_refl _
  | n + 1 => by
    have := amin_le d n
    unfold amin
    split <;> omega
theorem wfl_lt {ow : Nat → Int32} {ln : Nat → Nat} {t : Int32} : ∀ (f w : Nat) (b : Option Nat) (m p : Nat), w + f ≤ 8 → (∀ q, b = some q → q < 8) → wfl ow ln t f w b m = some p → p < 8
  | 0, _, _, _, p, _, hb, h => hb p h
  | f + 1, w, b, m, p, hw, hb, h => by
    unfold wfl at h
    split at h
    · exact wfl_lt f (w + 1) (some w) _ p (by omega) (fun q hq => by cases hq; omega) h
    · exact wfl_lt f (w + 1) b _ p (by omega) hb h
def dfc (W : Nat → Nat) (ow : Nat → Int32) : Nat → Int32 := fun t => nI (W t) - nI (fOwn ow (nI t))
def mvD (L : Nat → Nat) (v : gV) : Nat → Int32 := dfc (tgt L (vGa v)) (vOw v)
def mvW (L : Nat → Nat) (v : gV) : Option Nat := if mvD L v (amax (mvD L v) 3) = 0 then none else wfl (vOw v) (lnW (vHd v) (nI (amin (mvD L v) 3))) (nI (amin (mvD L v) 3)) 8 0 none 5
def mvO (L : Nat → Nat) (v : gV) : Nat → Int32 := match mvW L v with
  | none => vOw v
  | some w => upd (vOw v) w (nI (amax (mvD L v) 3))
abbrev mvV (L : Nat → Nat) (v : gV) : gV := (mvO L v, vHd v, vSt v, vAd v, vGa v, vLe v, vCo v, vEp v, vAc v)
def sX6_moveOneWay : gS := fun av es K => ∃ v wy r L, av = [.ref 0] ∧ (∀ t, t < 4 → vLe v t = nI (L t) ∧ L t ≤ 2) ∧ es = w13 v wy r ∧ ∀ wy', K (some (.int (oI (mvW L v)))) (w13 (mvV L v) wy' r)
def rmX6_moveOneWay : Room := { frames := 3, cells := 0, slots := 0, locals := 73 }
def pX6_moveOneWay (K : gK) : List (Nat × gO) := [(0, oFR 13 (oALoad 0)), (1, oGet 6 1), (4, oALoad 0), (5, oGet 6 0), (8, oCallVR 13 0 0 5 1 [11,12,1,2,3,4,5,6,7,8,9,10] sX5_compute), (11, oConst (nI 0)), (12, oFR 13 (oIStore 4 1)), (13, oConst (nI 0)), (14, oFR 13 (oIStore 4 2)), (15, oConst (nI 1)), (16, oFR 13 (oIStore 4 3)), (17, oFR 13 (oILoad 3)), (18, oConst (nI 4)), (19, oICmp_ge 58), (22, oALoad 0), (23, oILoad 3), (24, oCallV0 0 0 6 1 sX6_deficitOf), (27, oFR 13 (oALoad 0)), (28, oILoad 1), (29, oCallV0 0 0 6 1 sX6_deficitOf), (32, oFR 13 (oICmp_le 37)), (35, oILoad 3), (36, oIStore 4 1), (37, oFR 13 (oALoad 0)), (38, oILoad 3), (39, oCallV0 0 0 6 1 sX6_deficitOf), (42, oFR 13 (oALoad 0)), (43, oILoad 2), (44, oCallV0 0 0 6 1 sX6_deficitOf), (47, oFR 13 (oICmp_ge 52)), (50, oILoad 3), (51, oIStore 4 2), (52, oFR 13 (oIInc 4 3 (nI 1))), (55, oGoto 17), (58, oFR 13 (oALoad 0)), (59, oILoad 1), (60, oCallV0 0 0 6 1 sX6_deficitOf), (63, oFR 13 (oIf_ne 68)), (66, oConst (-1)), (67, oRet K 0 0), (68, oALoad 0), (69, oGet 6 0), (72, oGet 4 0), (75, oILoad 2), (76, oCallVR 13 0 0 3 1 [2,3,4,5] sX3_wayWithFewestLines), (79, oFR 13 (oIStore 4 3)), (80, oFR 13 (oILoad 3)), (81, oConst (-1)), (82, oICmp_eq 98), (85, oALoad 0), (86, oGet 6 0), (89, oGet 4 0), (92, oGet 3 0), (95, oILoad 3), (96, oILoad 1), (97, oIASt), (98, oFR 13 (oILoad 3)), (99, oRet K 0 0)]
set_option maxRecDepth 100000 in
theorem kX6_moveOneWay {X : gX} {l : Launch} (hM : gM X l cX6_moveOneWay RX6 wsX6_moveOneWay rmX6_moveOneWay) {K : gK} (hE : gR X K 0 0 (some .int)) (hnL : X.2.2.2.2.2.2.2.2.2.2.2.2.2.2.2.2 = 4) : okL X (pX6_moveOneWay K) := by
  obtain ⟨p, l1, e, R, s, m, args, below, meth, c, D, cA, A, ag, ad0, Q, nL⟩ := X
  cases hnL
  refine ⟨ok_FR (ok_aload_n hM 0 dX6_moveOneWay_0 rfl),
    ok_get (C := RX6) (T := TX6) (Nf := 6) hM (fun _ h => List.mem_cons_of_mem _ (List.mem_append_left _ (List.mem_append_left _ (List.mem_append_left _ (List.mem_append_left _ (List.mem_append_right _ h)))))) rfl 1 (by decide) (List.mem_of_getElem? (i := 1) rfl) rfl dX6_moveOneWay_1,
    ok_aload_n hM 0 dX6_moveOneWay_4 rfl,
    ok_get (C := RX6) (T := TX6) (Nf := 6) hM (fun _ h => List.mem_cons_of_mem _ (List.mem_append_left _ (List.mem_append_left _ (List.mem_append_left _ (List.mem_append_left _ (List.mem_append_right _ h)))))) rfl 0 (by decide) (List.mem_of_getElem? (i := 2) rfl) rfl dX6_moveOneWay_5,
    ok_R (ok_callV hM [11,12,1,2,3,4,5,6,7,8,9,10] (ctX5_compute l) rfl rfl gX6_moveOneWay_X5_compute rfl rfl rfl (by decide +kernel) (by decide) dX6_moveOneWay_8),
    ok_iconst hM dX6_moveOneWay_11 rfl,
    ok_FR (ok_istore_n hM 1 dX6_moveOneWay_12 rfl),
    ok_iconst hM dX6_moveOneWay_13 rfl,
    ok_FR (ok_istore_n hM 2 dX6_moveOneWay_14 rfl),
    ok_iconst hM dX6_moveOneWay_15 rfl,
    ok_FR (ok_istore_n hM 3 dX6_moveOneWay_16 rfl),
    ok_FR (ok_iload_n hM 3 dX6_moveOneWay_17 rfl),
    ok_iconst hM dX6_moveOneWay_18 rfl,
    ok_icmp_ge hM 58 dX6_moveOneWay_19 (by decide),
    ok_aload_n hM 0 dX6_moveOneWay_22 rfl,
    ok_iload_n hM 3 dX6_moveOneWay_23 rfl,
    ok_callV0 hM (ctX6_deficitOf l) rfl gX6_moveOneWay_X6_deficitOf rfl rfl rfl (by decide +kernel) (by decide) dX6_moveOneWay_24,
    ok_FR (ok_aload_n hM 0 dX6_moveOneWay_27 rfl),
    ok_iload_n hM 1 dX6_moveOneWay_28 rfl,
    ok_callV0 hM (ctX6_deficitOf l) rfl gX6_moveOneWay_X6_deficitOf rfl rfl rfl (by decide +kernel) (by decide) dX6_moveOneWay_29,
    ok_FR (ok_icmp_le hM 37 dX6_moveOneWay_32 (by decide)),
    ok_iload_n hM 3 dX6_moveOneWay_35 rfl,
    ok_istore_n hM 1 dX6_moveOneWay_36 rfl,
    ok_FR (ok_aload_n hM 0 dX6_moveOneWay_37 rfl),
    ok_iload_n hM 3 dX6_moveOneWay_38 rfl,
    ok_callV0 hM (ctX6_deficitOf l) rfl gX6_moveOneWay_X6_deficitOf rfl rfl rfl (by decide +kernel) (by decide) dX6_moveOneWay_39,
    ok_FR (ok_aload_n hM 0 dX6_moveOneWay_42 rfl),
    ok_iload_n hM 2 dX6_moveOneWay_43 rfl,
    ok_callV0 hM (ctX6_deficitOf l) rfl gX6_moveOneWay_X6_deficitOf rfl rfl rfl (by decide +kernel) (by decide) dX6_moveOneWay_44,
    ok_FR (ok_icmp_ge hM 52 dX6_moveOneWay_47 (by decide)),
    ok_iload_n hM 3 dX6_moveOneWay_50 rfl,
    ok_istore_n hM 2 dX6_moveOneWay_51 rfl,
    ok_FR (ok_iinc hM 3 dX6_moveOneWay_52 rfl),
    ok_goto hM 17 dX6_moveOneWay_55 (by decide),
    ok_FR (ok_aload_n hM 0 dX6_moveOneWay_58 rfl),
    ok_iload_n hM 1 dX6_moveOneWay_59 rfl,
    ok_callV0 hM (ctX6_deficitOf l) rfl gX6_moveOneWay_X6_deficitOf rfl rfl rfl (by decide +kernel) (by decide) dX6_moveOneWay_60,
    ok_FR (ok_if_ne hM 68 dX6_moveOneWay_63 (by decide)),
    ok_iconst hM dX6_moveOneWay_66 rfl,
    ok_ret hM hE dX6_moveOneWay_67,
    ok_aload_n hM 0 dX6_moveOneWay_68 rfl,
    ok_get (C := RX6) (T := TX6) (Nf := 6) hM (fun _ h => List.mem_cons_of_mem _ (List.mem_append_left _ (List.mem_append_left _ (List.mem_append_left _ (List.mem_append_left _ (List.mem_append_right _ h)))))) rfl 0 (by decide) (List.mem_of_getElem? (i := 2) rfl) rfl dX6_moveOneWay_69,
    ok_get (C := RX4) (T := TX4) (Nf := 6) hM (fun _ h => List.mem_cons_of_mem _ (List.mem_append_left _ (List.mem_append_left _ (List.mem_append_left _ (List.mem_append_right _ h))))) rfl 0 (by decide) (List.mem_of_getElem? (i := 3) rfl) rfl dX6_moveOneWay_72,
    ok_iload_n hM 2 dX6_moveOneWay_75 rfl,
    ok_R (ok_callV hM [2,3,4,5] (ctX3_wayWithFewestLines l) rfl rfl gX6_moveOneWay_X3_wayWithFewestLines rfl rfl rfl (by decide +kernel) (by decide) dX6_moveOneWay_76),
    ok_FR (ok_istore_n hM 3 dX6_moveOneWay_79 rfl),
    ok_FR (ok_iload_n hM 3 dX6_moveOneWay_80 rfl),
    ok_iconst hM dX6_moveOneWay_81 rfl,
    ok_icmp_eq hM 98 dX6_moveOneWay_82 (by decide),
    ok_aload_n hM 0 dX6_moveOneWay_85 rfl,
    ok_get (C := RX6) (T := TX6) (Nf := 6) hM (fun _ h => List.mem_cons_of_mem _ (List.mem_append_left _ (List.mem_append_left _ (List.mem_append_left _ (List.mem_append_left _ (List.mem_append_right _ h)))))) rfl 0 (by decide) (List.mem_of_getElem? (i := 2) rfl) rfl dX6_moveOneWay_86,
    ok_get (C := RX4) (T := TX4) (Nf := 6) hM (fun _ h => List.mem_cons_of_mem _ (List.mem_append_left _ (List.mem_append_left _ (List.mem_append_left _ (List.mem_append_right _ h))))) rfl 0 (by decide) (List.mem_of_getElem? (i := 3) rfl) rfl dX6_moveOneWay_89,
    ok_get (C := RX3) (T := TX3) (Nf := 3) hM (fun _ h => List.mem_cons_of_mem _ (List.mem_append_left _ (List.mem_append_left _ (List.mem_append_right _ h)))) rfl 0 (by decide) (List.mem_of_getElem? (i := 4) rfl) rfl dX6_moveOneWay_92,
    ok_iload_n hM 3 dX6_moveOneWay_95 rfl,
    ok_iload_n hM 1 dX6_moveOneWay_96 rfl,
    ok_iast hM dX6_moveOneWay_97,
    ok_FR (ok_iload_n hM 3 dX6_moveOneWay_98 rfl),
    ok_ret hM hE dX6_moveOneWay_99,
    trivial⟩
set_option maxRecDepth 100000 in
theorem ctX6_moveOneWay (l : Launch) : Ct l yX6_moveOneWay wsX6_moveOneWay rmX6_moveOneWay 0 0 false sX6_moveOneWay := by
  refine ct_of (own := RX6) (cc := cX6_moveOneWay) (maxL := 4) (ret := (some .int)) (by decide) rfl rfl (by rintro _ _ _ ⟨v, wy, r, L, rfl, hL, rfl, hK⟩; exact Nat.le_of_ble_eq_true rfl) ?_
  intro X av es K hM hE hag hin hnL hsp
  obtain ⟨v, wy, r, L, rfl, hL, rfl, hK⟩ := hsp
  have hf := kX6_moveOneWay hM hE hnL
  have hm := amax_le (mvD L v) 3
  have hm2 := amin_le (mvD L v) 3
  refine g_with (X := X) 17 [0, 1, 2, 3] (fun μ vs es k n => ∃ i : Nat, μ = 4 - i ∧ 1 ≤ i ∧ i ≤ 4 ∧ vs = [.ref 0, .int (nI (amax (mvD L v) (i - 1))), .int (nI (amin (mvD L v) (i - 1))), .int (nI i)] ∧ es = w13 v (nF (tgt L (vGa v))) r ∧ k = 0 ∧ n = 0) cut_nil (fun μ hc vs es k n hI => ?_) (fun hc => ?_)
  · obtain ⟨i, rfl, hi1, hi, rfl, rfl, rfl, rfl⟩ := hI
    have e1 : ∀ t, nF (tgt L (vGa v)) t - nI (fOwn (vOw v) (nI t)) = mvD L v t := fun t => rfl
    have ha := amax_le (mvD L v) (i - 1)
    have hb := amin_le (mvD L v) (i - 1)
    refine g_with (X := X) 37 [0, 1, 2, 3] (fun μ' vs es k n => μ' = 0 ∧ i < 4 ∧ vs = [.ref 0, .int (nI (amax (mvD L v) i)), .int (nI (amin (mvD L v) (i - 1))), .int (nI i)] ∧ es = w13 v (nF (tgt L (vGa v))) r ∧ k = 0 ∧ n = 0) hc (fun μ' hc' vs es k n hI => ?_) (fun hc' => ?_)
    · obtain ⟨rfl, h4, rfl, rfl, rfl, rfl⟩ := hI
      obtain ⟨d, rfl⟩ : ∃ d, i = d + 1 := ⟨i - 1, by omega⟩
      simp only [Nat.add_sub_cancel] at ha hb ⊢
      refine g_go hf hc' 5 ?_
      refine ⟨_, d + 1, v, _, r, rfl, rfl, by omega, rfl, ?_⟩
      refine ⟨_, amin (mvD L v) d, v, _, r, rfl, rfl, by omega, rfl, ?_⟩
      rw [e1, e1]
      refine ⟨fun h7 => ?_, fun h7 => ?_⟩
      · have h8 : ¬ mvD L v (d + 1) < mvD L v (amin (mvD L v) d) := by first | exact h7 | exact Int32.not_lt.mpr h7
        exact ⟨4 - (d + 1 + 1), by omega, d + 1 + 1, rfl, by omega, by omega, by rw [nI_add]; simp only [Nat.add_sub_cancel, amin, if_neg h8], rfl, rfl, rfl⟩
      · have h8 : mvD L v (d + 1) < mvD L v (amin (mvD L v) d) := by first | exact h7 | exact Int32.not_le.mp h7
        exact ⟨4 - (d + 1 + 1), by omega, d + 1 + 1, rfl, by omega, by omega, by rw [nI_add]; simp only [Nat.add_sub_cancel, amin, if_pos h8], rfl, rfl, rfl⟩
    refine g_go hf hc' 5 ?_
    refine ⟨fun h2 => ?_, fun h2 => ?_⟩
    · have h4 : i = 4 := by
        rw [nI_leI (by decide) (by omega)] at h2
        omega
      subst h4
      refine ⟨_, amax (mvD L v) 3, v, _, r, rfl, rfl, by omega, rfl, ?_⟩
      refine ⟨fun h5 => ?_, fun h5 => ?_⟩
      · have h6 : ¬ mvD L v (amax (mvD L v) 3) = 0 := h5
        have e1 : mvW L v = wfl (vOw v) (lnW (vHd v) (nI (amin (mvD L v) 3))) (nI (amin (mvD L v) 3)) 8 0 none 5 := if_neg h6
        have hlt : ∀ p, mvW L v = some p → p < 8 := fun p hp => wfl_lt 8 0 none 5 p (by omega) (fun q hq => by cases hq) (e1.symm.trans hp)
        have hno : oI (mvW L v) = -1 ↔ mvW L v = none := oI_ne (fun p hp => by have := hlt p hp; omega)
        refine ⟨_, vOw v, vHd v, vSt v, rfl, rfl, ?_⟩
        rw [← e1]
        refine ⟨fun h7 => ?_, fun h7 => ?_⟩
        · have h8 : mvW L v = none := hno.mp h7
          have e2 : mvO L v = vOw v := by unfold mvO; rw [h8]
          have hK : K (some (.int (oI (mvW L v)))) (w13 (mvO L v, vHd v, vSt v, vAd v, vGa v, vLe v, vCo v, vEp v, vAc v) (nF (tgt L (vGa v))) r) := hK _
          rw [e2] at hK
          exact hK
        · obtain ⟨p, hp⟩ : ∃ p, mvW L v = some p := by
            cases hq : mvW L v with
            | none => exact absurd (hno.mpr hq) h7
            | some p => exact ⟨p, rfl⟩
          have e2 : mvO L v = upd (vOw v) p (nI (amax (mvD L v) 3)) := by unfold mvO; rw [hp]
          have hK : K (some (.int (oI (mvW L v)))) (w13 (mvO L v, vHd v, vSt v, vAd v, vGa v, vLe v, vCo v, vEp v, vAc v) (nF (tgt L (vGa v))) r) := hK _
          rw [e2, hp] at hK
          refine ⟨p, by rw [hp]; rfl, hlt p hp, ?_⟩
          rw [hp]
          exact hK
      · have h6 : mvD L v (amax (mvD L v) 3) = 0 := h5
        have e1 : mvW L v = none := if_pos h6
        have e2 : mvO L v = vOw v := by unfold mvO; rw [e1]
        have hK : K (some (.int (oI (mvW L v)))) (w13 (mvO L v, vHd v, vSt v, vAd v, vGa v, vLe v, vCo v, vEp v, vAc v) (nF (tgt L (vGa v))) r) := hK _
        rw [e2, e1] at hK
        exact hK
    · have h4 : i < 4 := by
        rw [nI_leI (by decide) (by omega)] at h2
        omega
      obtain ⟨d, rfl⟩ : ∃ d, i = d + 1 := ⟨i - 1, by omega⟩
      simp only [Nat.add_sub_cancel] at ha hb ⊢
      refine ⟨_, d + 1, v, _, r, rfl, rfl, by omega, rfl, ?_⟩
      refine ⟨_, amax (mvD L v) d, v, _, r, rfl, rfl, by omega, rfl, ?_⟩
      rw [e1, e1]
      refine ⟨fun h7 => ?_, fun h7 => ?_⟩
      · have h8 : ¬ mvD L v (amax (mvD L v) d) < mvD L v (d + 1) := by first | exact h7 | exact Int32.not_lt.mpr h7
        exact ⟨0, rfl, by omega, by simp only [amax, if_neg h8], rfl, rfl, rfl⟩
      · have h8 : mvD L v (amax (mvD L v) d) < mvD L v (d + 1) := by first | exact h7 | exact Int32.not_le.mp h7
        exact ⟨0, rfl, by omega, by simp only [amax, if_pos h8], rfl, rfl, rfl⟩
  · refine wr_ok hf hc 5 0 _ _ _ _ _ ?_
    refine ⟨wy, v, L, rfl, hL, rfl, ?_⟩
    exact ⟨3, 1, rfl, by omega, by omega, rfl, rfl, rfl, rfl⟩
def evC (hd : Nat → Int32) (p m : Nat) (co : Nat → Int32) : Nat → Int32 := fun j => if j % 4 = 3 ∧ j / 4 < m ∧ hol hd (nI (j / 4)) p = true then co j + nI 1 else co j
def ptP (v : gV) (t a : Nat) : Option Nat := ptf (vOw v) (vHd v) (vSt v) (nI t) (a % 4 * 8) 8 0 none
abbrev brQ (v : gV) (t a p : Nat) : gV := (vOw v, upd (vHd v) p (nI t * nI 256 + nI a), upd (vSt v) p (vAc v), vAd v, vGa v, vLe v, evC (vHd v) p 4 (vCo v), vEp v, vAc v)
def brV (v : gV) (t a : Nat) : gV := match ptP v t a with
  | none => v
  | some p => brQ v t a p
theorem ptf_lt {ow hd st : Nat → Int32} {t : Int32} {fs : Nat} (hfs : fs ≤ 24) : ∀ (f w : Nat) (old : Option Nat) (p : Nat), w + f ≤ 8 → (∀ q, old = some q → q < 32) → ptf ow hd st t fs f w old = some p → p < 32
  | 0, _, _, p, _, ho, h => ho p h
  | f + 1, w, old, p, hw, ho, h => by
    unfold ptf at h
    split at h
    · split at h
      · cases h
        omega
      · refine ptf_lt hfs f (w + 1) _ p (by omega) (fun q hq => ?_) h
        cases hq
        cases old with
        | none => simp only [ptU]; omega
        | some o =>
          have := ho o rfl
          simp only [ptU]
          split <;> omega
    · exact ptf_lt hfs f (w + 1) old p (by omega) ho h
def sX6_bringIn : gS := fun av es K => ∃ y z t a v wy r, av = [.ref 0, .int y, .int z] ∧ y = nI t ∧ z = nI a ∧ t < 4 ∧ a < 256 ∧ es = w13 v wy r ∧ K none (w13 (brV v t a) wy r)
def rmX6_bringIn : Room := { frames := 1, cells := 0, slots := 0, locals := 26 }
def pX6_bringIn (K : gK) : List (Nat × gO) := [(0, oFR 13 (oALoad 0)), (1, oGet 6 0), (4, oGet 4 0), (7, oILoad 1), (8, oILoad 2), (9, oCallVR 13 0 0 3 2 [2,3,4,5] sX3_placeToFill), (12, oFR 13 (oIStore 5 3)), (13, oFR 13 (oILoad 3)), (14, oConst (-1)), (15, oICmp_ne 19), (18, oRetV K 0 0), (19, oConst (nI 0)), (20, oIStore 5 4), (22, oFR 13 (oILoad 4)), (24, oConst (nI 4)), (25, oICmp_ge 68), (28, oALoad 0), (29, oGet 6 0), (32, oGet 4 0), (35, oILoad 4), (37, oILoad 3), (38, oCallVR 13 0 0 3 2 [2,3,4,5] sX3_holdsLineOf), (41, oFR 13 (oIf_eq 62)), (44, oALoad 0), (45, oGet 6 0), (48, oGet 4 3), (51, oILoad 4), (53, oConst (nI 4)), (54, oMul), (55, oConst (nI 3)), (56, oAdd), (57, oDup2), (58, oIALd 0), (59, oConst (nI 1)), (60, oAdd), (61, oIASt), (62, oFR 13 (oIInc 5 4 (nI 1))), (65, oGoto 22), (68, oFR 13 (oALoad 0)), (69, oGet 6 0), (72, oGet 4 0), (75, oGet 3 1), (78, oILoad 3), (79, oILoad 1), (80, oConst (nI 256)), (83, oMul), (84, oILoad 2), (85, oAdd), (86, oIASt), (87, oFR 13 (oALoad 0)), (88, oGet 6 0), (91, oGet 4 0), (94, oGet 3 2), (97, oILoad 3), (98, oALoad 0), (99, oGet 6 0), (102, oGet 4 5), (105, oIASt), (106, oFR 13 (oRetV K 0 0))]
set_option maxRecDepth 100000 in
theorem kX6_bringIn {X : gX} {l : Launch} (hM : gM X l cX6_bringIn RX6 wsX6_bringIn rmX6_bringIn) {K : gK} (hE : gR X K 0 0 none) (hnL : X.2.2.2.2.2.2.2.2.2.2.2.2.2.2.2.2 = 5) : okL X (pX6_bringIn K) := by
  obtain ⟨p, l1, e, R, s, m, args, below, meth, c, D, cA, A, ag, ad0, Q, nL⟩ := X
  cases hnL
  refine ⟨ok_FR (ok_aload_n hM 0 dX6_bringIn_0 rfl),
    ok_get (C := RX6) (T := TX6) (Nf := 6) hM (fun _ h => List.mem_cons_of_mem _ (List.mem_append_left _ (List.mem_append_left _ (List.mem_append_right _ h)))) rfl 0 (by decide) (List.mem_of_getElem? (i := 1) rfl) rfl dX6_bringIn_1,
    ok_get (C := RX4) (T := TX4) (Nf := 6) hM (fun _ h => List.mem_cons_of_mem _ (List.mem_append_left _ (List.mem_append_right _ h))) rfl 0 (by decide) (List.mem_of_getElem? (i := 2) rfl) rfl dX6_bringIn_4,
    ok_iload_n hM 1 dX6_bringIn_7 rfl,
    ok_iload_n hM 2 dX6_bringIn_8 rfl,
    ok_R (ok_callV hM [2,3,4,5] (ctX3_placeToFill l) rfl rfl gX6_bringIn_X3_placeToFill rfl rfl rfl (by decide +kernel) (by decide) dX6_bringIn_9),
    ok_FR (ok_istore_n hM 3 dX6_bringIn_12 rfl),
    ok_FR (ok_iload_n hM 3 dX6_bringIn_13 rfl),
    ok_iconst hM dX6_bringIn_14 rfl,
    ok_icmp_ne hM 19 dX6_bringIn_15 (by decide),
    ok_retV hM hE dX6_bringIn_18,
    ok_iconst hM dX6_bringIn_19 rfl,
    ok_istore hM 4 dX6_bringIn_20,
    ok_FR (ok_iload hM 4 dX6_bringIn_22),
    ok_iconst hM dX6_bringIn_24 rfl,
    ok_icmp_ge hM 68 dX6_bringIn_25 (by decide),
    ok_aload_n hM 0 dX6_bringIn_28 rfl,
    ok_get (C := RX6) (T := TX6) (Nf := 6) hM (fun _ h => List.mem_cons_of_mem _ (List.mem_append_left _ (List.mem_append_left _ (List.mem_append_right _ h)))) rfl 0 (by decide) (List.mem_of_getElem? (i := 1) rfl) rfl dX6_bringIn_29,
    ok_get (C := RX4) (T := TX4) (Nf := 6) hM (fun _ h => List.mem_cons_of_mem _ (List.mem_append_left _ (List.mem_append_right _ h))) rfl 0 (by decide) (List.mem_of_getElem? (i := 2) rfl) rfl dX6_bringIn_32,
    ok_iload hM 4 dX6_bringIn_35,
    ok_iload_n hM 3 dX6_bringIn_37 rfl,
    ok_R (ok_callV hM [2,3,4,5] (ctX3_holdsLineOf l) rfl rfl gX6_bringIn_X3_holdsLineOf rfl rfl rfl (by decide +kernel) (by decide) dX6_bringIn_38),
    ok_FR (ok_if_eq hM 62 dX6_bringIn_41 (by decide)),
    ok_aload_n hM 0 dX6_bringIn_44 rfl,
    ok_get (C := RX6) (T := TX6) (Nf := 6) hM (fun _ h => List.mem_cons_of_mem _ (List.mem_append_left _ (List.mem_append_left _ (List.mem_append_right _ h)))) rfl 0 (by decide) (List.mem_of_getElem? (i := 1) rfl) rfl dX6_bringIn_45,
    ok_get (C := RX4) (T := TX4) (Nf := 6) hM (fun _ h => List.mem_cons_of_mem _ (List.mem_append_left _ (List.mem_append_right _ h))) rfl 3 (by decide) (List.mem_of_getElem? (i := 3) rfl) rfl dX6_bringIn_48,
    ok_iload hM 4 dX6_bringIn_51,
    ok_iconst hM dX6_bringIn_53 rfl,
    ok_imul hM dX6_bringIn_54,
    ok_iconst hM dX6_bringIn_55 rfl,
    ok_iadd hM dX6_bringIn_56,
    ok_dup2 hM dX6_bringIn_57,
    ok_iald hM dX6_bringIn_58,
    ok_iconst hM dX6_bringIn_59 rfl,
    ok_iadd hM dX6_bringIn_60,
    ok_iast hM dX6_bringIn_61,
    ok_FR (ok_iinc hM 4 dX6_bringIn_62 rfl),
    ok_goto hM 22 dX6_bringIn_65 (by decide),
    ok_FR (ok_aload_n hM 0 dX6_bringIn_68 rfl),
    ok_get (C := RX6) (T := TX6) (Nf := 6) hM (fun _ h => List.mem_cons_of_mem _ (List.mem_append_left _ (List.mem_append_left _ (List.mem_append_right _ h)))) rfl 0 (by decide) (List.mem_of_getElem? (i := 1) rfl) rfl dX6_bringIn_69,
    ok_get (C := RX4) (T := TX4) (Nf := 6) hM (fun _ h => List.mem_cons_of_mem _ (List.mem_append_left _ (List.mem_append_right _ h))) rfl 0 (by decide) (List.mem_of_getElem? (i := 2) rfl) rfl dX6_bringIn_72,
    ok_get (C := RX3) (T := TX3) (Nf := 3) hM (fun _ h => List.mem_cons_of_mem _ (List.mem_append_right _ h)) rfl 1 (by decide) (List.mem_of_getElem? (i := 4) rfl) rfl dX6_bringIn_75,
    ok_iload_n hM 3 dX6_bringIn_78 rfl,
    ok_iload_n hM 1 dX6_bringIn_79 rfl,
    ok_sipush hM dX6_bringIn_80 rfl,
    ok_imul hM dX6_bringIn_83,
    ok_iload_n hM 2 dX6_bringIn_84 rfl,
    ok_iadd hM dX6_bringIn_85,
    ok_iast hM dX6_bringIn_86,
    ok_FR (ok_aload_n hM 0 dX6_bringIn_87 rfl),
    ok_get (C := RX6) (T := TX6) (Nf := 6) hM (fun _ h => List.mem_cons_of_mem _ (List.mem_append_left _ (List.mem_append_left _ (List.mem_append_right _ h)))) rfl 0 (by decide) (List.mem_of_getElem? (i := 1) rfl) rfl dX6_bringIn_88,
    ok_get (C := RX4) (T := TX4) (Nf := 6) hM (fun _ h => List.mem_cons_of_mem _ (List.mem_append_left _ (List.mem_append_right _ h))) rfl 0 (by decide) (List.mem_of_getElem? (i := 2) rfl) rfl dX6_bringIn_91,
    ok_get (C := RX3) (T := TX3) (Nf := 3) hM (fun _ h => List.mem_cons_of_mem _ (List.mem_append_right _ h)) rfl 2 (by decide) (List.mem_of_getElem? (i := 5) rfl) rfl dX6_bringIn_94,
    ok_iload_n hM 3 dX6_bringIn_97 rfl,
    ok_aload_n hM 0 dX6_bringIn_98 rfl,
    ok_get (C := RX6) (T := TX6) (Nf := 6) hM (fun _ h => List.mem_cons_of_mem _ (List.mem_append_left _ (List.mem_append_left _ (List.mem_append_right _ h)))) rfl 0 (by decide) (List.mem_of_getElem? (i := 1) rfl) rfl dX6_bringIn_99,
    ok_get (C := RX4) (T := TX4) (Nf := 6) hM (fun _ h => List.mem_cons_of_mem _ (List.mem_append_left _ (List.mem_append_right _ h))) rfl 5 (by decide) (List.mem_of_getElem? (i := 6) rfl) rfl dX6_bringIn_102,
    ok_iast hM dX6_bringIn_105,
    ok_FR (ok_retV hM hE dX6_bringIn_106),
    trivial⟩
set_option maxRecDepth 100000 in
theorem ctX6_bringIn (l : Launch) : Ct l yX6_bringIn wsX6_bringIn rmX6_bringIn 0 0 false sX6_bringIn := by
  refine ct_of (own := RX6) (cc := cX6_bringIn) (maxL := 5) (ret := none) (by decide) rfl rfl (by rintro _ _ _ ⟨y, z, t, a, v, wy, r, rfl, rfl, rfl, ht, ha, rfl, hK⟩; exact Nat.le_of_ble_eq_true rfl) ?_
  intro X av es K hM hE hag hin hnL hsp
  obtain ⟨y, z, t, a, v, wy, r, rfl, rfl, rfl, ht, ha, rfl, hK⟩ := hsp
  have hf := kX6_bringIn hM (gR_eqv hE) hnL
  have hlt : ∀ p, ptP v t a = some p → p < 32 := fun p hp => ptf_lt (by omega) 8 0 none p (by omega) (fun q hq => by cases hq) hp
  have hno : oI (ptP v t a) = -1 ↔ ptP v t a = none := oI_ne (fun p hp => by have := hlt p hp; omega)
  refine g_with (X := X) 22 [0, 1, 2, 3, 4] (fun μ vs es k n => ∃ (i p : Nat) (co : Nat → Int32), μ = 4 - i ∧ i ≤ 4 ∧ ptP v t a = some p ∧ (∀ j, co j = evC (vHd v) p i (vCo v) j) ∧ vs = [.ref 0, .int (nI t), .int (nI a), .int (nI p), .int (nI i)] ∧ es = w13 (vOw v, vHd v, vSt v, vAd v, vGa v, vLe v, co, vEp v, vAc v) wy r ∧ k = 0 ∧ n = 0) cut_nil (fun μ hc vs es k n hI => ?_) (fun hc => ?_)
  · obtain ⟨i, p, co, rfl, hi, hp, hco, rfl, rfl, rfl, rfl⟩ := hI
    have hp32 := hlt p hp
    refine g_go hf hc 5 ?_
    refine ⟨fun h2 => ?_, fun h2 => ?_⟩
    · have h4 : i = 4 := by
        rw [nI_leI (by decide) (by omega)] at h2
        omega
      subst h4
      have e1 : brV v t a = brQ v t a p := by unfold brV; rw [hp]
      rw [e1] at hK
      refine ⟨p, rfl, hp32, ?_⟩
      refine ⟨p, rfl, hp32, ?_⟩
      exact ⟨w13 (brQ v t a p) wy r, ⟨rfl, rfl, rfl, eqE_rfl _, eqE_rfl _, eqE_rfl _, rfl, eqE_rfl _, eqE_rfl _, eqE_rfl _, ⟨rfl, rfl, fun j _ => hco j⟩, rfl, eqE_rfl _, eqL_rfl _⟩, hK⟩
    · have h4 : i < 4 := by
        rw [nI_leI (by decide) (by omega)] at h2
        omega
      refine ⟨_, _, p, vOw v, vHd v, vSt v, rfl, rfl, hp32, rfl, ?_⟩
      refine ⟨fun h7 => ?_, fun h7 => ?_⟩
      · rw [bI_0] at h7
        refine ⟨4 - (i + 1), by omega, i + 1, p, co, rfl, by omega, hp, fun j => ?_, by rw [nI_add], rfl, rfl, rfl⟩
        rw [hco]
        unfold evC
        by_cases hj : j % 4 = 3 ∧ j / 4 = i
        · rw [if_neg (by omega), if_neg (fun q => by rw [hj.2, h7] at q; exact absurd q.2.2 (by decide))]
        · have : (j % 4 = 3 ∧ j / 4 < i ∧ hol (vHd v) (nI (j / 4)) p = true) ↔ (j % 4 = 3 ∧ j / 4 < i + 1 ∧ hol (vHd v) (nI (j / 4)) p = true) := ⟨fun q => ⟨q.1, by omega, q.2.2⟩, fun q => ⟨q.1, by omega, q.2.2⟩⟩
          simp only [this]
      · have h7 : hol (vHd v) (nI i) p = true := by
          rw [bI_0] at h7
          simpa using h7
        have e9 : nI i * nI 4 + nI 3 = nI (i * 4 + 3) := by rw [pk_mul, nI_add]
        refine ⟨i * 4 + 3, e9, by omega, ?_⟩
        refine ⟨i * 4 + 3, e9, by omega, ?_⟩
        refine ⟨4 - (i + 1), by omega, i + 1, p, upd co (i * 4 + 3) (co (i * 4 + 3) + nI 1), rfl, by omega, hp, fun j => ?_, by rw [nI_add], rfl, rfl, rfl⟩
        unfold upd
        by_cases hj : j = i * 4 + 3
        · subst hj
          have e3 : (i * 4 + 3) / 4 = i := by omega
          rw [if_pos rfl, hco]
          unfold evC
          rw [if_neg (by omega), if_pos ⟨by omega, by omega, by rw [e3]; exact h7⟩]
        · rw [if_neg hj, hco]
          unfold evC
          have : (j % 4 = 3 ∧ j / 4 < i ∧ hol (vHd v) (nI (j / 4)) p = true) ↔ (j % 4 = 3 ∧ j / 4 < i + 1 ∧ hol (vHd v) (nI (j / 4)) p = true) := ⟨fun q => ⟨q.1, by omega, q.2.2⟩, fun q => ⟨q.1, by omega, q.2.2⟩⟩
          simp only [this]
  · refine wr_ok hf hc 5 0 _ _ _ _ _ ?_
    refine ⟨_, _, a, vOw v, vHd v, vSt v, rfl, rfl, ha, rfl, ?_⟩
    refine ⟨fun h7 => ?_, fun h7 => ?_⟩
    · obtain ⟨p, hp⟩ : ∃ p, ptP v t a = some p := by
        cases hq : ptP v t a with
        | none => exact absurd (hno.mpr hq) h7
        | some p => exact ⟨p, rfl⟩
      refine ⟨4, 0, p, vCo v, rfl, by omega, hp, fun j => by unfold evC; rw [if_neg (by omega)], ?_, rfl, rfl, rfl⟩
      show [Value.ref 0, .int (nI t), .int (nI a), .int (oI (ptP v t a)), .int (nI 0)] = _
      rw [hp]
      rfl
    · have hp : ptP v t a = none := hno.mp h7
      have e1 : brV v t a = v := by unfold brV; rw [hp]
      rw [e1] at hK
      exact ⟨w13 v wy r, eqL_rfl _, hK⟩
-- an access
def ntAd (v : gV) (t a : Nat) : Nat → Int32 := if a % 2 = 0 then nAd (vAd v) ((t * 2 + a % 4 / 2) * 8) a else vAd v
def ntGa (v : gV) (t a : Nat) : Nat → Int32 := if a % 2 = 0 then nGa (vAd v) (vGa v) t ((t * 2 + a % 4 / 2) * 8) a else vGa v
def acR (v : gV) (t a : Nat) : Nat := rsl (vOw v) (vHd v) (nI t) a
/-- with the monitor, the access count and the result's count -/
abbrev acA (v : gV) (t a : Nat) : gV := (vOw v, vHd v, vSt v, ntAd v t a, ntGa v t a, vLe v, upd (vCo v) (t * 4 + acR v t a) (vCo v (t * 4 + acR v t a) + nI 1), vEp v, vAc v + nI 1)
abbrev rnV (v : gV) (t a : Nat) : gV := (vOw v, vHd v, (if fF (vHd v) (nI t * nI 256 + nI a) (a % 4 * 8) < 8 then upd (vSt v) (a % 4 * 8 + fF (vHd v) (nI t * nI 256 + nI a) (a % 4 * 8)) (vAc v) else vSt v), vAd v, vGa v, vLe v, vCo v, vEp v, vAc v)
def acB (v : gV) (t a : Nat) : gV := if acR v t a = 1 then rnV (acA v t a) t a else if acR v t a = 0 then brV (acA v t a) t a else acA v t a
abbrev hlV (v : gV) : gV := (vOw v, vHd v, vSt v, vAd v, hlv (vGa v), vLe v, vCo v, vEp v, vAc v)
/-- the end of an epoch -/
def epV (L : Nat → Nat) (v : gV) : gV := if ¬ vEp v = 0 ∧ vAc v - vAc v / vEp v * vEp v = 0 then hlV (mvV L v) else v
def acV (L : Nat → Nat) (v : gV) (t a : Nat) : gV := epV L (acB v t a)
theorem brV_keep (v : gV) (t a : Nat) : vLe (brV v t a) = vLe v ∧ vEp (brV v t a) = vEp v ∧ vAc (brV v t a) = vAc v := by
  unfold brV
  split <;> exact ⟨rfl, rfl, rfl⟩
theorem acB_keep (v : gV) (t a : Nat) : vLe (acB v t a) = vLe v := by
  unfold acB
  split
  · rfl
  · split
    · exact (brV_keep _ t a).1
    · rfl
theorem rsl_le (ow hd : Nat → Int32) (t : Int32) (a : Nat) : rsl ow hd t a ≤ 2 := by
  unfold rsl
  split
  · omega
  · split <;> omega
def sX6_makeAccess : gS := fun av es K => ∃ y z t a v wy r L, av = [.ref 0, .int y, .int z] ∧ y = nI t ∧ z = nI a ∧ t < 4 ∧ a < 256 ∧ (∀ t, t < 4 → vLe v t = nI (L t) ∧ L t ≤ 2) ∧ es = w13 v wy r ∧ ∀ wy', K (some (.int (nI (acR v t a)))) (w13 (acV L v t a) wy' r)
def rmX6_makeAccess : Room := { frames := 4, cells := 0, slots := 0, locals := 96 }
def pX6_makeAccess (K : gK) : List (Nat × gO) := [(0, oFR 13 (oALoad 0)), (1, oGet 6 0), (4, oGet 4 1), (7, oILoad 1), (8, oILoad 2), (9, oCallVR 13 0 0 2 2 [6,7,8] sX2_note), (12, oFR 13 (oALoad 0)), (13, oGet 6 0), (16, oDup), (17, oGet 4 5), (20, oConst (nI 1)), (21, oAdd), (22, oPutI 4 5), (25, oFR 13 (oALoad 0)), (26, oGet 6 0), (29, oGet 4 0), (32, oILoad 1), (33, oILoad 2), (34, oCallVR 13 0 0 3 2 [2,3,4,5] sX3_resultOf), (37, oFR 13 (oIStore 4 3)), (38, oFR 13 (oALoad 0)), (39, oGet 6 0), (42, oGet 4 3), (45, oILoad 1), (46, oConst (nI 4)), (47, oMul), (48, oILoad 3), (49, oAdd), (50, oDup2), (51, oIALd 0), (52, oConst (nI 1)), (53, oAdd), (54, oIASt), (55, oFR 13 (oILoad 3)), (56, oConst (nI 1)), (57, oICmp_ne 82), (60, oALoad 0), (61, oGet 6 0), (64, oGet 4 0), (67, oILoad 1), (68, oILoad 2), (69, oALoad 0), (70, oGet 6 0), (73, oGet 4 5), (76, oCallVR 13 0 0 3 3 [2,3,4,5] sX3_renew), (79, oGoto 92), (82, oFR 13 (oILoad 3)), (83, oIf_ne 92), (86, oALoad 0), (87, oILoad 1), (88, oILoad 2), (89, oCallV0 0 0 6 2 sX6_bringIn), (92, oFR 13 (oALoad 0)), (93, oGet 6 0), (96, oGet 4 4), (99, oIf_eq 135), (102, oALoad 0), (103, oGet 6 0), (106, oGet 4 5), (109, oALoad 0), (110, oGet 6 0), (113, oGet 4 4), (116, oRem), (117, oIf_ne 135), (120, oALoad 0), (121, oCallV0 0 0 6 0 sX6_moveOneWay), (124, oFR 13 (oPop)), (125, oALoad 0), (126, oGet 6 0), (129, oGet 4 1), (132, oCallVR 13 0 0 2 0 [6,7,8] sX2_halve), (135, oFR 13 (oILoad 3)), (136, oRet K 0 0)]
set_option maxRecDepth 100000 in
theorem kX6_makeAccess {X : gX} {l : Launch} (hM : gM X l cX6_makeAccess RX6 wsX6_makeAccess rmX6_makeAccess) {K : gK} (hE : gR X K 0 0 (some .int)) (hnL : X.2.2.2.2.2.2.2.2.2.2.2.2.2.2.2.2 = 4) : okL X (pX6_makeAccess K) := by
  obtain ⟨p, l1, e, R, s, m, args, below, meth, c, D, cA, A, ag, ad0, Q, nL⟩ := X
  cases hnL
  refine ⟨ok_FR (ok_aload_n hM 0 dX6_makeAccess_0 rfl),
    ok_get (C := RX6) (T := TX6) (Nf := 6) hM (fun _ h => List.mem_cons_of_mem _ (List.mem_append_left _ (List.mem_append_left _ (List.mem_append_left _ (List.mem_append_left _ (List.mem_append_right _ h)))))) rfl 0 (by decide) (List.mem_of_getElem? (i := 1) rfl) rfl dX6_makeAccess_1,
    ok_get (C := RX4) (T := TX4) (Nf := 6) hM (fun _ h => List.mem_cons_of_mem _ (List.mem_append_left _ (List.mem_append_left _ (List.mem_append_left _ (List.mem_append_right _ h))))) rfl 1 (by decide) (List.mem_of_getElem? (i := 2) rfl) rfl dX6_makeAccess_4,
    ok_iload_n hM 1 dX6_makeAccess_7 rfl,
    ok_iload_n hM 2 dX6_makeAccess_8 rfl,
    ok_R (ok_callV hM [6,7,8] (ctX2_note l) rfl rfl gX6_makeAccess_X2_note rfl rfl rfl (by decide +kernel) (by decide) dX6_makeAccess_9),
    ok_FR (ok_aload_n hM 0 dX6_makeAccess_12 rfl),
    ok_get (C := RX6) (T := TX6) (Nf := 6) hM (fun _ h => List.mem_cons_of_mem _ (List.mem_append_left _ (List.mem_append_left _ (List.mem_append_left _ (List.mem_append_left _ (List.mem_append_right _ h)))))) rfl 0 (by decide) (List.mem_of_getElem? (i := 1) rfl) rfl dX6_makeAccess_13,
    ok_dup hM dX6_makeAccess_16,
    ok_get (C := RX4) (T := TX4) (Nf := 6) hM (fun _ h => List.mem_cons_of_mem _ (List.mem_append_left _ (List.mem_append_left _ (List.mem_append_left _ (List.mem_append_right _ h))))) rfl 5 (by decide) (List.mem_of_getElem? (i := 3) rfl) rfl dX6_makeAccess_17,
    ok_iconst hM dX6_makeAccess_20 rfl,
    ok_iadd hM dX6_makeAccess_21,
    ok_putI (C := RX4) (T := TX4) (Nf := 6) hM (fun _ h => List.mem_cons_of_mem _ (List.mem_append_left _ (List.mem_append_left _ (List.mem_append_left _ (List.mem_append_right _ h))))) tyX4 tyX4_ok nmX4 rfl 5 (by decide) (List.mem_of_getElem? (i := 3) rfl) rfl rfl (by decide +kernel) dX6_makeAccess_22,
    ok_FR (ok_aload_n hM 0 dX6_makeAccess_25 rfl),
    ok_get (C := RX6) (T := TX6) (Nf := 6) hM (fun _ h => List.mem_cons_of_mem _ (List.mem_append_left _ (List.mem_append_left _ (List.mem_append_left _ (List.mem_append_left _ (List.mem_append_right _ h)))))) rfl 0 (by decide) (List.mem_of_getElem? (i := 1) rfl) rfl dX6_makeAccess_26,
    ok_get (C := RX4) (T := TX4) (Nf := 6) hM (fun _ h => List.mem_cons_of_mem _ (List.mem_append_left _ (List.mem_append_left _ (List.mem_append_left _ (List.mem_append_right _ h))))) rfl 0 (by decide) (List.mem_of_getElem? (i := 4) rfl) rfl dX6_makeAccess_29,
    ok_iload_n hM 1 dX6_makeAccess_32 rfl,
    ok_iload_n hM 2 dX6_makeAccess_33 rfl,
    ok_R (ok_callV hM [2,3,4,5] (ctX3_resultOf l) rfl rfl gX6_makeAccess_X3_resultOf rfl rfl rfl (by decide +kernel) (by decide) dX6_makeAccess_34),
    ok_FR (ok_istore_n hM 3 dX6_makeAccess_37 rfl),
    ok_FR (ok_aload_n hM 0 dX6_makeAccess_38 rfl),
    ok_get (C := RX6) (T := TX6) (Nf := 6) hM (fun _ h => List.mem_cons_of_mem _ (List.mem_append_left _ (List.mem_append_left _ (List.mem_append_left _ (List.mem_append_left _ (List.mem_append_right _ h)))))) rfl 0 (by decide) (List.mem_of_getElem? (i := 1) rfl) rfl dX6_makeAccess_39,
    ok_get (C := RX4) (T := TX4) (Nf := 6) hM (fun _ h => List.mem_cons_of_mem _ (List.mem_append_left _ (List.mem_append_left _ (List.mem_append_left _ (List.mem_append_right _ h))))) rfl 3 (by decide) (List.mem_of_getElem? (i := 5) rfl) rfl dX6_makeAccess_42,
    ok_iload_n hM 1 dX6_makeAccess_45 rfl,
    ok_iconst hM dX6_makeAccess_46 rfl,
    ok_imul hM dX6_makeAccess_47,
    ok_iload_n hM 3 dX6_makeAccess_48 rfl,
    ok_iadd hM dX6_makeAccess_49,
    ok_dup2 hM dX6_makeAccess_50,
    ok_iald hM dX6_makeAccess_51,
    ok_iconst hM dX6_makeAccess_52 rfl,
    ok_iadd hM dX6_makeAccess_53,
    ok_iast hM dX6_makeAccess_54,
    ok_FR (ok_iload_n hM 3 dX6_makeAccess_55 rfl),
    ok_iconst hM dX6_makeAccess_56 rfl,
    ok_icmp_ne hM 82 dX6_makeAccess_57 (by decide),
    ok_aload_n hM 0 dX6_makeAccess_60 rfl,
    ok_get (C := RX6) (T := TX6) (Nf := 6) hM (fun _ h => List.mem_cons_of_mem _ (List.mem_append_left _ (List.mem_append_left _ (List.mem_append_left _ (List.mem_append_left _ (List.mem_append_right _ h)))))) rfl 0 (by decide) (List.mem_of_getElem? (i := 1) rfl) rfl dX6_makeAccess_61,
    ok_get (C := RX4) (T := TX4) (Nf := 6) hM (fun _ h => List.mem_cons_of_mem _ (List.mem_append_left _ (List.mem_append_left _ (List.mem_append_left _ (List.mem_append_right _ h))))) rfl 0 (by decide) (List.mem_of_getElem? (i := 4) rfl) rfl dX6_makeAccess_64,
    ok_iload_n hM 1 dX6_makeAccess_67 rfl,
    ok_iload_n hM 2 dX6_makeAccess_68 rfl,
    ok_aload_n hM 0 dX6_makeAccess_69 rfl,
    ok_get (C := RX6) (T := TX6) (Nf := 6) hM (fun _ h => List.mem_cons_of_mem _ (List.mem_append_left _ (List.mem_append_left _ (List.mem_append_left _ (List.mem_append_left _ (List.mem_append_right _ h)))))) rfl 0 (by decide) (List.mem_of_getElem? (i := 1) rfl) rfl dX6_makeAccess_70,
    ok_get (C := RX4) (T := TX4) (Nf := 6) hM (fun _ h => List.mem_cons_of_mem _ (List.mem_append_left _ (List.mem_append_left _ (List.mem_append_left _ (List.mem_append_right _ h))))) rfl 5 (by decide) (List.mem_of_getElem? (i := 3) rfl) rfl dX6_makeAccess_73,
    ok_R (ok_callV hM [2,3,4,5] (ctX3_renew l) rfl rfl gX6_makeAccess_X3_renew rfl rfl rfl (by decide +kernel) (by decide) dX6_makeAccess_76),
    ok_goto hM 92 dX6_makeAccess_79 (by decide),
    ok_FR (ok_iload_n hM 3 dX6_makeAccess_82 rfl),
    ok_if_ne hM 92 dX6_makeAccess_83 (by decide),
    ok_aload_n hM 0 dX6_makeAccess_86 rfl,
    ok_iload_n hM 1 dX6_makeAccess_87 rfl,
    ok_iload_n hM 2 dX6_makeAccess_88 rfl,
    ok_callV0 hM (ctX6_bringIn l) rfl gX6_makeAccess_X6_bringIn rfl rfl rfl (by decide +kernel) (by decide) dX6_makeAccess_89,
    ok_FR (ok_aload_n hM 0 dX6_makeAccess_92 rfl),
    ok_get (C := RX6) (T := TX6) (Nf := 6) hM (fun _ h => List.mem_cons_of_mem _ (List.mem_append_left _ (List.mem_append_left _ (List.mem_append_left _ (List.mem_append_left _ (List.mem_append_right _ h)))))) rfl 0 (by decide) (List.mem_of_getElem? (i := 1) rfl) rfl dX6_makeAccess_93,
    ok_get (C := RX4) (T := TX4) (Nf := 6) hM (fun _ h => List.mem_cons_of_mem _ (List.mem_append_left _ (List.mem_append_left _ (List.mem_append_left _ (List.mem_append_right _ h))))) rfl 4 (by decide) (List.mem_of_getElem? (i := 6) rfl) rfl dX6_makeAccess_96,
    ok_if_eq hM 135 dX6_makeAccess_99 (by decide),
    ok_aload_n hM 0 dX6_makeAccess_102 rfl,
    ok_get (C := RX6) (T := TX6) (Nf := 6) hM (fun _ h => List.mem_cons_of_mem _ (List.mem_append_left _ (List.mem_append_left _ (List.mem_append_left _ (List.mem_append_left _ (List.mem_append_right _ h)))))) rfl 0 (by decide) (List.mem_of_getElem? (i := 1) rfl) rfl dX6_makeAccess_103,
    ok_get (C := RX4) (T := TX4) (Nf := 6) hM (fun _ h => List.mem_cons_of_mem _ (List.mem_append_left _ (List.mem_append_left _ (List.mem_append_left _ (List.mem_append_right _ h))))) rfl 5 (by decide) (List.mem_of_getElem? (i := 3) rfl) rfl dX6_makeAccess_106,
    ok_aload_n hM 0 dX6_makeAccess_109 rfl,
    ok_get (C := RX6) (T := TX6) (Nf := 6) hM (fun _ h => List.mem_cons_of_mem _ (List.mem_append_left _ (List.mem_append_left _ (List.mem_append_left _ (List.mem_append_left _ (List.mem_append_right _ h)))))) rfl 0 (by decide) (List.mem_of_getElem? (i := 1) rfl) rfl dX6_makeAccess_110,
    ok_get (C := RX4) (T := TX4) (Nf := 6) hM (fun _ h => List.mem_cons_of_mem _ (List.mem_append_left _ (List.mem_append_left _ (List.mem_append_left _ (List.mem_append_right _ h))))) rfl 4 (by decide) (List.mem_of_getElem? (i := 6) rfl) rfl dX6_makeAccess_113,
    ok_irem hM dX6_makeAccess_116,
    ok_if_ne hM 135 dX6_makeAccess_117 (by decide),
    ok_aload_n hM 0 dX6_makeAccess_120 rfl,
    ok_callV0 hM (ctX6_moveOneWay l) rfl gX6_makeAccess_X6_moveOneWay rfl rfl rfl (by decide +kernel) (by decide) dX6_makeAccess_121,
    ok_FR (ok_pop hM dX6_makeAccess_124),
    ok_aload_n hM 0 dX6_makeAccess_125 rfl,
    ok_get (C := RX6) (T := TX6) (Nf := 6) hM (fun _ h => List.mem_cons_of_mem _ (List.mem_append_left _ (List.mem_append_left _ (List.mem_append_left _ (List.mem_append_left _ (List.mem_append_right _ h)))))) rfl 0 (by decide) (List.mem_of_getElem? (i := 1) rfl) rfl dX6_makeAccess_126,
    ok_get (C := RX4) (T := TX4) (Nf := 6) hM (fun _ h => List.mem_cons_of_mem _ (List.mem_append_left _ (List.mem_append_left _ (List.mem_append_left _ (List.mem_append_right _ h))))) rfl 1 (by decide) (List.mem_of_getElem? (i := 2) rfl) rfl dX6_makeAccess_129,
    ok_R (ok_callV hM [6,7,8] (ctX2_halve l) rfl rfl gX6_makeAccess_X2_halve rfl rfl rfl (by decide +kernel) (by decide) dX6_makeAccess_132),
    ok_FR (ok_iload_n hM 3 dX6_makeAccess_135 rfl),
    ok_ret hM hE dX6_makeAccess_136,
    trivial⟩
set_option maxRecDepth 100000 in
theorem ctX6_makeAccess (l : Launch) : Ct l yX6_makeAccess wsX6_makeAccess rmX6_makeAccess 0 0 false sX6_makeAccess := by
  refine ct_of (own := RX6) (cc := cX6_makeAccess) (maxL := 4) (ret := (some .int)) (by decide) rfl rfl (by rintro _ _ _ ⟨y, z, t, a, v, wy, r, L, rfl, rfl, rfl, ht, ha, hL, rfl, hK⟩; exact Nat.le_of_ble_eq_true rfl) ?_
  intro X av es K hM hE hag hin hnL hsp
  obtain ⟨y, z, t, a, v, wy, r, L, rfl, rfl, rfl, ht, ha, hL, rfl, hK⟩ := hsp
  have hf := kX6_makeAccess hM hE hnL
  have hr2 : acR v t a ≤ 2 := rsl_le _ _ _ _
  refine g_with (X := X) 92 [0, 3] (fun μ vs es k n => μ = 0 ∧ vs = [.ref 0, .int (nI (acR v t a))] ∧ es = w13 (acB v t a) wy r ∧ k = 0 ∧ n = 0) cut_nil (fun μ hc vs es k n hI => ?_) (fun hc => ?_)
  · obtain ⟨rfl, rfl, rfl, rfl, rfl⟩ := hI
    have hLb := acB_keep v t a
    unfold acV epV at hK
    generalize acB v t a = w at hK hLb
    refine g_go hf hc 5 ?_
    refine ⟨fun h1 => ?_, fun h1 => ?_⟩
    · rw [if_neg (fun q => q.1 h1)] at hK
      exact hK wy
    · refine ⟨h1, ?_⟩
      refine ⟨fun h2 => ?_, fun h2 => ?_⟩
      · rw [if_neg (fun q => h2 q.2)] at hK
        exact hK wy
      · rw [if_pos ⟨h1, h2⟩] at hK
        refine ⟨w, wy, r, L, rfl, fun t ht => by rw [hLb]; exact hL t ht, rfl, fun wy' => ?_⟩
        refine ⟨vAd w, vGa w, rfl, rfl, ?_⟩
        exact hK wy'
  · refine wr_ok hf hc 5 0 _ _ _ _ _ ?_
    refine ⟨_, _, t, a, vAd v, vGa v, rfl, rfl, rfl, ht, ha, rfl, ?_⟩
    refine ⟨_, _, a, vOw v, vHd v, vSt v, rfl, rfl, ha, rfl, ?_⟩
    have e9 : nI t * nI 4 + nI (rsl (vOw v) (vHd v) (nI t) a) = nI (t * 4 + acR v t a) := by rw [pk_mul, nI_add]; rfl
    refine ⟨t * 4 + acR v t a, e9, by omega, ?_⟩
    refine ⟨t * 4 + acR v t a, e9, by omega, ?_⟩
    refine ⟨fun h1 => ?_, fun h1 => ?_⟩
    · have h2 : ¬ acR v t a = 1 := fun q => h1 (by show nI (acR v t a) = nI 1; rw [q])
      refine ⟨fun h3 => ?_, fun h3 => ?_⟩
      · have h4 : ¬ acR v t a = 0 := fun q => h3 (by show nI (acR v t a) = nI 0; rw [q])
        have e1 : acB v t a = acA v t a := by unfold acB; rw [if_neg h2, if_neg h4]
        rw [e1]
        exact ⟨0, rfl, rfl, rfl, rfl, rfl⟩
      · have h4 : acR v t a = 0 := (nI_eq (by omega) (by decide)).mp h3
        have e1 : acB v t a = brV (acA v t a) t a := by unfold acB; rw [if_neg h2, if_pos h4]
        rw [e1]
        refine ⟨_, _, t, a, acA v t a, wy, r, rfl, rfl, rfl, ht, ha, rfl, ?_⟩
        exact ⟨0, rfl, rfl, rfl, rfl, rfl⟩
    · have h2 : acR v t a = 1 := (nI_eq (by omega) (by decide)).mp h1
      refine ⟨_, _, a, _, vOw v, vHd v, vSt v, rfl, rfl, ha, rfl, ?_⟩
      generalize hst : (if fF (vHd v) (nI t * nI 256 + nI a) (a % 4 * 8) < 8 then upd (vSt v) (a % 4 * 8 + fF (vHd v) (nI t * nI 256 + nI a) (a % 4 * 8)) (vAc v + nI 1) else vSt v) = st'
      have e1 : acB v t a = (vOw v, vHd v, st', ntAd v t a, ntGa v t a, vLe v, upd (vCo v) (t * 4 + acR v t a) (vCo v (t * 4 + acR v t a) + nI 1), vEp v, vAc v + nI 1) := by
        rw [← hst]
        unfold acB
        rw [if_pos h2]
      rw [e1]
      exact ⟨0, rfl, rfl, rfl, rfl, rfl⟩
end MQ1
end
section
/-! PartitionedCache: a command, and the checks that throw. -/
section MQ2
abbrev txc (n : Nat) (ch : Nat → Nat) (r : List gE) : List gE := .inr (0, [.ref 14, .int (nI n)]) :: .inl (1, 80, .inl (nF ch)) :: r
abbrev rmV (v : gV) (t : Nat) : gV := (vOw v, rmv (vHd v) (nI t), vSt v, vAd v, vGa v, vLe v, vCo v, vEp v, vAc v)
-- checks
theorem nI_inR {x : Int32} {b : Nat} (hb : b < 2 ^ 31) (h1 : 0 ≤ x) (h2 : x < nI b) : ∃ n, n < b ∧ x = nI n := by
  have h3 : (0 : Int) ≤ x.toInt := by
    have := Int32.le_iff_toInt_le.mp h1
    simpa using this
  have h4 : x.toInt < (b : Int) := by
    have := Int32.lt_iff_toInt_lt.mp h2
    rwa [nI_toInt hb] at this
  refine ⟨x.toInt.toNat, by omega, ?_⟩
  apply Int32.toInt_inj.mp
  rw [nI_toInt (by omega)]
  omega
def sX6_requireIndex : gSX := fun av es K KX => ∃ x y b, av = [.int x, .int y] ∧ y = nI b ∧ b < 2 ^ 31 ∧ es = [] ∧ (∀ n, n < b → x = nI n → K none []) ∧ ((¬ ∃ n, n < b ∧ x = nI n) → KX "java/lang/IndexOutOfBoundsException" [])
def rmX6_requireIndex : Room := { frames := 6, cells := 1, slots := 6, locals := 90 }
def pX6_requireIndex (K : gK) (KX : gKX) : List (Nat × gO) := [(0, oF (oILoad 0)), (1, oIf_lt 9), (4, oILoad 0), (5, oILoad 1), (6, oICmp_lt 19), (9, oThrow KX "java/lang/IndexOutOfBoundsException" 1 6), (19, oRetV K 1 6)]
set_option maxRecDepth 100000 in
theorem kX6_requireIndex {X : gX} {l : Launch} (hM : gM X l cX6_requireIndex RX6 wsX6_requireIndex rmX6_requireIndex) {K : gK} (hE : gR X K 1 6 none) {KX : gKX} (hX : gRX X KX 1 6) (hl : l.stackTraces = false) (hnL : X.2.2.2.2.2.2.2.2.2.2.2.2.2.2.2.2 = 2) : okL X (pX6_requireIndex K KX) := by
  obtain ⟨p, l1, e, R, s, m, args, below, meth, c, D, cA, A, ag, ad0, Q, nL⟩ := X
  cases hnL
  refine ⟨ok_F (ok_iload_n hM 0 dX6_requireIndex_0 rfl),
    ok_if_lt hM 9 dX6_requireIndex_1 (by decide),
    ok_iload_n hM 0 dX6_requireIndex_4 rfl,
    ok_iload_n hM 1 dX6_requireIndex_5 rfl,
    ok_icmp_lt hM 19 dX6_requireIndex_6 (by decide),
    ok_throw hM hX hl (text := "no such tenant, way, set, position or slot") "java/lang/IndexOutOfBoundsException" ["java/lang/RuntimeException", "java/lang/Exception"] (by decide +kernel) (by decide +kernel) rfl (List.mem_of_getElem? (i := 1) rfl) (List.mem_of_getElem? (i := 2) rfl) (by decide +kernel) (by decide +kernel) gBad_1 (by decide +kernel) (by decide) (by decide) ⟨Nat.le_refl _, Nat.le_refl _⟩ dX6_requireIndex_9 dX6_requireIndex_12 dX6_requireIndex_13 dX6_requireIndex_15 dX6_requireIndex_18,
    ok_retV hM hE dX6_requireIndex_19,
    trivial⟩
set_option maxRecDepth 100000 in
theorem ctX6_requireIndex (l : Launch) (hl : l.stackTraces = false) : CtX l yX6_requireIndex wsX6_requireIndex rmX6_requireIndex 1 6 sX6_requireIndex := by
  refine ctX_of (own := RX6) (cc := cX6_requireIndex) (maxL := 2) (ret := none) (by decide) rfl rfl (by rintro _ _ _ _ ⟨x, y, b, rfl, rfl, hb, rfl, hK, hKX⟩; exact Nat.le_of_ble_eq_true rfl) ?_
  intro X av es K KX hM hE hX hnL hsp
  obtain ⟨x, y, b, rfl, rfl, hb, rfl, hK, hKX⟩ := hsp
  have hf := kX6_requireIndex hM hE hX hl hnL
  refine wr_ok hf cut_nil 5 0 _ _ _ _ _ ?_
  refine ⟨fun h1 => ?_, fun h1 => ?_⟩
  · refine hKX (fun ⟨n, hn, q⟩ => ?_)
    rw [q] at h1
    exact absurd h1 (nI_pos (by omega))
  · have h1' : 0 ≤ x := by first | exact h1 | exact Int32.not_lt.mp h1
    refine ⟨fun h2 => ?_, fun h2 => ?_⟩
    · have h2' : x < nI b := by first | exact h2 | exact Int32.not_le.mp h2
      obtain ⟨n, hn, q⟩ := nI_inR hb h1' h2'
      exact hK n hn q
    · have h2' : ¬ x < nI b := by first | exact h2 | exact Int32.not_lt.mpr h2
      refine hKX (fun ⟨n, hn, q⟩ => ?_)
      rw [q, nI_ltI (by omega) hb] at h2'
      omega
def sX6_requireTenant : gSX := fun av es K KX => ∃ x, av = [.int x] ∧ es = [] ∧ (∀ n, n < 4 → x = nI n → K none []) ∧ ((¬ ∃ n, n < 4 ∧ x = nI n) → KX "java/lang/IndexOutOfBoundsException" [])
def rmX6_requireTenant : Room := { frames := 7, cells := 1, slots := 6, locals := 111 }
def pX6_requireTenant (K : gK) (KX : gKX) : List (Nat × gO) := [(0, oF (oILoad 0)), (1, oConst (nI 4)), (2, oCallSX 1 6 1 6 1 6 2 [] sX6_requireIndex KX), (5, oF (oRetV K 1 6))]
set_option maxRecDepth 100000 in
theorem kX6_requireTenant {X : gX} {l : Launch} (hM : gM X l cX6_requireTenant RX6 wsX6_requireTenant rmX6_requireTenant) {K : gK} (hE : gR X K 1 6 none) {KX : gKX} (hX : gRX X KX 1 6) (hl : l.stackTraces = false) (hnL : X.2.2.2.2.2.2.2.2.2.2.2.2.2.2.2.2 = 1) : okL X (pX6_requireTenant K KX) := by
  obtain ⟨p, l1, e, R, s, m, args, below, meth, c, D, cA, A, ag, ad0, Q, nL⟩ := X
  cases hnL
  refine ⟨ok_F (ok_iload_n hM 0 dX6_requireTenant_0 rfl),
    ok_iconst hM dX6_requireTenant_1 rfl,
    ok_callSX hM hX [] (ctX6_requireIndex l hl) rfl gX6_requireTenant_X6_requireIndex rfl rfl rfl (by decide +kernel) (by decide) dX6_requireTenant_2,
    ok_F (ok_retV hM hE dX6_requireTenant_5),
    trivial⟩
set_option maxRecDepth 100000 in
theorem ctX6_requireTenant (l : Launch) (hl : l.stackTraces = false) : CtX l yX6_requireTenant wsX6_requireTenant rmX6_requireTenant 1 6 sX6_requireTenant := by
  refine ctX_of (own := RX6) (cc := cX6_requireTenant) (maxL := 1) (ret := none) (by decide) rfl rfl (by rintro _ _ _ _ ⟨x, rfl, rfl, hK, hKX⟩; exact Nat.le_of_ble_eq_true rfl) ?_
  intro X av es K KX hM hE hX hnL hsp
  obtain ⟨x, rfl, rfl, hK, hKX⟩ := hsp
  have hf := kX6_requireTenant hM hE hX hl hnL
  refine wr_ok hf cut_nil 5 0 _ _ _ _ _ ?_
  exact ⟨_, _, 4, rfl, rfl, by decide, rfl, fun n hn q => hK n hn q, fun q => hKX q⟩
def sX6_requireArgument : gSX := fun av es K KX => ∃ x y z lo hi, av = [.int x, .int y, .int z] ∧ y = nI lo ∧ z = nI hi ∧ lo ≤ hi ∧ hi < 2 ^ 31 - 1 ∧ es = [] ∧ (∀ n, lo ≤ n → n ≤ hi → x = nI n → K none []) ∧ ((¬ ∃ n, lo ≤ n ∧ n ≤ hi ∧ x = nI n) → KX "java/lang/IllegalArgumentException" [])
def rmX6_requireArgument : Room := { frames := 6, cells := 1, slots := 6, locals := 90 }
def pX6_requireArgument (K : gK) (KX : gKX) : List (Nat × gO) := [(0, oF (oILoad 0)), (1, oILoad 1), (2, oICmp_lt 10), (5, oILoad 0), (6, oILoad 2), (7, oICmp_le 20), (10, oThrow KX "java/lang/IllegalArgumentException" 1 6), (20, oRetV K 1 6)]
set_option maxRecDepth 100000 in
theorem kX6_requireArgument {X : gX} {l : Launch} (hM : gM X l cX6_requireArgument RX6 wsX6_requireArgument rmX6_requireArgument) {K : gK} (hE : gR X K 1 6 none) {KX : gKX} (hX : gRX X KX 1 6) (hl : l.stackTraces = false) (hnL : X.2.2.2.2.2.2.2.2.2.2.2.2.2.2.2.2 = 3) : okL X (pX6_requireArgument K KX) := by
  obtain ⟨p, l1, e, R, s, m, args, below, meth, c, D, cA, A, ag, ad0, Q, nL⟩ := X
  cases hnL
  refine ⟨ok_F (ok_iload_n hM 0 dX6_requireArgument_0 rfl),
    ok_iload_n hM 1 dX6_requireArgument_1 rfl,
    ok_icmp_lt hM 10 dX6_requireArgument_2 (by decide),
    ok_iload_n hM 0 dX6_requireArgument_5 rfl,
    ok_iload_n hM 2 dX6_requireArgument_6 rfl,
    ok_icmp_le hM 20 dX6_requireArgument_7 (by decide),
    ok_throw hM hX hl (text := "the number is out of range") "java/lang/IllegalArgumentException" ["java/lang/RuntimeException", "java/lang/Exception"] (by decide +kernel) (by decide +kernel) rfl (List.mem_of_getElem? (i := 1) rfl) (List.mem_of_getElem? (i := 2) rfl) (by decide +kernel) (by decide +kernel) gBad_2 (by decide +kernel) (by decide) (by decide) ⟨Nat.le_refl _, Nat.le_refl _⟩ dX6_requireArgument_10 dX6_requireArgument_13 dX6_requireArgument_14 dX6_requireArgument_16 dX6_requireArgument_19,
    ok_retV hM hE dX6_requireArgument_20,
    trivial⟩
set_option maxRecDepth 100000 in
theorem ctX6_requireArgument (l : Launch) (hl : l.stackTraces = false) : CtX l yX6_requireArgument wsX6_requireArgument rmX6_requireArgument 1 6 sX6_requireArgument := by
  refine ctX_of (own := RX6) (cc := cX6_requireArgument) (maxL := 3) (ret := none) (by decide) rfl rfl (by rintro _ _ _ _ ⟨x, y, z, lo, hi, rfl, rfl, rfl, hlh, hhi, rfl, hK, hKX⟩; exact Nat.le_of_ble_eq_true rfl) ?_
  intro X av es K KX hM hE hX hnL hsp
  obtain ⟨x, y, z, lo, hi, rfl, rfl, rfl, hlh, hhi, rfl, hK, hKX⟩ := hsp
  have hf := kX6_requireArgument hM hE hX hl hnL
  refine wr_ok hf cut_nil 5 0 _ _ _ _ _ ?_
  refine ⟨fun h1 => ?_, fun h1 => ?_⟩
  · have h1' : x < nI lo := by first | exact h1 | exact Int32.not_le.mp h1
    refine hKX (fun ⟨n, hn, hn2, q⟩ => ?_)
    rw [q, nI_ltI (by omega) (by omega)] at h1'
    omega
  · have h1' : nI lo ≤ x := by first | exact h1 | exact Int32.not_lt.mp h1
    have h0 : 0 ≤ x := Int32.le_trans (nI_pos' (by omega)) h1'
    refine ⟨fun h2 => ?_, fun h2 => ?_⟩
    · have h2' : x ≤ nI hi := by first | exact h2 | exact Int32.not_lt.mp h2
      have h3 : x < nI (hi + 1) := Int32.lt_of_le_of_lt h2' ((nI_ltI (by omega) (by omega)).mpr (by omega))
      obtain ⟨n, hn, q⟩ := nI_inR (by omega) h0 h3
      have h4 : lo ≤ n := by
        rw [q, nI_leI (by omega) (by omega)] at h1'
        exact h1'
      exact hK n h4 (by omega) q
    · have h2' : ¬ x ≤ nI hi := by first | exact h2 | exact Int32.not_le.mpr h2
      refine hKX (fun ⟨n, hn, hn2, q⟩ => ?_)
      rw [q, nI_leI (by omega) (by omega)] at h2'
      omega
end MQ2
end
section
/-! PartitionedCache: its whole world; a state put on the history. -/
section MQ3
abbrev st17 (v : gV) : List gE := [.inr (4, [.ref 18, .ref 22, .ref 25, .ref 26, .int (vEp v), .int (vAc v)]), .inr (3, [.ref 19, .ref 20, .ref 21]), .inl (0, 8, .inl (vOw v)), .inl (0, 32, .inl (vHd v)), .inl (0, 32, .inl (vSt v)), .inr (2, [.ref 23, .ref 24]), .inl (0, 64, .inl (vAd v)), .inl (0, 32, .inl (vGa v)), .inl (0, 4, .inl (vLe v)), .inl (0, 16, .inl (vCo v))]
abbrev st27 (v : gV) : List gE := [.inr (4, [.ref 28, .ref 32, .ref 35, .ref 36, .int (vEp v), .int (vAc v)]), .inr (3, [.ref 29, .ref 30, .ref 31]), .inl (0, 8, .inl (vOw v)), .inl (0, 32, .inl (vHd v)), .inl (0, 32, .inl (vSt v)), .inr (2, [.ref 33, .ref 34]), .inl (0, 64, .inl (vAd v)), .inl (0, 32, .inl (vGa v)), .inl (0, 4, .inl (vLe v)), .inl (0, 16, .inl (vCo v))]
abbrev st37 (v : gV) : List gE := [.inr (4, [.ref 38, .ref 42, .ref 45, .ref 46, .int (vEp v), .int (vAc v)]), .inr (3, [.ref 39, .ref 40, .ref 41]), .inl (0, 8, .inl (vOw v)), .inl (0, 32, .inl (vHd v)), .inl (0, 32, .inl (vSt v)), .inr (2, [.ref 43, .ref 44]), .inl (0, 64, .inl (vAd v)), .inl (0, 32, .inl (vGa v)), .inl (0, 4, .inl (vLe v)), .inl (0, 16, .inl (vCo v))]
abbrev st47 (v : gV) : List gE := [.inr (4, [.ref 48, .ref 52, .ref 55, .ref 56, .int (vEp v), .int (vAc v)]), .inr (3, [.ref 49, .ref 50, .ref 51]), .inl (0, 8, .inl (vOw v)), .inl (0, 32, .inl (vHd v)), .inl (0, 32, .inl (vSt v)), .inr (2, [.ref 53, .ref 54]), .inl (0, 64, .inl (vAd v)), .inl (0, 32, .inl (vGa v)), .inl (0, 4, .inl (vLe v)), .inl (0, 16, .inl (vCo v))]
abbrev st57 (v : gV) : List gE := [.inr (4, [.ref 58, .ref 62, .ref 65, .ref 66, .int (vEp v), .int (vAc v)]), .inr (3, [.ref 59, .ref 60, .ref 61]), .inl (0, 8, .inl (vOw v)), .inl (0, 32, .inl (vHd v)), .inl (0, 32, .inl (vSt v)), .inr (2, [.ref 63, .ref 64]), .inl (0, 64, .inl (vAd v)), .inl (0, 32, .inl (vGa v)), .inl (0, 4, .inl (vLe v)), .inl (0, 16, .inl (vCo v))]
abbrev st67 (v : gV) : List gE := [.inr (4, [.ref 68, .ref 72, .ref 75, .ref 76, .int (vEp v), .int (vAc v)]), .inr (3, [.ref 69, .ref 70, .ref 71]), .inl (0, 8, .inl (vOw v)), .inl (0, 32, .inl (vHd v)), .inl (0, 32, .inl (vSt v)), .inr (2, [.ref 73, .ref 74]), .inl (0, 64, .inl (vAd v)), .inl (0, 32, .inl (vGa v)), .inl (0, 4, .inl (vLe v)), .inl (0, 16, .inl (vCo v))]
abbrev st79 (v : gV) : List gE := [.inr (4, [.ref 80, .ref 84, .ref 87, .ref 88, .int (vEp v), .int (vAc v)]), .inr (3, [.ref 81, .ref 82, .ref 83]), .inl (0, 8, .inl (vOw v)), .inl (0, 32, .inl (vHd v)), .inl (0, 32, .inl (vSt v)), .inr (2, [.ref 85, .ref 86]), .inl (0, 64, .inl (vAd v)), .inl (0, 32, .inl (vGa v)), .inl (0, 4, .inl (vLe v)), .inl (0, 16, .inl (vCo v))]
abbrev st89 (v : gV) : List gE := [.inr (4, [.ref 90, .ref 94, .ref 97, .ref 98, .int (vEp v), .int (vAc v)]), .inr (3, [.ref 91, .ref 92, .ref 93]), .inl (0, 8, .inl (vOw v)), .inl (0, 32, .inl (vHd v)), .inl (0, 32, .inl (vSt v)), .inr (2, [.ref 95, .ref 96]), .inl (0, 64, .inl (vAd v)), .inl (0, 32, .inl (vGa v)), .inl (0, 4, .inl (vLe v)), .inl (0, 16, .inl (vCo v))]
abbrev hs15 (H : Nat → gV) (old sz : Int32) (r : List gE) : List gE := .inr (1, [.ref 16, .int old, .int sz]) :: .inl (5, 6, .inr (.inr (.inr [some 17, some 27, some 37, some 47, some 57, some 67]))) :: (st17 (H 0) ++ (st27 (H 1) ++ (st37 (H 2) ++ (st47 (H 3) ++ (st57 (H 4) ++ (st67 (H 5) ++ r))))))
abbrev wX (v : gV) (wy : Nat → Int32) (n : Nat) (ch : Nat → Nat) (H : Nat → gV) (o s : Nat) (r : List gE) : List gE := w13 v wy (txc n ch (hs15 H (nI o) (nI s) r))
abbrev slX (sf : Nat → Int32) (z0 z1 : gV) : List gE := .inl (5, 2, .inr (.inr (.inr [some 79, some 89]))) :: .inl (2, 2, .inl sf) :: (st79 z0 ++ st89 z1)
def psH (H : Nat → gV) (o s : Nat) (v : gV) : Nat → gV := hUp H ((o + s) % 6) v
def psO (o s : Nat) : Nat := if s < 6 then o else (o + 1) % 6
def psS (s : Nat) : Nat := if s < 6 then s + 1 else 6
theorem ps_ok {o s : Nat} (ho : o < 6) : psO o s < 6 ∧ psS s ≤ 6 := by
  unfold psO psS
  constructor <;> split <;> omega
abbrev idH : List Nat := [15, 16, 17, 18, 19, 20, 21, 22, 23, 24, 25, 26, 27, 28, 29, 30, 31, 32, 33, 34, 35, 36, 37, 38, 39, 40, 41, 42, 43, 44, 45, 46, 47, 48, 49, 50, 51, 52, 53, 54, 55, 56, 57, 58, 59, 60, 61, 62, 63, 64, 65, 66, 67, 68, 69, 70, 71, 72, 73, 74, 75, 76, 1, 2, 3, 4, 5, 6, 7, 8, 9, 10]
theorem gput_app : ∀ (is js : List Nat) (es fs gs : List gE), is.length = fs.length → gput es (is ++ js) (fs ++ gs) = gput (gput es is fs) js gs
  | [], js, es, [], gs, _ => by simp only [List.nil_append]; cases es <;> rfl
  | [], js, es, _ :: _, gs, h => by simp at h
  | _ :: _, js, es, [], gs, h => by simp at h
  | i :: is, js, es, f :: fs, gs, h => by
    show gput (es.set i f) (is ++ js) (fs ++ gs) = gput (gput (es.set i f) is fs) js gs
    exact gput_app is js _ fs gs (by simpa using h)
theorem gput_blk : ∀ (mid pre post fs : List gE), fs.length = mid.length → gput (pre ++ (mid ++ post)) (List.range' pre.length mid.length) fs = pre ++ (fs ++ post)
  | [], pre, post, [], _ => by cases pre <;> rfl
  | [], pre, post, _ :: _, h => by simp at h
  | _ :: _, pre, post, [], h => by simp at h
  | m :: mid, pre, post, f :: fs, h => by
    show gput ((pre ++ (m :: (mid ++ post))).set pre.length f) (List.range' (pre.length + 1) mid.length) fs = _
    have e1 : (pre ++ (m :: (mid ++ post))).set pre.length f = (pre ++ [f]) ++ (mid ++ post) := by simp
    rw [e1]
    have e2 := gput_blk mid (pre ++ [f]) post fs (by simpa using h)
    rw [List.length_append, List.length_singleton] at e2
    rw [e2]
    simp
abbrev hsB (H : Nat → gV) (old sz : Int32) : List gE := .inr (1, [.ref 16, .int old, .int sz]) :: .inl (5, 6, .inr (.inr (.inr [some 17, some 27, some 37, some 47, some 57, some 67]))) :: (st17 (H 0) ++ (st27 (H 1) ++ (st37 (H 2) ++ (st47 (H 3) ++ (st57 (H 4) ++ st67 (H 5))))))
abbrev pr15 (v : gV) (wy : Nat → Int32) (n : Nat) (ch : Nat → Nat) : List gE := pcO 1 11 15 13 77 78 :: (st1 v ++ [.inr (5, [.ref 12]), .inl (0, 4, .inl wy), .inr (0, [.ref 14, .int (nI n)]), .inl (1, 80, .inl (nF ch))])
theorem gput_H (v v' : gV) (wy : Nat → Int32) (n : Nat) (ch : Nat → Nat) (H H' : Nat → gV) (o s o' s' : Int32) (r : List gE) : gput (w13 v wy (txc n ch (hs15 H o s r))) idH (hsB H' o' s' ++ st1 v') = w13 v' wy (txc n ch (hs15 H' o' s' r)) := by
  have e0 : idH = List.range' 15 62 ++ List.range' 1 10 := by decide
  rw [e0, gput_app _ _ _ _ _ rfl]
  have e1 : gput (pr15 v wy n ch ++ (hsB H o s ++ r)) (List.range' 15 62) (hsB H' o' s') = pr15 v wy n ch ++ (hsB H' o' s' ++ r) := gput_blk (hsB H o s) (pr15 v wy n ch) r (hsB H' o' s') rfl
  have e2 : w13 v wy (txc n ch (hs15 H o s r)) = pr15 v wy n ch ++ (hsB H o s ++ r) := rfl
  rw [e2, e1]
  exact gput_blk (st1 v) [pcO 1 11 15 13 77 78] (.inr (5, [.ref 12]) :: .inl (0, 4, .inl wy) :: txc n ch (hs15 H' o' s' r)) (st1 v') rfl
theorem ren_H (H : Nat → gV) (o s : Int32) (v : gV) : List.map (renE (gid idH)) (hs0 H o s ++ st62 v) = hsB H o s ++ st1 v := rfl
theorem gs_push {N : gP} {L : List (Nat × Value)} {S' : List Value} {k n' : Nat} {v : gV} {wy : Nat → Int32} {n : Nat} {ch : Nat → Nat} {H : Nat → gV} {o s : Nat} {r : List gE} (ho : o < 6) (hs : s ≤ 6) (h : N L S' (wX v wy n ch (psH H o s v) (psO o s) (psS s) r) k n') : gspec idH sX1_push [.ref 15, .ref 1] N L S' (wX v wy n ch H o s r) k n' := by
  refine ⟨H, o, s, v, rfl, ho, hs, rfl, ?_⟩
  show gif true (gputF (wX v wy n ch H o s r) idH (List.map (renE (gid idH)) (hs0 (psH H o s v) (nI (psO o s)) (nI (psS s)) ++ st62 v)) fun es2 => N L S' es2 k n')
  rw [gputF_eq, ren_H, gput_H]
  exact h
/-- push, in the whole cache -/
def oPushX (rc rs : Nat) : gO := fun _ N L S es k n => match S with
  | .ref 1 :: .ref 15 :: S' => ∃ v wy m ch H o s r, o < 6 ∧ s ≤ 6 ∧ es = wX v wy m ch H o s r ∧ gif (Nat.ble (scat S') 8 && (Nat.ble k rc && Nat.ble n rs)) (gforN 17 (wX v wy m ch (psH H o s v) (psO o s) (psS s) r) (fun es' => N L S' es' k n))
  | _ => False
theorem ok_pushX {X : gX} {rc rs pc nx : Nat} (h : okO X pc nx (oCallV rc rs 1 1 idH sX1_push)) : okO X pc nx (oPushX rc rs) := by
  intro J N hJ hN L S es k n ho
  unfold oPushX at ho
  split at ho
  · rename_i S'
    obtain ⟨v, wy, m, ch, H, o, s, r, h1, h2, rfl, ho⟩ := ho
    obtain ⟨hb, ho⟩ := bif_t ho
    rw [gforN_eq] at ho
    refine h J N hJ hN L _ _ k n ?_
    have h3 : gif (Nat.ble (scat S') 8 && (Nat.ble k rc && Nat.ble n rs)) (gspec idH sX1_push [.ref 15, .ref 1] N L S' (wX v wy m ch H o s r) k n) := by
      rw [hb]
      exact gs_push h1 h2 ho
    exact h3
  · exact ho.elim
end MQ3
end
section
/-! PartitionedCache: its public methods. -/
section MQ4
abbrev inI (x : Int32) (b : Nat) : Prop := ∃ n, n < b ∧ x = nI n
abbrev inA (x : Int32) (lo hi : Nat) : Prop := ∃ n, lo ≤ n ∧ n ≤ hi ∧ x = nI n
def sX6_moveWay : gS := fun av es K => ∃ v wy n ch H o s r L, av = [.ref 0] ∧ o < 6 ∧ s ≤ 6 ∧ (∀ t, t < 4 → vLe v t = nI (L t) ∧ L t ≤ 2) ∧ es = wX v wy n ch H o s r ∧ ∀ wy', K (some (.int (oI (mvW L v)))) (wX (mvV L v) wy' n ch (psH H o s v) (psO o s) (psS s) r)
def rmX6_moveWay : Room := { frames := 4, cells := 0, slots := 0, locals := 123 }
def pX6_moveWay (K : gK) : List (Nat × gO) := [(0, oFR 17 (oALoad 0)), (1, oGet 6 2), (4, oALoad 0), (5, oGet 6 0), (8, oPushX 0 0), (11, oALoad 0), (12, oCallV0 0 0 6 0 sX6_moveOneWay), (15, oFR 17 (oRet K 0 0))]
set_option maxRecDepth 100000 in
theorem kX6_moveWay {X : gX} {l : Launch} (hM : gM X l cX6_moveWay RX6 wsX6_moveWay rmX6_moveWay) {K : gK} (hE : gR X K 0 0 (some .int)) (hnL : X.2.2.2.2.2.2.2.2.2.2.2.2.2.2.2.2 = 1) : okL X (pX6_moveWay K) := by
  obtain ⟨p, l1, e, R, s, m, args, below, meth, c, D, cA, A, ag, ad0, Q, nL⟩ := X
  cases hnL
  refine ⟨ok_FR (ok_aload_n hM 0 dX6_moveWay_0 rfl),
    ok_get (C := RX6) (T := TX6) (Nf := 6) hM (fun _ h => List.mem_cons_of_mem _ (List.mem_append_left _ (List.mem_append_left _ (List.mem_append_left _ (List.mem_append_left _ (List.mem_append_left _ (List.mem_append_right _ h))))))) rfl 2 (by decide) (List.mem_of_getElem? (i := 1) rfl) rfl dX6_moveWay_1,
    ok_aload_n hM 0 dX6_moveWay_4 rfl,
    ok_get (C := RX6) (T := TX6) (Nf := 6) hM (fun _ h => List.mem_cons_of_mem _ (List.mem_append_left _ (List.mem_append_left _ (List.mem_append_left _ (List.mem_append_left _ (List.mem_append_left _ (List.mem_append_right _ h))))))) rfl 0 (by decide) (List.mem_of_getElem? (i := 2) rfl) rfl dX6_moveWay_5,
    ok_pushX (ok_callV hM idH (ctX1_push l) rfl rfl gX6_moveWay_X1_push rfl rfl rfl (by decide +kernel) (by decide) dX6_moveWay_8),
    ok_aload_n hM 0 dX6_moveWay_11 rfl,
    ok_callV0 hM (ctX6_moveOneWay l) rfl gX6_moveWay_X6_moveOneWay rfl rfl rfl (by decide +kernel) (by decide) dX6_moveWay_12,
    ok_FR (ok_ret hM hE dX6_moveWay_15),
    trivial⟩
set_option maxRecDepth 100000 in
theorem ctX6_moveWay (l : Launch) : Ct l yX6_moveWay wsX6_moveWay rmX6_moveWay 0 0 false sX6_moveWay := by
  refine ct_of (own := RX6) (cc := cX6_moveWay) (maxL := 1) (ret := (some .int)) (by decide) rfl rfl (by rintro _ _ _ ⟨v, wy, n, ch, H, o, s, r, L, rfl, ho, hs, hL, rfl, hK⟩; exact Nat.le_of_ble_eq_true rfl) ?_
  intro X av es K hM hE hag hin hnL hsp
  obtain ⟨v, wy, n, ch, H, o, s, r, L, rfl, ho, hs, hL, rfl, hK⟩ := hsp
  have hf := kX6_moveWay hM hE hnL
  refine wr_ok hf cut_nil 5 0 _ _ _ _ _ ?_
  refine ⟨v, wy, n, ch, H, o, s, r, ho, hs, rfl, ?_⟩
  refine ⟨v, wy, _, L, rfl, hL, rfl, fun wy' => ?_⟩
  exact hK wy'
def sX6_halveGains : gS := fun av es K => ∃ v wy n ch H o s r, av = [.ref 0] ∧ o < 6 ∧ s ≤ 6 ∧ es = wX v wy n ch H o s r ∧ K (some (.int (sumI (hlv (vGa v)) 32))) (wX (hlV v) wy n ch (psH H o s v) (psO o s) (psS s) r)
def rmX6_halveGains : Room := { frames := 4, cells := 0, slots := 0, locals := 123 }
def pX6_halveGains (K : gK) : List (Nat × gO) := [(0, oFR 17 (oALoad 0)), (1, oGet 6 2), (4, oALoad 0), (5, oGet 6 0), (8, oPushX 0 0), (11, oALoad 0), (12, oGet 6 0), (15, oGet 4 1), (18, oCallVR 17 0 0 2 0 [6,7,8] sX2_halve), (21, oFR 17 (oALoad 0)), (22, oGet 6 0), (25, oGet 4 1), (28, oCallVR 17 0 0 2 0 [6,7,8] sX2_sumOfGains), (31, oFR 17 (oRet K 0 0))]
set_option maxRecDepth 100000 in
theorem kX6_halveGains {X : gX} {l : Launch} (hM : gM X l cX6_halveGains RX6 wsX6_halveGains rmX6_halveGains) {K : gK} (hE : gR X K 0 0 (some .int)) (hnL : X.2.2.2.2.2.2.2.2.2.2.2.2.2.2.2.2 = 1) : okL X (pX6_halveGains K) := by
  obtain ⟨p, l1, e, R, s, m, args, below, meth, c, D, cA, A, ag, ad0, Q, nL⟩ := X
  cases hnL
  refine ⟨ok_FR (ok_aload_n hM 0 dX6_halveGains_0 rfl),
    ok_get (C := RX6) (T := TX6) (Nf := 6) hM (fun _ h => List.mem_cons_of_mem _ (List.mem_append_left _ (List.mem_append_left _ (List.mem_append_left _ (List.mem_append_left _ (List.mem_append_right _ h)))))) rfl 2 (by decide) (List.mem_of_getElem? (i := 1) rfl) rfl dX6_halveGains_1,
    ok_aload_n hM 0 dX6_halveGains_4 rfl,
    ok_get (C := RX6) (T := TX6) (Nf := 6) hM (fun _ h => List.mem_cons_of_mem _ (List.mem_append_left _ (List.mem_append_left _ (List.mem_append_left _ (List.mem_append_left _ (List.mem_append_right _ h)))))) rfl 0 (by decide) (List.mem_of_getElem? (i := 2) rfl) rfl dX6_halveGains_5,
    ok_pushX (ok_callV hM idH (ctX1_push l) rfl rfl gX6_halveGains_X1_push rfl rfl rfl (by decide +kernel) (by decide) dX6_halveGains_8),
    ok_aload_n hM 0 dX6_halveGains_11 rfl,
    ok_get (C := RX6) (T := TX6) (Nf := 6) hM (fun _ h => List.mem_cons_of_mem _ (List.mem_append_left _ (List.mem_append_left _ (List.mem_append_left _ (List.mem_append_left _ (List.mem_append_right _ h)))))) rfl 0 (by decide) (List.mem_of_getElem? (i := 2) rfl) rfl dX6_halveGains_12,
    ok_get (C := RX4) (T := TX4) (Nf := 6) hM (fun _ h => List.mem_cons_of_mem _ (List.mem_append_left _ (List.mem_append_left _ (List.mem_append_left _ (List.mem_append_right _ h))))) rfl 1 (by decide) (List.mem_of_getElem? (i := 3) rfl) rfl dX6_halveGains_15,
    ok_R (ok_callV hM [6,7,8] (ctX2_halve l) rfl rfl gX6_halveGains_X2_halve rfl rfl rfl (by decide +kernel) (by decide) dX6_halveGains_18),
    ok_FR (ok_aload_n hM 0 dX6_halveGains_21 rfl),
    ok_get (C := RX6) (T := TX6) (Nf := 6) hM (fun _ h => List.mem_cons_of_mem _ (List.mem_append_left _ (List.mem_append_left _ (List.mem_append_left _ (List.mem_append_left _ (List.mem_append_right _ h)))))) rfl 0 (by decide) (List.mem_of_getElem? (i := 2) rfl) rfl dX6_halveGains_22,
    ok_get (C := RX4) (T := TX4) (Nf := 6) hM (fun _ h => List.mem_cons_of_mem _ (List.mem_append_left _ (List.mem_append_left _ (List.mem_append_left _ (List.mem_append_right _ h))))) rfl 1 (by decide) (List.mem_of_getElem? (i := 3) rfl) rfl dX6_halveGains_25,
    ok_R (ok_callV hM [6,7,8] (ctX2_sumOfGains l) rfl rfl gX6_halveGains_X2_sumOfGains rfl rfl rfl (by decide +kernel) (by decide) dX6_halveGains_28),
    ok_FR (ok_ret hM hE dX6_halveGains_31),
    trivial⟩
set_option maxRecDepth 100000 in
theorem ctX6_halveGains (l : Launch) : Ct l yX6_halveGains wsX6_halveGains rmX6_halveGains 0 0 false sX6_halveGains := by
  refine ct_of (own := RX6) (cc := cX6_halveGains) (maxL := 1) (ret := (some .int)) (by decide) rfl rfl (by rintro _ _ _ ⟨v, wy, n, ch, H, o, s, r, rfl, ho, hs, rfl, hK⟩; exact Nat.le_of_ble_eq_true rfl) ?_
  intro X av es K hM hE hag hin hnL hsp
  obtain ⟨v, wy, n, ch, H, o, s, r, rfl, ho, hs, rfl, hK⟩ := hsp
  have hf := kX6_halveGains hM hE hnL
  refine wr_ok hf cut_nil 5 0 _ _ _ _ _ ?_
  refine ⟨v, wy, n, ch, H, o, s, r, ho, hs, rfl, ?_⟩
  refine ⟨vAd v, vGa v, rfl, rfl, ?_⟩
  refine ⟨vAd v, hlv (vGa v), rfl, rfl, ?_⟩
  exact hK
def sX6_accesses : gS := fun av es K => ∃ v wy n ch H o s r, av = [.ref 0] ∧ o < 6 ∧ s ≤ 6 ∧ es = wX v wy n ch H o s r ∧ K (some (.int (vAc v))) es
def rmX6_accesses : Room := { frames := 0, cells := 0, slots := 0, locals := 0 }
def pX6_accesses (K : gK) : List (Nat × gO) := [(0, oFR 17 (oALoad 0)), (1, oGet 6 0), (4, oGet 4 5), (7, oRet K 0 0)]
set_option maxRecDepth 100000 in
theorem kX6_accesses {X : gX} {l : Launch} (hM : gM X l cX6_accesses RX6 wsX6_accesses rmX6_accesses) {K : gK} (hE : gR X K 0 0 (some .int)) (hnL : X.2.2.2.2.2.2.2.2.2.2.2.2.2.2.2.2 = 1) : okL X (pX6_accesses K) := by
  obtain ⟨p, l1, e, R, s, m, args, below, meth, c, D, cA, A, ag, ad0, Q, nL⟩ := X
  cases hnL
  refine ⟨ok_FR (ok_aload_n hM 0 dX6_accesses_0 rfl),
    ok_get (C := RX6) (T := TX6) (Nf := 6) hM (fun _ h => List.mem_cons_of_mem _ (List.mem_append_left _ (List.mem_append_right _ h))) rfl 0 (by decide) (List.mem_of_getElem? (i := 1) rfl) rfl dX6_accesses_1,
    ok_get (C := RX4) (T := TX4) (Nf := 6) hM (fun _ h => List.mem_cons_of_mem _ (List.mem_append_right _ h)) rfl 5 (by decide) (List.mem_of_getElem? (i := 2) rfl) rfl dX6_accesses_4,
    ok_ret hM hE dX6_accesses_7,
    trivial⟩
set_option maxRecDepth 100000 in
theorem ctX6_accesses (l : Launch) : Ct l yX6_accesses wsX6_accesses rmX6_accesses 0 0 false sX6_accesses := by
  refine ct_of (own := RX6) (cc := cX6_accesses) (maxL := 1) (ret := (some .int)) (by decide) rfl rfl (by rintro _ _ _ ⟨v, wy, n, ch, H, o, s, r, rfl, ho, hs, rfl, hK⟩; exact Nat.le_of_ble_eq_true rfl) ?_
  intro X av es K hM hE hag hin hnL hsp
  obtain ⟨v, wy, n, ch, H, o, s, r, rfl, ho, hs, rfl, hK⟩ := hsp
  have hf := kX6_accesses hM hE hnL
  refine wr_ok hf cut_nil 5 0 _ _ _ _ _ ?_
  exact hK
def sX6_savedStates : gS := fun av es K => ∃ v wy n ch H o s r, av = [.ref 0] ∧ o < 6 ∧ s ≤ 6 ∧ es = wX v wy n ch H o s r ∧ K (some (.int (nI s))) es
def rmX6_savedStates : Room := { frames := 0, cells := 0, slots := 0, locals := 0 }
def pX6_savedStates (K : gK) : List (Nat × gO) := [(0, oFR 17 (oALoad 0)), (1, oGet 6 2), (4, oGet 1 2), (7, oRet K 0 0)]
set_option maxRecDepth 100000 in
theorem kX6_savedStates {X : gX} {l : Launch} (hM : gM X l cX6_savedStates RX6 wsX6_savedStates rmX6_savedStates) {K : gK} (hE : gR X K 0 0 (some .int)) (hnL : X.2.2.2.2.2.2.2.2.2.2.2.2.2.2.2.2 = 1) : okL X (pX6_savedStates K) := by
  obtain ⟨p, l1, e, R, s, m, args, below, meth, c, D, cA, A, ag, ad0, Q, nL⟩ := X
  cases hnL
  refine ⟨ok_FR (ok_aload_n hM 0 dX6_savedStates_0 rfl),
    ok_get (C := RX6) (T := TX6) (Nf := 6) hM (fun _ h => List.mem_cons_of_mem _ (List.mem_append_left _ (List.mem_append_right _ h))) rfl 2 (by decide) (List.mem_of_getElem? (i := 1) rfl) rfl dX6_savedStates_1,
    ok_get (C := RX1) (T := TX1) (Nf := 3) hM (fun _ h => List.mem_cons_of_mem _ (List.mem_append_right _ h)) rfl 2 (by decide) (List.mem_of_getElem? (i := 2) rfl) rfl dX6_savedStates_4,
    ok_ret hM hE dX6_savedStates_7,
    trivial⟩
set_option maxRecDepth 100000 in
theorem ctX6_savedStates (l : Launch) : Ct l yX6_savedStates wsX6_savedStates rmX6_savedStates 0 0 false sX6_savedStates := by
  refine ct_of (own := RX6) (cc := cX6_savedStates) (maxL := 1) (ret := (some .int)) (by decide) rfl rfl (by rintro _ _ _ ⟨v, wy, n, ch, H, o, s, r, rfl, ho, hs, rfl, hK⟩; exact Nat.le_of_ble_eq_true rfl) ?_
  intro X av es K hM hE hag hin hnL hsp
  obtain ⟨v, wy, n, ch, H, o, s, r, rfl, ho, hs, rfl, hK⟩ := hsp
  have hf := kX6_savedStates hM hE hnL
  refine wr_ok hf cut_nil 5 0 _ _ _ _ _ ?_
  exact hK
def sX6_access : gSX := fun av es K KX => ∃ x y v wy n ch H o s r L, av = [.ref 0, .int x, .int y] ∧ o < 6 ∧ s ≤ 6 ∧ (∀ t, t < 4 → vLe v t = nI (L t) ∧ L t ≤ 2) ∧ es = wX v wy n ch H o s r ∧ (∀ t a, t < 4 → a ≤ 255 → x = nI t → y = nI a → ∀ wy', K (some (.int (nI (acR v t a)))) (wX (acV L v t a) wy' n ch (psH H o s v) (psO o s) (psS s) r)) ∧ (¬ inI x 4 → KX "java/lang/IndexOutOfBoundsException" (wX v wy n ch H o s r)) ∧ (inI x 4 → ¬ inA y 0 255 → KX "java/lang/IllegalArgumentException" (wX v wy n ch H o s r))
def rmX6_access : Room := { frames := 8, cells := 2, slots := 12, locals := 131 }
def pX6_access (K : gK) (KX : gKX) : List (Nat × gO) := [(0, oFR 17 (oILoad 1)), (1, oCallSX 2 12 2 12 1 6 1 [] sX6_requireTenant KX), (4, oFR 17 (oILoad 2)), (5, oConst (nI 0)), (6, oConst (nI 255)), (9, oCallSX 2 12 2 12 1 6 3 [] sX6_requireArgument KX), (12, oFR 17 (oALoad 0)), (13, oGet 6 2), (16, oALoad 0), (17, oGet 6 0), (20, oPushX 2 12), (23, oALoad 0), (24, oILoad 1), (25, oILoad 2), (26, oCallV0 2 12 6 2 sX6_makeAccess), (29, oFR 17 (oRet K 2 12))]
set_option maxRecDepth 100000 in
theorem kX6_access {X : gX} {l : Launch} (hM : gM X l cX6_access RX6 wsX6_access rmX6_access) {K : gK} (hE : gR X K 2 12 (some .int)) {KX : gKX} (hX : gRX X KX 2 12) (hl : l.stackTraces = false) (hnL : X.2.2.2.2.2.2.2.2.2.2.2.2.2.2.2.2 = 3) : okL X (pX6_access K KX) := by
  obtain ⟨p, l1, e, R, s, m, args, below, meth, c, D, cA, A, ag, ad0, Q, nL⟩ := X
  cases hnL
  refine ⟨ok_FR (ok_iload_n hM 1 dX6_access_0 rfl),
    ok_callSX hM hX [] (ctX6_requireTenant l hl) rfl gX6_access_X6_requireTenant rfl rfl rfl (by decide +kernel) (by decide) dX6_access_1,
    ok_FR (ok_iload_n hM 2 dX6_access_4 rfl),
    ok_iconst hM dX6_access_5 rfl,
    ok_sipush hM dX6_access_6 rfl,
    ok_callSX hM hX [] (ctX6_requireArgument l hl) rfl gX6_access_X6_requireArgument rfl rfl rfl (by decide +kernel) (by decide) dX6_access_9,
    ok_FR (ok_aload_n hM 0 dX6_access_12 rfl),
    ok_get (C := RX6) (T := TX6) (Nf := 6) hM (fun _ h => List.mem_cons_of_mem _ (List.mem_append_left _ (List.mem_append_left _ (List.mem_append_left _ (List.mem_append_left _ (List.mem_append_left _ (List.mem_append_left _ (List.mem_append_left _ (List.mem_append_right _ h))))))))) rfl 2 (by decide) (List.mem_of_getElem? (i := 1) rfl) rfl dX6_access_13,
    ok_aload_n hM 0 dX6_access_16 rfl,
    ok_get (C := RX6) (T := TX6) (Nf := 6) hM (fun _ h => List.mem_cons_of_mem _ (List.mem_append_left _ (List.mem_append_left _ (List.mem_append_left _ (List.mem_append_left _ (List.mem_append_left _ (List.mem_append_left _ (List.mem_append_left _ (List.mem_append_right _ h))))))))) rfl 0 (by decide) (List.mem_of_getElem? (i := 2) rfl) rfl dX6_access_17,
    ok_pushX (ok_callV hM idH (ctX1_push l) rfl rfl gX6_access_X1_push rfl rfl rfl (by decide +kernel) (by decide) dX6_access_20),
    ok_aload_n hM 0 dX6_access_23 rfl,
    ok_iload_n hM 1 dX6_access_24 rfl,
    ok_iload_n hM 2 dX6_access_25 rfl,
    ok_callV0 hM (ctX6_makeAccess l) rfl gX6_access_X6_makeAccess rfl rfl rfl (by decide +kernel) (by decide) dX6_access_26,
    ok_FR (ok_ret hM hE dX6_access_29),
    trivial⟩
set_option maxRecDepth 100000 in
theorem ctX6_access (l : Launch) (hl : l.stackTraces = false) : CtX l yX6_access wsX6_access rmX6_access 2 12 sX6_access := by
  refine ctX_of (own := RX6) (cc := cX6_access) (maxL := 3) (ret := (some .int)) (by decide) rfl rfl (by rintro _ _ _ _ ⟨x, y, v, wy, n, ch, H, o, s, r, L, rfl, ho, hs, hL, rfl, hK, hX0, hX1⟩; exact Nat.le_of_ble_eq_true rfl) ?_
  intro X av es K KX hM hE hX hnL hsp
  obtain ⟨x, y, v, wy, n, ch, H, o, s, r, L, rfl, ho, hs, hL, rfl, hK, hX0, hX1⟩ := hsp
  have hf := kX6_access hM hE hX hl hnL
  refine wr_ok hf cut_nil 5 0 _ _ _ _ _ ?_
  refine ⟨_, rfl, rfl, fun t ht et => ?_, fun q => ?_⟩
  · subst et
    refine ⟨_, _, _, 0, 255, rfl, rfl, rfl, by decide, by decide, rfl, fun a ha0 ha ea => ?_, fun q => ?_⟩
    · subst ea
      refine ⟨v, wy, n, ch, H, o, s, r, ho, hs, rfl, ?_⟩
      refine ⟨_, _, t, a, v, wy, _, L, rfl, rfl, rfl, ht, by omega, hL, rfl, fun wy' => ?_⟩
      exact hK t a ht ha rfl rfl wy'
    · exact hX1 ⟨t, ht, rfl⟩ q
  · exact hX0  q
def sX6_flush : gSX := fun av es K KX => ∃ x v wy n ch H o s r, av = [.ref 0, .int x] ∧ o < 6 ∧ s ≤ 6 ∧ es = wX v wy n ch H o s r ∧ (∀ t, t < 4 → x = nI t → K (some (.int (nI (cnt (hol (vHd v) (nI t)) 32)))) (wX (rmV v t) wy n ch (psH H o s v) (psO o s) (psS s) r)) ∧ (¬ inI x 4 → KX "java/lang/IndexOutOfBoundsException" (wX v wy n ch H o s r))
def rmX6_flush : Room := { frames := 8, cells := 1, slots := 6, locals := 131 }
def pX6_flush (K : gK) (KX : gKX) : List (Nat × gO) := [(0, oFR 17 (oILoad 1)), (1, oCallSX 1 6 1 6 1 6 1 [] sX6_requireTenant KX), (4, oFR 17 (oALoad 0)), (5, oGet 6 2), (8, oALoad 0), (9, oGet 6 0), (12, oPushX 1 6), (15, oALoad 0), (16, oGet 6 0), (19, oGet 4 0), (22, oILoad 1), (23, oCallVR 17 1 6 3 1 [2,3,4,5] sX3_removeLinesOf), (26, oFR 17 (oRet K 1 6))]
set_option maxRecDepth 100000 in
theorem kX6_flush {X : gX} {l : Launch} (hM : gM X l cX6_flush RX6 wsX6_flush rmX6_flush) {K : gK} (hE : gR X K 1 6 (some .int)) {KX : gKX} (hX : gRX X KX 1 6) (hl : l.stackTraces = false) (hnL : X.2.2.2.2.2.2.2.2.2.2.2.2.2.2.2.2 = 2) : okL X (pX6_flush K KX) := by
  obtain ⟨p, l1, e, R, s, m, args, below, meth, c, D, cA, A, ag, ad0, Q, nL⟩ := X
  cases hnL
  refine ⟨ok_FR (ok_iload_n hM 1 dX6_flush_0 rfl),
    ok_callSX hM hX [] (ctX6_requireTenant l hl) rfl gX6_flush_X6_requireTenant rfl rfl rfl (by decide +kernel) (by decide) dX6_flush_1,
    ok_FR (ok_aload_n hM 0 dX6_flush_4 rfl),
    ok_get (C := RX6) (T := TX6) (Nf := 6) hM (fun _ h => List.mem_cons_of_mem _ (List.mem_append_left _ (List.mem_append_left _ (List.mem_append_left _ (List.mem_append_left _ (List.mem_append_left _ (List.mem_append_right _ h))))))) rfl 2 (by decide) (List.mem_of_getElem? (i := 1) rfl) rfl dX6_flush_5,
    ok_aload_n hM 0 dX6_flush_8 rfl,
    ok_get (C := RX6) (T := TX6) (Nf := 6) hM (fun _ h => List.mem_cons_of_mem _ (List.mem_append_left _ (List.mem_append_left _ (List.mem_append_left _ (List.mem_append_left _ (List.mem_append_left _ (List.mem_append_right _ h))))))) rfl 0 (by decide) (List.mem_of_getElem? (i := 2) rfl) rfl dX6_flush_9,
    ok_pushX (ok_callV hM idH (ctX1_push l) rfl rfl gX6_flush_X1_push rfl rfl rfl (by decide +kernel) (by decide) dX6_flush_12),
    ok_aload_n hM 0 dX6_flush_15 rfl,
    ok_get (C := RX6) (T := TX6) (Nf := 6) hM (fun _ h => List.mem_cons_of_mem _ (List.mem_append_left _ (List.mem_append_left _ (List.mem_append_left _ (List.mem_append_left _ (List.mem_append_left _ (List.mem_append_right _ h))))))) rfl 0 (by decide) (List.mem_of_getElem? (i := 2) rfl) rfl dX6_flush_16,
    ok_get (C := RX4) (T := TX4) (Nf := 6) hM (fun _ h => List.mem_cons_of_mem _ (List.mem_append_left _ (List.mem_append_left _ (List.mem_append_left _ (List.mem_append_left _ (List.mem_append_right _ h)))))) rfl 0 (by decide) (List.mem_of_getElem? (i := 3) rfl) rfl dX6_flush_19,
    ok_iload_n hM 1 dX6_flush_22 rfl,
    ok_R (ok_callV hM [2,3,4,5] (ctX3_removeLinesOf l) rfl rfl gX6_flush_X3_removeLinesOf rfl rfl rfl (by decide +kernel) (by decide) dX6_flush_23),
    ok_FR (ok_ret hM hE dX6_flush_26),
    trivial⟩
set_option maxRecDepth 100000 in
theorem ctX6_flush (l : Launch) (hl : l.stackTraces = false) : CtX l yX6_flush wsX6_flush rmX6_flush 1 6 sX6_flush := by
  refine ctX_of (own := RX6) (cc := cX6_flush) (maxL := 2) (ret := (some .int)) (by decide) rfl rfl (by rintro _ _ _ _ ⟨x, v, wy, n, ch, H, o, s, r, rfl, ho, hs, rfl, hK, hX0⟩; exact Nat.le_of_ble_eq_true rfl) ?_
  intro X av es K KX hM hE hX hnL hsp
  obtain ⟨x, v, wy, n, ch, H, o, s, r, rfl, ho, hs, rfl, hK, hX0⟩ := hsp
  have hf := kX6_flush hM hE hX hl hnL
  refine wr_ok hf cut_nil 5 0 _ _ _ _ _ ?_
  refine ⟨_, rfl, rfl, fun t ht et => ?_, fun q => ?_⟩
  · subst et
    refine ⟨v, wy, n, ch, H, o, s, r, ho, hs, rfl, ?_⟩
    refine ⟨_, vOw v, vHd v, vSt v, rfl, rfl, ?_⟩
    exact hK t ht rfl
  · exact hX0  q
def sX6_giveWay : gSX := fun av es K KX => ∃ x y v wy n ch H o s r, av = [.ref 0, .int x, .int y] ∧ o < 6 ∧ s ≤ 6 ∧ es = wX v wy n ch H o s r ∧ (∀ w t, w < 8 → t < 4 → x = nI w → y = nI t → K (some (.int (vOw v w))) (wX (upd (vOw v) w (nI t), vHd v, vSt v, vAd v, vGa v, vLe v, vCo v, vEp v, vAc v) wy n ch (psH H o s v) (psO o s) (psS s) r)) ∧ (¬ inI x 8 → KX "java/lang/IndexOutOfBoundsException" (wX v wy n ch H o s r)) ∧ (inI x 8 → ¬ inI y 4 → KX "java/lang/IndexOutOfBoundsException" (wX v wy n ch H o s r))
def rmX6_giveWay : Room := { frames := 8, cells := 2, slots := 12, locals := 131 }
def pX6_giveWay (K : gK) (KX : gKX) : List (Nat × gO) := [(0, oFR 17 (oILoad 1)), (1, oConst (nI 8)), (3, oCallSX 2 12 2 12 1 6 2 [] sX6_requireIndex KX), (6, oFR 17 (oILoad 2)), (7, oCallSX 2 12 2 12 1 6 1 [] sX6_requireTenant KX), (10, oFR 17 (oALoad 0)), (11, oGet 6 2), (14, oALoad 0), (15, oGet 6 0), (18, oPushX 2 12), (21, oALoad 0), (22, oGet 6 0), (25, oGet 4 0), (28, oGet 3 0), (31, oILoad 1), (32, oIALd 0), (33, oIStore 4 3), (34, oFR 17 (oALoad 0)), (35, oGet 6 0), (38, oGet 4 0), (41, oGet 3 0), (44, oILoad 1), (45, oILoad 2), (46, oIASt), (47, oFR 17 (oILoad 3)), (48, oRet K 2 12)]
set_option maxRecDepth 100000 in
theorem kX6_giveWay {X : gX} {l : Launch} (hM : gM X l cX6_giveWay RX6 wsX6_giveWay rmX6_giveWay) {K : gK} (hE : gR X K 2 12 (some .int)) {KX : gKX} (hX : gRX X KX 2 12) (hl : l.stackTraces = false) (hnL : X.2.2.2.2.2.2.2.2.2.2.2.2.2.2.2.2 = 4) : okL X (pX6_giveWay K KX) := by
  obtain ⟨p, l1, e, R, s, m, args, below, meth, c, D, cA, A, ag, ad0, Q, nL⟩ := X
  cases hnL
  refine ⟨ok_FR (ok_iload_n hM 1 dX6_giveWay_0 rfl),
    ok_bipush hM dX6_giveWay_1 rfl,
    ok_callSX hM hX [] (ctX6_requireIndex l hl) rfl gX6_giveWay_X6_requireIndex rfl rfl rfl (by decide +kernel) (by decide) dX6_giveWay_3,
    ok_FR (ok_iload_n hM 2 dX6_giveWay_6 rfl),
    ok_callSX hM hX [] (ctX6_requireTenant l hl) rfl gX6_giveWay_X6_requireTenant rfl rfl rfl (by decide +kernel) (by decide) dX6_giveWay_7,
    ok_FR (ok_aload_n hM 0 dX6_giveWay_10 rfl),
    ok_get (C := RX6) (T := TX6) (Nf := 6) hM (fun _ h => List.mem_cons_of_mem _ (List.mem_append_left _ (List.mem_append_left _ (List.mem_append_left _ (List.mem_append_left _ (List.mem_append_left _ (List.mem_append_right _ h))))))) rfl 2 (by decide) (List.mem_of_getElem? (i := 1) rfl) rfl dX6_giveWay_11,
    ok_aload_n hM 0 dX6_giveWay_14 rfl,
    ok_get (C := RX6) (T := TX6) (Nf := 6) hM (fun _ h => List.mem_cons_of_mem _ (List.mem_append_left _ (List.mem_append_left _ (List.mem_append_left _ (List.mem_append_left _ (List.mem_append_left _ (List.mem_append_right _ h))))))) rfl 0 (by decide) (List.mem_of_getElem? (i := 2) rfl) rfl dX6_giveWay_15,
    ok_pushX (ok_callV hM idH (ctX1_push l) rfl rfl gX6_giveWay_X1_push rfl rfl rfl (by decide +kernel) (by decide) dX6_giveWay_18),
    ok_aload_n hM 0 dX6_giveWay_21 rfl,
    ok_get (C := RX6) (T := TX6) (Nf := 6) hM (fun _ h => List.mem_cons_of_mem _ (List.mem_append_left _ (List.mem_append_left _ (List.mem_append_left _ (List.mem_append_left _ (List.mem_append_left _ (List.mem_append_right _ h))))))) rfl 0 (by decide) (List.mem_of_getElem? (i := 2) rfl) rfl dX6_giveWay_22,
    ok_get (C := RX4) (T := TX4) (Nf := 6) hM (fun _ h => List.mem_cons_of_mem _ (List.mem_append_left _ (List.mem_append_left _ (List.mem_append_left _ (List.mem_append_left _ (List.mem_append_right _ h)))))) rfl 0 (by decide) (List.mem_of_getElem? (i := 3) rfl) rfl dX6_giveWay_25,
    ok_get (C := RX3) (T := TX3) (Nf := 3) hM (fun _ h => List.mem_cons_of_mem _ (List.mem_append_left _ (List.mem_append_left _ (List.mem_append_left _ (List.mem_append_right _ h))))) rfl 0 (by decide) (List.mem_of_getElem? (i := 4) rfl) rfl dX6_giveWay_28,
    ok_iload_n hM 1 dX6_giveWay_31 rfl,
    ok_iald hM dX6_giveWay_32,
    ok_istore_n hM 3 dX6_giveWay_33 rfl,
    ok_FR (ok_aload_n hM 0 dX6_giveWay_34 rfl),
    ok_get (C := RX6) (T := TX6) (Nf := 6) hM (fun _ h => List.mem_cons_of_mem _ (List.mem_append_left _ (List.mem_append_left _ (List.mem_append_left _ (List.mem_append_left _ (List.mem_append_left _ (List.mem_append_right _ h))))))) rfl 0 (by decide) (List.mem_of_getElem? (i := 2) rfl) rfl dX6_giveWay_35,
    ok_get (C := RX4) (T := TX4) (Nf := 6) hM (fun _ h => List.mem_cons_of_mem _ (List.mem_append_left _ (List.mem_append_left _ (List.mem_append_left _ (List.mem_append_left _ (List.mem_append_right _ h)))))) rfl 0 (by decide) (List.mem_of_getElem? (i := 3) rfl) rfl dX6_giveWay_38,
    ok_get (C := RX3) (T := TX3) (Nf := 3) hM (fun _ h => List.mem_cons_of_mem _ (List.mem_append_left _ (List.mem_append_left _ (List.mem_append_left _ (List.mem_append_right _ h))))) rfl 0 (by decide) (List.mem_of_getElem? (i := 4) rfl) rfl dX6_giveWay_41,
    ok_iload_n hM 1 dX6_giveWay_44 rfl,
    ok_iload_n hM 2 dX6_giveWay_45 rfl,
    ok_iast hM dX6_giveWay_46,
    ok_FR (ok_iload_n hM 3 dX6_giveWay_47 rfl),
    ok_ret hM hE dX6_giveWay_48,
    trivial⟩
set_option maxRecDepth 100000 in
theorem ctX6_giveWay (l : Launch) (hl : l.stackTraces = false) : CtX l yX6_giveWay wsX6_giveWay rmX6_giveWay 2 12 sX6_giveWay := by
  refine ctX_of (own := RX6) (cc := cX6_giveWay) (maxL := 4) (ret := (some .int)) (by decide) rfl rfl (by rintro _ _ _ _ ⟨x, y, v, wy, n, ch, H, o, s, r, rfl, ho, hs, rfl, hK, hX0, hX1⟩; exact Nat.le_of_ble_eq_true rfl) ?_
  intro X av es K KX hM hE hX hnL hsp
  obtain ⟨x, y, v, wy, n, ch, H, o, s, r, rfl, ho, hs, rfl, hK, hX0, hX1⟩ := hsp
  have hf := kX6_giveWay hM hE hX hl hnL
  refine wr_ok hf cut_nil 5 0 _ _ _ _ _ ?_
  refine ⟨_, _, 8, rfl, rfl, by decide, rfl, fun w hw ew => ?_, fun q => ?_⟩
  · subst ew
    refine ⟨_, rfl, rfl, fun t ht et => ?_, fun q => ?_⟩
    · subst et
      refine ⟨v, wy, n, ch, H, o, s, r, ho, hs, rfl, ?_⟩
      refine ⟨w, rfl, hw, ?_⟩
      refine ⟨w, rfl, hw, ?_⟩
      exact hK w t hw ht rfl rfl
    · exact hX1 ⟨w, hw, rfl⟩ q
  · exact hX0  q
def sX6_setLeast : gSX := fun av es K KX => ∃ x y v wy n ch H o s r, av = [.ref 0, .int x, .int y] ∧ o < 6 ∧ s ≤ 6 ∧ es = wX v wy n ch H o s r ∧ (∀ t q, t < 4 → q ≤ 2 → x = nI t → y = nI q → K (some (.int (vLe v t))) (wX (vOw v, vHd v, vSt v, vAd v, vGa v, upd (vLe v) t (nI q), vCo v, vEp v, vAc v) wy n ch (psH H o s v) (psO o s) (psS s) r)) ∧ (¬ inI x 4 → KX "java/lang/IndexOutOfBoundsException" (wX v wy n ch H o s r)) ∧ (inI x 4 → ¬ inA y 0 2 → KX "java/lang/IllegalArgumentException" (wX v wy n ch H o s r))
def rmX6_setLeast : Room := { frames := 8, cells := 2, slots := 12, locals := 131 }
def pX6_setLeast (K : gK) (KX : gKX) : List (Nat × gO) := [(0, oFR 17 (oILoad 1)), (1, oCallSX 2 12 2 12 1 6 1 [] sX6_requireTenant KX), (4, oFR 17 (oILoad 2)), (5, oConst (nI 0)), (6, oConst (nI 2)), (7, oCallSX 2 12 2 12 1 6 3 [] sX6_requireArgument KX), (10, oFR 17 (oALoad 0)), (11, oGet 6 2), (14, oALoad 0), (15, oGet 6 0), (18, oPushX 2 12), (21, oALoad 0), (22, oGet 6 0), (25, oGet 4 2), (28, oILoad 1), (29, oIALd 0), (30, oIStore 4 3), (31, oFR 17 (oALoad 0)), (32, oGet 6 0), (35, oGet 4 2), (38, oILoad 1), (39, oILoad 2), (40, oIASt), (41, oFR 17 (oILoad 3)), (42, oRet K 2 12)]
set_option maxRecDepth 100000 in
theorem kX6_setLeast {X : gX} {l : Launch} (hM : gM X l cX6_setLeast RX6 wsX6_setLeast rmX6_setLeast) {K : gK} (hE : gR X K 2 12 (some .int)) {KX : gKX} (hX : gRX X KX 2 12) (hl : l.stackTraces = false) (hnL : X.2.2.2.2.2.2.2.2.2.2.2.2.2.2.2.2 = 4) : okL X (pX6_setLeast K KX) := by
  obtain ⟨p, l1, e, R, s, m, args, below, meth, c, D, cA, A, ag, ad0, Q, nL⟩ := X
  cases hnL
  refine ⟨ok_FR (ok_iload_n hM 1 dX6_setLeast_0 rfl),
    ok_callSX hM hX [] (ctX6_requireTenant l hl) rfl gX6_setLeast_X6_requireTenant rfl rfl rfl (by decide +kernel) (by decide) dX6_setLeast_1,
    ok_FR (ok_iload_n hM 2 dX6_setLeast_4 rfl),
    ok_iconst hM dX6_setLeast_5 rfl,
    ok_iconst hM dX6_setLeast_6 rfl,
    ok_callSX hM hX [] (ctX6_requireArgument l hl) rfl gX6_setLeast_X6_requireArgument rfl rfl rfl (by decide +kernel) (by decide) dX6_setLeast_7,
    ok_FR (ok_aload_n hM 0 dX6_setLeast_10 rfl),
    ok_get (C := RX6) (T := TX6) (Nf := 6) hM (fun _ h => List.mem_cons_of_mem _ (List.mem_append_left _ (List.mem_append_left _ (List.mem_append_left _ (List.mem_append_left _ (List.mem_append_left _ (List.mem_append_left _ (List.mem_append_right _ h)))))))) rfl 2 (by decide) (List.mem_of_getElem? (i := 1) rfl) rfl dX6_setLeast_11,
    ok_aload_n hM 0 dX6_setLeast_14 rfl,
    ok_get (C := RX6) (T := TX6) (Nf := 6) hM (fun _ h => List.mem_cons_of_mem _ (List.mem_append_left _ (List.mem_append_left _ (List.mem_append_left _ (List.mem_append_left _ (List.mem_append_left _ (List.mem_append_left _ (List.mem_append_right _ h)))))))) rfl 0 (by decide) (List.mem_of_getElem? (i := 2) rfl) rfl dX6_setLeast_15,
    ok_pushX (ok_callV hM idH (ctX1_push l) rfl rfl gX6_setLeast_X1_push rfl rfl rfl (by decide +kernel) (by decide) dX6_setLeast_18),
    ok_aload_n hM 0 dX6_setLeast_21 rfl,
    ok_get (C := RX6) (T := TX6) (Nf := 6) hM (fun _ h => List.mem_cons_of_mem _ (List.mem_append_left _ (List.mem_append_left _ (List.mem_append_left _ (List.mem_append_left _ (List.mem_append_left _ (List.mem_append_left _ (List.mem_append_right _ h)))))))) rfl 0 (by decide) (List.mem_of_getElem? (i := 2) rfl) rfl dX6_setLeast_22,
    ok_get (C := RX4) (T := TX4) (Nf := 6) hM (fun _ h => List.mem_cons_of_mem _ (List.mem_append_left _ (List.mem_append_left _ (List.mem_append_left _ (List.mem_append_left _ (List.mem_append_left _ (List.mem_append_right _ h))))))) rfl 2 (by decide) (List.mem_of_getElem? (i := 3) rfl) rfl dX6_setLeast_25,
    ok_iload_n hM 1 dX6_setLeast_28 rfl,
    ok_iald hM dX6_setLeast_29,
    ok_istore_n hM 3 dX6_setLeast_30 rfl,
    ok_FR (ok_aload_n hM 0 dX6_setLeast_31 rfl),
    ok_get (C := RX6) (T := TX6) (Nf := 6) hM (fun _ h => List.mem_cons_of_mem _ (List.mem_append_left _ (List.mem_append_left _ (List.mem_append_left _ (List.mem_append_left _ (List.mem_append_left _ (List.mem_append_left _ (List.mem_append_right _ h)))))))) rfl 0 (by decide) (List.mem_of_getElem? (i := 2) rfl) rfl dX6_setLeast_32,
    ok_get (C := RX4) (T := TX4) (Nf := 6) hM (fun _ h => List.mem_cons_of_mem _ (List.mem_append_left _ (List.mem_append_left _ (List.mem_append_left _ (List.mem_append_left _ (List.mem_append_left _ (List.mem_append_right _ h))))))) rfl 2 (by decide) (List.mem_of_getElem? (i := 3) rfl) rfl dX6_setLeast_35,
    ok_iload_n hM 1 dX6_setLeast_38 rfl,
    ok_iload_n hM 2 dX6_setLeast_39 rfl,
    ok_iast hM dX6_setLeast_40,
    ok_FR (ok_iload_n hM 3 dX6_setLeast_41 rfl),
    ok_ret hM hE dX6_setLeast_42,
    trivial⟩
set_option maxRecDepth 100000 in
theorem ctX6_setLeast (l : Launch) (hl : l.stackTraces = false) : CtX l yX6_setLeast wsX6_setLeast rmX6_setLeast 2 12 sX6_setLeast := by
  refine ctX_of (own := RX6) (cc := cX6_setLeast) (maxL := 4) (ret := (some .int)) (by decide) rfl rfl (by rintro _ _ _ _ ⟨x, y, v, wy, n, ch, H, o, s, r, rfl, ho, hs, rfl, hK, hX0, hX1⟩; exact Nat.le_of_ble_eq_true rfl) ?_
  intro X av es K KX hM hE hX hnL hsp
  obtain ⟨x, y, v, wy, n, ch, H, o, s, r, rfl, ho, hs, rfl, hK, hX0, hX1⟩ := hsp
  have hf := kX6_setLeast hM hE hX hl hnL
  refine wr_ok hf cut_nil 5 0 _ _ _ _ _ ?_
  refine ⟨_, rfl, rfl, fun t ht et => ?_, fun q => ?_⟩
  · subst et
    refine ⟨_, _, _, 0, 2, rfl, rfl, rfl, by decide, by decide, rfl, fun q hq0 hq eq => ?_, fun q => ?_⟩
    · subst eq
      refine ⟨v, wy, n, ch, H, o, s, r, ho, hs, rfl, ?_⟩
      refine ⟨t, rfl, ht, ?_⟩
      refine ⟨t, rfl, ht, ?_⟩
      exact hK t q ht hq rfl rfl
    · exact hX1 ⟨t, ht, rfl⟩ q
  · exact hX0  q
def sX6_owner : gSX := fun av es K KX => ∃ x v wy n ch H o s r, av = [.ref 0, .int x] ∧ o < 6 ∧ s ≤ 6 ∧ es = wX v wy n ch H o s r ∧ (∀ w, w < 8 → x = nI w → K (some (.int (vOw v w))) es) ∧ (¬ inI x 8 → KX "java/lang/IndexOutOfBoundsException" (wX v wy n ch H o s r))
def rmX6_owner : Room := { frames := 7, cells := 1, slots := 6, locals := 111 }
def pX6_owner (K : gK) (KX : gKX) : List (Nat × gO) := [(0, oFR 17 (oILoad 1)), (1, oConst (nI 8)), (3, oCallSX 1 6 1 6 1 6 2 [] sX6_requireIndex KX), (6, oFR 17 (oALoad 0)), (7, oGet 6 0), (10, oGet 4 0), (13, oGet 3 0), (16, oILoad 1), (17, oIALd 0), (18, oRet K 1 6)]
set_option maxRecDepth 100000 in
theorem kX6_owner {X : gX} {l : Launch} (hM : gM X l cX6_owner RX6 wsX6_owner rmX6_owner) {K : gK} (hE : gR X K 1 6 (some .int)) {KX : gKX} (hX : gRX X KX 1 6) (hl : l.stackTraces = false) (hnL : X.2.2.2.2.2.2.2.2.2.2.2.2.2.2.2.2 = 2) : okL X (pX6_owner K KX) := by
  obtain ⟨p, l1, e, R, s, m, args, below, meth, c, D, cA, A, ag, ad0, Q, nL⟩ := X
  cases hnL
  refine ⟨ok_FR (ok_iload_n hM 1 dX6_owner_0 rfl),
    ok_bipush hM dX6_owner_1 rfl,
    ok_callSX hM hX [] (ctX6_requireIndex l hl) rfl gX6_owner_X6_requireIndex rfl rfl rfl (by decide +kernel) (by decide) dX6_owner_3,
    ok_FR (ok_aload_n hM 0 dX6_owner_6 rfl),
    ok_get (C := RX6) (T := TX6) (Nf := 6) hM (fun _ h => List.mem_cons_of_mem _ (List.mem_append_left _ (List.mem_append_left _ (List.mem_append_left _ (List.mem_append_right _ h))))) rfl 0 (by decide) (List.mem_of_getElem? (i := 1) rfl) rfl dX6_owner_7,
    ok_get (C := RX4) (T := TX4) (Nf := 6) hM (fun _ h => List.mem_cons_of_mem _ (List.mem_append_left _ (List.mem_append_left _ (List.mem_append_right _ h)))) rfl 0 (by decide) (List.mem_of_getElem? (i := 2) rfl) rfl dX6_owner_10,
    ok_get (C := RX3) (T := TX3) (Nf := 3) hM (fun _ h => List.mem_cons_of_mem _ (List.mem_append_left _ (List.mem_append_right _ h))) rfl 0 (by decide) (List.mem_of_getElem? (i := 3) rfl) rfl dX6_owner_13,
    ok_iload_n hM 1 dX6_owner_16 rfl,
    ok_iald hM dX6_owner_17,
    ok_ret hM hE dX6_owner_18,
    trivial⟩
set_option maxRecDepth 100000 in
theorem ctX6_owner (l : Launch) (hl : l.stackTraces = false) : CtX l yX6_owner wsX6_owner rmX6_owner 1 6 sX6_owner := by
  refine ctX_of (own := RX6) (cc := cX6_owner) (maxL := 2) (ret := (some .int)) (by decide) rfl rfl (by rintro _ _ _ _ ⟨x, v, wy, n, ch, H, o, s, r, rfl, ho, hs, rfl, hK, hX0⟩; exact Nat.le_of_ble_eq_true rfl) ?_
  intro X av es K KX hM hE hX hnL hsp
  obtain ⟨x, v, wy, n, ch, H, o, s, r, rfl, ho, hs, rfl, hK, hX0⟩ := hsp
  have hf := kX6_owner hM hE hX hl hnL
  refine wr_ok hf cut_nil 5 0 _ _ _ _ _ ?_
  refine ⟨_, _, 8, rfl, rfl, by decide, rfl, fun w hw ew => ?_, fun q => ?_⟩
  · subst ew
    exact ⟨w, rfl, hw, hK w hw rfl⟩
  · exact hX0  q
def sX6_waysOf : gSX := fun av es K KX => ∃ x v wy n ch H o s r, av = [.ref 0, .int x] ∧ o < 6 ∧ s ≤ 6 ∧ es = wX v wy n ch H o s r ∧ (∀ t, t < 4 → x = nI t → K (some (.int (nI (fOwn (vOw v) (nI t))))) es) ∧ (¬ inI x 4 → KX "java/lang/IndexOutOfBoundsException" (wX v wy n ch H o s r))
def rmX6_waysOf : Room := { frames := 8, cells := 1, slots := 6, locals := 131 }
def pX6_waysOf (K : gK) (KX : gKX) : List (Nat × gO) := [(0, oFR 17 (oILoad 1)), (1, oCallSX 1 6 1 6 1 6 1 [] sX6_requireTenant KX), (4, oFR 17 (oALoad 0)), (5, oGet 6 0), (8, oGet 4 0), (11, oILoad 1), (12, oCallVR 17 1 6 3 1 [2,3,4,5] sX3_ownedWays), (15, oFR 17 (oRet K 1 6))]
set_option maxRecDepth 100000 in
theorem kX6_waysOf {X : gX} {l : Launch} (hM : gM X l cX6_waysOf RX6 wsX6_waysOf rmX6_waysOf) {K : gK} (hE : gR X K 1 6 (some .int)) {KX : gKX} (hX : gRX X KX 1 6) (hl : l.stackTraces = false) (hnL : X.2.2.2.2.2.2.2.2.2.2.2.2.2.2.2.2 = 2) : okL X (pX6_waysOf K KX) := by
  obtain ⟨p, l1, e, R, s, m, args, below, meth, c, D, cA, A, ag, ad0, Q, nL⟩ := X
  cases hnL
  refine ⟨ok_FR (ok_iload_n hM 1 dX6_waysOf_0 rfl),
    ok_callSX hM hX [] (ctX6_requireTenant l hl) rfl gX6_waysOf_X6_requireTenant rfl rfl rfl (by decide +kernel) (by decide) dX6_waysOf_1,
    ok_FR (ok_aload_n hM 0 dX6_waysOf_4 rfl),
    ok_get (C := RX6) (T := TX6) (Nf := 6) hM (fun _ h => List.mem_cons_of_mem _ (List.mem_append_left _ (List.mem_append_left _ (List.mem_append_left _ (List.mem_append_right _ h))))) rfl 0 (by decide) (List.mem_of_getElem? (i := 1) rfl) rfl dX6_waysOf_5,
    ok_get (C := RX4) (T := TX4) (Nf := 6) hM (fun _ h => List.mem_cons_of_mem _ (List.mem_append_left _ (List.mem_append_left _ (List.mem_append_right _ h)))) rfl 0 (by decide) (List.mem_of_getElem? (i := 2) rfl) rfl dX6_waysOf_8,
    ok_iload_n hM 1 dX6_waysOf_11 rfl,
    ok_R (ok_callV hM [2,3,4,5] (ctX3_ownedWays l) rfl rfl gX6_waysOf_X3_ownedWays rfl rfl rfl (by decide +kernel) (by decide) dX6_waysOf_12),
    ok_FR (ok_ret hM hE dX6_waysOf_15),
    trivial⟩
set_option maxRecDepth 100000 in
theorem ctX6_waysOf (l : Launch) (hl : l.stackTraces = false) : CtX l yX6_waysOf wsX6_waysOf rmX6_waysOf 1 6 sX6_waysOf := by
  refine ctX_of (own := RX6) (cc := cX6_waysOf) (maxL := 2) (ret := (some .int)) (by decide) rfl rfl (by rintro _ _ _ _ ⟨x, v, wy, n, ch, H, o, s, r, rfl, ho, hs, rfl, hK, hX0⟩; exact Nat.le_of_ble_eq_true rfl) ?_
  intro X av es K KX hM hE hX hnL hsp
  obtain ⟨x, v, wy, n, ch, H, o, s, r, rfl, ho, hs, rfl, hK, hX0⟩ := hsp
  have hf := kX6_waysOf hM hE hX hl hnL
  refine wr_ok hf cut_nil 5 0 _ _ _ _ _ ?_
  refine ⟨_, rfl, rfl, fun t ht et => ?_, fun q => ?_⟩
  · subst et
    refine ⟨_, vOw v, vHd v, vSt v, rfl, rfl, ?_⟩
    exact hK t ht rfl
  · exact hX0  q
end MQ4
end
section
/-! PartitionedCache: more public methods. -/
section MQ5
def sX6_line : gSX := fun av es K KX => ∃ x y v wy n ch H o s r, av = [.ref 0, .int x, .int y] ∧ o < 6 ∧ s ≤ 6 ∧ es = wX v wy n ch H o s r ∧ (∀ t w, t < 4 → w < 8 → x = nI t → y = nI w → K (some (.int (vHd v (t * 8 + w)))) es) ∧ (¬ inI x 4 → KX "java/lang/IndexOutOfBoundsException" (wX v wy n ch H o s r)) ∧ (inI x 4 → ¬ inI y 8 → KX "java/lang/IndexOutOfBoundsException" (wX v wy n ch H o s r))
def rmX6_line : Room := { frames := 7, cells := 2, slots := 12, locals := 111 }
def pX6_line (K : gK) (KX : gKX) : List (Nat × gO) := [(0, oFR 17 (oILoad 1)), (1, oConst (nI 4)), (2, oCallSX 2 12 2 12 1 6 2 [] sX6_requireIndex KX), (5, oFR 17 (oILoad 2)), (6, oConst (nI 8)), (8, oCallSX 2 12 2 12 1 6 2 [] sX6_requireIndex KX), (11, oFR 17 (oALoad 0)), (12, oGet 6 0), (15, oGet 4 0), (18, oGet 3 1), (21, oILoad 1), (22, oConst (nI 8)), (24, oMul), (25, oILoad 2), (26, oAdd), (27, oIALd 0), (28, oRet K 2 12)]
set_option maxRecDepth 100000 in
theorem kX6_line {X : gX} {l : Launch} (hM : gM X l cX6_line RX6 wsX6_line rmX6_line) {K : gK} (hE : gR X K 2 12 (some .int)) {KX : gKX} (hX : gRX X KX 2 12) (hl : l.stackTraces = false) (hnL : X.2.2.2.2.2.2.2.2.2.2.2.2.2.2.2.2 = 3) : okL X (pX6_line K KX) := by
  obtain ⟨p, l1, e, R, s, m, args, below, meth, c, D, cA, A, ag, ad0, Q, nL⟩ := X
  cases hnL
  refine ⟨ok_FR (ok_iload_n hM 1 dX6_line_0 rfl),
    ok_iconst hM dX6_line_1 rfl,
    ok_callSX hM hX [] (ctX6_requireIndex l hl) rfl gX6_line_X6_requireIndex rfl rfl rfl (by decide +kernel) (by decide) dX6_line_2,
    ok_FR (ok_iload_n hM 2 dX6_line_5 rfl),
    ok_bipush hM dX6_line_6 rfl,
    ok_callSX hM hX [] (ctX6_requireIndex l hl) rfl gX6_line_X6_requireIndex rfl rfl rfl (by decide +kernel) (by decide) dX6_line_8,
    ok_FR (ok_aload_n hM 0 dX6_line_11 rfl),
    ok_get (C := RX6) (T := TX6) (Nf := 6) hM (fun _ h => List.mem_cons_of_mem _ (List.mem_append_left _ (List.mem_append_left _ (List.mem_append_left _ (List.mem_append_right _ h))))) rfl 0 (by decide) (List.mem_of_getElem? (i := 1) rfl) rfl dX6_line_12,
    ok_get (C := RX4) (T := TX4) (Nf := 6) hM (fun _ h => List.mem_cons_of_mem _ (List.mem_append_left _ (List.mem_append_left _ (List.mem_append_right _ h)))) rfl 0 (by decide) (List.mem_of_getElem? (i := 2) rfl) rfl dX6_line_15,
    ok_get (C := RX3) (T := TX3) (Nf := 3) hM (fun _ h => List.mem_cons_of_mem _ (List.mem_append_left _ (List.mem_append_right _ h))) rfl 1 (by decide) (List.mem_of_getElem? (i := 3) rfl) rfl dX6_line_18,
    ok_iload_n hM 1 dX6_line_21 rfl,
    ok_bipush hM dX6_line_22 rfl,
    ok_imul hM dX6_line_24,
    ok_iload_n hM 2 dX6_line_25 rfl,
    ok_iadd hM dX6_line_26,
    ok_iald hM dX6_line_27,
    ok_ret hM hE dX6_line_28,
    trivial⟩
set_option maxRecDepth 100000 in
theorem ctX6_line (l : Launch) (hl : l.stackTraces = false) : CtX l yX6_line wsX6_line rmX6_line 2 12 sX6_line := by
  refine ctX_of (own := RX6) (cc := cX6_line) (maxL := 3) (ret := (some .int)) (by decide) rfl rfl (by rintro _ _ _ _ ⟨x, y, v, wy, n, ch, H, o, s, r, rfl, ho, hs, rfl, hK, hX0, hX1⟩; exact Nat.le_of_ble_eq_true rfl) ?_
  intro X av es K KX hM hE hX hnL hsp
  obtain ⟨x, y, v, wy, n, ch, H, o, s, r, rfl, ho, hs, rfl, hK, hX0, hX1⟩ := hsp
  have hf := kX6_line hM hE hX hl hnL
  refine wr_ok hf cut_nil 5 0 _ _ _ _ _ ?_
  refine ⟨_, _, 4, rfl, rfl, by decide, rfl, fun t ht et => ?_, fun q => ?_⟩
  · subst et
    refine ⟨_, _, 8, rfl, rfl, by decide, rfl, fun w hw ew => ?_, fun q => ?_⟩
    · subst ew
      exact ⟨t * 8 + w, by rw [pk_mul, nI_add], by omega, hK t w ht hw rfl rfl⟩
    · exact hX1 ⟨t, ht, rfl⟩ q
  · exact hX0  q
def sX6_ifAccessed : gSX := fun av es K KX => ∃ x y v wy n ch H o s r, av = [.ref 0, .int x, .int y] ∧ o < 6 ∧ s ≤ 6 ∧ es = wX v wy n ch H o s r ∧ (∀ t a, t < 4 → a ≤ 255 → x = nI t → y = nI a → K (some (.int (nI (acR v t a)))) es) ∧ (¬ inI x 4 → KX "java/lang/IndexOutOfBoundsException" (wX v wy n ch H o s r)) ∧ (inI x 4 → ¬ inA y 0 255 → KX "java/lang/IllegalArgumentException" (wX v wy n ch H o s r))
def rmX6_ifAccessed : Room := { frames := 8, cells := 2, slots := 12, locals := 131 }
def pX6_ifAccessed (K : gK) (KX : gKX) : List (Nat × gO) := [(0, oFR 17 (oILoad 1)), (1, oCallSX 2 12 2 12 1 6 1 [] sX6_requireTenant KX), (4, oFR 17 (oILoad 2)), (5, oConst (nI 0)), (6, oConst (nI 255)), (9, oCallSX 2 12 2 12 1 6 3 [] sX6_requireArgument KX), (12, oFR 17 (oALoad 0)), (13, oGet 6 0), (16, oGet 4 0), (19, oILoad 1), (20, oILoad 2), (21, oCallVR 17 2 12 3 2 [2,3,4,5] sX3_resultOf), (24, oFR 17 (oRet K 2 12))]
set_option maxRecDepth 100000 in
theorem kX6_ifAccessed {X : gX} {l : Launch} (hM : gM X l cX6_ifAccessed RX6 wsX6_ifAccessed rmX6_ifAccessed) {K : gK} (hE : gR X K 2 12 (some .int)) {KX : gKX} (hX : gRX X KX 2 12) (hl : l.stackTraces = false) (hnL : X.2.2.2.2.2.2.2.2.2.2.2.2.2.2.2.2 = 3) : okL X (pX6_ifAccessed K KX) := by
  obtain ⟨p, l1, e, R, s, m, args, below, meth, c, D, cA, A, ag, ad0, Q, nL⟩ := X
  cases hnL
  refine ⟨ok_FR (ok_iload_n hM 1 dX6_ifAccessed_0 rfl),
    ok_callSX hM hX [] (ctX6_requireTenant l hl) rfl gX6_ifAccessed_X6_requireTenant rfl rfl rfl (by decide +kernel) (by decide) dX6_ifAccessed_1,
    ok_FR (ok_iload_n hM 2 dX6_ifAccessed_4 rfl),
    ok_iconst hM dX6_ifAccessed_5 rfl,
    ok_sipush hM dX6_ifAccessed_6 rfl,
    ok_callSX hM hX [] (ctX6_requireArgument l hl) rfl gX6_ifAccessed_X6_requireArgument rfl rfl rfl (by decide +kernel) (by decide) dX6_ifAccessed_9,
    ok_FR (ok_aload_n hM 0 dX6_ifAccessed_12 rfl),
    ok_get (C := RX6) (T := TX6) (Nf := 6) hM (fun _ h => List.mem_cons_of_mem _ (List.mem_append_left _ (List.mem_append_left _ (List.mem_append_left _ (List.mem_append_left _ (List.mem_append_right _ h)))))) rfl 0 (by decide) (List.mem_of_getElem? (i := 1) rfl) rfl dX6_ifAccessed_13,
    ok_get (C := RX4) (T := TX4) (Nf := 6) hM (fun _ h => List.mem_cons_of_mem _ (List.mem_append_left _ (List.mem_append_left _ (List.mem_append_left _ (List.mem_append_right _ h))))) rfl 0 (by decide) (List.mem_of_getElem? (i := 2) rfl) rfl dX6_ifAccessed_16,
    ok_iload_n hM 1 dX6_ifAccessed_19 rfl,
    ok_iload_n hM 2 dX6_ifAccessed_20 rfl,
    ok_R (ok_callV hM [2,3,4,5] (ctX3_resultOf l) rfl rfl gX6_ifAccessed_X3_resultOf rfl rfl rfl (by decide +kernel) (by decide) dX6_ifAccessed_21),
    ok_FR (ok_ret hM hE dX6_ifAccessed_24),
    trivial⟩
set_option maxRecDepth 100000 in
theorem ctX6_ifAccessed (l : Launch) (hl : l.stackTraces = false) : CtX l yX6_ifAccessed wsX6_ifAccessed rmX6_ifAccessed 2 12 sX6_ifAccessed := by
  refine ctX_of (own := RX6) (cc := cX6_ifAccessed) (maxL := 3) (ret := (some .int)) (by decide) rfl rfl (by rintro _ _ _ _ ⟨x, y, v, wy, n, ch, H, o, s, r, rfl, ho, hs, rfl, hK, hX0, hX1⟩; exact Nat.le_of_ble_eq_true rfl) ?_
  intro X av es K KX hM hE hX hnL hsp
  obtain ⟨x, y, v, wy, n, ch, H, o, s, r, rfl, ho, hs, rfl, hK, hX0, hX1⟩ := hsp
  have hf := kX6_ifAccessed hM hE hX hl hnL
  refine wr_ok hf cut_nil 5 0 _ _ _ _ _ ?_
  refine ⟨_, rfl, rfl, fun t ht et => ?_, fun q => ?_⟩
  · subst et
    refine ⟨_, _, _, 0, 255, rfl, rfl, rfl, by decide, by decide, rfl, fun a ha0 ha ea => ?_, fun q => ?_⟩
    · subst ea
      refine ⟨_, _, a, vOw v, vHd v, vSt v, rfl, rfl, by omega, rfl, ?_⟩
      exact hK t a ht ha rfl rfl
    · exact hX1 ⟨t, ht, rfl⟩ q
  · exact hX0  q
/-- the line that an access would put out -/
def vcR (v : gV) (t a : Nat) : Int32 := if acR v t a = 0 then (match ptP v t a with | none => -1 | some p => vHd v p) else -1
def sX6_victim : gSX := fun av es K KX => ∃ x y v wy n ch H o s r, av = [.ref 0, .int x, .int y] ∧ o < 6 ∧ s ≤ 6 ∧ es = wX v wy n ch H o s r ∧ (∀ t a, t < 4 → a ≤ 255 → x = nI t → y = nI a → K (some (.int (vcR v t a))) es) ∧ (¬ inI x 4 → KX "java/lang/IndexOutOfBoundsException" (wX v wy n ch H o s r)) ∧ (inI x 4 → ¬ inA y 0 255 → KX "java/lang/IllegalArgumentException" (wX v wy n ch H o s r))
def rmX6_victim : Room := { frames := 8, cells := 2, slots := 12, locals := 131 }
def pX6_victim (K : gK) (KX : gKX) : List (Nat × gO) := [(0, oFR 17 (oILoad 1)), (1, oCallSX 2 12 2 12 1 6 1 [] sX6_requireTenant KX), (4, oFR 17 (oILoad 2)), (5, oConst (nI 0)), (6, oConst (nI 255)), (9, oCallSX 2 12 2 12 1 6 3 [] sX6_requireArgument KX), (12, oFR 17 (oALoad 0)), (13, oGet 6 0), (16, oGet 4 0), (19, oILoad 1), (20, oILoad 2), (21, oCallVR 17 2 12 3 2 [2,3,4,5] sX3_resultOf), (24, oFR 17 (oIf_eq 29)), (27, oConst (-1)), (28, oRet K 2 12), (29, oALoad 0), (30, oGet 6 0), (33, oGet 4 0), (36, oILoad 1), (37, oILoad 2), (38, oCallVR 17 2 12 3 2 [2,3,4,5] sX3_placeToFill), (41, oFR 17 (oIStore 4 3)), (42, oFR 17 (oILoad 3)), (43, oConst (-1)), (44, oICmp_ne 51), (47, oConst (-1)), (48, oGoto 63), (51, oALoad 0), (52, oGet 6 0), (55, oGet 4 0), (58, oGet 3 1), (61, oILoad 3), (62, oIALd 0), (63, oRet K 2 12)]
set_option maxRecDepth 100000 in
theorem kX6_victim {X : gX} {l : Launch} (hM : gM X l cX6_victim RX6 wsX6_victim rmX6_victim) {K : gK} (hE : gR X K 2 12 (some .int)) {KX : gKX} (hX : gRX X KX 2 12) (hl : l.stackTraces = false) (hnL : X.2.2.2.2.2.2.2.2.2.2.2.2.2.2.2.2 = 4) : okL X (pX6_victim K KX) := by
  obtain ⟨p, l1, e, R, s, m, args, below, meth, c, D, cA, A, ag, ad0, Q, nL⟩ := X
  cases hnL
  refine ⟨ok_FR (ok_iload_n hM 1 dX6_victim_0 rfl),
    ok_callSX hM hX [] (ctX6_requireTenant l hl) rfl gX6_victim_X6_requireTenant rfl rfl rfl (by decide +kernel) (by decide) dX6_victim_1,
    ok_FR (ok_iload_n hM 2 dX6_victim_4 rfl),
    ok_iconst hM dX6_victim_5 rfl,
    ok_sipush hM dX6_victim_6 rfl,
    ok_callSX hM hX [] (ctX6_requireArgument l hl) rfl gX6_victim_X6_requireArgument rfl rfl rfl (by decide +kernel) (by decide) dX6_victim_9,
    ok_FR (ok_aload_n hM 0 dX6_victim_12 rfl),
    ok_get (C := RX6) (T := TX6) (Nf := 6) hM (fun _ h => List.mem_cons_of_mem _ (List.mem_append_left _ (List.mem_append_left _ (List.mem_append_left _ (List.mem_append_left _ (List.mem_append_right _ h)))))) rfl 0 (by decide) (List.mem_of_getElem? (i := 1) rfl) rfl dX6_victim_13,
    ok_get (C := RX4) (T := TX4) (Nf := 6) hM (fun _ h => List.mem_cons_of_mem _ (List.mem_append_left _ (List.mem_append_left _ (List.mem_append_left _ (List.mem_append_right _ h))))) rfl 0 (by decide) (List.mem_of_getElem? (i := 2) rfl) rfl dX6_victim_16,
    ok_iload_n hM 1 dX6_victim_19 rfl,
    ok_iload_n hM 2 dX6_victim_20 rfl,
    ok_R (ok_callV hM [2,3,4,5] (ctX3_resultOf l) rfl rfl gX6_victim_X3_resultOf rfl rfl rfl (by decide +kernel) (by decide) dX6_victim_21),
    ok_FR (ok_if_eq hM 29 dX6_victim_24 (by decide)),
    ok_iconst hM dX6_victim_27 rfl,
    ok_ret hM hE dX6_victim_28,
    ok_aload_n hM 0 dX6_victim_29 rfl,
    ok_get (C := RX6) (T := TX6) (Nf := 6) hM (fun _ h => List.mem_cons_of_mem _ (List.mem_append_left _ (List.mem_append_left _ (List.mem_append_left _ (List.mem_append_left _ (List.mem_append_right _ h)))))) rfl 0 (by decide) (List.mem_of_getElem? (i := 1) rfl) rfl dX6_victim_30,
    ok_get (C := RX4) (T := TX4) (Nf := 6) hM (fun _ h => List.mem_cons_of_mem _ (List.mem_append_left _ (List.mem_append_left _ (List.mem_append_left _ (List.mem_append_right _ h))))) rfl 0 (by decide) (List.mem_of_getElem? (i := 2) rfl) rfl dX6_victim_33,
    ok_iload_n hM 1 dX6_victim_36 rfl,
    ok_iload_n hM 2 dX6_victim_37 rfl,
    ok_R (ok_callV hM [2,3,4,5] (ctX3_placeToFill l) rfl rfl gX6_victim_X3_placeToFill rfl rfl rfl (by decide +kernel) (by decide) dX6_victim_38),
    ok_FR (ok_istore_n hM 3 dX6_victim_41 rfl),
    ok_FR (ok_iload_n hM 3 dX6_victim_42 rfl),
    ok_iconst hM dX6_victim_43 rfl,
    ok_icmp_ne hM 51 dX6_victim_44 (by decide),
    ok_iconst hM dX6_victim_47 rfl,
    ok_goto hM 63 dX6_victim_48 (by decide),
    ok_aload_n hM 0 dX6_victim_51 rfl,
    ok_get (C := RX6) (T := TX6) (Nf := 6) hM (fun _ h => List.mem_cons_of_mem _ (List.mem_append_left _ (List.mem_append_left _ (List.mem_append_left _ (List.mem_append_left _ (List.mem_append_right _ h)))))) rfl 0 (by decide) (List.mem_of_getElem? (i := 1) rfl) rfl dX6_victim_52,
    ok_get (C := RX4) (T := TX4) (Nf := 6) hM (fun _ h => List.mem_cons_of_mem _ (List.mem_append_left _ (List.mem_append_left _ (List.mem_append_left _ (List.mem_append_right _ h))))) rfl 0 (by decide) (List.mem_of_getElem? (i := 2) rfl) rfl dX6_victim_55,
    ok_get (C := RX3) (T := TX3) (Nf := 3) hM (fun _ h => List.mem_cons_of_mem _ (List.mem_append_left _ (List.mem_append_left _ (List.mem_append_right _ h)))) rfl 1 (by decide) (List.mem_of_getElem? (i := 3) rfl) rfl dX6_victim_58,
    ok_iload_n hM 3 dX6_victim_61 rfl,
    ok_iald hM dX6_victim_62,
    ok_ret hM hE dX6_victim_63,
    trivial⟩
set_option maxRecDepth 100000 in
theorem ctX6_victim (l : Launch) (hl : l.stackTraces = false) : CtX l yX6_victim wsX6_victim rmX6_victim 2 12 sX6_victim := by
  refine ctX_of (own := RX6) (cc := cX6_victim) (maxL := 4) (ret := (some .int)) (by decide) rfl rfl (by rintro _ _ _ _ ⟨x, y, v, wy, n, ch, H, o, s, r, rfl, ho, hs, rfl, hK, hX0, hX1⟩; exact Nat.le_of_ble_eq_true rfl) ?_
  intro X av es K KX hM hE hX hnL hsp
  obtain ⟨x, y, v, wy, n, ch, H, o, s, r, rfl, ho, hs, rfl, hK, hX0, hX1⟩ := hsp
  have hf := kX6_victim hM hE hX hl hnL
  refine wr_ok hf cut_nil 5 0 _ _ _ _ _ ?_
  refine ⟨_, rfl, rfl, fun t ht et => ?_, fun q => ?_⟩
  · subst et
    refine ⟨_, _, _, 0, 255, rfl, rfl, rfl, by decide, by decide, rfl, fun a ha0 ha ea => ?_, fun q => ?_⟩
    · subst ea
      have hr2 : acR v t a ≤ 2 := rsl_le _ _ _ _
      have hlt : ∀ p, ptP v t a = some p → p < 32 := fun p hp => ptf_lt (by omega) 8 0 none p (by omega) (fun q hq => by cases hq) hp
      have hno : oI (ptP v t a) = -1 ↔ ptP v t a = none := oI_ne (fun p hp => by have := hlt p hp; omega)
      have hK := hK t a ht ha rfl rfl
      unfold vcR at hK
      refine ⟨_, _, a, vOw v, vHd v, vSt v, rfl, rfl, by omega, rfl, ?_⟩
      refine ⟨fun h1 => ?_, fun h1 => ?_⟩
      · have h1 : nI (acR v t a) = nI 0 := h1
        have h2 : acR v t a = 0 := (nI_eq (by omega) (by decide)).mp h1
        rw [if_pos h2] at hK
        refine ⟨_, _, a, vOw v, vHd v, vSt v, rfl, rfl, by omega, rfl, ?_⟩
        refine ⟨fun h3 => ?_, fun h3 => ?_⟩
        · obtain ⟨p, hp⟩ : ∃ p, ptP v t a = some p := by
            cases hq : ptP v t a with
            | none => exact absurd (hno.mpr hq) h3
            | some p => exact ⟨p, rfl⟩
          rw [hp] at hK
          exact ⟨p, congrArg oI hp, hlt p hp, hK⟩
        · rw [hno.mp h3] at hK
          exact hK
      · rw [if_neg (fun q => h1 (by show nI (acR v t a) = nI 0; rw [q]))] at hK
        exact hK
    · exact hX1 ⟨t, ht, rfl⟩ q
  · exact hX0  q
def sX6_gain : gSX := fun av es K KX => ∃ x y v wy n ch H o s r, av = [.ref 0, .int x, .int y] ∧ o < 6 ∧ s ≤ 6 ∧ es = wX v wy n ch H o s r ∧ (∀ t w, t < 4 → w < 8 → x = nI t → y = nI w → K (some (.int (vGa v (t * 8 + w)))) es) ∧ (¬ inI x 4 → KX "java/lang/IndexOutOfBoundsException" (wX v wy n ch H o s r)) ∧ (inI x 4 → ¬ inI y 8 → KX "java/lang/IndexOutOfBoundsException" (wX v wy n ch H o s r))
def rmX6_gain : Room := { frames := 8, cells := 2, slots := 12, locals := 131 }
def pX6_gain (K : gK) (KX : gKX) : List (Nat × gO) := [(0, oFR 17 (oILoad 1)), (1, oCallSX 2 12 2 12 1 6 1 [] sX6_requireTenant KX), (4, oFR 17 (oILoad 2)), (5, oConst (nI 8)), (7, oCallSX 2 12 2 12 1 6 2 [] sX6_requireIndex KX), (10, oFR 17 (oALoad 0)), (11, oGet 6 0), (14, oGet 4 1), (17, oGet 2 1), (20, oILoad 1), (21, oConst (nI 8)), (23, oMul), (24, oILoad 2), (25, oAdd), (26, oIALd 0), (27, oRet K 2 12)]
set_option maxRecDepth 100000 in
theorem kX6_gain {X : gX} {l : Launch} (hM : gM X l cX6_gain RX6 wsX6_gain rmX6_gain) {K : gK} (hE : gR X K 2 12 (some .int)) {KX : gKX} (hX : gRX X KX 2 12) (hl : l.stackTraces = false) (hnL : X.2.2.2.2.2.2.2.2.2.2.2.2.2.2.2.2 = 3) : okL X (pX6_gain K KX) := by
  obtain ⟨p, l1, e, R, s, m, args, below, meth, c, D, cA, A, ag, ad0, Q, nL⟩ := X
  cases hnL
  refine ⟨ok_FR (ok_iload_n hM 1 dX6_gain_0 rfl),
    ok_callSX hM hX [] (ctX6_requireTenant l hl) rfl gX6_gain_X6_requireTenant rfl rfl rfl (by decide +kernel) (by decide) dX6_gain_1,
    ok_FR (ok_iload_n hM 2 dX6_gain_4 rfl),
    ok_bipush hM dX6_gain_5 rfl,
    ok_callSX hM hX [] (ctX6_requireIndex l hl) rfl gX6_gain_X6_requireIndex rfl rfl rfl (by decide +kernel) (by decide) dX6_gain_7,
    ok_FR (ok_aload_n hM 0 dX6_gain_10 rfl),
    ok_get (C := RX6) (T := TX6) (Nf := 6) hM (fun _ h => List.mem_cons_of_mem _ (List.mem_append_left _ (List.mem_append_left _ (List.mem_append_left _ (List.mem_append_right _ h))))) rfl 0 (by decide) (List.mem_of_getElem? (i := 1) rfl) rfl dX6_gain_11,
    ok_get (C := RX4) (T := TX4) (Nf := 6) hM (fun _ h => List.mem_cons_of_mem _ (List.mem_append_left _ (List.mem_append_left _ (List.mem_append_right _ h)))) rfl 1 (by decide) (List.mem_of_getElem? (i := 2) rfl) rfl dX6_gain_14,
    ok_get (C := RX2) (T := TX2) (Nf := 2) hM (fun _ h => List.mem_cons_of_mem _ (List.mem_append_left _ (List.mem_append_right _ h))) rfl 1 (by decide) (List.mem_of_getElem? (i := 3) rfl) rfl dX6_gain_17,
    ok_iload_n hM 1 dX6_gain_20 rfl,
    ok_bipush hM dX6_gain_21 rfl,
    ok_imul hM dX6_gain_23,
    ok_iload_n hM 2 dX6_gain_24 rfl,
    ok_iadd hM dX6_gain_25,
    ok_iald hM dX6_gain_26,
    ok_ret hM hE dX6_gain_27,
    trivial⟩
set_option maxRecDepth 100000 in
theorem ctX6_gain (l : Launch) (hl : l.stackTraces = false) : CtX l yX6_gain wsX6_gain rmX6_gain 2 12 sX6_gain := by
  refine ctX_of (own := RX6) (cc := cX6_gain) (maxL := 3) (ret := (some .int)) (by decide) rfl rfl (by rintro _ _ _ _ ⟨x, y, v, wy, n, ch, H, o, s, r, rfl, ho, hs, rfl, hK, hX0, hX1⟩; exact Nat.le_of_ble_eq_true rfl) ?_
  intro X av es K KX hM hE hX hnL hsp
  obtain ⟨x, y, v, wy, n, ch, H, o, s, r, rfl, ho, hs, rfl, hK, hX0, hX1⟩ := hsp
  have hf := kX6_gain hM hE hX hl hnL
  refine wr_ok hf cut_nil 5 0 _ _ _ _ _ ?_
  refine ⟨_, rfl, rfl, fun t ht et => ?_, fun q => ?_⟩
  · subst et
    refine ⟨_, _, 8, rfl, rfl, by decide, rfl, fun w hw ew => ?_, fun q => ?_⟩
    · subst ew
      exact ⟨t * 8 + w, by rw [pk_mul, nI_add], by omega, hK t w ht hw rfl rfl⟩
    · exact hX1 ⟨t, ht, rfl⟩ q
  · exact hX0  q
def sX6_utility : gSX := fun av es K KX => ∃ x y v wy n ch H o s r, av = [.ref 0, .int x, .int y] ∧ o < 6 ∧ s ≤ 6 ∧ es = wX v wy n ch H o s r ∧ (∀ t w, t < 4 → w ≤ 8 → x = nI t → y = nI w → K (some (.int (sumI (fun p => vGa v (t * 8 + p)) w))) es) ∧ (¬ inI x 4 → KX "java/lang/IndexOutOfBoundsException" (wX v wy n ch H o s r)) ∧ (inI x 4 → ¬ inA y 0 8 → KX "java/lang/IllegalArgumentException" (wX v wy n ch H o s r))
def rmX6_utility : Room := { frames := 8, cells := 2, slots := 12, locals := 131 }
def pX6_utility (K : gK) (KX : gKX) : List (Nat × gO) := [(0, oFR 17 (oILoad 1)), (1, oCallSX 2 12 2 12 1 6 1 [] sX6_requireTenant KX), (4, oFR 17 (oILoad 2)), (5, oConst (nI 0)), (6, oConst (nI 8)), (8, oCallSX 2 12 2 12 1 6 3 [] sX6_requireArgument KX), (11, oFR 17 (oALoad 0)), (12, oGet 6 0), (15, oGet 4 1), (18, oILoad 1), (19, oILoad 2), (20, oCallVR 17 2 12 2 2 [6,7,8] sX2_utilityOf), (23, oFR 17 (oRet K 2 12))]
set_option maxRecDepth 100000 in
theorem kX6_utility {X : gX} {l : Launch} (hM : gM X l cX6_utility RX6 wsX6_utility rmX6_utility) {K : gK} (hE : gR X K 2 12 (some .int)) {KX : gKX} (hX : gRX X KX 2 12) (hl : l.stackTraces = false) (hnL : X.2.2.2.2.2.2.2.2.2.2.2.2.2.2.2.2 = 3) : okL X (pX6_utility K KX) := by
  obtain ⟨p, l1, e, R, s, m, args, below, meth, c, D, cA, A, ag, ad0, Q, nL⟩ := X
  cases hnL
  refine ⟨ok_FR (ok_iload_n hM 1 dX6_utility_0 rfl),
    ok_callSX hM hX [] (ctX6_requireTenant l hl) rfl gX6_utility_X6_requireTenant rfl rfl rfl (by decide +kernel) (by decide) dX6_utility_1,
    ok_FR (ok_iload_n hM 2 dX6_utility_4 rfl),
    ok_iconst hM dX6_utility_5 rfl,
    ok_bipush hM dX6_utility_6 rfl,
    ok_callSX hM hX [] (ctX6_requireArgument l hl) rfl gX6_utility_X6_requireArgument rfl rfl rfl (by decide +kernel) (by decide) dX6_utility_8,
    ok_FR (ok_aload_n hM 0 dX6_utility_11 rfl),
    ok_get (C := RX6) (T := TX6) (Nf := 6) hM (fun _ h => List.mem_cons_of_mem _ (List.mem_append_left _ (List.mem_append_left _ (List.mem_append_left _ (List.mem_append_left _ (List.mem_append_right _ h)))))) rfl 0 (by decide) (List.mem_of_getElem? (i := 1) rfl) rfl dX6_utility_12,
    ok_get (C := RX4) (T := TX4) (Nf := 6) hM (fun _ h => List.mem_cons_of_mem _ (List.mem_append_left _ (List.mem_append_left _ (List.mem_append_left _ (List.mem_append_right _ h))))) rfl 1 (by decide) (List.mem_of_getElem? (i := 2) rfl) rfl dX6_utility_15,
    ok_iload_n hM 1 dX6_utility_18 rfl,
    ok_iload_n hM 2 dX6_utility_19 rfl,
    ok_R (ok_callV hM [6,7,8] (ctX2_utilityOf l) rfl rfl gX6_utility_X2_utilityOf rfl rfl rfl (by decide +kernel) (by decide) dX6_utility_20),
    ok_FR (ok_ret hM hE dX6_utility_23),
    trivial⟩
set_option maxRecDepth 100000 in
theorem ctX6_utility (l : Launch) (hl : l.stackTraces = false) : CtX l yX6_utility wsX6_utility rmX6_utility 2 12 sX6_utility := by
  refine ctX_of (own := RX6) (cc := cX6_utility) (maxL := 3) (ret := (some .int)) (by decide) rfl rfl (by rintro _ _ _ _ ⟨x, y, v, wy, n, ch, H, o, s, r, rfl, ho, hs, rfl, hK, hX0, hX1⟩; exact Nat.le_of_ble_eq_true rfl) ?_
  intro X av es K KX hM hE hX hnL hsp
  obtain ⟨x, y, v, wy, n, ch, H, o, s, r, rfl, ho, hs, rfl, hK, hX0, hX1⟩ := hsp
  have hf := kX6_utility hM hE hX hl hnL
  refine wr_ok hf cut_nil 5 0 _ _ _ _ _ ?_
  refine ⟨_, rfl, rfl, fun t ht et => ?_, fun q => ?_⟩
  · subst et
    refine ⟨_, _, _, 0, 8, rfl, rfl, rfl, by decide, by decide, rfl, fun w hw0 hw ew => ?_, fun q => ?_⟩
    · subst ew
      refine ⟨_, _, t, w, vAd v, vGa v, rfl, rfl, rfl, ht, hw, rfl, ?_⟩
      exact hK t w ht hw rfl rfl
    · exact hX1 ⟨t, ht, rfl⟩ q
  · exact hX0  q
def sX6_target : gSX := fun av es K KX => ∃ x v wy n ch H o s r L, av = [.ref 0, .int x] ∧ o < 6 ∧ s ≤ 6 ∧ (∀ t, t < 4 → vLe v t = nI (L t) ∧ L t ≤ 2) ∧ es = wX v wy n ch H o s r ∧ (∀ t, t < 4 → x = nI t → K (some (.int (nI (tgt L (vGa v) t)))) (wX v (nF (tgt L (vGa v))) n ch H o s r)) ∧ (¬ inI x 4 → KX "java/lang/IndexOutOfBoundsException" (wX v wy n ch H o s r))
def rmX6_target : Room := { frames := 8, cells := 1, slots := 6, locals := 131 }
def pX6_target (K : gK) (KX : gKX) : List (Nat × gO) := [(0, oFR 17 (oILoad 1)), (1, oCallSX 1 6 1 6 1 6 1 [] sX6_requireTenant KX), (4, oFR 17 (oALoad 0)), (5, oGet 6 1), (8, oALoad 0), (9, oGet 6 0), (12, oCallVR 17 1 6 5 1 [11,12,1,2,3,4,5,6,7,8,9,10] sX5_compute), (15, oFR 17 (oALoad 0)), (16, oGet 6 1), (19, oGet 5 0), (22, oILoad 1), (23, oIALd 0), (24, oRet K 1 6)]
set_option maxRecDepth 100000 in
theorem kX6_target {X : gX} {l : Launch} (hM : gM X l cX6_target RX6 wsX6_target rmX6_target) {K : gK} (hE : gR X K 1 6 (some .int)) {KX : gKX} (hX : gRX X KX 1 6) (hl : l.stackTraces = false) (hnL : X.2.2.2.2.2.2.2.2.2.2.2.2.2.2.2.2 = 2) : okL X (pX6_target K KX) := by
  obtain ⟨p, l1, e, R, s, m, args, below, meth, c, D, cA, A, ag, ad0, Q, nL⟩ := X
  cases hnL
  refine ⟨ok_FR (ok_iload_n hM 1 dX6_target_0 rfl),
    ok_callSX hM hX [] (ctX6_requireTenant l hl) rfl gX6_target_X6_requireTenant rfl rfl rfl (by decide +kernel) (by decide) dX6_target_1,
    ok_FR (ok_aload_n hM 0 dX6_target_4 rfl),
    ok_get (C := RX6) (T := TX6) (Nf := 6) hM (fun _ h => List.mem_cons_of_mem _ (List.mem_append_left _ (List.mem_append_left _ (List.mem_append_left _ (List.mem_append_left _ (List.mem_append_right _ h)))))) rfl 1 (by decide) (List.mem_of_getElem? (i := 1) rfl) rfl dX6_target_5,
    ok_aload_n hM 0 dX6_target_8 rfl,
    ok_get (C := RX6) (T := TX6) (Nf := 6) hM (fun _ h => List.mem_cons_of_mem _ (List.mem_append_left _ (List.mem_append_left _ (List.mem_append_left _ (List.mem_append_left _ (List.mem_append_right _ h)))))) rfl 0 (by decide) (List.mem_of_getElem? (i := 2) rfl) rfl dX6_target_9,
    ok_R (ok_callV hM [11,12,1,2,3,4,5,6,7,8,9,10] (ctX5_compute l) rfl rfl gX6_target_X5_compute rfl rfl rfl (by decide +kernel) (by decide) dX6_target_12),
    ok_FR (ok_aload_n hM 0 dX6_target_15 rfl),
    ok_get (C := RX6) (T := TX6) (Nf := 6) hM (fun _ h => List.mem_cons_of_mem _ (List.mem_append_left _ (List.mem_append_left _ (List.mem_append_left _ (List.mem_append_left _ (List.mem_append_right _ h)))))) rfl 1 (by decide) (List.mem_of_getElem? (i := 1) rfl) rfl dX6_target_16,
    ok_get (C := RX5) (T := TX5) (Nf := 1) hM (fun _ h => List.mem_cons_of_mem _ (List.mem_append_left _ (List.mem_append_left _ (List.mem_append_left _ (List.mem_append_right _ h))))) rfl 0 (by decide) (List.mem_of_getElem? (i := 3) rfl) rfl dX6_target_19,
    ok_iload_n hM 1 dX6_target_22 rfl,
    ok_iald hM dX6_target_23,
    ok_ret hM hE dX6_target_24,
    trivial⟩
set_option maxRecDepth 100000 in
theorem ctX6_target (l : Launch) (hl : l.stackTraces = false) : CtX l yX6_target wsX6_target rmX6_target 1 6 sX6_target := by
  refine ctX_of (own := RX6) (cc := cX6_target) (maxL := 2) (ret := (some .int)) (by decide) rfl rfl (by rintro _ _ _ _ ⟨x, v, wy, n, ch, H, o, s, r, L, rfl, ho, hs, hL, rfl, hK, hX0⟩; exact Nat.le_of_ble_eq_true rfl) ?_
  intro X av es K KX hM hE hX hnL hsp
  obtain ⟨x, v, wy, n, ch, H, o, s, r, L, rfl, ho, hs, hL, rfl, hK, hX0⟩ := hsp
  have hf := kX6_target hM hE hX hl hnL
  refine wr_ok hf cut_nil 5 0 _ _ _ _ _ ?_
  refine ⟨_, rfl, rfl, fun t ht et => ?_, fun q => ?_⟩
  · subst et
    refine ⟨wy, v, L, rfl, hL, rfl, ?_⟩
    exact ⟨t, rfl, ht, hK t ht rfl⟩
  · exact hX0  q
def sX6_count : gSX := fun av es K KX => ∃ x y v wy n ch H o s r, av = [.ref 0, .int x, .int y] ∧ o < 6 ∧ s ≤ 6 ∧ es = wX v wy n ch H o s r ∧ (∀ t w, t < 4 → w ≤ 3 → x = nI t → y = nI w → K (some (.int (vCo v (t * 4 + w)))) es) ∧ (¬ inI x 4 → KX "java/lang/IndexOutOfBoundsException" (wX v wy n ch H o s r)) ∧ (inI x 4 → ¬ inA y 0 3 → KX "java/lang/IllegalArgumentException" (wX v wy n ch H o s r))
def rmX6_count : Room := { frames := 8, cells := 2, slots := 12, locals := 131 }
def pX6_count (K : gK) (KX : gKX) : List (Nat × gO) := [(0, oFR 17 (oILoad 1)), (1, oCallSX 2 12 2 12 1 6 1 [] sX6_requireTenant KX), (4, oFR 17 (oILoad 2)), (5, oConst (nI 0)), (6, oConst (nI 3)), (7, oCallSX 2 12 2 12 1 6 3 [] sX6_requireArgument KX), (10, oFR 17 (oALoad 0)), (11, oGet 6 0), (14, oGet 4 3), (17, oILoad 1), (18, oConst (nI 4)), (19, oMul), (20, oILoad 2), (21, oAdd), (22, oIALd 0), (23, oRet K 2 12)]
set_option maxRecDepth 100000 in
theorem kX6_count {X : gX} {l : Launch} (hM : gM X l cX6_count RX6 wsX6_count rmX6_count) {K : gK} (hE : gR X K 2 12 (some .int)) {KX : gKX} (hX : gRX X KX 2 12) (hl : l.stackTraces = false) (hnL : X.2.2.2.2.2.2.2.2.2.2.2.2.2.2.2.2 = 3) : okL X (pX6_count K KX) := by
  obtain ⟨p, l1, e, R, s, m, args, below, meth, c, D, cA, A, ag, ad0, Q, nL⟩ := X
  cases hnL
  refine ⟨ok_FR (ok_iload_n hM 1 dX6_count_0 rfl),
    ok_callSX hM hX [] (ctX6_requireTenant l hl) rfl gX6_count_X6_requireTenant rfl rfl rfl (by decide +kernel) (by decide) dX6_count_1,
    ok_FR (ok_iload_n hM 2 dX6_count_4 rfl),
    ok_iconst hM dX6_count_5 rfl,
    ok_iconst hM dX6_count_6 rfl,
    ok_callSX hM hX [] (ctX6_requireArgument l hl) rfl gX6_count_X6_requireArgument rfl rfl rfl (by decide +kernel) (by decide) dX6_count_7,
    ok_FR (ok_aload_n hM 0 dX6_count_10 rfl),
    ok_get (C := RX6) (T := TX6) (Nf := 6) hM (fun _ h => List.mem_cons_of_mem _ (List.mem_append_left _ (List.mem_append_left _ (List.mem_append_left _ (List.mem_append_right _ h))))) rfl 0 (by decide) (List.mem_of_getElem? (i := 1) rfl) rfl dX6_count_11,
    ok_get (C := RX4) (T := TX4) (Nf := 6) hM (fun _ h => List.mem_cons_of_mem _ (List.mem_append_left _ (List.mem_append_left _ (List.mem_append_right _ h)))) rfl 3 (by decide) (List.mem_of_getElem? (i := 2) rfl) rfl dX6_count_14,
    ok_iload_n hM 1 dX6_count_17 rfl,
    ok_iconst hM dX6_count_18 rfl,
    ok_imul hM dX6_count_19,
    ok_iload_n hM 2 dX6_count_20 rfl,
    ok_iadd hM dX6_count_21,
    ok_iald hM dX6_count_22,
    ok_ret hM hE dX6_count_23,
    trivial⟩
set_option maxRecDepth 100000 in
theorem ctX6_count (l : Launch) (hl : l.stackTraces = false) : CtX l yX6_count wsX6_count rmX6_count 2 12 sX6_count := by
  refine ctX_of (own := RX6) (cc := cX6_count) (maxL := 3) (ret := (some .int)) (by decide) rfl rfl (by rintro _ _ _ _ ⟨x, y, v, wy, n, ch, H, o, s, r, rfl, ho, hs, rfl, hK, hX0, hX1⟩; exact Nat.le_of_ble_eq_true rfl) ?_
  intro X av es K KX hM hE hX hnL hsp
  obtain ⟨x, y, v, wy, n, ch, H, o, s, r, rfl, ho, hs, rfl, hK, hX0, hX1⟩ := hsp
  have hf := kX6_count hM hE hX hl hnL
  refine wr_ok hf cut_nil 5 0 _ _ _ _ _ ?_
  refine ⟨_, rfl, rfl, fun t ht et => ?_, fun q => ?_⟩
  · subst et
    refine ⟨_, _, _, 0, 3, rfl, rfl, rfl, by decide, by decide, rfl, fun w hw0 hw ew => ?_, fun q => ?_⟩
    · subst ew
      exact ⟨t * 4 + w, by rw [pk_mul, nI_add], by omega, hK t w ht hw rfl rfl⟩
    · exact hX1 ⟨t, ht, rfl⟩ q
  · exact hX0  q
end MQ5
end
section
/-! PartitionedCache: sums and texts. -/
section MQ6
def mxD (L : Nat → Nat) (v : gV) : Nat → Int32 := fun t => if mvD L v t < nI 0 then nI 0 else mvD L v t
def sX6_movesLeft : gS := fun av es K => ∃ v wy n ch H o s r L, av = [.ref 0] ∧ o < 6 ∧ s ≤ 6 ∧ (∀ t, t < 4 → vLe v t = nI (L t) ∧ L t ≤ 2) ∧ es = wX v wy n ch H o s r ∧ K (some (.int (sumI (mxD L v) 4))) (wX v (nF (tgt L (vGa v))) n ch H o s r)
def rmX6_movesLeft : Room := { frames := 3, cells := 0, slots := 0, locals := 73 }
def pX6_movesLeft (K : gK) : List (Nat × gO) := [(0, oFR 17 (oALoad 0)), (1, oGet 6 1), (4, oALoad 0), (5, oGet 6 0), (8, oCallVR 17 0 0 5 1 [11,12,1,2,3,4,5,6,7,8,9,10] sX5_compute), (11, oConst (nI 0)), (12, oFR 17 (oIStore 3 1)), (13, oConst (nI 0)), (14, oFR 17 (oIStore 3 2)), (15, oFR 17 (oILoad 2)), (16, oConst (nI 4)), (17, oICmp_ge 38), (20, oILoad 1), (21, oALoad 0), (22, oILoad 2), (23, oCallV0 0 0 6 1 sX6_deficitOf), (26, oConst (nI 0)), (27, oFR 17 (oMax 73 0 0)), (30, oAdd), (31, oIStore 3 1), (32, oFR 17 (oIInc 3 2 (nI 1))), (35, oGoto 15), (38, oFR 17 (oILoad 1)), (39, oRet K 0 0)]
set_option maxRecDepth 100000 in
theorem kX6_movesLeft {X : gX} {l : Launch} (hM : gM X l cX6_movesLeft RX6 wsX6_movesLeft rmX6_movesLeft) {K : gK} (hE : gR X K 0 0 (some .int)) (hnL : X.2.2.2.2.2.2.2.2.2.2.2.2.2.2.2.2 = 3) : okL X (pX6_movesLeft K) := by
  obtain ⟨p, l1, e, R, s, m, args, below, meth, c, D, cA, A, ag, ad0, Q, nL⟩ := X
  cases hnL
  refine ⟨ok_FR (ok_aload_n hM 0 dX6_movesLeft_0 rfl),
    ok_get (C := RX6) (T := TX6) (Nf := 6) hM (fun _ h => List.mem_cons_of_mem _ (List.mem_append_left _ (List.mem_append_left _ (List.mem_append_left _ (List.mem_append_left _ (List.mem_append_right _ h)))))) rfl 1 (by decide) (List.mem_of_getElem? (i := 1) rfl) rfl dX6_movesLeft_1,
    ok_aload_n hM 0 dX6_movesLeft_4 rfl,
    ok_get (C := RX6) (T := TX6) (Nf := 6) hM (fun _ h => List.mem_cons_of_mem _ (List.mem_append_left _ (List.mem_append_left _ (List.mem_append_left _ (List.mem_append_left _ (List.mem_append_right _ h)))))) rfl 0 (by decide) (List.mem_of_getElem? (i := 2) rfl) rfl dX6_movesLeft_5,
    ok_R (ok_callV hM [11,12,1,2,3,4,5,6,7,8,9,10] (ctX5_compute l) rfl rfl gX6_movesLeft_X5_compute rfl rfl rfl (by decide +kernel) (by decide) dX6_movesLeft_8),
    ok_iconst hM dX6_movesLeft_11 rfl,
    ok_FR (ok_istore_n hM 1 dX6_movesLeft_12 rfl),
    ok_iconst hM dX6_movesLeft_13 rfl,
    ok_FR (ok_istore_n hM 2 dX6_movesLeft_14 rfl),
    ok_FR (ok_iload_n hM 2 dX6_movesLeft_15 rfl),
    ok_iconst hM dX6_movesLeft_16 rfl,
    ok_icmp_ge hM 38 dX6_movesLeft_17 (by decide),
    ok_iload_n hM 1 dX6_movesLeft_20 rfl,
    ok_aload_n hM 0 dX6_movesLeft_21 rfl,
    ok_iload_n hM 2 dX6_movesLeft_22 rfl,
    ok_callV0 hM (ctX6_deficitOf l) rfl gX6_movesLeft_X6_deficitOf rfl rfl rfl (by decide +kernel) (by decide) dX6_movesLeft_23,
    ok_iconst hM dX6_movesLeft_26 rfl,
    ok_FR (ok_max hM (List.mem_of_getElem? (i := 3) rfl) (by decide +kernel) (by decide +kernel) (by decide +kernel) (by decide) dX6_movesLeft_27),
    ok_iadd hM dX6_movesLeft_30,
    ok_istore_n hM 1 dX6_movesLeft_31 rfl,
    ok_FR (ok_iinc hM 2 dX6_movesLeft_32 rfl),
    ok_goto hM 15 dX6_movesLeft_35 (by decide),
    ok_FR (ok_iload_n hM 1 dX6_movesLeft_38 rfl),
    ok_ret hM hE dX6_movesLeft_39,
    trivial⟩
set_option maxRecDepth 100000 in
theorem ctX6_movesLeft (l : Launch) : Ct l yX6_movesLeft wsX6_movesLeft rmX6_movesLeft 0 0 false sX6_movesLeft := by
  refine ct_of (own := RX6) (cc := cX6_movesLeft) (maxL := 3) (ret := (some .int)) (by decide) rfl rfl (by rintro _ _ _ ⟨v, wy, n, ch, H, o, s, r, L, rfl, ho, hs, hL, rfl, hK⟩; exact Nat.le_of_ble_eq_true rfl) ?_
  intro X av es K hM hE hag hin hnL hsp
  obtain ⟨v, wy, n, ch, H, o, s, r, L, rfl, ho, hs, hL, rfl, hK⟩ := hsp
  have hf := kX6_movesLeft hM hE hnL
  refine g_with (X := X) 15 [0, 1, 2] (fun μ vs es k n9 => ∃ i : Nat, μ = 4 - i ∧ i ≤ 4 ∧ vs = [.ref 0, .int (sumI (mxD L v) i), .int (nI i)] ∧ es = wX v (nF (tgt L (vGa v))) n ch H o s r ∧ k = 0 ∧ n9 = 0) cut_nil (fun μ hc vs es k n9 hI => ?_) (fun hc => ?_)
  · obtain ⟨i, rfl, hi, rfl, rfl, rfl, rfl⟩ := hI
    refine g_go hf hc 5 ?_
    refine ⟨fun h2 => ?_, fun h2 => ?_⟩
    · have h4 : i = 4 := by
        rw [nI_leI (by decide) (by omega)] at h2
        omega
      subst h4
      exact hK
    · have h4 : i < 4 := by
        rw [nI_leI (by decide) (by omega)] at h2
        omega
      refine ⟨_, i, v, _, _, rfl, rfl, h4, rfl, ?_⟩
      exact ⟨4 - (i + 1), by omega, i + 1, rfl, by omega, by rw [nI_add]; rfl, rfl, rfl, rfl⟩
  · refine wr_ok hf hc 5 0 _ _ _ _ _ ?_
    refine ⟨wy, v, L, rfl, hL, rfl, ?_⟩
    exact ⟨4, 0, rfl, by omega, rfl, rfl, rfl, rfl⟩
def liR (v : gV) (t : Nat) (b : Int32) : Int32 := nI (sumN (lnW (vHd v) (nI t)) 8) - (if b = 0 then nI 0 else nI (sumN (lnO (vOw v) (vHd v) (nI t)) 8))
def sX6_lines : gSX := fun av es K KX => ∃ x y v wy n ch H o s r, av = [.ref 0, .int x, .int y] ∧ o < 6 ∧ s ≤ 6 ∧ es = wX v wy n ch H o s r ∧ (∀ t, t < 4 → x = nI t → K (some (.int (liR v t y))) es) ∧ (¬ inI x 4 → KX "java/lang/IndexOutOfBoundsException" (wX v wy n ch H o s r))
def rmX6_lines : Room := { frames := 8, cells := 1, slots := 6, locals := 131 }
def pX6_lines (K : gK) (KX : gKX) : List (Nat × gO) := [(0, oFR 17 (oILoad 1)), (1, oCallSX 1 6 1 6 1 6 1 [] sX6_requireTenant KX), (4, oFR 17 (oILoad 2)), (5, oIf_eq 22), (8, oALoad 0), (9, oGet 6 0), (12, oGet 4 0), (15, oILoad 1), (16, oCallVR 17 1 6 3 1 [2,3,4,5] sX3_linesInOwnWays), (19, oGoto 23), (22, oConst (nI 0)), (23, oFR 17 (oIStore 4 3)), (24, oFR 17 (oALoad 0)), (25, oGet 6 0), (28, oGet 4 0), (31, oILoad 1), (32, oCallVR 17 1 6 3 1 [2,3,4,5] sX3_linesOf), (35, oFR 17 (oILoad 3)), (36, oSub), (37, oRet K 1 6)]
set_option maxRecDepth 100000 in
theorem kX6_lines {X : gX} {l : Launch} (hM : gM X l cX6_lines RX6 wsX6_lines rmX6_lines) {K : gK} (hE : gR X K 1 6 (some .int)) {KX : gKX} (hX : gRX X KX 1 6) (hl : l.stackTraces = false) (hnL : X.2.2.2.2.2.2.2.2.2.2.2.2.2.2.2.2 = 4) : okL X (pX6_lines K KX) := by
  obtain ⟨p, l1, e, R, s, m, args, below, meth, c, D, cA, A, ag, ad0, Q, nL⟩ := X
  cases hnL
  refine ⟨ok_FR (ok_iload_n hM 1 dX6_lines_0 rfl),
    ok_callSX hM hX [] (ctX6_requireTenant l hl) rfl gX6_lines_X6_requireTenant rfl rfl rfl (by decide +kernel) (by decide) dX6_lines_1,
    ok_FR (ok_iload_n hM 2 dX6_lines_4 rfl),
    ok_if_eq hM 22 dX6_lines_5 (by decide),
    ok_aload_n hM 0 dX6_lines_8 rfl,
    ok_get (C := RX6) (T := TX6) (Nf := 6) hM (fun _ h => List.mem_cons_of_mem _ (List.mem_append_left _ (List.mem_append_left _ (List.mem_append_left _ (List.mem_append_right _ h))))) rfl 0 (by decide) (List.mem_of_getElem? (i := 1) rfl) rfl dX6_lines_9,
    ok_get (C := RX4) (T := TX4) (Nf := 6) hM (fun _ h => List.mem_cons_of_mem _ (List.mem_append_left _ (List.mem_append_left _ (List.mem_append_right _ h)))) rfl 0 (by decide) (List.mem_of_getElem? (i := 2) rfl) rfl dX6_lines_12,
    ok_iload_n hM 1 dX6_lines_15 rfl,
    ok_R (ok_callV hM [2,3,4,5] (ctX3_linesInOwnWays l) rfl rfl gX6_lines_X3_linesInOwnWays rfl rfl rfl (by decide +kernel) (by decide) dX6_lines_16),
    ok_goto hM 23 dX6_lines_19 (by decide),
    ok_iconst hM dX6_lines_22 rfl,
    ok_FR (ok_istore_n hM 3 dX6_lines_23 rfl),
    ok_FR (ok_aload_n hM 0 dX6_lines_24 rfl),
    ok_get (C := RX6) (T := TX6) (Nf := 6) hM (fun _ h => List.mem_cons_of_mem _ (List.mem_append_left _ (List.mem_append_left _ (List.mem_append_left _ (List.mem_append_right _ h))))) rfl 0 (by decide) (List.mem_of_getElem? (i := 1) rfl) rfl dX6_lines_25,
    ok_get (C := RX4) (T := TX4) (Nf := 6) hM (fun _ h => List.mem_cons_of_mem _ (List.mem_append_left _ (List.mem_append_left _ (List.mem_append_right _ h)))) rfl 0 (by decide) (List.mem_of_getElem? (i := 2) rfl) rfl dX6_lines_28,
    ok_iload_n hM 1 dX6_lines_31 rfl,
    ok_R (ok_callV hM [2,3,4,5] (ctX3_linesOf l) rfl rfl gX6_lines_X3_linesOf rfl rfl rfl (by decide +kernel) (by decide) dX6_lines_32),
    ok_FR (ok_iload_n hM 3 dX6_lines_35 rfl),
    ok_isub hM dX6_lines_36,
    ok_ret hM hE dX6_lines_37,
    trivial⟩
set_option maxRecDepth 100000 in
theorem ctX6_lines (l : Launch) (hl : l.stackTraces = false) : CtX l yX6_lines wsX6_lines rmX6_lines 1 6 sX6_lines := by
  refine ctX_of (own := RX6) (cc := cX6_lines) (maxL := 4) (ret := (some .int)) (by decide) rfl rfl (by rintro _ _ _ _ ⟨x, y, v, wy, n, ch, H, o, s, r, rfl, ho, hs, rfl, hK, hX0⟩; exact Nat.le_of_ble_eq_true rfl) ?_
  intro X av es K KX hM hE hX hnL hsp
  obtain ⟨x, y, v, wy, n, ch, H, o, s, r, rfl, ho, hs, rfl, hK, hX0⟩ := hsp
  have hf := kX6_lines hM hE hX hl hnL
  refine wr_ok hf cut_nil 5 0 _ _ _ _ _ ?_
  refine ⟨_, rfl, rfl, fun t ht et => ?_, fun q => ?_⟩
  · subst et
    have hK := hK t ht rfl
    unfold liR at hK
    refine ⟨fun h1 => ?_, fun h1 => ?_⟩
    · rw [if_pos h1] at hK
      refine ⟨_, vOw v, vHd v, vSt v, rfl, rfl, ?_⟩
      exact hK
    · rw [if_neg h1] at hK
      refine ⟨_, vOw v, vHd v, vSt v, rfl, rfl, ?_⟩
      refine ⟨_, vOw v, vHd v, vSt v, rfl, rfl, ?_⟩
      exact hK
  · exact hX0  q
def sX6_monitored : gSX := fun av es K KX => ∃ x y z v wy n ch H o s r, av = [.ref 0, .int x, .int y, .int z] ∧ o < 6 ∧ s ≤ 6 ∧ es = wX v wy n ch H o s r ∧ (∀ t q w, t < 4 → (q = 0 ∨ q = 2) → w < 8 → x = nI t → y = nI q → z = nI w → K (some (.int (vAd v ((t * 2 + q / 2) * 8 + w)))) es) ∧ (¬ inI x 4 → KX "java/lang/IndexOutOfBoundsException" es) ∧ (inI x 4 → ¬ (y = nI 0 ∨ y = nI 2) → KX "java/lang/IndexOutOfBoundsException" es) ∧ (inI x 4 → (y = nI 0 ∨ y = nI 2) → ¬ inI z 8 → KX "java/lang/IndexOutOfBoundsException" es)
def rmX6_monitored : Room := { frames := 8, cells := 2, slots := 12, locals := 131 }
def pX6_monitored (K : gK) (KX : gKX) : List (Nat × gO) := [(0, oFR 17 (oILoad 1)), (1, oCallSX 2 12 2 12 1 6 1 [] sX6_requireTenant KX), (4, oFR 17 (oILoad 2)), (5, oSR 17 2 12 1 [] sX6_isSampled), (8, oFR 17 (oIf_ne 21)), (11, oThrow KX "java/lang/IndexOutOfBoundsException" 2 12), (21, oILoad 3), (22, oConst (nI 8)), (24, oCallSX 2 12 2 12 1 6 2 [] sX6_requireIndex KX), (27, oFR 17 (oALoad 0)), (28, oGet 6 0), (31, oGet 4 1), (34, oGet 2 0), (37, oILoad 1), (38, oILoad 2), (39, oSR 17 2 12 2 [] sX6_listStart), (42, oFR 17 (oILoad 3)), (43, oAdd), (44, oIALd 0), (45, oRet K 2 12)]
set_option maxRecDepth 100000 in
theorem kX6_monitored {X : gX} {l : Launch} (hM : gM X l cX6_monitored RX6 wsX6_monitored rmX6_monitored) {K : gK} (hE : gR X K 2 12 (some .int)) {KX : gKX} (hX : gRX X KX 2 12) (hl : l.stackTraces = false) (hnL : X.2.2.2.2.2.2.2.2.2.2.2.2.2.2.2.2 = 4) : okL X (pX6_monitored K KX) := by
  obtain ⟨p, l1, e, R, s, m, args, below, meth, c, D, cA, A, ag, ad0, Q, nL⟩ := X
  cases hnL
  refine ⟨ok_FR (ok_iload_n hM 1 dX6_monitored_0 rfl),
    ok_callSX hM hX [] (ctX6_requireTenant l hl) rfl gX6_monitored_X6_requireTenant rfl rfl rfl (by decide +kernel) (by decide) dX6_monitored_1,
    ok_FR (ok_iload_n hM 2 dX6_monitored_4 rfl),
    ok_SR (ok_callS hM [] (ctX6_isSampled l) rfl gX6_monitored_X6_isSampled rfl rfl rfl (by decide +kernel) (by decide) dX6_monitored_5),
    ok_FR (ok_if_ne hM 21 dX6_monitored_8 (by decide)),
    ok_throw hM hX hl (text := "the set is not sampled") "java/lang/IndexOutOfBoundsException" ["java/lang/RuntimeException", "java/lang/Exception"] (by decide +kernel) (by decide +kernel) rfl (List.mem_of_getElem? (i := 1) rfl) (List.mem_of_getElem? (i := 2) rfl) (by decide +kernel) (by decide +kernel) gBad_1 (by decide +kernel) (by decide) (by decide) ⟨Nat.le_refl _, Nat.le_refl _⟩ dX6_monitored_11 dX6_monitored_14 dX6_monitored_15 dX6_monitored_17 dX6_monitored_20,
    ok_iload_n hM 3 dX6_monitored_21 rfl,
    ok_bipush hM dX6_monitored_22 rfl,
    ok_callSX hM hX [] (ctX6_requireIndex l hl) rfl gX6_monitored_X6_requireIndex rfl rfl rfl (by decide +kernel) (by decide) dX6_monitored_24,
    ok_FR (ok_aload_n hM 0 dX6_monitored_27 rfl),
    ok_get (C := RX6) (T := TX6) (Nf := 6) hM (fun _ h => List.mem_cons_of_mem _ (List.mem_append_left _ (List.mem_append_left _ (List.mem_append_left _ (List.mem_append_right _ h))))) rfl 0 (by decide) (List.mem_of_getElem? (i := 3) rfl) rfl dX6_monitored_28,
    ok_get (C := RX4) (T := TX4) (Nf := 6) hM (fun _ h => List.mem_cons_of_mem _ (List.mem_append_left _ (List.mem_append_left _ (List.mem_append_right _ h)))) rfl 1 (by decide) (List.mem_of_getElem? (i := 4) rfl) rfl dX6_monitored_31,
    ok_get (C := RX2) (T := TX2) (Nf := 2) hM (fun _ h => List.mem_cons_of_mem _ (List.mem_append_left _ (List.mem_append_right _ h))) rfl 0 (by decide) (List.mem_of_getElem? (i := 5) rfl) rfl dX6_monitored_34,
    ok_iload_n hM 1 dX6_monitored_37 rfl,
    ok_iload_n hM 2 dX6_monitored_38 rfl,
    ok_SR (ok_callS hM [] (ctX6_listStart l) rfl gX6_monitored_X6_listStart rfl rfl rfl (by decide +kernel) (by decide) dX6_monitored_39),
    ok_FR (ok_iload_n hM 3 dX6_monitored_42 rfl),
    ok_iadd hM dX6_monitored_43,
    ok_iald hM dX6_monitored_44,
    ok_ret hM hE dX6_monitored_45,
    trivial⟩
set_option maxRecDepth 100000 in
theorem ctX6_monitored (l : Launch) (hl : l.stackTraces = false) : CtX l yX6_monitored wsX6_monitored rmX6_monitored 2 12 sX6_monitored := by
  refine ctX_of (own := RX6) (cc := cX6_monitored) (maxL := 4) (ret := (some .int)) (by decide) rfl rfl (by rintro _ _ _ _ ⟨x, y, z, v, wy, n, ch, H, o, s, r, rfl, ho, hs, rfl, hK, hX0, hX1, hX2⟩; exact Nat.le_of_ble_eq_true rfl) ?_
  intro X av es K KX hM hE hX hnL hsp
  obtain ⟨x, y, z, v, wy, n, ch, H, o, s, r, rfl, ho, hs, rfl, hK, hX0, hX1, hX2⟩ := hsp
  have hf := kX6_monitored hM hE hX hl hnL
  refine wr_ok hf cut_nil 5 0 _ _ _ _ _ ?_
  refine ⟨_, rfl, rfl, fun t ht et => ?_, fun q => hX0 q⟩
  subst et
  refine ⟨_, rfl, rfl, ?_⟩
  have hb : (bI (decide (y = nI 0) || decide (y = nI 2)) = 0) ↔ ¬ (y = nI 0 ∨ y = nI 2) := by
    rw [bI_0]
    simp
  refine ⟨fun h1 => ?_, fun h1 => ?_⟩
  · have h2 : y = nI 0 ∨ y = nI 2 := Classical.byContradiction (fun q => h1 (hb.mpr q))
    refine ⟨_, _, 8, rfl, rfl, by decide, rfl, fun w hw ew => ?_, fun q => hX2 ⟨t, ht, rfl⟩ h2 q⟩
    subst ew
    obtain ⟨q, hq, rfl⟩ : ∃ q, (q = 0 ∨ q = 2) ∧ y = nI q := by
      rcases h2 with h2 | h2
      · exact ⟨0, Or.inl rfl, h2⟩
      · exact ⟨2, Or.inr rfl, h2⟩
    refine ⟨_, _, t, q, rfl, rfl, rfl, ht, by omega, rfl, ?_⟩
    exact ⟨(t * 2 + q / 2) * 8 + w, by rw [nI_add], by omega, hK t q w ht hq hw rfl rfl rfl⟩
  · exact hX1 ⟨t, ht, rfl⟩ (hb.mp h1)
end MQ6
end
section
/-! PartitionedCache: streams and runs. -/
section MQ7
theorem mvV_keep (L : Nat → Nat) (v : gV) : vLe (mvV L v) = vLe v := rfl
theorem epV_keep (L : Nat → Nat) (v : gV) : vLe (epV L v) = vLe v := by
  unfold epV
  split <;> rfl
theorem acV_keep (L : Nat → Nat) (v : gV) (t a : Nat) : vLe (acV L v t a) = vLe v := by
  unfold acV
  rw [epV_keep, acB_keep]
def stS (L : Nat → Nat) (v : gV) (t a z : Nat) : Nat → gV
  | 0 => v
  | i + 1 => acV L (stS L v t a z i) t ((a + i * z) % 256)
def stH (L : Nat → Nat) (v : gV) (t a z : Nat) : Nat → Nat
  | 0 => 0
  | i + 1 => if acR (stS L v t a z i) t ((a + i * z) % 256) = 1 then stH L v t a z i + 1 else stH L v t a z i
theorem stS_keep (L : Nat → Nat) (v : gV) (t a z : Nat) : ∀ i, vLe (stS L v t a z i) = vLe v
  | 0 => rfl
  | i + 1 => by
    unfold stS
    rw [acV_keep]
    exact stS_keep L v t a z i
theorem stH_le (L : Nat → Nat) (v : gV) (t a z : Nat) : ∀ i, stH L v t a z i ≤ i
  | 0 => Nat.le_refl _
  | i + 1 => by
    have := stH_le L v t a z i
    unfold stH
    split <;> omega
def sX6_stream : gSX := fun av es K KX => ∃ x y z u v wy n ch H o s r L, av = [.ref 0, .int x, .int y, .int z, .int u] ∧ o < 6 ∧ s ≤ 6 ∧ (∀ t, t < 4 → vLe v t = nI (L t) ∧ L t ≤ 2) ∧ es = wX v wy n ch H o s r ∧ (∀ t a c m, t < 4 → a ≤ 255 → 1 ≤ c → c ≤ 64 → 1 ≤ m → m ≤ 40 → x = nI t → y = nI a → z = nI c → u = nI m → ∀ wy', K (some (.int (nI (stH L v t a c m)))) (wX (stS L v t a c m) wy' n ch (psH H o s v) (psO o s) (psS s) r)) ∧ (¬ inI x 4 → KX "java/lang/IndexOutOfBoundsException" (wX v wy n ch H o s r)) ∧ (inI x 4 → ¬ inA y 0 255 → KX "java/lang/IllegalArgumentException" (wX v wy n ch H o s r)) ∧ (inI x 4 → inA y 0 255 → ¬ inA z 1 64 → KX "java/lang/IllegalArgumentException" (wX v wy n ch H o s r)) ∧ (inI x 4 → inA y 0 255 → inA z 1 64 → ¬ inA u 1 40 → KX "java/lang/IllegalArgumentException" (wX v wy n ch H o s r))
def rmX6_stream : Room := { frames := 8, cells := 4, slots := 24, locals := 131 }
def pX6_stream (K : gK) (KX : gKX) : List (Nat × gO) := [(0, oFR 17 (oILoad 1)), (1, oCallSX 4 24 4 24 1 6 1 [] sX6_requireTenant KX), (4, oFR 17 (oILoad 2)), (5, oConst (nI 0)), (6, oConst (nI 255)), (9, oCallSX 4 24 4 24 1 6 3 [] sX6_requireArgument KX), (12, oFR 17 (oILoad 3)), (13, oConst (nI 1)), (14, oConst (nI 64)), (16, oCallSX 4 24 4 24 1 6 3 [] sX6_requireArgument KX), (19, oFR 17 (oILoad 4)), (21, oConst (nI 1)), (22, oConst (nI 40)), (24, oCallSX 4 24 4 24 1 6 3 [] sX6_requireArgument KX), (27, oFR 17 (oALoad 0)), (28, oGet 6 2), (31, oALoad 0), (32, oGet 6 0), (35, oPushX 4 24), (38, oConst (nI 0)), (39, oIStore 7 5), (41, oConst (nI 0)), (42, oFR 17 (oIStore 7 6)), (44, oFR 17 (oILoad 6)), (46, oILoad 4), (48, oICmp_ge 79), (51, oALoad 0), (52, oILoad 1), (53, oILoad 2), (54, oILoad 6), (56, oILoad 3), (57, oMul), (58, oAdd), (59, oConst (nI 256)), (62, oRem), (63, oCallV0 4 24 6 2 sX6_makeAccess), (66, oConst (nI 1)), (67, oFR 17 (oICmp_ne 73)), (70, oIInc 7 5 (nI 1)), (73, oFR 17 (oIInc 7 6 (nI 1))), (76, oGoto 44), (79, oFR 17 (oILoad 5)), (81, oRet K 4 24)]
set_option maxRecDepth 100000 in
theorem kX6_stream {X : gX} {l : Launch} (hM : gM X l cX6_stream RX6 wsX6_stream rmX6_stream) {K : gK} (hE : gR X K 4 24 (some .int)) {KX : gKX} (hX : gRX X KX 4 24) (hl : l.stackTraces = false) (hnL : X.2.2.2.2.2.2.2.2.2.2.2.2.2.2.2.2 = 7) : okL X (pX6_stream K KX) := by
  obtain ⟨p, l1, e, R, s, m, args, below, meth, c, D, cA, A, ag, ad0, Q, nL⟩ := X
  cases hnL
  refine ⟨ok_FR (ok_iload_n hM 1 dX6_stream_0 rfl),
    ok_callSX hM hX [] (ctX6_requireTenant l hl) rfl gX6_stream_X6_requireTenant rfl rfl rfl (by decide +kernel) (by decide) dX6_stream_1,
    ok_FR (ok_iload_n hM 2 dX6_stream_4 rfl),
    ok_iconst hM dX6_stream_5 rfl,
    ok_sipush hM dX6_stream_6 rfl,
    ok_callSX hM hX [] (ctX6_requireArgument l hl) rfl gX6_stream_X6_requireArgument rfl rfl rfl (by decide +kernel) (by decide) dX6_stream_9,
    ok_FR (ok_iload_n hM 3 dX6_stream_12 rfl),
    ok_iconst hM dX6_stream_13 rfl,
    ok_bipush hM dX6_stream_14 rfl,
    ok_callSX hM hX [] (ctX6_requireArgument l hl) rfl gX6_stream_X6_requireArgument rfl rfl rfl (by decide +kernel) (by decide) dX6_stream_16,
    ok_FR (ok_iload hM 4 dX6_stream_19),
    ok_iconst hM dX6_stream_21 rfl,
    ok_bipush hM dX6_stream_22 rfl,
    ok_callSX hM hX [] (ctX6_requireArgument l hl) rfl gX6_stream_X6_requireArgument rfl rfl rfl (by decide +kernel) (by decide) dX6_stream_24,
    ok_FR (ok_aload_n hM 0 dX6_stream_27 rfl),
    ok_get (C := RX6) (T := TX6) (Nf := 6) hM (fun _ h => List.mem_cons_of_mem _ (List.mem_append_left _ (List.mem_append_left _ (List.mem_append_left _ (List.mem_append_left _ (List.mem_append_left _ (List.mem_append_left _ (List.mem_append_left _ (List.mem_append_right _ h))))))))) rfl 2 (by decide) (List.mem_of_getElem? (i := 1) rfl) rfl dX6_stream_28,
    ok_aload_n hM 0 dX6_stream_31 rfl,
    ok_get (C := RX6) (T := TX6) (Nf := 6) hM (fun _ h => List.mem_cons_of_mem _ (List.mem_append_left _ (List.mem_append_left _ (List.mem_append_left _ (List.mem_append_left _ (List.mem_append_left _ (List.mem_append_left _ (List.mem_append_left _ (List.mem_append_right _ h))))))))) rfl 0 (by decide) (List.mem_of_getElem? (i := 2) rfl) rfl dX6_stream_32,
    ok_pushX (ok_callV hM idH (ctX1_push l) rfl rfl gX6_stream_X1_push rfl rfl rfl (by decide +kernel) (by decide) dX6_stream_35),
    ok_iconst hM dX6_stream_38 rfl,
    ok_istore hM 5 dX6_stream_39,
    ok_iconst hM dX6_stream_41 rfl,
    ok_FR (ok_istore hM 6 dX6_stream_42),
    ok_FR (ok_iload hM 6 dX6_stream_44),
    ok_iload hM 4 dX6_stream_46,
    ok_icmp_ge hM 79 dX6_stream_48 (by decide),
    ok_aload_n hM 0 dX6_stream_51 rfl,
    ok_iload_n hM 1 dX6_stream_52 rfl,
    ok_iload_n hM 2 dX6_stream_53 rfl,
    ok_iload hM 6 dX6_stream_54,
    ok_iload_n hM 3 dX6_stream_56 rfl,
    ok_imul hM dX6_stream_57,
    ok_iadd hM dX6_stream_58,
    ok_sipush hM dX6_stream_59 rfl,
    ok_irem hM dX6_stream_62,
    ok_callV0 hM (ctX6_makeAccess l) rfl gX6_stream_X6_makeAccess rfl rfl rfl (by decide +kernel) (by decide) dX6_stream_63,
    ok_iconst hM dX6_stream_66 rfl,
    ok_FR (ok_icmp_ne hM 73 dX6_stream_67 (by decide)),
    ok_iinc hM 5 dX6_stream_70 rfl,
    ok_FR (ok_iinc hM 6 dX6_stream_73 rfl),
    ok_goto hM 44 dX6_stream_76 (by decide),
    ok_FR (ok_iload hM 5 dX6_stream_79),
    ok_ret hM hE dX6_stream_81,
    trivial⟩
set_option maxRecDepth 100000 in
theorem ctX6_stream (l : Launch) (hl : l.stackTraces = false) : CtX l yX6_stream wsX6_stream rmX6_stream 4 24 sX6_stream := by
  refine ctX_of (own := RX6) (cc := cX6_stream) (maxL := 7) (ret := (some .int)) (by decide) rfl rfl (by rintro _ _ _ _ ⟨x, y, z, u, v, wy, n, ch, H, o, s, r, L, rfl, ho, hs, hL, rfl, hK, hX0, hX1, hX2, hX3⟩; exact Nat.le_of_ble_eq_true rfl) ?_
  intro X av es K KX hM hE hX hnL hsp
  obtain ⟨x, y, z, u, v, wy, n, ch, H, o, s, r, L, rfl, ho, hs, hL, rfl, hK, hX0, hX1, hX2, hX3⟩ := hsp
  have hf := kX6_stream hM hE hX hl hnL
  refine g_with (X := X) 44 [0, 1, 2, 3, 4, 5, 6] (fun μ vs es k n9 => ∃ (i t a c m : Nat) (wy' : Nat → Int32), μ = 40 - i ∧ i ≤ m ∧ t < 4 ∧ a ≤ 255 ∧ 1 ≤ c ∧ c ≤ 64 ∧ m ≤ 40 ∧ (∀ wy', K (some (.int (nI (stH L v t a c m)))) (wX (stS L v t a c m) wy' n ch (psH H o s v) (psO o s) (psS s) r)) ∧ vs = [.ref 0, .int (nI t), .int (nI a), .int (nI c), .int (nI m), .int (nI (stH L v t a c i)), .int (nI i)] ∧ es = wX (stS L v t a c i) wy' n ch (psH H o s v) (psO o s) (psS s) r ∧ k = 4 ∧ n9 = 24) cut_nil (fun μ hc vs es k n9 hI => ?_) (fun hcut => ?_)
  · obtain ⟨i, t, a, c, m, wy2, rfl, hi, ht, ha, hc0, hc1, hm, hK, rfl, rfl, rfl, rfl⟩ := hI
    refine g_go hf hc 5 ?_
    refine ⟨fun h2 => ?_, fun h2 => ?_⟩
    · have h4 : i = m := by
        rw [nI_leI (by omega) (by omega)] at h2
        omega
      subst h4
      exact hK wy2
    · have h4 : i < m := by
        rw [nI_leI (by omega) (by omega)] at h2
        omega
      have hic : i * c ≤ 40 * 64 := Nat.mul_le_mul (by omega) hc1
      refine ⟨by decide, ?_⟩
      have hL2 : ∀ t', t' < 4 → vLe (stS L v t a c i) t' = nI (L t') ∧ L t' ≤ 2 := fun t' ht' => by
        rw [stS_keep]
        exact hL t' ht'
      have hr2 : acR (stS L v t a c i) t ((a + i * c) % 256) ≤ 2 := rsl_le _ _ _ _
      have hl2 := stH_le L v t a c i
      refine ⟨_, _, t, (a + i * c) % 256, stS L v t a c i, wy2, _, L, rfl, rfl, by rw [pk_mul, nI_add]; exact pk_rem (by omega) (by decide) (by decide), ht, by omega, hL2, rfl, fun wy3 => ?_⟩
      have e9 : stS L v t a c (i + 1) = acV L (stS L v t a c i) t ((a + i * c) % 256) := rfl
      rw [← e9]
      refine ⟨fun h5 => ?_, fun h5 => ?_⟩
      · have h6 : ¬ acR (stS L v t a c i) t ((a + i * c) % 256) = 1 := fun q => h5 (by rw [q])
        exact ⟨40 - (i + 1), by omega, i + 1, t, a, c, m, wy3, rfl, by omega, ht, ha, hc0, hc1, hm, hK, by rw [nI_add]; simp only [stH, if_neg h6], rfl, rfl, rfl⟩
      · have h6 : acR (stS L v t a c i) t ((a + i * c) % 256) = 1 := (nI_eq (by omega) (by decide)).mp h5
        exact ⟨40 - (i + 1), by omega, i + 1, t, a, c, m, wy3, rfl, by omega, ht, ha, hc0, hc1, hm, hK, by rw [nI_add, nI_add]; simp only [stH, if_pos h6], rfl, rfl, rfl⟩
  · refine wr_ok hf hcut 5 0 _ _ _ _ _ ?_
    refine ⟨_, rfl, rfl, fun t ht et => ?_, fun q => ?_⟩
    · subst et
      refine ⟨_, _, _, 0, 255, rfl, rfl, rfl, by decide, by decide, rfl, fun a ha0 ha ea => ?_, fun q => ?_⟩
      · subst ea
        refine ⟨_, _, _, 1, 64, rfl, rfl, rfl, by decide, by decide, rfl, fun c hc0 hc ec => ?_, fun q => ?_⟩
        · subst ec
          refine ⟨_, _, _, 1, 40, rfl, rfl, rfl, by decide, by decide, rfl, fun m hm0 hm em => ?_, fun q => ?_⟩
          · subst em
            refine ⟨v, wy, n, ch, H, o, s, r, ho, hs, rfl, ?_⟩
            exact ⟨40, 0, t, a, c, m, wy, rfl, by omega, ht, ha, hc0, hc, hm, hK t a c m ht ha hc0 hc hm0 hm rfl rfl rfl rfl, rfl, rfl, rfl, rfl⟩
          · exact hX3 ⟨t, ht, rfl⟩ ⟨a, ha0, ha, rfl⟩ ⟨c, hc0, hc, rfl⟩ q
        · exact hX2 ⟨t, ht, rfl⟩ ⟨a, ha0, ha, rfl⟩ q
      · exact hX1 ⟨t, ht, rfl⟩ q
    · exact hX0  q
end MQ7
end
section
/-! Constructors. -/
section MI1
def sX5_init : gS := fun av es K => av = [.ref 0] ∧ es = [.inr (5, [.null])] ∧ K none (tgA 0 (fun _ => 0))
def rmX5_init : Room := { frames := 1, cells := 1, slots := 4, locals := 60 }
def pX5_init (K : gK) : List (Nat × gO) := [(0, oF (oALoad 0)), (1, oObj 60), (4, oALoad 0), (5, oConst (nI 4)), (6, oNewA 1 4 1 0), (8, oF (oPutR 5 0)), (11, oF (oRetV K 1 4))]
set_option maxRecDepth 100000 in
theorem kX5_init {X : gX} {l : Launch} (hM : gM X l cX5_init RX5 wsX5_init rmX5_init) {K : gK} (hE : gR X K 1 4 none) (hin : gInit X) (hA0 : gN0 X 1) (hnL : X.2.2.2.2.2.2.2.2.2.2.2.2.2.2.2.2 = 1) : okL X (pX5_init K) := by
  obtain ⟨p, l1, e, R, s, m, args, below, meth, c, D, cA, A, ag, ad0, Q, nL⟩ := X
  cases hnL
  refine ⟨ok_F (ok_aload_n hM 0 dX5_init_0 rfl),
    ok_obj hM (List.mem_of_getElem? (i := 1) rfl) (List.mem_of_getElem? (i := 2) rfl) (List.mem_of_getElem? (i := 3) rfl) (by decide) dX5_init_1,
    ok_aload_n hM 0 dX5_init_4 rfl,
    ok_iconst hM dX5_init_5 rfl,
    ok_newa0 hM hA0 (List.mem_of_getElem? (i := 4) rfl) dX5_init_6,
    ok_F (ok_putRAF (ct := .int) (C := RX5) (T := TX5) (Nf := 1) hM (fun _ h => List.mem_cons_of_mem _ (List.mem_append_right _ h)) tyX5 tyX5_ok nmX5 rfl 0 (by decide) (List.mem_of_getElem? (i := 5) rfl) rfl rfl hin rfl (by decide +kernel) dX5_init_8),
    ok_F (ok_retV hM hE dX5_init_11),
    trivial⟩
set_option maxRecDepth 100000 in
theorem ctX5_init (l : Launch) : Ct l yX5_init wsX5_init rmX5_init 1 4 true sX5_init := by
  refine ct_of (own := RX5) (cc := cX5_init) (maxL := 1) (ret := none) (by decide) rfl rfl (by rintro _ _ _ ⟨rfl, rfl, hK⟩; exact Nat.le_of_ble_eq_true rfl) ?_
  intro X av es K hM hE hag hin hnL hsp
  obtain ⟨rfl, rfl, hK⟩ := hsp
  have hf := kX5_init hM hE (hin rfl) (gN0_of hag) hnL
  refine wr_ok hf cut_nil 5 0 _ _ _ _ _ ?_
  refine ⟨1, 4, rfl, rfl, ?_⟩
  exact hK
def sX0_init : gS := fun av es K => av = [.ref 0] ∧ es = [.inr (0, [.null, .int 0])] ∧ K none (tx0 (fun _ => 0) (nI 0))
def rmX0_init : Room := { frames := 1, cells := 1, slots := 80, locals := 60 }
def pX0_init (K : gK) : List (Nat × gO) := [(0, oF (oALoad 0)), (1, oObj 60), (4, oALoad 0), (5, oConst (nI 80)), (7, oNewA 1 80 1 1), (9, oF (oPutR 0 0)), (12, oF (oALoad 0)), (13, oConst (nI 0)), (14, oPutI 0 1), (17, oF (oRetV K 1 80))]
set_option maxRecDepth 100000 in
theorem kX0_init {X : gX} {l : Launch} (hM : gM X l cX0_init RX0 wsX0_init rmX0_init) {K : gK} (hE : gR X K 1 80 none) (hin : gInit X) (hA0 : gN0 X 1) (hnL : X.2.2.2.2.2.2.2.2.2.2.2.2.2.2.2.2 = 1) : okL X (pX0_init K) := by
  obtain ⟨p, l1, e, R, s, m, args, below, meth, c, D, cA, A, ag, ad0, Q, nL⟩ := X
  cases hnL
  refine ⟨ok_F (ok_aload_n hM 0 dX0_init_0 rfl),
    ok_obj hM (List.mem_of_getElem? (i := 1) rfl) (List.mem_of_getElem? (i := 2) rfl) (List.mem_of_getElem? (i := 3) rfl) (by decide) dX0_init_1,
    ok_aload_n hM 0 dX0_init_4 rfl,
    ok_bipush hM dX0_init_5 rfl,
    ok_newa1 hM hA0 (List.mem_of_getElem? (i := 4) rfl) dX0_init_7,
    ok_F (ok_putRAF (ct := .char) (C := RX0) (T := TX0) (Nf := 2) hM (fun _ h => List.mem_cons_of_mem _ (List.mem_append_right _ h)) tyX0 tyX0_ok nmX0 rfl 0 (by decide) (List.mem_of_getElem? (i := 5) rfl) rfl rfl hin rfl (by decide +kernel) dX0_init_9),
    ok_F (ok_aload_n hM 0 dX0_init_12 rfl),
    ok_iconst hM dX0_init_13 rfl,
    ok_putI (C := RX0) (T := TX0) (Nf := 2) hM (fun _ h => List.mem_cons_of_mem _ (List.mem_append_right _ h)) tyX0 tyX0_ok nmX0 rfl 1 (by decide) (List.mem_of_getElem? (i := 6) rfl) rfl rfl (by decide +kernel) dX0_init_14,
    ok_F (ok_retV hM hE dX0_init_17),
    trivial⟩
set_option maxRecDepth 100000 in
theorem ctX0_init (l : Launch) : Ct l yX0_init wsX0_init rmX0_init 1 80 true sX0_init := by
  refine ct_of (own := RX0) (cc := cX0_init) (maxL := 1) (ret := none) (by decide) rfl rfl (by rintro _ _ _ ⟨rfl, rfl, hK⟩; exact Nat.le_of_ble_eq_true rfl) ?_
  intro X av es K hM hE hag hin hnL hsp
  obtain ⟨rfl, rfl, hK⟩ := hsp
  have hf := kX0_init hM hE (hin rfl) (gN0_of hag) hnL
  refine wr_ok hf cut_nil 5 0 _ _ _ _ _ ?_
  refine ⟨1, 80, rfl, rfl, ?_⟩
  exact hK
def sX2_init : gS := fun av es K => av = [.ref 0] ∧ es = [.inr (2, [.null, .null])] ∧ K none (moE (fun _ => -1) (fun _ => 0))
def rmX2_init : Room := { frames := 1, cells := 2, slots := 96, locals := 60 }
def pX2_init (K : gK) : List (Nat × gO) := [(0, oF (oALoad 0)), (1, oObj 60), (4, oALoad 0), (5, oConst (nI 64)), (7, oNewA 2 96 1 0), (9, oF (oPutR 2 0)), (12, oF (oALoad 0)), (13, oConst (nI 32)), (15, oNewA 2 96 1 0), (17, oF (oPutR 2 1)), (20, oConst (nI 0)), (21, oF (oIStore 2 1)), (22, oF (oILoad 1)), (23, oALoad 0), (24, oGet 2 0), (27, oALen), (28, oICmp_ge 44), (31, oALoad 0), (32, oGet 2 0), (35, oILoad 1), (36, oConst (-1)), (37, oIASt), (38, oF (oIInc 2 1 (nI 1))), (41, oGoto 22), (44, oF (oRetV K 2 96))]
set_option maxRecDepth 100000 in
theorem kX2_init {X : gX} {l : Launch} (hM : gM X l cX2_init RX2 wsX2_init rmX2_init) {K : gK} (hE : gR X K 2 96 none) (hin : gInit X) (hA0 : gN0 X 1) (hnL : X.2.2.2.2.2.2.2.2.2.2.2.2.2.2.2.2 = 2) : okL X (pX2_init K) := by
  obtain ⟨p, l1, e, R, s, m, args, below, meth, c, D, cA, A, ag, ad0, Q, nL⟩ := X
  cases hnL
  refine ⟨ok_F (ok_aload_n hM 0 dX2_init_0 rfl),
    ok_obj hM (List.mem_of_getElem? (i := 1) rfl) (List.mem_of_getElem? (i := 2) rfl) (List.mem_of_getElem? (i := 3) rfl) (by decide) dX2_init_1,
    ok_aload_n hM 0 dX2_init_4 rfl,
    ok_bipush hM dX2_init_5 rfl,
    ok_newa0 hM hA0 (List.mem_of_getElem? (i := 4) rfl) dX2_init_7,
    ok_F (ok_putRAF (ct := .int) (C := RX2) (T := TX2) (Nf := 2) hM (fun _ h => List.mem_cons_of_mem _ (List.mem_append_right _ h)) tyX2 tyX2_ok nmX2 rfl 0 (by decide) (List.mem_of_getElem? (i := 5) rfl) rfl rfl hin rfl (by decide +kernel) dX2_init_9),
    ok_F (ok_aload_n hM 0 dX2_init_12 rfl),
    ok_bipush hM dX2_init_13 rfl,
    ok_newa0 hM hA0 (List.mem_of_getElem? (i := 4) rfl) dX2_init_15,
    ok_F (ok_putRAF (ct := .int) (C := RX2) (T := TX2) (Nf := 2) hM (fun _ h => List.mem_cons_of_mem _ (List.mem_append_right _ h)) tyX2 tyX2_ok nmX2 rfl 1 (by decide) (List.mem_of_getElem? (i := 6) rfl) rfl rfl hin rfl (by decide +kernel) dX2_init_17),
    ok_iconst hM dX2_init_20 rfl,
    ok_F (ok_istore_n hM 1 dX2_init_21 rfl),
    ok_F (ok_iload_n hM 1 dX2_init_22 rfl),
    ok_aload_n hM 0 dX2_init_23 rfl,
    ok_get (C := RX2) (T := TX2) (Nf := 2) hM (fun _ h => List.mem_cons_of_mem _ (List.mem_append_right _ h)) rfl 0 (by decide) (List.mem_of_getElem? (i := 5) rfl) rfl dX2_init_24,
    ok_alen hM dX2_init_27,
    ok_icmp_ge hM 44 dX2_init_28 (by decide),
    ok_aload_n hM 0 dX2_init_31 rfl,
    ok_get (C := RX2) (T := TX2) (Nf := 2) hM (fun _ h => List.mem_cons_of_mem _ (List.mem_append_right _ h)) rfl 0 (by decide) (List.mem_of_getElem? (i := 5) rfl) rfl dX2_init_32,
    ok_iload_n hM 1 dX2_init_35 rfl,
    ok_iconst hM dX2_init_36 rfl,
    ok_iast hM dX2_init_37,
    ok_F (ok_iinc hM 1 dX2_init_38 rfl),
    ok_goto hM 22 dX2_init_41 (by decide),
    ok_F (ok_retV hM hE dX2_init_44),
    trivial⟩
set_option maxRecDepth 100000 in
theorem ctX2_init (l : Launch) : Ct l yX2_init wsX2_init rmX2_init 2 96 true sX2_init := by
  refine ct_of (own := RX2) (cc := cX2_init) (maxL := 2) (ret := none) (by decide) rfl rfl (by rintro _ _ _ ⟨rfl, rfl, hK⟩; exact Nat.le_of_ble_eq_true rfl) ?_
  intro X av es K hM hE hag hin hnL hsp
  obtain ⟨rfl, rfl, hK⟩ := hsp
  have hf := kX2_init hM (gR_eqv hE) (hin rfl) (gN0_of hag) hnL
  refine g_with (X := X) 22 [0, 1] (fun μ vs es k n => ∃ (i : Nat) (f : Nat → Int32), μ = 64 - i ∧ i ≤ 64 ∧ (∀ j, j < i → f j = -1) ∧ vs = [.ref 0, .int (nI i)] ∧ es = moE f (fun _ => 0) ∧ k = 2 ∧ n = 96) cut_nil (fun μ hc vs es k n hI => ?_) (fun hc => ?_)
  · obtain ⟨i, f, rfl, hi, hfi, rfl, rfl, rfl, rfl⟩ := hI
    refine g_go hf hc 5 ?_
    refine ⟨fun h => ?_, fun h => ?_⟩
    · have h4 : i = 64 := by
        rw [nI_leI (by decide) (by omega)] at h
        omega
      subst h4
      exact ⟨moE (fun _ => -1) (fun _ => 0), ⟨rfl, ⟨rfl, rfl, fun j hj => hfi j hj⟩, eqE_rfl _, trivial⟩, hK⟩
    · have h4 : i < 64 := by
        rw [nI_leI (by decide) (by omega)] at h
        omega
      refine ⟨i, rfl, h4, ?_⟩
      refine ⟨64 - (i + 1), by omega, i + 1, upd f i (-1), rfl, by omega, fun j hj => ?_, by rw [nI_add], rfl, rfl, rfl⟩
      unfold upd
      by_cases h6 : j = i
      · rw [if_pos h6]
      · rw [if_neg h6]
        exact hfi j (by omega)
  · refine wr_ok hf hc 5 0 _ _ _ _ _ ?_
    refine ⟨1, 64, rfl, rfl, ?_⟩
    refine ⟨2, 32, rfl, rfl, ?_⟩
    exact ⟨64, 0, fun _ => 0, rfl, by omega, fun j hj => by omega, rfl, rfl, rfl, rfl⟩
end MI1
end
section
/-! Constructors of Places and State. -/
section MI2
abbrev owI : Nat → Int32 := fun j => nI (j % 4)
abbrev m1I : Nat → Int32 := fun _ => -1
abbrev z0I : Nat → Int32 := fun _ => 0
def sX3_init : gS := fun av es K => av = [.ref 0] ∧ es = [.inr (3, [.null, .null, .null])] ∧ K none (plE owI m1I z0I)
def rmX3_init : Room := { frames := 1, cells := 3, slots := 72, locals := 60 }
def pX3_init (K : gK) : List (Nat × gO) := [(0, oF (oALoad 0)), (1, oObj 60), (4, oALoad 0), (5, oConst (nI 8)), (7, oNewA 3 72 1 0), (9, oF (oPutR 3 0)), (12, oF (oALoad 0)), (13, oConst (nI 32)), (15, oNewA 3 72 1 0), (17, oF (oPutR 3 1)), (20, oF (oALoad 0)), (21, oConst (nI 32)), (23, oNewA 3 72 1 0), (25, oF (oPutR 3 2)), (28, oConst (nI 0)), (29, oF (oIStore 2 1)), (30, oF (oILoad 1)), (31, oConst (nI 8)), (33, oICmp_ge 51), (36, oALoad 0), (37, oGet 3 0), (40, oILoad 1), (41, oILoad 1), (42, oConst (nI 4)), (43, oRem), (44, oIASt), (45, oF (oIInc 2 1 (nI 1))), (48, oGoto 30), (51, oConst (nI 0)), (52, oF (oIStore 2 1)), (53, oF (oILoad 1)), (54, oConst (nI 32)), (56, oICmp_ge 72), (59, oALoad 0), (60, oGet 3 1), (63, oILoad 1), (64, oConst (-1)), (65, oIASt), (66, oF (oIInc 2 1 (nI 1))), (69, oGoto 53), (72, oF (oRetV K 3 72))]
set_option maxRecDepth 100000 in
theorem kX3_init {X : gX} {l : Launch} (hM : gM X l cX3_init RX3 wsX3_init rmX3_init) {K : gK} (hE : gR X K 3 72 none) (hin : gInit X) (hA0 : gN0 X 1) (hnL : X.2.2.2.2.2.2.2.2.2.2.2.2.2.2.2.2 = 2) : okL X (pX3_init K) := by
  obtain ⟨p, l1, e, R, s, m, args, below, meth, c, D, cA, A, ag, ad0, Q, nL⟩ := X
  cases hnL
  refine ⟨ok_F (ok_aload_n hM 0 dX3_init_0 rfl),
    ok_obj hM (List.mem_of_getElem? (i := 1) rfl) (List.mem_of_getElem? (i := 2) rfl) (List.mem_of_getElem? (i := 3) rfl) (by decide) dX3_init_1,
    ok_aload_n hM 0 dX3_init_4 rfl,
    ok_bipush hM dX3_init_5 rfl,
    ok_newa0 hM hA0 (List.mem_of_getElem? (i := 4) rfl) dX3_init_7,
    ok_F (ok_putRAF (ct := .int) (C := RX3) (T := TX3) (Nf := 3) hM (fun _ h => List.mem_cons_of_mem _ (List.mem_append_right _ h)) tyX3 tyX3_ok nmX3 rfl 0 (by decide) (List.mem_of_getElem? (i := 5) rfl) rfl rfl hin rfl (by decide +kernel) dX3_init_9),
    ok_F (ok_aload_n hM 0 dX3_init_12 rfl),
    ok_bipush hM dX3_init_13 rfl,
    ok_newa0 hM hA0 (List.mem_of_getElem? (i := 4) rfl) dX3_init_15,
    ok_F (ok_putRAF (ct := .int) (C := RX3) (T := TX3) (Nf := 3) hM (fun _ h => List.mem_cons_of_mem _ (List.mem_append_right _ h)) tyX3 tyX3_ok nmX3 rfl 1 (by decide) (List.mem_of_getElem? (i := 6) rfl) rfl rfl hin rfl (by decide +kernel) dX3_init_17),
    ok_F (ok_aload_n hM 0 dX3_init_20 rfl),
    ok_bipush hM dX3_init_21 rfl,
    ok_newa0 hM hA0 (List.mem_of_getElem? (i := 4) rfl) dX3_init_23,
    ok_F (ok_putRAF (ct := .int) (C := RX3) (T := TX3) (Nf := 3) hM (fun _ h => List.mem_cons_of_mem _ (List.mem_append_right _ h)) tyX3 tyX3_ok nmX3 rfl 2 (by decide) (List.mem_of_getElem? (i := 7) rfl) rfl rfl hin rfl (by decide +kernel) dX3_init_25),
    ok_iconst hM dX3_init_28 rfl,
    ok_F (ok_istore_n hM 1 dX3_init_29 rfl),
    ok_F (ok_iload_n hM 1 dX3_init_30 rfl),
    ok_bipush hM dX3_init_31 rfl,
    ok_icmp_ge hM 51 dX3_init_33 (by decide),
    ok_aload_n hM 0 dX3_init_36 rfl,
    ok_get (C := RX3) (T := TX3) (Nf := 3) hM (fun _ h => List.mem_cons_of_mem _ (List.mem_append_right _ h)) rfl 0 (by decide) (List.mem_of_getElem? (i := 5) rfl) rfl dX3_init_37,
    ok_iload_n hM 1 dX3_init_40 rfl,
    ok_iload_n hM 1 dX3_init_41 rfl,
    ok_iconst hM dX3_init_42 rfl,
    ok_irem hM dX3_init_43,
    ok_iast hM dX3_init_44,
    ok_F (ok_iinc hM 1 dX3_init_45 rfl),
    ok_goto hM 30 dX3_init_48 (by decide),
    ok_iconst hM dX3_init_51 rfl,
    ok_F (ok_istore_n hM 1 dX3_init_52 rfl),
    ok_F (ok_iload_n hM 1 dX3_init_53 rfl),
    ok_bipush hM dX3_init_54 rfl,
    ok_icmp_ge hM 72 dX3_init_56 (by decide),
    ok_aload_n hM 0 dX3_init_59 rfl,
    ok_get (C := RX3) (T := TX3) (Nf := 3) hM (fun _ h => List.mem_cons_of_mem _ (List.mem_append_right _ h)) rfl 1 (by decide) (List.mem_of_getElem? (i := 6) rfl) rfl dX3_init_60,
    ok_iload_n hM 1 dX3_init_63 rfl,
    ok_iconst hM dX3_init_64 rfl,
    ok_iast hM dX3_init_65,
    ok_F (ok_iinc hM 1 dX3_init_66 rfl),
    ok_goto hM 53 dX3_init_69 (by decide),
    ok_F (ok_retV hM hE dX3_init_72),
    trivial⟩
set_option maxRecDepth 100000 in
theorem ctX3_init (l : Launch) : Ct l yX3_init wsX3_init rmX3_init 3 72 true sX3_init := by
  refine ct_of (own := RX3) (cc := cX3_init) (maxL := 2) (ret := none) (by decide) rfl rfl (by rintro _ _ _ ⟨rfl, rfl, hK⟩; exact Nat.le_of_ble_eq_true rfl) ?_
  intro X av es K hM hE hag hin hnL hsp
  obtain ⟨rfl, rfl, hK⟩ := hsp
  have hf := kX3_init hM (gR_eqv hE) (hin rfl) (gN0_of hag) hnL
  refine g_with (X := X) 53 [0, 1] (fun μ vs es k n => ∃ (i : Nat) (f g : Nat → Int32), μ = 32 - i ∧ i ≤ 32 ∧ (∀ j, j < 8 → f j = nI (j % 4)) ∧ (∀ j, j < i → g j = -1) ∧ vs = [.ref 0, .int (nI i)] ∧ es = plE f g z0I ∧ k = 3 ∧ n = 72) cut_nil (fun μ hc vs es k n hI => ?_) (fun hc => ?_)
  · obtain ⟨i, f, g, rfl, hi, hf0, hg0, rfl, rfl, rfl, rfl⟩ := hI
    refine g_go hf hc 5 ?_
    refine ⟨fun h => ?_, fun h => ?_⟩
    · have h4 : i = 32 := by
        rw [nI_leI (by decide) (by omega)] at h
        omega
      subst h4
      exact ⟨plE owI m1I z0I, ⟨rfl, ⟨rfl, rfl, fun j hj => hf0 j hj⟩, ⟨rfl, rfl, fun j hj => hg0 j hj⟩, eqE_rfl _, trivial⟩, hK⟩
    · have h4 : i < 32 := by
        rw [nI_leI (by decide) (by omega)] at h
        omega
      refine ⟨i, rfl, h4, ?_⟩
      refine ⟨32 - (i + 1), by omega, i + 1, f, upd g i (-1), rfl, by omega, hf0, fun j hj => ?_, by rw [nI_add], rfl, rfl, rfl⟩
      unfold upd
      by_cases h6 : j = i
      · rw [if_pos h6]
      · rw [if_neg h6]
        exact hg0 j (by omega)
  · refine g_with (X := X) 30 [0, 1] (fun μ vs es k n => ∃ (i : Nat) (f : Nat → Int32), μ = 8 - i ∧ i ≤ 8 ∧ (∀ j, j < i → f j = nI (j % 4)) ∧ vs = [.ref 0, .int (nI i)] ∧ es = plE f z0I z0I ∧ k = 3 ∧ n = 72) hc (fun μ hc2 vs es k n hI => ?_) (fun hc2 => ?_)
    · obtain ⟨i, f, rfl, hi, hf0, rfl, rfl, rfl, rfl⟩ := hI
      refine g_go hf hc2 5 ?_
      refine ⟨fun h => ?_, fun h => ?_⟩
      · have h4 : i = 8 := by
          rw [nI_leI (by decide) (by omega)] at h
          omega
        subst h4
        exact ⟨32, 0, f, z0I, rfl, by omega, hf0, fun j hj => by omega, rfl, rfl, rfl, rfl⟩
      · have h4 : i < 8 := by
          rw [nI_leI (by decide) (by omega)] at h
          omega
        refine ⟨by decide, ?_⟩
        refine ⟨i, rfl, h4, ?_⟩
        refine ⟨8 - (i + 1), by omega, i + 1, upd f i (nI (i % 4)), rfl, by omega, fun j hj => ?_, by rw [nI_add], by rw [rem4 (by omega)], rfl, rfl⟩
        unfold upd
        by_cases h6 : j = i
        · rw [if_pos h6, h6]
        · rw [if_neg h6]
          exact hf0 j (by omega)
    · refine wr_ok hf hc2 5 0 _ _ _ _ _ ?_
      refine ⟨1, 8, rfl, rfl, ?_⟩
      refine ⟨2, 32, rfl, rfl, ?_⟩
      refine ⟨3, 32, rfl, rfl, ?_⟩
      exact ⟨8, 0, z0I, rfl, by omega, fun j hj => by omega, rfl, rfl, rfl, rfl⟩
/-- the state at the beginning -/
abbrev vIni : gV := (owI, m1I, z0I, m1I, z0I, fun _ => nI 1, z0I, 0, 0)
def sX4_init : gS := fun av es K => av = [.ref 0] ∧ es = [.inr (4, [.null, .null, .null, .null, .int 0, .int 0])] ∧ K none (st0 vIni)
def rmX4_init : Room := { frames := 2, cells := 9, slots := 193, locals := 81 }
def pX4_init (K : gK) : List (Nat × gO) := [(0, oF (oALoad 0)), (1, oObj 81), (4, oALoad 0), (5, oNew 9 193 1 3 3 [.null, .null, .null]), (8, oF (oDup)), (9, oCallI 9 193 3 72 1 sX3_init), (12, oF (oPutR 4 0)), (15, oF (oALoad 0)), (16, oNew 9 193 1 2 2 [.null, .null]), (19, oF (oDup)), (20, oCallI 9 193 2 96 1 sX2_init), (23, oF (oPutR 4 1)), (26, oF (oALoad 0)), (27, oConst (nI 4)), (28, oNewA 9 193 1 0), (30, oF (oPutR 4 2)), (33, oF (oALoad 0)), (34, oConst (nI 16)), (36, oNewA 9 193 1 0), (38, oF (oPutR 4 3)), (41, oF (oALoad 0)), (42, oConst (nI 0)), (43, oPutI 4 4), (46, oF (oALoad 0)), (47, oConst (nI 0)), (48, oPutI 4 5), (51, oConst (nI 0)), (52, oF (oIStore 2 1)), (53, oF (oILoad 1)), (54, oConst (nI 4)), (55, oICmp_ge 71), (58, oALoad 0), (59, oGet 4 2), (62, oILoad 1), (63, oConst (nI 1)), (64, oIASt), (65, oF (oIInc 2 1 (nI 1))), (68, oGoto 53), (71, oF (oRetV K 9 193))]
set_option maxRecDepth 100000 in
theorem kX4_init {X : gX} {l : Launch} (hM : gM X l cX4_init RX4 wsX4_init rmX4_init) {K : gK} (hE : gR X K 9 193 none) (hin : gInit X) (hA0 : gN0 X 1) (hnL : X.2.2.2.2.2.2.2.2.2.2.2.2.2.2.2.2 = 2) : okL X (pX4_init K) := by
  obtain ⟨p, l1, e, R, s, m, args, below, meth, c, D, cA, A, ag, ad0, Q, nL⟩ := X
  cases hnL
  refine ⟨ok_F (ok_aload_n hM 0 dX4_init_0 rfl),
    ok_obj hM (List.mem_of_getElem? (i := 1) rfl) (List.mem_of_getElem? (i := 2) rfl) (List.mem_of_getElem? (i := 3) rfl) (by decide) dX4_init_1,
    ok_aload_n hM 0 dX4_init_4 rfl,
    ok_new (C := RX3) (T := TX3) hM hA0 (fun _ h => List.mem_cons_of_mem _ (List.mem_append_left _ (List.mem_append_left _ (List.mem_append_right _ h)))) tyX3 tyX3_ok (List.mem_of_getElem? (i := 4) rfl) (List.mem_of_getElem? (i := 5) rfl) (List.mem_of_getElem? (i := 6) rfl) rfl (by decide) dX4_init_5,
    ok_F (ok_dup hM dX4_init_8),
    ok_callI hM hA0 (ctX3_init l) gX4_init_X3_init rfl rfl rfl (List.mem_of_getElem? (i := 17) rfl) (List.mem_of_getElem? (i := 6) rfl) (List.mem_of_getElem? (i := 18) rfl) rfl (by decide +kernel) (by decide) dX4_init_9,
    ok_F (ok_putRF (cn := "PartitionedCache$Places") (C := RX4) (T := TX4) (Nf := 6) hM (fun _ h => List.mem_cons_of_mem _ (List.mem_append_left _ (List.mem_append_right _ h))) tyX4 tyX4_ok nmX4 rfl 0 (by decide) (List.mem_of_getElem? (i := 7) rfl) rfl rfl hin rfl (by decide +kernel) dX4_init_12),
    ok_F (ok_aload_n hM 0 dX4_init_15 rfl),
    ok_new (C := RX2) (T := TX2) hM hA0 (fun _ h => List.mem_cons_of_mem _ (List.mem_append_right _ h)) tyX2 tyX2_ok (List.mem_of_getElem? (i := 8) rfl) (List.mem_of_getElem? (i := 9) rfl) (List.mem_of_getElem? (i := 10) rfl) rfl (by decide) dX4_init_16,
    ok_F (ok_dup hM dX4_init_19),
    ok_callI hM hA0 (ctX2_init l) gX4_init_X2_init rfl rfl rfl (List.mem_of_getElem? (i := 24) rfl) (List.mem_of_getElem? (i := 10) rfl) (List.mem_of_getElem? (i := 25) rfl) rfl (by decide +kernel) (by decide) dX4_init_20,
    ok_F (ok_putRF (cn := "PartitionedCache$Monitors") (C := RX4) (T := TX4) (Nf := 6) hM (fun _ h => List.mem_cons_of_mem _ (List.mem_append_left _ (List.mem_append_right _ h))) tyX4 tyX4_ok nmX4 rfl 1 (by decide) (List.mem_of_getElem? (i := 11) rfl) rfl rfl hin rfl (by decide +kernel) dX4_init_23),
    ok_F (ok_aload_n hM 0 dX4_init_26 rfl),
    ok_iconst hM dX4_init_27 rfl,
    ok_newa0 hM hA0 (List.mem_of_getElem? (i := 12) rfl) dX4_init_28,
    ok_F (ok_putRAF (ct := .int) (C := RX4) (T := TX4) (Nf := 6) hM (fun _ h => List.mem_cons_of_mem _ (List.mem_append_left _ (List.mem_append_right _ h))) tyX4 tyX4_ok nmX4 rfl 2 (by decide) (List.mem_of_getElem? (i := 13) rfl) rfl rfl hin rfl (by decide +kernel) dX4_init_30),
    ok_F (ok_aload_n hM 0 dX4_init_33 rfl),
    ok_bipush hM dX4_init_34 rfl,
    ok_newa0 hM hA0 (List.mem_of_getElem? (i := 12) rfl) dX4_init_36,
    ok_F (ok_putRAF (ct := .int) (C := RX4) (T := TX4) (Nf := 6) hM (fun _ h => List.mem_cons_of_mem _ (List.mem_append_left _ (List.mem_append_right _ h))) tyX4 tyX4_ok nmX4 rfl 3 (by decide) (List.mem_of_getElem? (i := 14) rfl) rfl rfl hin rfl (by decide +kernel) dX4_init_38),
    ok_F (ok_aload_n hM 0 dX4_init_41 rfl),
    ok_iconst hM dX4_init_42 rfl,
    ok_putI (C := RX4) (T := TX4) (Nf := 6) hM (fun _ h => List.mem_cons_of_mem _ (List.mem_append_left _ (List.mem_append_right _ h))) tyX4 tyX4_ok nmX4 rfl 4 (by decide) (List.mem_of_getElem? (i := 15) rfl) rfl rfl (by decide +kernel) dX4_init_43,
    ok_F (ok_aload_n hM 0 dX4_init_46 rfl),
    ok_iconst hM dX4_init_47 rfl,
    ok_putI (C := RX4) (T := TX4) (Nf := 6) hM (fun _ h => List.mem_cons_of_mem _ (List.mem_append_left _ (List.mem_append_right _ h))) tyX4 tyX4_ok nmX4 rfl 5 (by decide) (List.mem_of_getElem? (i := 16) rfl) rfl rfl (by decide +kernel) dX4_init_48,
    ok_iconst hM dX4_init_51 rfl,
    ok_F (ok_istore_n hM 1 dX4_init_52 rfl),
    ok_F (ok_iload_n hM 1 dX4_init_53 rfl),
    ok_iconst hM dX4_init_54 rfl,
    ok_icmp_ge hM 71 dX4_init_55 (by decide),
    ok_aload_n hM 0 dX4_init_58 rfl,
    ok_get (C := RX4) (T := TX4) (Nf := 6) hM (fun _ h => List.mem_cons_of_mem _ (List.mem_append_left _ (List.mem_append_right _ h))) rfl 2 (by decide) (List.mem_of_getElem? (i := 13) rfl) rfl dX4_init_59,
    ok_iload_n hM 1 dX4_init_62 rfl,
    ok_iconst hM dX4_init_63 rfl,
    ok_iast hM dX4_init_64,
    ok_F (ok_iinc hM 1 dX4_init_65 rfl),
    ok_goto hM 53 dX4_init_68 (by decide),
    ok_F (ok_retV hM hE dX4_init_71),
    trivial⟩
set_option maxRecDepth 100000 in
theorem ctX4_init (l : Launch) : Ct l yX4_init wsX4_init rmX4_init 9 193 true sX4_init := by
  refine ct_of (own := RX4) (cc := cX4_init) (maxL := 2) (ret := none) (by decide) rfl rfl (by rintro _ _ _ ⟨rfl, rfl, hK⟩; exact Nat.le_of_ble_eq_true rfl) ?_
  intro X av es K hM hE hag hin hnL hsp
  obtain ⟨rfl, rfl, hK⟩ := hsp
  have hf := kX4_init hM (gR_eqv hE) (hin rfl) (gN0_of hag) hnL
  refine g_with (X := X) 53 [0, 1] (fun μ vs es k n => ∃ (i : Nat) (f : Nat → Int32), μ = 4 - i ∧ i ≤ 4 ∧ (∀ j, j < i → f j = nI 1) ∧ vs = [.ref 0, .int (nI i)] ∧ es = st0 (owI, m1I, z0I, m1I, z0I, f, z0I, 0, 0) ∧ k = 9 ∧ n = 193) cut_nil (fun μ hc vs es k n hI => ?_) (fun hc => ?_)
  · obtain ⟨i, f, rfl, hi, hf0, rfl, rfl, rfl, rfl⟩ := hI
    refine g_go hf hc 5 ?_
    refine ⟨fun h => ?_, fun h => ?_⟩
    · have h4 : i = 4 := by
        rw [nI_leI (by decide) (by omega)] at h
        omega
      subst h4
      exact ⟨st0 vIni, ⟨rfl, rfl, eqE_rfl _, eqE_rfl _, eqE_rfl _, rfl, eqE_rfl _, eqE_rfl _, ⟨rfl, rfl, fun j hj => hf0 j hj⟩, eqE_rfl _, trivial⟩, hK⟩
    · have h4 : i < 4 := by
        rw [nI_leI (by decide) (by omega)] at h
        omega
      refine ⟨i, rfl, h4, ?_⟩
      refine ⟨4 - (i + 1), by omega, i + 1, upd f i (nI 1), rfl, by omega, fun j hj => ?_, by rw [nI_add], rfl, rfl, rfl⟩
      unfold upd
      by_cases h6 : j = i
      · rw [if_pos h6]
      · rw [if_neg h6]
        exact hf0 j (by omega)
  · refine wr_ok hf hc 5 0 _ _ _ _ _ ?_
    refine ⟨1, rfl, ?_⟩
    refine ⟨2, rfl, rfl, rfl, ?_⟩
    refine ⟨5, rfl, ?_⟩
    refine ⟨6, rfl, rfl, rfl, ?_⟩
    refine ⟨8, 4, rfl, rfl, ?_⟩
    refine ⟨9, 16, rfl, rfl, ?_⟩
    exact ⟨4, 0, z0I, rfl, by omega, fun j hj => by omega, rfl, rfl, rfl, rfl⟩
end MI2
end
section
/-! Constructors of History and PartitionedCache. -/
section MI3
abbrev st15 (v : gV) : List gE := [.inr (4, [.ref 16, .ref 20, .ref 23, .ref 24, .int (vEp v), .int (vAc v)]), .inr (3, [.ref 17, .ref 18, .ref 19]), .inl (0, 8, .inl (vOw v)), .inl (0, 32, .inl (vHd v)), .inl (0, 32, .inl (vSt v)), .inr (2, [.ref 21, .ref 22]), .inl (0, 64, .inl (vAd v)), .inl (0, 32, .inl (vGa v)), .inl (0, 4, .inl (vLe v)), .inl (0, 16, .inl (vCo v))]
abbrev st25 (v : gV) : List gE := [.inr (4, [.ref 26, .ref 30, .ref 33, .ref 34, .int (vEp v), .int (vAc v)]), .inr (3, [.ref 27, .ref 28, .ref 29]), .inl (0, 8, .inl (vOw v)), .inl (0, 32, .inl (vHd v)), .inl (0, 32, .inl (vSt v)), .inr (2, [.ref 31, .ref 32]), .inl (0, 64, .inl (vAd v)), .inl (0, 32, .inl (vGa v)), .inl (0, 4, .inl (vLe v)), .inl (0, 16, .inl (vCo v))]
abbrev st35 (v : gV) : List gE := [.inr (4, [.ref 36, .ref 40, .ref 43, .ref 44, .int (vEp v), .int (vAc v)]), .inr (3, [.ref 37, .ref 38, .ref 39]), .inl (0, 8, .inl (vOw v)), .inl (0, 32, .inl (vHd v)), .inl (0, 32, .inl (vSt v)), .inr (2, [.ref 41, .ref 42]), .inl (0, 64, .inl (vAd v)), .inl (0, 32, .inl (vGa v)), .inl (0, 4, .inl (vLe v)), .inl (0, 16, .inl (vCo v))]
abbrev st45 (v : gV) : List gE := [.inr (4, [.ref 46, .ref 50, .ref 53, .ref 54, .int (vEp v), .int (vAc v)]), .inr (3, [.ref 47, .ref 48, .ref 49]), .inl (0, 8, .inl (vOw v)), .inl (0, 32, .inl (vHd v)), .inl (0, 32, .inl (vSt v)), .inr (2, [.ref 51, .ref 52]), .inl (0, 64, .inl (vAd v)), .inl (0, 32, .inl (vGa v)), .inl (0, 4, .inl (vLe v)), .inl (0, 16, .inl (vCo v))]
abbrev st55 (v : gV) : List gE := [.inr (4, [.ref 56, .ref 60, .ref 63, .ref 64, .int (vEp v), .int (vAc v)]), .inr (3, [.ref 57, .ref 58, .ref 59]), .inl (0, 8, .inl (vOw v)), .inl (0, 32, .inl (vHd v)), .inl (0, 32, .inl (vSt v)), .inr (2, [.ref 61, .ref 62]), .inl (0, 64, .inl (vAd v)), .inl (0, 32, .inl (vGa v)), .inl (0, 4, .inl (vLe v)), .inl (0, 16, .inl (vCo v))]
abbrev st65 (v : gV) : List gE := [.inr (4, [.ref 66, .ref 70, .ref 73, .ref 74, .int (vEp v), .int (vAc v)]), .inr (3, [.ref 67, .ref 68, .ref 69]), .inl (0, 8, .inl (vOw v)), .inl (0, 32, .inl (vHd v)), .inl (0, 32, .inl (vSt v)), .inr (2, [.ref 71, .ref 72]), .inl (0, 64, .inl (vAd v)), .inl (0, 32, .inl (vGa v)), .inl (0, 4, .inl (vLe v)), .inl (0, 16, .inl (vCo v))]
def hsI : Nat → List gE
  | 0 => .inr (1, [.ref 1, .int (nI 0), .int (nI 0)]) :: .inl (5, 6, .inr (.inr (.inr [none, none, none, none, none, none]))) :: ([])
  | 1 => .inr (1, [.ref 1, .int (nI 0), .int (nI 0)]) :: .inl (5, 6, .inr (.inr (.inr [some 2, none, none, none, none, none]))) :: (st2 vIni ++ ([]))
  | 2 => .inr (1, [.ref 1, .int (nI 0), .int (nI 0)]) :: .inl (5, 6, .inr (.inr (.inr [some 2, some 12, none, none, none, none]))) :: (st2 vIni ++ (st12 vIni ++ ([])))
  | 3 => .inr (1, [.ref 1, .int (nI 0), .int (nI 0)]) :: .inl (5, 6, .inr (.inr (.inr [some 2, some 12, some 22, none, none, none]))) :: (st2 vIni ++ (st12 vIni ++ (st22 vIni ++ ([]))))
  | 4 => .inr (1, [.ref 1, .int (nI 0), .int (nI 0)]) :: .inl (5, 6, .inr (.inr (.inr [some 2, some 12, some 22, some 32, none, none]))) :: (st2 vIni ++ (st12 vIni ++ (st22 vIni ++ (st32 vIni ++ ([])))))
  | 5 => .inr (1, [.ref 1, .int (nI 0), .int (nI 0)]) :: .inl (5, 6, .inr (.inr (.inr [some 2, some 12, some 22, some 32, some 42, none]))) :: (st2 vIni ++ (st12 vIni ++ (st22 vIni ++ (st32 vIni ++ (st42 vIni ++ ([]))))))
  | _ => .inr (1, [.ref 1, .int (nI 0), .int (nI 0)]) :: .inl (5, 6, .inr (.inr (.inr [some 2, some 12, some 22, some 32, some 42, some 52]))) :: (st2 vIni ++ (st12 vIni ++ (st22 vIni ++ (st32 vIni ++ (st42 vIni ++ (st52 vIni ++ ([])))))))
def sX1_init : gS := fun av es K => av = [.ref 0] ∧ es = [.inr (1, [.null, .int 0, .int 0])] ∧ K none (hs0 (fun _ => vIni) (nI 0) (nI 0))
def rmX1_init : Room := { frames := 3, cells := 61, slots := 1200, locals := 102 }
def pX1_init (K : gK) : List (Nat × gO) := [(0, oF (oALoad 0)), (1, oObj 102), (4, oALoad 0), (5, oConst (nI 6)), (7, oNewQ 61 1200 1), (10, oF (oPutR 1 0)), (13, oF (oALoad 0)), (14, oConst (nI 0)), (15, oPutI 1 1), (18, oF (oALoad 0)), (19, oConst (nI 0)), (20, oPutI 1 2), (23, oConst (nI 0)), (24, oF (oIStore 2 1)), (25, oF (oILoad 1)), (26, oConst (nI 6)), (28, oICmp_ge 50), (31, oALoad 0), (32, oGet 1 0), (35, oILoad 1), (36, oNew 61 1200 1 4 6 [.null, .null, .null, .null, .int 0, .int 0]), (39, oF (oDup)), (40, oCallI 61 1200 9 193 1 sX4_init), (43, oF (oAASt)), (44, oIInc 2 1 (nI 1)), (47, oGoto 25), (50, oF (oRetV K 61 1200))]
set_option maxRecDepth 100000 in
theorem kX1_init {X : gX} {l : Launch} (hM : gM X l cX1_init RX1 wsX1_init rmX1_init) {K : gK} (hE : gR X K 61 1200 none) (hin : gInit X) (hA0 : gN0 X 1) (hnL : X.2.2.2.2.2.2.2.2.2.2.2.2.2.2.2.2 = 2) : okL X (pX1_init K) := by
  obtain ⟨p, l1, e, R, s, m, args, below, meth, c, D, cA, A, ag, ad0, Q, nL⟩ := X
  cases hnL
  refine ⟨ok_F (ok_aload_n hM 0 dX1_init_0 rfl),
    ok_obj hM (List.mem_of_getElem? (i := 1) rfl) (List.mem_of_getElem? (i := 2) rfl) (List.mem_of_getElem? (i := 3) rfl) (by decide) dX1_init_1,
    ok_aload_n hM 0 dX1_init_4 rfl,
    ok_bipush hM dX1_init_5 rfl,
    ok_newq hM hA0 (List.mem_of_getElem? (i := 4) rfl) dX1_init_7,
    ok_F (ok_putRAF (ct := (.object "PartitionedCache$State")) (C := RX1) (T := TX1) (Nf := 3) hM (fun _ h => List.mem_cons_of_mem _ (List.mem_append_left _ (List.mem_append_left _ (List.mem_append_left _ (List.mem_append_right _ h))))) tyX1 tyX1_ok nmX1 rfl 0 (by decide) (List.mem_of_getElem? (i := 5) rfl) rfl rfl hin rfl (by decide +kernel) dX1_init_10),
    ok_F (ok_aload_n hM 0 dX1_init_13 rfl),
    ok_iconst hM dX1_init_14 rfl,
    ok_putI (C := RX1) (T := TX1) (Nf := 3) hM (fun _ h => List.mem_cons_of_mem _ (List.mem_append_left _ (List.mem_append_left _ (List.mem_append_left _ (List.mem_append_right _ h))))) tyX1 tyX1_ok nmX1 rfl 1 (by decide) (List.mem_of_getElem? (i := 6) rfl) rfl rfl (by decide +kernel) dX1_init_15,
    ok_F (ok_aload_n hM 0 dX1_init_18 rfl),
    ok_iconst hM dX1_init_19 rfl,
    ok_putI (C := RX1) (T := TX1) (Nf := 3) hM (fun _ h => List.mem_cons_of_mem _ (List.mem_append_left _ (List.mem_append_left _ (List.mem_append_left _ (List.mem_append_right _ h))))) tyX1 tyX1_ok nmX1 rfl 2 (by decide) (List.mem_of_getElem? (i := 7) rfl) rfl rfl (by decide +kernel) dX1_init_20,
    ok_iconst hM dX1_init_23 rfl,
    ok_F (ok_istore_n hM 1 dX1_init_24 rfl),
    ok_F (ok_iload_n hM 1 dX1_init_25 rfl),
    ok_bipush hM dX1_init_26 rfl,
    ok_icmp_ge hM 50 dX1_init_28 (by decide),
    ok_aload_n hM 0 dX1_init_31 rfl,
    ok_get (C := RX1) (T := TX1) (Nf := 3) hM (fun _ h => List.mem_cons_of_mem _ (List.mem_append_left _ (List.mem_append_left _ (List.mem_append_left _ (List.mem_append_right _ h))))) rfl 0 (by decide) (List.mem_of_getElem? (i := 5) rfl) rfl dX1_init_32,
    ok_iload_n hM 1 dX1_init_35 rfl,
    ok_new (C := RX4) (T := TX4) hM hA0 (fun _ h => List.mem_cons_of_mem _ (List.mem_append_left _ (List.mem_append_left _ (List.mem_append_right _ h)))) tyX4 tyX4_ok (List.mem_of_getElem? (i := 4) rfl) (List.mem_of_getElem? (i := 8) rfl) (List.mem_of_getElem? (i := 9) rfl) rfl (by decide) dX1_init_36,
    ok_F (ok_dup hM dX1_init_39),
    ok_callI hM hA0 (ctX4_init l) gX1_init_X4_init rfl rfl rfl (List.mem_of_getElem? (i := 10) rfl) (List.mem_of_getElem? (i := 9) rfl) (List.mem_of_getElem? (i := 11) rfl) rfl (by decide +kernel) (by decide) dX1_init_40,
    ok_F (ok_aast hM dX1_init_43),
    ok_iinc hM 1 dX1_init_44 rfl,
    ok_goto hM 25 dX1_init_47 (by decide),
    ok_F (ok_retV hM hE dX1_init_50),
    trivial⟩
set_option maxRecDepth 100000 in
theorem ctX1_init (l : Launch) : Ct l yX1_init wsX1_init rmX1_init 61 1200 true sX1_init := by
  refine ct_of (own := RX1) (cc := cX1_init) (maxL := 2) (ret := none) (by decide) rfl rfl (by rintro _ _ _ ⟨rfl, rfl, hK⟩; exact Nat.le_of_ble_eq_true rfl) ?_
  intro X av es K hM hE hag hin hnL hsp
  obtain ⟨rfl, rfl, hK⟩ := hsp
  have hf := kX1_init hM hE (hin rfl) (gN0_of hag) hnL
  refine g_with (X := X) 25 [0, 1] (fun μ vs es k n => ∃ i : Nat, μ = 6 - i ∧ i ≤ 6 ∧ vs = [.ref 0, .int (nI i)] ∧ es = hsI i ∧ k = 1 + 10 * i ∧ n = 6 + 199 * i) cut_nil (fun μ hc vs es k n hI => ?_) (fun hc => ?_)
  · obtain ⟨i, rfl, hi, rfl, rfl, rfl, rfl⟩ := hI
    have hi2 : i = 0 ∨ i = 1 ∨ i = 2 ∨ i = 3 ∨ i = 4 ∨ i = 5 ∨ i = 6 := by omega
    rcases hi2 with rfl | rfl | rfl | rfl | rfl | rfl | rfl
    · refine g_go hf hc 5 ?_
      refine ⟨fun h => absurd h (by decide +kernel), fun _ => ?_⟩
      refine ⟨2, rfl, ?_⟩
      refine ⟨3, rfl, rfl, rfl, ?_⟩
      refine ⟨0, rfl, by decide, ?_⟩
      exact ⟨6 - 1, by decide, 1, rfl, by decide, by rw [nI_add], rfl, rfl, rfl⟩
    · refine g_go hf hc 5 ?_
      refine ⟨fun h => absurd h (by decide +kernel), fun _ => ?_⟩
      refine ⟨12, rfl, ?_⟩
      refine ⟨13, rfl, rfl, rfl, ?_⟩
      refine ⟨1, rfl, by decide, ?_⟩
      exact ⟨6 - 2, by decide, 2, rfl, by decide, by rw [nI_add], rfl, rfl, rfl⟩
    · refine g_go hf hc 5 ?_
      refine ⟨fun h => absurd h (by decide +kernel), fun _ => ?_⟩
      refine ⟨22, rfl, ?_⟩
      refine ⟨23, rfl, rfl, rfl, ?_⟩
      refine ⟨2, rfl, by decide, ?_⟩
      exact ⟨6 - 3, by decide, 3, rfl, by decide, by rw [nI_add], rfl, rfl, rfl⟩
    · refine g_go hf hc 5 ?_
      refine ⟨fun h => absurd h (by decide +kernel), fun _ => ?_⟩
      refine ⟨32, rfl, ?_⟩
      refine ⟨33, rfl, rfl, rfl, ?_⟩
      refine ⟨3, rfl, by decide, ?_⟩
      exact ⟨6 - 4, by decide, 4, rfl, by decide, by rw [nI_add], rfl, rfl, rfl⟩
    · refine g_go hf hc 5 ?_
      refine ⟨fun h => absurd h (by decide +kernel), fun _ => ?_⟩
      refine ⟨42, rfl, ?_⟩
      refine ⟨43, rfl, rfl, rfl, ?_⟩
      refine ⟨4, rfl, by decide, ?_⟩
      exact ⟨6 - 5, by decide, 5, rfl, by decide, by rw [nI_add], rfl, rfl, rfl⟩
    · refine g_go hf hc 5 ?_
      refine ⟨fun h => absurd h (by decide +kernel), fun _ => ?_⟩
      refine ⟨52, rfl, ?_⟩
      refine ⟨53, rfl, rfl, rfl, ?_⟩
      refine ⟨5, rfl, by decide, ?_⟩
      exact ⟨6 - 6, by decide, 6, rfl, by decide, by rw [nI_add], rfl, rfl, rfl⟩
    · refine g_go hf hc 5 ?_
      refine ⟨fun _ => ?_, fun h => absurd (by decide +kernel) h⟩
      exact hK
  · refine wr_ok hf hc 5 0 _ _ _ _ _ ?_
    refine ⟨1, 6, rfl, rfl, ?_⟩
    exact ⟨6, 0, rfl, by decide, rfl, rfl, rfl, rfl⟩
abbrev hs13 (H : Nat → gV) (old sz : Int32) (r : List gE) : List gE := .inr (1, [.ref 14, .int old, .int sz]) :: .inl (5, 6, .inr (.inr (.inr [some 15, some 25, some 35, some 45, some 55, some 65]))) :: (st15 (H 0) ++ (st25 (H 1) ++ (st35 (H 2) ++ (st45 (H 3) ++ (st55 (H 4) ++ (st65 (H 5) ++ r))))))
/-- the whole cache as its constructor lays it -/
abbrev cr0 (r : List gE) : List gE := pcO 1 11 13 75 77 78 :: (st1 vIni ++ (.inr (5, [.ref 12]) :: .inl (0, 4, .inl z0I) :: hs13 (fun _ => vIni) (nI 0) (nI 0) (.inr (0, [.ref 76, .int (nI 0)]) :: .inl (1, 80, .inl z0I) :: r)))
def crI : Nat → List gE
  | 0 => cr0 (.inl (5, 2, .inr (.inr (.inr [none, none]))) :: .inl (2, 2, .inl z0I) :: ([]))
  | 1 => cr0 (.inl (5, 2, .inr (.inr (.inr [some 79, none]))) :: .inl (2, 2, .inl z0I) :: (st79 vIni ++ ([])))
  | _ => cr0 (.inl (5, 2, .inr (.inr (.inr [some 79, some 89]))) :: .inl (2, 2, .inl z0I) :: (st79 vIni ++ (st89 vIni ++ ([]))))
def sX6_init : gS := fun av es K => av = [.ref 0] ∧ es = [.inr (6, [.null, .null, .null, .null, .null, .null])] ∧ K none (cr0 (slX z0I vIni vIni))
def rmX6_init : Room := { frames := 4, cells := 98, slots := 1891, locals := 123 }
def pX6_init (K : gK) : List (Nat × gO) := [(0, oF (oALoad 0)), (1, oObj 123), (4, oALoad 0), (5, oNew 98 1891 1 4 6 [.null, .null, .null, .null, .int 0, .int 0]), (8, oF (oDup)), (9, oCallI 98 1891 9 193 1 sX4_init), (12, oF (oPutR 6 0)), (15, oF (oALoad 0)), (16, oNew 98 1891 1 5 1 [.null]), (19, oF (oDup)), (20, oCallI 98 1891 1 4 1 sX5_init), (23, oF (oPutR 6 1)), (26, oF (oALoad 0)), (27, oNew 98 1891 1 1 3 [.null, .int 0, .int 0]), (30, oF (oDup)), (31, oCallI 98 1891 61 1200 1 sX1_init), (34, oF (oPutR 6 2)), (37, oF (oALoad 0)), (38, oNew 98 1891 1 0 2 [.null, .int 0]), (41, oF (oDup)), (42, oCallI 98 1891 1 80 1 sX0_init), (45, oF (oPutR 6 3)), (48, oF (oALoad 0)), (49, oConst (nI 2)), (50, oNewQ 98 1891 1), (53, oF (oPutR 6 4)), (56, oF (oALoad 0)), (57, oConst (nI 2)), (58, oNewA 98 1891 1 2), (60, oF (oPutR 6 5)), (63, oConst (nI 0)), (64, oF (oIStore 2 1)), (65, oF (oILoad 1)), (66, oConst (nI 2)), (67, oICmp_ge 89), (70, oALoad 0), (71, oGet 6 4), (74, oILoad 1), (75, oNew 98 1891 1 4 6 [.null, .null, .null, .null, .int 0, .int 0]), (78, oF (oDup)), (79, oCallI 98 1891 9 193 1 sX4_init), (82, oF (oAASt)), (83, oIInc 2 1 (nI 1)), (86, oGoto 65), (89, oF (oRetV K 98 1891))]
set_option maxRecDepth 100000 in
theorem kX6_init {X : gX} {l : Launch} (hM : gM X l cX6_init RX6 wsX6_init rmX6_init) {K : gK} (hE : gR X K 98 1891 none) (hin : gInit X) (hA0 : gN0 X 1) (hnL : X.2.2.2.2.2.2.2.2.2.2.2.2.2.2.2.2 = 2) : okL X (pX6_init K) := by
  obtain ⟨p, l1, e, R, s, m, args, below, meth, c, D, cA, A, ag, ad0, Q, nL⟩ := X
  cases hnL
  refine ⟨ok_F (ok_aload_n hM 0 dX6_init_0 rfl),
    ok_obj hM (List.mem_of_getElem? (i := 1) rfl) (List.mem_of_getElem? (i := 2) rfl) (List.mem_of_getElem? (i := 3) rfl) (by decide) dX6_init_1,
    ok_aload_n hM 0 dX6_init_4 rfl,
    ok_new (C := RX4) (T := TX4) hM hA0 (fun _ h => List.mem_cons_of_mem _ (List.mem_append_left _ (List.mem_append_left _ (List.mem_append_left _ (List.mem_append_left _ (List.mem_append_left _ (List.mem_append_left _ (List.mem_append_right _ h)))))))) tyX4 tyX4_ok (List.mem_of_getElem? (i := 4) rfl) (List.mem_of_getElem? (i := 5) rfl) (List.mem_of_getElem? (i := 6) rfl) rfl (by decide) dX6_init_5,
    ok_F (ok_dup hM dX6_init_8),
    ok_callI hM hA0 (ctX4_init l) gX6_init_X4_init rfl rfl rfl (List.mem_of_getElem? (i := 23) rfl) (List.mem_of_getElem? (i := 6) rfl) (List.mem_of_getElem? (i := 24) rfl) rfl (by decide +kernel) (by decide) dX6_init_9,
    ok_F (ok_putRF (cn := "PartitionedCache$State") (C := RX6) (T := TX6) (Nf := 6) hM (fun _ h => List.mem_cons_of_mem _ (List.mem_append_left _ (List.mem_append_left _ (List.mem_append_left _ (List.mem_append_left _ (List.mem_append_left _ (List.mem_append_right _ h))))))) tyX6 tyX6_ok nmX6 rfl 0 (by decide) (List.mem_of_getElem? (i := 7) rfl) rfl rfl hin rfl (by decide +kernel) dX6_init_12),
    ok_F (ok_aload_n hM 0 dX6_init_15 rfl),
    ok_new (C := RX5) (T := TX5) hM hA0 (fun _ h => List.mem_cons_of_mem _ (List.mem_append_left _ (List.mem_append_left _ (List.mem_append_left _ (List.mem_append_left _ (List.mem_append_right _ h)))))) tyX5 tyX5_ok (List.mem_of_getElem? (i := 8) rfl) (List.mem_of_getElem? (i := 9) rfl) (List.mem_of_getElem? (i := 10) rfl) rfl (by decide) dX6_init_16,
    ok_F (ok_dup hM dX6_init_19),
    ok_callIN hM hA0 (ctX5_init l) gX6_init_X5_init_n18 rfl rfl rfl (by decide) (List.mem_of_getElem? (i := 10) rfl) (List.mem_of_getElem? (i := 53) rfl) rfl (by decide +kernel) (by decide) dX6_init_20,
    ok_F (ok_putRF (cn := "PartitionedCache$Targets") (C := RX6) (T := TX6) (Nf := 6) hM (fun _ h => List.mem_cons_of_mem _ (List.mem_append_left _ (List.mem_append_left _ (List.mem_append_left _ (List.mem_append_left _ (List.mem_append_left _ (List.mem_append_right _ h))))))) tyX6 tyX6_ok nmX6 rfl 1 (by decide) (List.mem_of_getElem? (i := 11) rfl) rfl rfl hin rfl (by decide +kernel) dX6_init_23),
    ok_F (ok_aload_n hM 0 dX6_init_26 rfl),
    ok_new (C := RX1) (T := TX1) hM hA0 (fun _ h => List.mem_cons_of_mem _ (List.mem_append_left _ (List.mem_append_left _ (List.mem_append_left _ (List.mem_append_right _ h))))) tyX1 tyX1_ok (List.mem_of_getElem? (i := 12) rfl) (List.mem_of_getElem? (i := 13) rfl) (List.mem_of_getElem? (i := 14) rfl) rfl (by decide) dX6_init_27,
    ok_F (ok_dup hM dX6_init_30),
    ok_callI hM hA0 (ctX1_init l) gX6_init_X1_init rfl rfl rfl (List.mem_of_getElem? (i := 57) rfl) (List.mem_of_getElem? (i := 14) rfl) (List.mem_of_getElem? (i := 58) rfl) rfl (by decide +kernel) (by decide) dX6_init_31,
    ok_F (ok_putRF (cn := "PartitionedCache$History") (C := RX6) (T := TX6) (Nf := 6) hM (fun _ h => List.mem_cons_of_mem _ (List.mem_append_left _ (List.mem_append_left _ (List.mem_append_left _ (List.mem_append_left _ (List.mem_append_left _ (List.mem_append_right _ h))))))) tyX6 tyX6_ok nmX6 rfl 2 (by decide) (List.mem_of_getElem? (i := 15) rfl) rfl rfl hin rfl (by decide +kernel) dX6_init_34),
    ok_F (ok_aload_n hM 0 dX6_init_37 rfl),
    ok_new (C := RX0) (T := TX0) hM hA0 (fun _ h => List.mem_cons_of_mem _ (List.mem_append_left _ (List.mem_append_left _ (List.mem_append_right _ h)))) tyX0 tyX0_ok (List.mem_of_getElem? (i := 16) rfl) (List.mem_of_getElem? (i := 17) rfl) (List.mem_of_getElem? (i := 18) rfl) rfl (by decide) dX6_init_38,
    ok_F (ok_dup hM dX6_init_41),
    ok_callIN hM hA0 (ctX0_init l) gX6_init_X0_init_n32 rfl rfl rfl (by decide) (List.mem_of_getElem? (i := 18) rfl) (List.mem_of_getElem? (i := 66) rfl) rfl (by decide +kernel) (by decide) dX6_init_42,
    ok_F (ok_putRF (cn := "PartitionedCache$CommandText") (C := RX6) (T := TX6) (Nf := 6) hM (fun _ h => List.mem_cons_of_mem _ (List.mem_append_left _ (List.mem_append_left _ (List.mem_append_left _ (List.mem_append_left _ (List.mem_append_left _ (List.mem_append_right _ h))))))) tyX6 tyX6_ok nmX6 rfl 3 (by decide) (List.mem_of_getElem? (i := 19) rfl) rfl rfl hin rfl (by decide +kernel) dX6_init_45),
    ok_F (ok_aload_n hM 0 dX6_init_48 rfl),
    ok_iconst hM dX6_init_49 rfl,
    ok_newq hM hA0 (List.mem_of_getElem? (i := 4) rfl) dX6_init_50,
    ok_F (ok_putRAF (ct := (.object "PartitionedCache$State")) (C := RX6) (T := TX6) (Nf := 6) hM (fun _ h => List.mem_cons_of_mem _ (List.mem_append_left _ (List.mem_append_left _ (List.mem_append_left _ (List.mem_append_left _ (List.mem_append_left _ (List.mem_append_right _ h))))))) tyX6 tyX6_ok nmX6 rfl 4 (by decide) (List.mem_of_getElem? (i := 20) rfl) rfl rfl hin rfl (by decide +kernel) dX6_init_53),
    ok_F (ok_aload_n hM 0 dX6_init_56 rfl),
    ok_iconst hM dX6_init_57 rfl,
    ok_newa2 hM hA0 (List.mem_of_getElem? (i := 21) rfl) dX6_init_58,
    ok_F (ok_putRAF (ct := .boolean) (C := RX6) (T := TX6) (Nf := 6) hM (fun _ h => List.mem_cons_of_mem _ (List.mem_append_left _ (List.mem_append_left _ (List.mem_append_left _ (List.mem_append_left _ (List.mem_append_left _ (List.mem_append_right _ h))))))) tyX6 tyX6_ok nmX6 rfl 5 (by decide) (List.mem_of_getElem? (i := 22) rfl) rfl rfl hin rfl (by decide +kernel) dX6_init_60),
    ok_iconst hM dX6_init_63 rfl,
    ok_F (ok_istore_n hM 1 dX6_init_64 rfl),
    ok_F (ok_iload_n hM 1 dX6_init_65 rfl),
    ok_iconst hM dX6_init_66 rfl,
    ok_icmp_ge hM 89 dX6_init_67 (by decide),
    ok_aload_n hM 0 dX6_init_70 rfl,
    ok_get (C := RX6) (T := TX6) (Nf := 6) hM (fun _ h => List.mem_cons_of_mem _ (List.mem_append_left _ (List.mem_append_left _ (List.mem_append_left _ (List.mem_append_left _ (List.mem_append_left _ (List.mem_append_right _ h))))))) rfl 4 (by decide) (List.mem_of_getElem? (i := 20) rfl) rfl dX6_init_71,
    ok_iload_n hM 1 dX6_init_74 rfl,
    ok_new (C := RX4) (T := TX4) hM hA0 (fun _ h => List.mem_cons_of_mem _ (List.mem_append_left _ (List.mem_append_left _ (List.mem_append_left _ (List.mem_append_left _ (List.mem_append_left _ (List.mem_append_left _ (List.mem_append_right _ h)))))))) tyX4 tyX4_ok (List.mem_of_getElem? (i := 4) rfl) (List.mem_of_getElem? (i := 5) rfl) (List.mem_of_getElem? (i := 6) rfl) rfl (by decide) dX6_init_75,
    ok_F (ok_dup hM dX6_init_78),
    ok_callI hM hA0 (ctX4_init l) gX6_init_X4_init rfl rfl rfl (List.mem_of_getElem? (i := 23) rfl) (List.mem_of_getElem? (i := 6) rfl) (List.mem_of_getElem? (i := 24) rfl) rfl (by decide +kernel) (by decide) dX6_init_79,
    ok_F (ok_aast hM dX6_init_82),
    ok_iinc hM 1 dX6_init_83 rfl,
    ok_goto hM 65 dX6_init_86 (by decide),
    ok_F (ok_retV hM hE dX6_init_89),
    trivial⟩
set_option maxRecDepth 100000 in
theorem ctX6_init (l : Launch) : Ct l yX6_init wsX6_init rmX6_init 98 1891 true sX6_init := by
  refine ct_of (own := RX6) (cc := cX6_init) (maxL := 2) (ret := none) (by decide) rfl rfl (by rintro _ _ _ ⟨rfl, rfl, hK⟩; exact Nat.le_of_ble_eq_true rfl) ?_
  intro X av es K hM hE hag hin hnL hsp
  obtain ⟨rfl, rfl, hK⟩ := hsp
  have hf := kX6_init hM hE (hin rfl) (gN0_of hag) hnL
  refine g_with (X := X) 65 [0, 1] (fun μ vs es k n => ∃ i : Nat, μ = 2 - i ∧ i ≤ 2 ∧ vs = [.ref 0, .int (nI i)] ∧ es = crI i ∧ k = 78 + 10 * i ∧ n = 1493 + 199 * i) cut_nil (fun μ hc vs es k n hI => ?_) (fun hc => ?_)
  · obtain ⟨i, rfl, hi, rfl, rfl, rfl, rfl⟩ := hI
    have hi2 : i = 0 ∨ i = 1 ∨ i = 2 := by omega
    rcases hi2 with rfl | rfl | rfl
    · refine g_go hf hc 5 ?_
      refine ⟨fun h => absurd h (by decide +kernel), fun _ => ?_⟩
      refine ⟨79, rfl, ?_⟩
      refine ⟨80, rfl, rfl, rfl, ?_⟩
      refine ⟨0, rfl, by decide, ?_⟩
      exact ⟨2 - 1, by decide, 1, rfl, by decide, by rw [nI_add], rfl, rfl, rfl⟩
    · refine g_go hf hc 5 ?_
      refine ⟨fun h => absurd h (by decide +kernel), fun _ => ?_⟩
      refine ⟨89, rfl, ?_⟩
      refine ⟨90, rfl, rfl, rfl, ?_⟩
      refine ⟨1, rfl, by decide, ?_⟩
      exact ⟨2 - 2, by decide, 2, rfl, by decide, by rw [nI_add], rfl, rfl, rfl⟩
    · refine g_go hf hc 5 ?_
      refine ⟨fun _ => ?_, fun h => absurd (by decide +kernel) h⟩
      exact hK
  · refine wr_ok hf hc 5 0 _ _ _ _ _ ?_
    refine ⟨1, rfl, ?_⟩
    refine ⟨2, rfl, rfl, rfl, ?_⟩
    refine ⟨11, rfl, ?_⟩
    refine ⟨12, rfl, rfl, rfl, ?_⟩
    refine ⟨13, rfl, ?_⟩
    refine ⟨14, rfl, rfl, rfl, ?_⟩
    refine ⟨75, rfl, ?_⟩
    refine ⟨76, rfl, rfl, rfl, ?_⟩
    refine ⟨77, 2, rfl, rfl, ?_⟩
    refine ⟨78, 2, rfl, rfl, ?_⟩
    exact ⟨2, 0, rfl, by decide, rfl, rfl, rfl, rfl⟩
end MI3
end
section
/-! The class's state: rows that whole's proof has too. -/
section PB1
def liK (ad : Nat → Int32) (q n : Nat) : Prop := (∀ j, j < n → ∃ a, a < 256 ∧ ad (q * 8 + j) = nI a) ∧ (∀ j, n ≤ j → j < 8 → ad (q * 8 + j) = -1) ∧ (∀ i j, i < j → j < n → ¬ ad (q * 8 + i) = ad (q * 8 + j))
def vK (v : gV) : Prop := (∀ w, w < 8 → ∃ t, t < 4 ∧ vOw v w = nI t) ∧ (∀ p, p < 32 → vHd v p = -1 ∨ ∃ c, c < 1024 ∧ vHd v p = nI c) ∧ (∀ t, t < 4 → ∃ l, l ≤ 2 ∧ vLe v t = nI l) ∧ ∃ e, e ≤ 200 ∧ vEp v = nI e
variable {v : gV}
theorem nI_m1 {a : Nat} (h : a < 2 ^ 31) : ¬ nI a = -1 := fun q => by
  have : ¬ nI a < 0 := nI_pos h
  rw [q] at this
  exact absurd (by decide) this
theorem lastm_at {pr : Nat → Bool} {p : Nat} (hp : pr p = true) : ∀ m, p < m → (∀ j, p < j → j < m → ¬ pr j = true) → lastm pr m = p
  | 0, h, _ => absurd h (Nat.not_lt_zero _)
  | m + 1, h, hn => by
    unfold lastm
    by_cases c : p = m
    · subst c
      rw [if_pos hp]
    · rw [if_neg (hn m (by omega) (by omega))]
      exact lastm_at hp m (by omega) (fun j h1 h2 => hn j h1 (by omega))
theorem lastm_no {pr : Nat → Bool} : ∀ m, (∀ j, j < m → ¬ pr j = true) → lastm pr m = 7
  | 0, _ => rfl
  | m + 1, hn => by
    unfold lastm
    rw [if_neg (hn m (by omega))]
    exact lastm_no m (fun j h => hn j (by omega))
theorem nAd_at (ad : Nat → Int32) (s a j : Nat) : nAd ad s a (s + j) = if j = 0 then nI a else if j ≤ nL ad s a then ad (s + (j - 1)) else ad (s + j) := by
  unfold nAd
  by_cases c : j = 0
  · rw [if_pos c, if_pos (by omega)]
  · rw [if_neg (by omega), if_neg c]
    by_cases c2 : j ≤ nL ad s a
    · rw [if_pos ⟨by omega, by omega⟩, if_pos c2, show s + j - 1 = s + (j - 1) by omega]
    · rw [if_neg (by omega), if_neg c2]
theorem nAd_out {ad : Nat → Int32} {s a j : Nat} (h : j < s ∨ s + 8 ≤ j) : nAd ad s a j = ad j := by
  have h7 : nL ad s a ≤ 7 := lastm_le _ (by omega)
  unfold nAd
  rw [if_neg (by omega), if_neg (by omega)]
theorem liK_ne {ad : Nat → Int32} {q n : Nat} (h : liK ad q n) {i j : Nat} (hi : i < n) (hj : j < n) (hne : ¬ i = j) : ¬ ad (q * 8 + i) = ad (q * 8 + j) := by
  by_cases c : i < j
  · exact h.2.2 i j c hj
  · exact fun e => h.2.2 j i (by omega) hi e.symm
theorem liK_no {ad : Nat → Int32} {q n a j : Nat} (ha : a < 256) (h : liK ad q n) (h1 : n ≤ j) (h2 : j < 8) : ¬ ad (q * 8 + j) = nI a := by
  rw [h.2.1 j h1 h2]
  exact fun e => nI_m1 (a := a) (by omega) e.symm
theorem liK_hit {ad : Nat → Int32} {q n a p : Nat} (ha : a < 256) (hn : n ≤ 8) (h : liK ad q n) (hp : p < n) (e : ad (q * 8 + p) = nI a) : nL ad (q * 8) a = p ∧ liK (nAd ad (q * 8) a) q n := by
  have e1 : nL ad (q * 8) a = p := lastm_at (by simpa using e) 8 (by omega) (fun j h1 h2 => by
    have : ¬ ad (q * 8 + j) = nI a := by
      by_cases c : j < n
      · rw [← e]
        exact liK_ne h c hp (by omega)
      · exact liK_no ha h (by omega) h2
    simpa using this)
  refine ⟨e1, fun j hj => ?_, fun j h1 h2 => ?_, fun i j hi hj => ?_⟩
  · rw [nAd_at, e1]
    split
    · exact ⟨a, ha, rfl⟩
    · split
      · exact h.1 (j - 1) (by omega)
      · exact h.1 j hj
  · rw [nAd_at, e1, if_neg (by omega), if_neg (by omega)]
    exact h.2.1 j h1 h2
  · have e2 : ∀ j, j < n → nAd ad (q * 8) a (q * 8 + j) = ad (q * 8 + (if j = 0 then p else if j ≤ p then j - 1 else j)) := fun j hj => by
      rw [nAd_at, e1]
      split
      · exact e.symm
      · split <;> rfl
    rw [e2 i (by omega), e2 j hj]
    refine liK_ne h ?_ ?_ ?_
    · split
      · exact hp
      · split <;> omega
    · split
      · exact hp
      · split <;> omega
    · repeat' split
      all_goals omega
theorem liK_new {ad : Nat → Int32} {q n a : Nat} (ha : a < 256) (hn : n ≤ 8) (h : liK ad q n) (hno : ∀ j, j < n → ¬ ad (q * 8 + j) = nI a) : nL ad (q * 8) a = 7 ∧ liK (nAd ad (q * 8) a) q (if n = 8 then 8 else n + 1) := by
  have e1 : nL ad (q * 8) a = 7 := lastm_no 8 (fun j h2 => by
    have : ¬ ad (q * 8 + j) = nI a := by
      by_cases c : j < n
      · exact hno j c
      · exact liK_no ha h (by omega) h2
    simpa using this)
  have hn' : (if n = 8 then 8 else n + 1) ≤ 8 ∧ (if n = 8 then 8 else n + 1) ≤ n + 1 ∧ n ≤ (if n = 8 then 8 else n + 1) ∧ 1 ≤ (if n = 8 then 8 else n + 1) ∧ (¬ (if n = 8 then 8 else n + 1) = 8 → (if n = 8 then 8 else n + 1) = n + 1) := by
    split <;> omega
  generalize (if n = 8 then 8 else n + 1) = m at hn'
  refine ⟨e1, fun j hj => ?_, fun j h1 h2 => ?_, fun i j hi hj => ?_⟩
  · rw [nAd_at, e1]
    split
    · exact ⟨a, ha, rfl⟩
    · rw [if_pos (by omega)]
      exact h.1 (j - 1) (by omega)
  · rw [nAd_at, e1, if_neg (by omega), if_pos (by omega)]
    exact h.2.1 (j - 1) (by omega) (by omega)
  · rw [nAd_at, nAd_at, e1, if_neg (show ¬ j = 0 by omega), if_pos (show j ≤ 7 by omega)]
    split
    · exact fun q => hno (j - 1) (by omega) q.symm
    · rw [if_pos (by omega)]
      exact h.2.2 (i - 1) (j - 1) (by omega) (by omega)
theorem evC_co {hd co : Nat → Int32} {p i : Nat} (hi : ¬ i % 4 = 3) : evC hd p 4 (upd co i (co i + nI 1)) = upd (evC hd p 4 co) i (evC hd p 4 co i + nI 1) := by
  have e0 : evC hd p 4 co i = co i := if_neg (fun z => hi z.1)
  funext j
  rw [e0]
  by_cases c : j = i
  · rw [c, pk_us]
    show (if i % 4 = 3 ∧ _ then _ else _) = _
    rw [if_neg (fun z => hi z.1), pk_us]
  · rw [pk_un c]
    unfold evC
    rw [pk_un c]
theorem amax_max (d : Nat → Int32) : ∀ n j, j ≤ n → ¬ d (amax d n) < d j
  | 0, j, h => by
    have : j = 0 := by omega
    subst this
    exact Int32.lt_irrefl
  | n + 1, j, h => by
    have ih := fun j hj => amax_max d n j hj
    unfold amax
    by_cases c : d (amax d n) < d (n + 1)
    · rw [if_pos c]
      by_cases hj : j = n + 1
      · rw [hj]
        exact Int32.lt_irrefl
      · have := ih j (by omega)
        exact fun q => this (Int32.lt_trans c q)
    · rw [if_neg c]
      by_cases hj : j = n + 1
      · rw [hj]
        exact c
      · exact ih j (by omega)
theorem amin_min (d : Nat → Int32) : ∀ n j, j ≤ n → ¬ d j < d (amin d n)
  | 0, j, h => by
    have : j = 0 := by omega
    subst this
    exact Int32.lt_irrefl
  | n + 1, j, h => by
    have ih := fun j hj => amin_min d n j hj
    unfold amin
    by_cases c : d (n + 1) < d (amin d n)
    · rw [if_pos c]
      by_cases hj : j = n + 1
      · rw [hj]
        exact Int32.lt_irrefl
      · have := ih j (by omega)
        exact fun q => this (Int32.lt_trans q c)
    · rw [if_neg c]
      by_cases hj : j = n + 1
      · rw [hj]
        exact c
      · exact ih j (by omega)
theorem own_sum {ow : Nat → Int32} : ∀ n, (∀ w, w < n → ∃ t, t < 4 ∧ ow w = nI t) → cnt (fun w => decide (ow w = nI 0)) n + cnt (fun w => decide (ow w = nI 1)) n + cnt (fun w => decide (ow w = nI 2)) n + cnt (fun w => decide (ow w = nI 3)) n = n
  | 0, _ => rfl
  | n + 1, h => by
    have ih := own_sum n (fun w hw => h w (by omega))
    obtain ⟨t, ht, e⟩ := h n (by omega)
    have s : ∀ x, cnt (fun w => decide (ow w = x)) (n + 1) = if ow n = x then cnt (fun w => decide (ow w = x)) n + 1 else cnt (fun w => decide (ow w = x)) n := fun x => by
      show (if decide (ow n = x) = true then _ else _) = _
      simp only [decide_eq_true_iff]
    rw [s, s, s, s, e]
    have c : t = 0 ∨ t = 1 ∨ t = 2 ∨ t = 3 := by omega
    rcases c with rfl | rfl | rfl | rfl
    · rw [if_pos rfl, if_neg (by decide), if_neg (by decide), if_neg (by decide)]
      omega
    · rw [if_neg (by decide), if_pos rfl, if_neg (by decide), if_neg (by decide)]
      omega
    · rw [if_neg (by decide), if_neg (by decide), if_pos rfl, if_neg (by decide)]
      omega
    · rw [if_neg (by decide), if_neg (by decide), if_neg (by decide), if_pos rfl]
      omega
theorem wfl_some {ow : Nat → Int32} {ln : Nat → Nat} {t : Int32} : ∀ (f w : Nat) (b m : Nat), ¬ wfl ow ln t f w (some b) m = none
  | 0, _, _, _ => fun h => by cases h
  | f + 1, w, b, m => by
    unfold wfl
    split
    · exact wfl_some f (w + 1) w _
    · exact wfl_some f (w + 1) b m
theorem wfl_none {ow : Nat → Int32} {ln : Nat → Nat} {t : Int32} (hl : ∀ q, ln q ≤ 4) : ∀ (f w : Nat), wfl ow ln t f w none 5 = none → ∀ u, w ≤ u → u < w + f → ¬ ow u = t
  | 0, w, _, u, h1, h2 => absurd h2 (by omega)
  | f + 1, w, h, u, h1, h2 => by
    unfold wfl at h
    split at h
    · exact absurd h (wfl_some f (w + 1) w _)
    · rename_i c
      by_cases hu : u = w
      · rw [hu]
        exact fun q => c ⟨q, by have := hl w; omega⟩
      · exact wfl_none hl f (w + 1) h u (by omega) (by omega)
theorem cnt_0 {p : Nat → Bool} : ∀ {n : Nat}, (∀ j, j < n → ¬ p j = true) → cnt p n = 0
  | 0, _ => rfl
  | n + 1, h => by
    rw [cnt_f (h n (by omega))]
    exact cnt_0 (fun j hj => h j (by omega))
theorem mv_some (hk : vK v) {L : Nat → Nat} (hL : ∀ t, t < 4 → vLe v t = nI (L t) ∧ L t ≤ 2) (hne : ¬ mvD L v (amax (mvD L v) 3) = 0) : ¬ mvW L v = none := by
  intro h0
  have hm := amax_le (mvD L v) 3
  have hm2 := amin_le (mvD L v) 3
  have hmn := amin_min (mvD L v) 3
  have hs : sumN (tgt L (vGa v)) 4 = 8 := tgt_sum (by
    have a0 := (hL 0 (by decide)).2
    have a1 := (hL 1 (by decide)).2
    have a2 := (hL 2 (by decide)).2
    have a3 := (hL 3 (by decide)).2
    simp only [sumN]
    omega)
  have ho := own_sum (ow := vOw v) 8 hk.1
  have hD : ∀ t, mvD L v t = nI (tgt L (vGa v) t) - nI (fOwn (vOw v) (nI t)) := fun t => rfl
  have hO8 : ∀ t, fOwn (vOw v) (nI t) ≤ 8 := fun t => cnt_le _ 8
  have hT8 : ∀ t, t < 4 → tgt L (vGa v) t ≤ 8 := fun t ht => by
    have := sum_le (W := tgt L (vGa v)) ht
    omega
  have hi : ∀ t, t < 4 → (mvD L v t).toInt = (tgt L (vGa v) t : Int) - (fOwn (vOw v) (nI t) : Int) := fun t ht => by
    have := hT8 t ht
    have := hO8 t
    rw [hD]
    exact pk_sub_toInt (by omega) (by omega)
  unfold mvW at h0
  rw [if_neg hne] at h0
  have hno : fOwn (vOw v) (nI (amin (mvD L v) 3)) = 0 := cnt_0 (fun j hj => by
    have := wfl_none (fun q => lnW_le _ _ q) 8 0 h0 j (by omega) (by omega)
    simpa using this)
  have hle : ∀ t, t < 4 → fOwn (vOw v) (nI t) ≤ tgt L (vGa v) t := fun t ht => by
    have h1 := hmn t (by omega)
    rw [Int32.lt_iff_toInt_lt, hi t ht, hi _ (by omega), hno] at h1
    omega
  have l0 := hle 0 (by decide)
  have l1 := hle 1 (by decide)
  have l2 := hle 2 (by decide)
  have l3 := hle 3 (by decide)
  have ho2 : fOwn (vOw v) (nI 0) + fOwn (vOw v) (nI 1) + fOwn (vOw v) (nI 2) + fOwn (vOw v) (nI 3) = 8 := ho
  simp only [sumN] at hs
  have heq : ∀ t, t < 4 → fOwn (vOw v) (nI t) = tgt L (vGa v) t := fun t ht => by
    have c : t = 0 ∨ t = 1 ∨ t = 2 ∨ t = 3 := by omega
    rcases c with rfl | rfl | rfl | rfl <;> omega
  refine hne ?_
  rw [hD, heq _ (by omega)]
  exact Int32.sub_self _
theorem vK_of {w : gV} (h : vK v) (e1 : vOw w = vOw v) (e2 : vHd w = vHd v) (e3 : vLe w = vLe v) (e4 : vEp w = vEp v) : vK w := by
  unfold vK
  rw [e1, e2, e3, e4]
  exact h
theorem vK_mv (hk : vK v) (L : Nat → Nat) : vK (mvV L v) := by
  refine ⟨fun w hw => ?_, hk.2.1, hk.2.2.1, hk.2.2.2⟩
  show ∃ t, t < 4 ∧ mvO L v w = nI t
  have hm := amax_le (mvD L v) 3
  cases hp : mvW L v with
  | none =>
    have e : mvO L v = vOw v := by unfold mvO; rw [hp]
    rw [e]
    exact hk.1 w hw
  | some p =>
    have e : mvO L v = upd (vOw v) p (nI (amax (mvD L v) 3)) := by unfold mvO; rw [hp]
    rw [e]
    unfold upd
    split
    · exact ⟨_, by omega, rfl⟩
    · exact hk.1 w hw
theorem vK_br (hk : vK v) {t a : Nat} (ht : t < 4) (ha : a < 256) : vK (brV v t a) := by
  cases hp : ptP v t a with
  | none =>
    have e : brV v t a = v := by unfold brV; rw [hp]
    rw [e]
    exact hk
  | some p =>
    have e : brV v t a = brQ v t a p := by unfold brV; rw [hp]
    rw [e]
    refine ⟨hk.1, fun q hq => ?_, hk.2.2.1, hk.2.2.2⟩
    show upd (vHd v) p (nI t * nI 256 + nI a) q = -1 ∨ ∃ c, c < 1024 ∧ upd (vHd v) p (nI t * nI 256 + nI a) q = nI c
    unfold upd
    split
    · exact Or.inr ⟨t * 256 + a, by omega, by rw [pk_mul, nI_add]⟩
    · exact hk.2.1 q hq
theorem vK_acB (hk : vK v) {t a : Nat} (ht : t < 4) (ha : a < 256) : vK (acB v t a) := by
  have h0 : vK (acA v t a) := vK_of hk rfl rfl rfl rfl
  unfold acB
  by_cases c : acR v t a = 1
  · rw [if_pos c]
    exact vK_of h0 rfl rfl rfl rfl
  · rw [if_neg c]
    by_cases c2 : acR v t a = 0
    · rw [if_pos c2]
      exact vK_br h0 ht ha
    · rw [if_neg c2]
      exact h0
end PB1
section PB2
def lfv (v : gV) : Nat → Nat := fun t => (vLe v t).toNatClampNeg
theorem lfv_ok {v : gV} (hk : vK v) : ∀ t, t < 4 → vLe v t = nI (lfv v t) ∧ lfv v t ≤ 2 := fun t ht => by
  obtain ⟨l, hl, e⟩ := hk.2.2.1 t ht
  have e2 : lfv v t = l := by
    unfold lfv
    rw [e]
    exact nI_clamp (by omega)
  rw [e2]
  exact ⟨e, hl⟩
theorem cnt_sum (p : Nat → Bool) : ∀ n, cnt p n = sumN (fun k => if p k = true then 1 else 0) n
  | 0 => rfl
  | n + 1 => by
    unfold cnt sumN
    rw [cnt_sum p n]
    split <;> rfl
theorem sum_grid (g : Nat → Nat) : sumN g 32 = sumN (fun w => sumN (fun s => g (s * 8 + w)) 4) 8 := by
  simp only [sumN, Nat.reduceMul, Nat.reduceAdd]
  omega
theorem cnt_grid (p : Nat → Bool) : cnt p 32 = sumN (fun w => cnt (fun s => p (s * 8 + w)) 4) 8 := by
  rw [cnt_sum, sum_grid]
  exact sumN_cong (fun w _ => (cnt_sum (fun s => p (s * 8 + w)) 4).symm)
theorem cnt_hol (hd : Nat → Int32) (t : Int32) : cnt (hol hd t) 32 = sumN (lnW hd t) 8 := cnt_grid (hol hd t)
theorem sumN_add (f g : Nat → Nat) : ∀ n, sumN (fun k => f k + g k) n = sumN f n + sumN g n
  | 0 => rfl
  | n + 1 => by
    unfold sumN
    rw [sumN_add f g n]
    omega
theorem nI_inj {a b : Nat} (h : nI a = nI b) (ha : a < 2 ^ 31) (hb : b < 2 ^ 31) : a = b := (nI_eq ha hb).mp h
theorem vK_rm {v : gV} (hk : vK v) (t : Nat) : vK (rmV v t) := by
  refine ⟨hk.1, fun p hp => ?_, hk.2.2.1, hk.2.2.2⟩
  show rmv (vHd v) (nI t) p = -1 ∨ ∃ c, c < 1024 ∧ rmv (vHd v) (nI t) p = nI c
  unfold rmv
  split
  · exact Or.inl rfl
  · exact hk.2.1 p hp
theorem vK_gw {v : gV} (hk : vK v) {w t : Nat} (ht : t < 4) : vK (upd (vOw v) w (nI t), vHd v, vSt v, vAd v, vGa v, vLe v, vCo v, vEp v, vAc v) := by
  refine ⟨fun u hu => ?_, hk.2.1, hk.2.2.1, hk.2.2.2⟩
  show ∃ t', t' < 4 ∧ upd (vOw v) w (nI t) u = nI t'
  unfold upd
  split
  · exact ⟨t, ht, rfl⟩
  · exact hk.1 u hu
theorem vK_sl {v : gV} (hk : vK v) {t l : Nat} (hl : l ≤ 2) : vK (vOw v, vHd v, vSt v, vAd v, vGa v, upd (vLe v) t (nI l), vCo v, vEp v, vAc v) := by
  refine ⟨hk.1, hk.2.1, fun u hu => ?_, hk.2.2.2⟩
  show ∃ l', l' ≤ 2 ∧ upd (vLe v) t (nI l) u = nI l'
  unfold upd
  split
  · exact ⟨l, hl, rfl⟩
  · exact hk.2.2.1 u hu
theorem vK_ini : vK vIni := ⟨fun w _ => ⟨w % 4, Nat.mod_lt _ (by decide), rfl⟩, fun _ _ => Or.inl rfl, fun _ _ => ⟨1, by decide, rfl⟩, 0, Nat.zero_le _, rfl⟩
end PB2
end
section
/-! The state: lines, their places, their numbers. -/
section PL1
variable {v : gV}
/-- a line stands in its set -/
def pS (hd : Nat → Int32) : Prop := ∀ p, p < 32 → ∀ c, c < 1024 → hd p = nI c → c % 4 = p / 8
/-- each line stands once -/
def pU (hd : Nat → Int32) : Prop := ∀ p q, p < 32 → q < 32 → hd p = hd q → ¬ hd p = -1 → p = q
/-- places hold nothing, or a line -/
def pH (hd : Nat → Int32) : Prop := ∀ p, p < 32 → hd p = -1 ∨ ∃ c, c < 1024 ∧ hd p = nI c
abbrev lnN (t a : Nat) : Int32 := nI t * nI 256 + nI a
theorem lnN_eq (t a : Nat) : lnN t a = nI (t * 256 + a) := by
  show nI t * nI 256 + nI a = _
  rw [pk_mul, nI_add]
theorem nI_div256 {c : Nat} (h : c < 1024) : nI c / nI 256 = nI (c / 256) := pk_div (by omega) (by decide) (by decide)
theorem hol_n {hd : Nat → Int32} {q : Nat} (t : Int32) (h : hd q = -1) : hol hd t q = false := by
  unfold hol
  rw [h]
  rfl
theorem hol_c {hd : Nat → Int32} {q c t : Nat} (h : hd q = nI c) (hc : c < 1024) (ht : t < 4) : hol hd (nI t) q = decide (c / 256 = t) := by
  unfold hol
  rw [h, nI_div256 hc, decide_eq_true (nI_m1 (by omega)), Bool.true_and]
  by_cases e : c / 256 = t
  · rw [decide_eq_true e, decide_eq_true (congrArg nI e)]
  · rw [decide_eq_false e, decide_eq_false (fun z => e (nI_inj z (by omega) (by omega)))]
theorem hol_iff {hd : Nat → Int32} (hH : pH hd) {q t : Nat} (hq : q < 32) (ht : t < 4) : hol hd (nI t) q = true ↔ ∃ c, c < 1024 ∧ hd q = nI c ∧ c / 256 = t := by
  rcases hH q hq with h | ⟨c, hc, h⟩
  · rw [hol_n _ h]
    refine ⟨fun z => (by cases z), fun ⟨c, hc, h2, _⟩ => ?_⟩
    rw [h] at h2
    exact absurd h2.symm (nI_m1 (by omega))
  · rw [hol_c h hc ht, decide_eq_true_iff]
    refine ⟨fun z => ⟨c, hc, h, z⟩, fun ⟨c2, hc2, h2, z⟩ => ?_⟩
    rw [h] at h2
    have := nI_inj h2 (by omega) (by omega)
    rw [this]
    exact z
/-- lines in all -/
def nE (hd : Nat → Int32) : Nat := cnt (fun p => decide (¬ hd p = -1)) 32
theorem all_go {hd : Nat → Int32} (hH : pH hd) : ∀ n, n ≤ 32 → cnt (hol hd (nI 0)) n + cnt (hol hd (nI 1)) n + cnt (hol hd (nI 2)) n + cnt (hol hd (nI 3)) n = cnt (fun p => decide (¬ hd p = -1)) n
  | 0, _ => rfl
  | n + 1, hn => by
    have ih := all_go hH n (by omega)
    rcases hH n (by omega) with h | ⟨c, hc, h⟩
    · rw [cnt_f (by rw [hol_n _ h]; decide), cnt_f (by rw [hol_n _ h]; decide), cnt_f (by rw [hol_n _ h]; decide), cnt_f (by rw [hol_n _ h]; decide), cnt_f (p := fun p => decide (¬ hd p = -1)) (by simp [h]), ih]
    · rw [cnt_t (p := fun p => decide (¬ hd p = -1)) (by rw [h]; exact decide_eq_true (nI_m1 (by omega)))]
      have k : ∀ t, t < 4 → cnt (hol hd (nI t)) (n + 1) = cnt (hol hd (nI t)) n + if c / 256 = t then 1 else 0 := fun t ht => by
        by_cases e : c / 256 = t
        · rw [cnt_t (by rw [hol_c h hc ht]; exact decide_eq_true e), if_pos e]
        · rw [cnt_f (by rw [hol_c h hc ht, decide_eq_false e]; decide), if_neg e]
          rfl
      rw [k 0 (by decide), k 1 (by decide), k 2 (by decide), k 3 (by decide)]
      have c4 : c / 256 = 0 ∨ c / 256 = 1 ∨ c / 256 = 2 ∨ c / 256 = 3 := by omega
      rcases c4 with e | e | e | e <;> rw [e] <;> simp only [Nat.reduceEqDiff, reduceIte] <;> omega
theorem nE_sum {hd : Nat → Int32} (hH : pH hd) : sumN (fun t => sumN (lnW hd (nI t)) 8) 4 = nE hd := by
  have h := all_go hH 32 (Nat.le_refl _)
  have e : sumN (fun t => sumN (lnW hd (nI t)) 8) 4 = 0 + sumN (lnW hd (nI 0)) 8 + sumN (lnW hd (nI 1)) 8 + sumN (lnW hd (nI 2)) 8 + sumN (lnW hd (nI 3)) 8 := rfl
  unfold nE
  rw [← h, e, ← cnt_hol, ← cnt_hol, ← cnt_hol, ← cnt_hol, Nat.zero_add]
theorem nE_le (hd : Nat → Int32) : nE hd ≤ 32 := cnt_le _ _
theorem cnt_upd {p q : Nat → Bool} {k : Nat} (h : ∀ j, ¬ j = k → p j = q j) : ∀ n, n ≤ k → cnt p n = cnt q n := fun n hn => cnt_cong (fun j hj => h j (by omega))
/-- one place is another -/
theorem cnt_one {p q : Nat → Bool} {k : Nat} (h : ∀ j, ¬ j = k → p j = q j) (hp : p k = true) (hq : ¬ q k = true) : ∀ n, k < n → cnt p n = cnt q n + 1
  | 0, hn => absurd hn (by omega)
  | n + 1, hn => by
    by_cases e : k = n
    · subst e
      rw [cnt_t hp, cnt_f hq, cnt_upd h k (Nat.le_refl _)]
    · have ih := cnt_one h hp hq n (by omega)
      have e2 := h n (fun z => e z.symm)
      by_cases c : q n = true
      · rw [cnt_t (by rw [e2]; exact c), cnt_t c, ih]
      · rw [cnt_f (by rw [e2]; exact c), cnt_f c, ih]
theorem nE_put {hd : Nat → Int32} {p : Nat} {x : Int32} (hp : p < 32) (hx : ¬ x = -1) : nE (upd hd p x) = nE hd + if hd p = -1 then 1 else 0 := by
  unfold nE
  by_cases c : hd p = -1
  · rw [if_pos c]
    refine cnt_one (k := p) (fun j hj => by rw [pk_un hj]) (by simp [pk_us, hx]) (by simp [c]) 32 hp
  · rw [if_neg c, Nat.add_zero]
    refine cnt_cong (fun j _ => ?_)
    by_cases e : j = p
    · rw [e, pk_us]
      simp [hx, c]
    · rw [pk_un e]
-- where a line is
/-- the law's own word for it -/
def fnd (p : Nat → Bool) : Nat → Int32
  | 0 => -1
  | n + 1 => if p n = true then nI n else fnd p n
theorem fnd_one {p : Nat → Bool} : ∀ n, (∀ i j, i < n → j < n → p i = true → p j = true → i = j) → (cnt p n ≤ 1) ∧ fnd p n = if fst1 p n < n then nI (fst1 p n) else -1
  | 0, _ => ⟨Nat.zero_le _, rfl⟩
  | n + 1, h => by
    obtain ⟨h1, h2⟩ := fnd_one n (fun i j hi hj => h i j (by omega) (by omega))
    by_cases c : p n = true
    · have h0 : ∀ j, j < n → ¬ p j = true := fun j hj q => by
        have := h j n (by omega) (by omega) q c
        omega
      rw [cnt_t c, cnt_0 h0, fst1_eq (i := n) c h0 (by omega)]
      refine ⟨by omega, ?_⟩
      rw [if_pos (by omega)]
      exact if_pos c
    · rw [cnt_f c]
      refine ⟨h1, ?_⟩
      have e1 : fnd p (n + 1) = fnd p n := if_neg c
      rw [e1, h2]
      by_cases c2 : fst1 p n < n
      · have e2 : fst1 p (n + 1) = fst1 p n := if_pos c2
        rw [e2, if_pos c2, if_pos (by omega)]
      · have e2 : fst1 p (n + 1) = n + 1 := by
          unfold fst1
          rw [if_neg c2, if_neg c]
        rw [e2, if_neg c2, if_neg (by omega)]
/-- the way of the set in which a line is; -1 -/
def fdR (hd : Nat → Int32) (t a : Nat) : Int32 := if fF hd (lnN t a) (a % 4 * 8) < 8 then nI (fF hd (lnN t a) (a % 4 * 8)) else -1
theorem lnN_ne {t a : Nat} (ht : t < 4) (ha : a < 256) : ¬ lnN t a = -1 := by
  rw [lnN_eq]
  exact nI_m1 (by omega)
theorem fnd_fd {hd : Nat → Int32} (hU : pU hd) {t a : Nat} (ht : t < 4) (ha : a < 256) : cnt (fun w => decide (hd (a % 4 * 8 + w) = lnN t a)) 8 ≤ 1 ∧ fnd (fun w => decide (hd (a % 4 * 8 + w) = lnN t a)) 8 = fdR hd t a :=
  fnd_one 8 (fun i j hi hj h1 h2 => by
    have h1 : hd (a % 4 * 8 + i) = lnN t a := of_decide_eq_true h1
    have h2 : hd (a % 4 * 8 + j) = lnN t a := of_decide_eq_true h2
    have := hU _ _ (by omega) (by omega) (h1.trans h2.symm) (by rw [h1]; exact lnN_ne ht ha)
    omega)
theorem fF_at {hd : Nat → Int32} {x : Int32} {fs : Nat} (h : fF hd x fs < 8) : hd (fs + fF hd x fs) = x := of_decide_eq_true (fst1_yes (p := fun w => decide (hd (fs + w) = x)) h)
theorem fF_none {hd : Nat → Int32} {x : Int32} {fs : Nat} (h : ¬ fF hd x fs < 8) {j : Nat} (hj : j < 8) : ¬ hd (fs + j) = x := by
  have h8 : fF hd x fs = 8 := by have := fF_le hd x fs; omega
  have := fst1_no (p := fun w => decide (hd (fs + w) = x)) (n := 8) (j := j) (by show j < fF hd x fs; omega)
  simpa using this
theorem fF_is {hd : Nat → Int32} {x : Int32} {fs i : Nat} (hi : i < 8) (h : hd (fs + i) = x) (hn : ∀ j, j < i → ¬ hd (fs + j) = x) : fF hd x fs = i := fst1_eq (by simpa using h) (fun j hj => by simpa using hn j hj) hi
theorem fF_not {hd : Nat → Int32} {x : Int32} {fs : Nat} (hn : ∀ j, j < 8 → ¬ hd (fs + j) = x) : fF hd x fs = 8 := fst1_none (fun j hj => by simpa using hn j hj)
/-- a line that stands somewhere is found there -/
theorem fF_line {hd : Nat → Int32} (hS : pS hd) (hU : pU hd) {p t a : Nat} (hp : p < 32) (ht : t < 4) (ha : a < 256) (h : hd p = lnN t a) : a % 4 = p / 8 ∧ fF hd (lnN t a) (a % 4 * 8) = p % 8 := by
  have h1 : (t * 256 + a) % 4 = p / 8 := hS p hp _ (by omega) (by rw [h, lnN_eq])
  have h2 : a % 4 = p / 8 := by omega
  refine ⟨h2, fF_is (by omega) (by rw [show a % 4 * 8 + p % 8 = p by omega]; exact h) (fun j hj q => ?_)⟩
  have := hU (a % 4 * 8 + j) p (by omega) hp (q.trans h.symm) (by rw [q]; exact lnN_ne ht ha)
  omega
theorem fd_neg {hd : Nat → Int32} {t a : Nat} : fdR hd t a < 0 ↔ ¬ fF hd (lnN t a) (a % 4 * 8) < 8 := by
  unfold fdR
  split
  · rename_i h
    refine ⟨fun z => absurd z (nI_pos (by omega)), fun z => absurd h z⟩
  · rename_i h
    exact ⟨fun _ => h, fun _ => by decide⟩
-- lines of a tenant
theorem li_0 (v : gV) (t : Nat) : liR v t 0 = nI (sumN (lnW (vHd v) (nI t)) 8) := by
  unfold liR
  rw [if_pos rfl, pk_sub (Nat.zero_le _), Nat.sub_zero]
theorem li_1 (v : gV) (t : Nat) {b : Int32} (hb : ¬ b = 0) : liR v t b = nI (sumN (fun w => if vOw v w = nI t then 0 else lnW (vHd v) (nI t) w) 8) := by
  unfold liR
  rw [if_neg hb]
  have e : sumN (lnW (vHd v) (nI t)) 8 = sumN (lnO (vOw v) (vHd v) (nI t)) 8 + sumN (fun w => if vOw v w = nI t then 0 else lnW (vHd v) (nI t) w) 8 := by
    rw [← sumN_add]
    refine sumN_cong (fun w _ => ?_)
    unfold lnO
    split <;> omega
  rw [e, pk_sub (by omega), Nat.add_sub_cancel_left]
theorem all_li {v : gV} (hH : pH (vHd v)) : liR v 0 0 + liR v 1 0 + liR v 2 0 + liR v 3 0 = nI (nE (vHd v)) := by
  have e : sumN (fun t => sumN (lnW (vHd v) (nI t)) 8) 4 = 0 + sumN (lnW (vHd v) (nI 0)) 8 + sumN (lnW (vHd v) (nI 1)) 8 + sumN (lnW (vHd v) (nI 2)) 8 + sumN (lnW (vHd v) (nI 3)) 8 := rfl
  rw [li_0, li_0, li_0, li_0, nI_add, nI_add, nI_add, ← nE_sum hH, e, Nat.zero_add]
-- a flush
theorem rmv_at (hd : Nat → Int32) (t : Int32) (p : Nat) : rmv hd t p = if hol hd t p = true then -1 else hd p := rfl
theorem pH_rm {hd : Nat → Int32} (h : pH hd) (t : Int32) : pH (rmv hd t) := fun p hp => by
  rw [rmv_at]
  split
  · exact Or.inl rfl
  · exact h p hp
theorem pS_rm {hd : Nat → Int32} (h : pS hd) (t : Int32) : pS (rmv hd t) := fun p hp c hc e => by
  rw [rmv_at] at e
  split at e
  · exact absurd e.symm (nI_m1 (by omega))
  · exact h p hp c hc e
theorem pU_rm {hd : Nat → Int32} (h : pU hd) (t : Int32) : pU (rmv hd t) := fun p q hp hq e hn => by
  rw [rmv_at, rmv_at] at e
  rw [rmv_at] at hn
  split at hn
  · exact absurd rfl hn
  · rename_i c
    rw [if_neg c] at e
    split at e
    · exact absurd e hn
    · exact h p q hp hq e hn
theorem hol_rm {hd : Nat → Int32} (t : Int32) (p : Nat) : hol (rmv hd t) t p = false := by
  unfold hol
  rw [rmv_at]
  cases c : hol hd t p with
  | true =>
    rw [if_pos rfl]
    rfl
  | false =>
    rw [if_neg (by decide)]
    exact c
theorem rm_go {hd : Nat → Int32} (t : Int32) : ∀ n, cnt (fun p => decide (¬ rmv hd t p = -1)) n + cnt (hol hd t) n = cnt (fun p => decide (¬ hd p = -1)) n
  | 0 => rfl
  | n + 1 => by
    have ih := rm_go (hd := hd) t n
    by_cases c : hol hd t n = true
    · have c2 : ¬ hd n = -1 := by
        unfold hol at c
        simp only [Bool.and_eq_true, decide_eq_true_iff] at c
        exact c.1
      rw [cnt_t c, cnt_f (p := fun p => decide (¬ rmv hd t p = -1)) (by simp [rmv_at, c]), cnt_t (p := fun p => decide (¬ hd p = -1)) (by simp [c2])]
      omega
    · rw [cnt_f c]
      have e : rmv hd t n = hd n := by rw [rmv_at, if_neg c]
      by_cases c2 : hd n = -1
      · rw [cnt_f (p := fun p => decide (¬ rmv hd t p = -1)) (by simp [e, c2]), cnt_f (p := fun p => decide (¬ hd p = -1)) (by simp [c2])]
        exact ih
      · rw [cnt_t (p := fun p => decide (¬ rmv hd t p = -1)) (by simp [e, c2]), cnt_t (p := fun p => decide (¬ hd p = -1)) (by simp [c2])]
        omega
theorem nE_rm {hd : Nat → Int32} (t : Int32) : nI (nE (rmv hd t)) = nI (nE hd) - nI (cnt (hol hd t) 32) := by
  have h := rm_go (hd := hd) t 32
  unfold nE
  rw [← h, pk_sub (by omega), Nat.add_sub_cancel]
theorem lnW_rm (hd : Nat → Int32) (t : Int32) (w : Nat) : lnW (rmv hd t) t w = 0 := cnt_0 (fun s _ => by rw [hol_rm]; decide)
theorem sumN_0 {f : Nat → Nat} : ∀ {n : Nat}, (∀ j, j < n → f j = 0) → sumN f n = 0
  | 0, _ => rfl
  | n + 1, h => by
    unfold sumN
    rw [h n (by omega), sumN_0 (fun j hj => h j (by omega))]
theorem li_rm (v : gV) (t : Nat) {b : Int32} (hb : ¬ b = 0) : liR (rmV v t) t b = nI 0 := by
  rw [li_1 _ _ hb]
  rw [sumN_0 (fun w _ => ?_)]
  show (if vOw v w = nI t then 0 else lnW (rmv (vHd v) (nI t)) (nI t) w) = 0
  rw [lnW_rm]
  split <;> rfl
end PL1
end
section
/-! The state: what an access does. -/
section PA1
variable {v : gV}
/-- the monitors' lists hold addresses, each once -/
def pM (ad : Nat → Int32) : Prop := ∀ q, q < 8 → ∃ n, n ≤ 8 ∧ liK ad q n
def pG (ga : Nat → Int32) (B : Nat) : Prop := ∀ j, j < 32 → ∃ g, g ≤ B ∧ ga j = nI g
/-- a tenant's accesses, by its counts -/
def cM (co : Nat → Int32) (t : Nat) : Int32 := co (t * 4 + 0) + co (t * 4 + 1) + co (t * 4 + 2)
def pV (v : gV) (B : Nat) : Prop := vK v ∧ pS (vHd v) ∧ pU (vHd v) ∧ pM (vAd v) ∧ pG (vGa v) B ∧ sumI (cM (vCo v)) 4 = vAc v ∧ vEp v = 0
theorem pG_up {ga : Nat → Int32} {B B' : Nat} (h : pG ga B) (hb : B ≤ B') : pG ga B' := fun j hj => by
  obtain ⟨g, h1, h2⟩ := h j hj
  exact ⟨g, by omega, h2⟩
theorem pV_up {B B' : Nat} (h : pV v B) (hb : B ≤ B') : pV v B' := ⟨h.1, h.2.1, h.2.2.1, h.2.2.2.1, pG_up h.2.2.2.2.1 hb, h.2.2.2.2.2⟩
theorem pV_H {B : Nat} (h : pV v B) : pH (vHd v) := h.1.2.1
/-- the monitor's list of an access -/
abbrev mqI (t a : Nat) : Nat := t * 2 + a % 4 / 2
theorem mqI_lt {t a : Nat} (ht : t < 4) : mqI t a < 8 := by
  show t * 2 + a % 4 / 2 < 8
  omega
/-- the position of an address in it; 8 -/
def psN (ad : Nat → Int32) (q a : Nat) : Nat := fst1 (fun p => decide (ad (q * 8 + p) = nI a)) 8
theorem psN_le (ad : Nat → Int32) (q a : Nat) : psN ad q a ≤ 8 := fst1_le _ _
theorem psN_at {ad : Nat → Int32} {q a : Nat} (h : psN ad q a < 8) : ad (q * 8 + psN ad q a) = nI a := of_decide_eq_true (fst1_yes (p := fun p => decide (ad (q * 8 + p) = nI a)) h)
theorem psN_no {ad : Nat → Int32} {q a : Nat} (h : psN ad q a = 8) {j : Nat} (hj : j < 8) : ¬ ad (q * 8 + j) = nI a := by
  have := fst1_no (p := fun p => decide (ad (q * 8 + p) = nI a)) (n := 8) (j := j) (by show j < psN ad q a; omega)
  simpa using this
-- what stays
theorem acB_c (v : gV) (t a : Nat) : vOw (acB v t a) = vOw v ∧ vAd (acB v t a) = ntAd v t a ∧ vGa (acB v t a) = ntGa v t a ∧ vLe (acB v t a) = vLe v ∧ vEp (acB v t a) = vEp v ∧ vAc (acB v t a) = vAc v + nI 1 := by
  unfold acB
  split
  · exact ⟨rfl, rfl, rfl, rfl, rfl, rfl⟩
  · split
    · unfold brV
      split <;> exact ⟨rfl, rfl, rfl, rfl, rfl, rfl⟩
    · exact ⟨rfl, rfl, rfl, rfl, rfl, rfl⟩
theorem acV_0 {L : Nat → Nat} {t a : Nat} (h : vEp v = 0) : acV L v t a = acB v t a := by
  unfold acV epV
  rw [if_neg]
  exact fun z => z.1 ((acB_c v t a).2.2.2.2.1.trans h)
theorem acR_fF (v : gV) (t a : Nat) : (acR v t a = 1 ↔ fF (vHd v) (lnN t a) (a % 4 * 8) < 8) ∧ (acR v t a = 2 ↔ (¬ fF (vHd v) (lnN t a) (a % 4 * 8) < 8 ∧ fOwn (vOw v) (nI t) = 0)) ∧ (acR v t a = 0 ↔ (¬ fF (vHd v) (lnN t a) (a % 4 * 8) < 8 ∧ ¬ fOwn (vOw v) (nI t) = 0)) := by
  unfold acR rsl lnN
  by_cases c : fF (vHd v) (nI t * nI 256 + nI a) (a % 4 * 8) < 8
  · rw [if_pos c]
    exact ⟨⟨fun _ => c, fun _ => rfl⟩, ⟨fun z => (by cases z), fun z => absurd c z.1⟩, ⟨fun z => (by cases z), fun z => absurd c z.1⟩⟩
  · rw [if_neg c]
    by_cases c2 : fOwn (vOw v) (nI t) = 0
    · rw [if_pos c2]
      exact ⟨⟨fun z => (by cases z), fun z => absurd z c⟩, ⟨fun _ => ⟨c, c2⟩, fun _ => rfl⟩, ⟨fun z => (by cases z), fun z => absurd c2 z.2⟩⟩
    · rw [if_neg c2]
      exact ⟨⟨fun z => (by cases z), fun z => absurd z c⟩, ⟨fun z => (by cases z), fun z => absurd z.2 c2⟩, ⟨fun _ => ⟨c, c2⟩, fun _ => rfl⟩⟩
theorem acR_le (v : gV) (t a : Nat) : acR v t a ≤ 2 := rsl_le _ _ _ _
-- the place of a miss
theorem ptf_some {ow hd st : Nat → Int32} {t : Int32} {fs : Nat} : ∀ (f w : Nat) (o : Nat), ¬ ptf ow hd st t fs f w (some o) = none
  | 0, _, _ => fun h => by cases h
  | f + 1, w, o => by
    unfold ptf
    split
    · split
      · exact fun h => by cases h
      · exact ptf_some f (w + 1) _
    · exact ptf_some f (w + 1) o
theorem ptf_has {ow hd st : Nat → Int32} {t : Int32} {fs : Nat} : ∀ (f w u : Nat), w ≤ u → u < w + f → ow u = t → ¬ ptf ow hd st t fs f w none = none
  | 0, w, u, h1, h2, _ => absurd h2 (by omega)
  | f + 1, w, u, h1, h2, h3 => by
    unfold ptf
    split
    · split
      · exact fun h => by cases h
      · exact ptf_some f (w + 1) _
    · rename_i c
      have : ¬ u = w := fun q => c (q ▸ h3)
      exact ptf_has f (w + 1) u (by omega) (by omega) h3
theorem ptf_own {ow hd st : Nat → Int32} {t : Int32} {fs : Nat} : ∀ (f w : Nat) (old : Option Nat) (p : Nat), (∀ o, old = some o → fs ≤ o ∧ o < fs + w ∧ ow (o - fs) = t) → ptf ow hd st t fs f w old = some p → fs ≤ p ∧ p < fs + (w + f) ∧ ow (p - fs) = t
  | 0, w, old, p, ho, h => by
    have := ho p h
    exact ⟨this.1, by omega, this.2.2⟩
  | f + 1, w, old, p, ho, h => by
    unfold ptf at h
    split at h
    · rename_i c
      have hw : ow (fs + w - fs) = t := by rw [Nat.add_sub_cancel_left]; exact c
      split at h
      · cases h
        exact ⟨by omega, by omega, hw⟩
      · have := ptf_own f (w + 1) _ p (fun o e => by
          cases e
          unfold ptU
          cases old with
          | none =>
            show fs ≤ fs + w ∧ fs + w < fs + (w + 1) ∧ ow (fs + w - fs) = t
            exact ⟨by omega, by omega, hw⟩
          | some q =>
            have hq := ho q rfl
            show fs ≤ (if st (fs + w) < st q then fs + w else q) ∧ (if st (fs + w) < st q then fs + w else q) < fs + (w + 1) ∧ ow ((if st (fs + w) < st q then fs + w else q) - fs) = t
            split
            · exact ⟨by omega, by omega, hw⟩
            · exact ⟨hq.1, by omega, hq.2.2⟩) h
        exact ⟨this.1, by omega, this.2.2⟩
    · have := ptf_own f (w + 1) old p (fun o e => by
        have hq := ho o e
        exact ⟨hq.1, by omega, hq.2.2⟩) h
      exact ⟨this.1, by omega, this.2.2⟩
theorem cnt_pos {p : Nat → Bool} : ∀ {n : Nat}, ¬ cnt p n = 0 → ∃ j, j < n ∧ p j = true
  | 0, h => absurd rfl h
  | n + 1, h => by
    by_cases c : p n = true
    · exact ⟨n, by omega, c⟩
    · rw [cnt_f c] at h
      obtain ⟨j, h1, h2⟩ := cnt_pos h
      exact ⟨j, by omega, h2⟩
theorem pt_some {t a : Nat} (h : ¬ fOwn (vOw v) (nI t) = 0) : ∃ p, ptP v t a = some p ∧ a % 4 * 8 ≤ p ∧ p < a % 4 * 8 + 8 ∧ vOw v (p - a % 4 * 8) = nI t := by
  obtain ⟨u, hu, e⟩ := cnt_pos h
  have e : vOw v u = nI t := of_decide_eq_true e
  cases hp : ptP v t a with
  | none => exact absurd hp (ptf_has 8 0 u (by omega) (by omega) e)
  | some p =>
    have := ptf_own 8 0 none p (fun o ho => by cases ho) hp
    exact ⟨p, rfl, this.1, by omega, this.2.2⟩
-- lines behind an access
theorem acB_hd (v : gV) (t a : Nat) : (¬ acR v t a = 0 → vHd (acB v t a) = vHd v) ∧ ∀ p, acR v t a = 0 → ptP v t a = some p → vHd (acB v t a) = upd (vHd v) p (lnN t a) := by
  refine ⟨fun h => ?_, fun p h hp => ?_⟩
  · unfold acB
    split
    · rfl
    · rfl
  · unfold acB
    rw [if_neg (by omega), if_pos h]
    have e : brV (acA v t a) t a = brQ (acA v t a) t a p := by
      have hp2 : ptP (acA v t a) t a = some p := hp
      unfold brV
      rw [hp2]
    rw [e]
theorem pH_put {hd : Nat → Int32} (h : pH hd) {p t a : Nat} (ht : t < 4) (ha : a < 256) : pH (upd hd p (lnN t a)) := fun q hq => by
  by_cases c : q = p
  · rw [c, pk_us]
    exact Or.inr ⟨t * 256 + a, by omega, lnN_eq t a⟩
  · rw [pk_un c]
    exact h q hq
theorem pS_put {hd : Nat → Int32} (h : pS hd) {p t a : Nat} (ht : t < 4) (ha : a < 256) (hp : a % 4 = p / 8) : pS (upd hd p (lnN t a)) := fun q hq c hc e => by
  by_cases x : q = p
  · rw [x, pk_us, lnN_eq] at e
    have := nI_inj e (by omega) (by omega)
    rw [x]
    omega
  · rw [pk_un x] at e
    exact h q hq c hc e
theorem pU_put {hd : Nat → Int32} (hS : pS hd) (hU : pU hd) {p t a : Nat} (ht : t < 4) (ha : a < 256) (hn : ¬ fF hd (lnN t a) (a % 4 * 8) < 8) : pU (upd hd p (lnN t a)) := fun q r hq hr e hne => by
  have key : ∀ s, s < 32 → ¬ hd s = lnN t a := fun s hs z => by
    have := fF_line hS hU hs ht ha z
    omega
  by_cases x : q = p
  · by_cases y : r = p
    · omega
    · rw [x, pk_us, pk_un y] at e
      exact absurd e.symm (key r hr)
  · by_cases y : r = p
    · rw [y, pk_us, pk_un x] at e
      exact absurd e (key q hq)
    · rw [pk_un x, pk_un y] at e
      rw [pk_un x] at hne
      exact hU q r hq hr e hne
-- the monitor
theorem sumI_upd (g : Nat → Int32) (k b : Nat) : ∀ n, sumI (fun p => upd g k (g k + nI 1) (b + p)) n = sumI (fun p => g (b + p)) n + if b ≤ k ∧ k < b + n then nI 1 else nI 0
  | 0 => by
    rw [if_neg (by omega)]
    rfl
  | n + 1 => by
    unfold sumI
    rw [sumI_upd g k b n]
    by_cases c : b + n = k
    · rw [c, pk_us, if_neg (by omega), if_pos (by omega)]
      show sumI (fun p => g (b + p)) n + nI 0 + (g k + nI 1) = sumI (fun p => g (b + p)) n + g k + nI 1
      rw [nI_0, Int32.add_zero, Int32.add_assoc]
    · rw [pk_un c]
      by_cases d : b ≤ k ∧ k < b + n
      · rw [if_pos d, if_pos (by omega), Int32.add_assoc, Int32.add_assoc, Int32.add_comm (nI 1)]
      · rw [if_neg d, if_neg (by omega), nI_0, Int32.add_zero, Int32.add_zero]
def gsM (ga : Nat → Int32) (t : Nat) : Int32 := sumI (fun p => ga (t * 8 + p)) 8
theorem nGa_hit {ad ga : Nat → Int32} {q n t a : Nat} (ha : a < 256) (hk : liK ad q n) (hp : psN ad q a < 8) : nGa ad ga t (q * 8) a = upd ga (t * 8 + psN ad q a) (ga (t * 8 + psN ad q a) + nI 1) := by
  have e := psN_at hp
  have h1 : psN ad q a < n := Nat.lt_of_not_le (fun z => liK_no ha hk z hp e)
  funext j
  unfold nGa
  by_cases c : j = t * 8 + psN ad q a
  · rw [if_pos ⟨by omega, by omega, by rw [show j - 8 * t = psN ad q a by omega]; exact e⟩, c, pk_us]
  · rw [pk_un c, if_neg]
    rintro ⟨c1, c2, c3⟩
    obtain ⟨i, hi⟩ : ∃ i, j = t * 8 + i := ⟨j - t * 8, by omega⟩
    rw [show j - 8 * t = i by omega] at c3
    have h2 : i < n := Nat.lt_of_not_le (fun z => liK_no ha hk z (by omega) c3)
    exact liK_ne hk h2 h1 (by omega) (c3.trans e.symm)
theorem nGa_no {ad ga : Nat → Int32} {q t a : Nat} (hp : psN ad q a = 8) : nGa ad ga t (q * 8) a = ga := by
  funext j
  unfold nGa
  rw [if_neg]
  rintro ⟨c1, c2, c3⟩
  exact psN_no hp (by omega) c3
theorem ntGa_eq {t a : Nat} (h : a % 2 = 0) : ntGa v t a = nGa (vAd v) (vGa v) t (mqI t a * 8) a := if_pos h
theorem ntAd_eq {t a : Nat} (h : a % 2 = 0) : ntAd v t a = nAd (vAd v) (mqI t a * 8) a := if_pos h
theorem pM_nt (h : pM (vAd v)) {t a : Nat} (ht : t < 4) (ha : a < 256) : pM (ntAd v t a) := by
  by_cases hev : a % 2 = 0
  · rw [ntAd_eq hev]
    intro q hq
    obtain ⟨n, hn, hk⟩ := h q hq
    by_cases c : q = mqI t a
    · subst c
      by_cases d : psN (vAd v) (mqI t a) a < 8
      · have e := psN_at d
        have h1 : psN (vAd v) (mqI t a) a < n := Nat.lt_of_not_le (fun z => liK_no ha hk z d e)
        exact ⟨n, hn, (liK_hit ha hn hk h1 e).2⟩
      · have d8 : psN (vAd v) (mqI t a) a = 8 := by have := psN_le (vAd v) (mqI t a) a; omega
        exact ⟨_, by split <;> omega, (liK_new ha hn hk (fun j hj => psN_no d8 (by omega))).2⟩
    · have e : ∀ j, j < 8 → nAd (vAd v) (mqI t a * 8) a (q * 8 + j) = vAd v (q * 8 + j) := fun j hj => nAd_out (by omega)
      refine ⟨n, hn, fun j hj => ?_, fun j h1 h2 => ?_, fun i j hi hj => ?_⟩
      · rw [e j (by omega)]
        exact hk.1 j hj
      · rw [e j h2]
        exact hk.2.1 j h1 h2
      · rw [e i (by omega), e j (by omega)]
        exact hk.2.2 i j hi hj
  · have e : ntAd v t a = vAd v := if_neg hev
    rw [e]
    exact h
theorem pG_nt {B : Nat} (hM : pM (vAd v)) (h : pG (vGa v) B) {t a : Nat} (ht : t < 4) (ha : a < 256) : pG (ntGa v t a) (B + 1) := by
  by_cases hev : a % 2 = 0
  · rw [ntGa_eq hev]
    obtain ⟨n, hn, hk⟩ := hM (mqI t a) (mqI_lt ht)
    by_cases d : psN (vAd v) (mqI t a) a < 8
    · rw [nGa_hit ha hk d]
      intro j hj
      by_cases c : j = t * 8 + psN (vAd v) (mqI t a) a
      · obtain ⟨g, h1, h2⟩ := h j hj
        rw [c, pk_us, ← c, h2]
        exact ⟨g + 1, by omega, nI_add g 1⟩
      · rw [pk_un c]
        obtain ⟨g, h1, h2⟩ := h j hj
        exact ⟨g, by omega, h2⟩
    · rw [nGa_no (by have := psN_le (vAd v) (mqI t a) a; omega)]
      exact pG_up h (by omega)
  · have e : ntGa v t a = vGa v := if_neg hev
    rw [e]
    exact pG_up h (by omega)
-- counts
theorem evC_out {hd co : Nat → Int32} {p m i : Nat} (hi : ¬ i % 4 = 3) : evC hd p m co i = co i := if_neg (fun z => hi z.1)
theorem acB_co {t a i : Nat} (hi : ¬ i % 4 = 3) : vCo (acB v t a) i = upd (vCo v) (t * 4 + acR v t a) (vCo v (t * 4 + acR v t a) + nI 1) i := by
  unfold acB
  split
  · rfl
  · split
    · unfold brV
      split
      · rfl
      · exact evC_out hi
    · rfl
theorem cM_up {co : Nat → Int32} {t r u : Nat} (hr : r ≤ 2) : cM (upd co (t * 4 + r) (co (t * 4 + r) + nI 1)) u = if u = t then cM co u + nI 1 else cM co u := by
  unfold cM
  by_cases c : u = t
  · subst c
    rw [if_pos rfl]
    have h3 : r = 0 ∨ r = 1 ∨ r = 2 := by omega
    rcases h3 with rfl | rfl | rfl
    · rw [pk_us, pk_un (by omega), pk_un (by omega)]
      ac_rfl
    · rw [pk_us, pk_un (by omega), pk_un (by omega)]
      ac_rfl
    · rw [pk_us, pk_un (by omega), pk_un (by omega)]
      ac_rfl
  · rw [if_neg c, pk_un (by omega), pk_un (by omega), pk_un (by omega)]
theorem cM_cong {co co' : Nat → Int32} (h : ∀ i, ¬ i % 4 = 3 → co i = co' i) (u : Nat) : cM co u = cM co' u := by
  unfold cM
  rw [h _ (by omega), h _ (by omega), h _ (by omega)]
theorem cM_sum {co : Nat → Int32} {t r : Nat} (ht : t < 4) (hr : r ≤ 2) : sumI (cM (upd co (t * 4 + r) (co (t * 4 + r) + nI 1))) 4 = sumI (cM co) 4 + nI 1 := by
  have h := fun u => cM_up (co := co) (t := t) (u := u) hr
  simp only [sumI, h]
  have h4 : t = 0 ∨ t = 1 ∨ t = 2 ∨ t = 3 := by omega
  rcases h4 with rfl | rfl | rfl | rfl <;> simp only [Nat.reduceEqDiff, if_true, if_false, reduceIte] <;> ac_rfl
theorem pV_ac {B : Nat} (h : pV v B) {t a : Nat} (ht : t < 4) (ha : a < 256) : pV (acB v t a) (B + 1) := by
  obtain ⟨hk, hS, hU, hM, hG, hC, hE⟩ := id h
  obtain ⟨c1, c2, c3, c4, c5, c6⟩ := acB_c v t a
  have hl : pS (vHd (acB v t a)) ∧ pU (vHd (acB v t a)) := by
    by_cases c : acR v t a = 0
    · obtain ⟨d1, d2⟩ := (acR_fF v t a).2.2.mp c
      obtain ⟨p, hp, p1, p2, p3⟩ := pt_some (a := a) d2
      rw [(acB_hd v t a).2 p c hp]
      exact ⟨pS_put hS ht ha (by omega), pU_put hS hU ht ha d1⟩
    · rw [(acB_hd v t a).1 c]
      exact ⟨hS, hU⟩
  refine ⟨vK_acB hk ht ha, hl.1, hl.2, ?_, ?_, ?_, ?_⟩
  · rw [c2]
    exact pM_nt hM ht ha
  · rw [c3]
    exact pG_nt hM hG ht ha
  · rw [c6, ← hC, ← cM_sum ht (acR_le v t a)]
    exact sumI_cong (fun u _ => cM_cong (fun i hi => acB_co hi) u)
  · rw [c5]
    exact hE
end PA1
end
section
/-! The state: what the law asks of an access. -/
section PF1
variable {v : gV}
theorem k_cnt (v : gV) (t a : Nat) : vCo (acB v t a) (t * 4 + acR v t a) = vCo v (t * 4 + acR v t a) + nI 1 := by
  have := acR_le v t a
  rw [acB_co (by omega), pk_us]
theorem k_1 {t a : Nat} (h : acR v t a = 1) : ¬ fdR (vHd v) t a < 0 ∧ vHd (acB v t a) = vHd v :=
  ⟨fun z => fd_neg.mp z ((acR_fF v t a).1.mp h), (acB_hd v t a).1 (by omega)⟩
theorem k_2 {t a : Nat} (h : acR v t a = 2) : fdR (vHd v) t a < 0 ∧ vHd (acB v t a) = vHd v ∧ fOwn (vOw (acB v t a)) (nI t) = 0 := by
  obtain ⟨h1, h2⟩ := (acR_fF v t a).2.1.mp h
  refine ⟨fd_neg.mpr h1, (acB_hd v t a).1 (by omega), ?_⟩
  rw [(acB_c v t a).1]
  exact h2
theorem k_0 {B : Nat} (hV : pV v B) {t a : Nat} (ht : t < 4) (ha : a < 256) (h : acR v t a = 0) : ∃ p i, p < 32 ∧ i < 8 ∧ fdR (vHd v) t a < 0 ∧ vHd (acB v t a) = upd (vHd v) p (lnN t a) ∧ ptP v t a = some p ∧ fdR (vHd (acB v t a)) t a = nI i ∧ vOw (acB v t a) i = nI t ∧ vcR v t a = vHd v p ∧ nE (vHd (acB v t a)) = nE (vHd v) + if vHd v p = -1 then 1 else 0 := by
  obtain ⟨hk, hS, hU, hM, hG, hC, hE⟩ := id hV
  obtain ⟨d1, d2⟩ := (acR_fF v t a).2.2.mp h
  obtain ⟨p, hp, p1, p2, p3⟩ := pt_some (a := a) d2
  have e := (acB_hd v t a).2 p h hp
  have hS' := pS_put (p := p) hS ht ha (by omega)
  have hU' := pU_put (p := p) hS hU ht ha d1
  have hf := (fF_line hS' hU' (p := p) (by omega) ht ha (pk_us)).2
  refine ⟨p, p % 8, by omega, by omega, fd_neg.mpr d1, e, hp, ?_, ?_, ?_, ?_⟩
  · rw [e]
    unfold fdR
    rw [hf, if_pos (by omega)]
  · rw [(acB_c v t a).1, ← p3]
    exact congrArg _ (by omega)
  · unfold vcR
    rw [if_pos h, hp]
  · rw [e]
    exact nE_put (by omega) (lnN_ne ht ha)
theorem evC_in {hd co : Nat → Int32} {p m i : Nat} (h1 : i % 4 = 3) (h2 : i / 4 < m) (h3 : hol hd (nI (i / 4)) p = true) : evC hd p m co i = co i + nI 1 := if_pos ⟨h1, h2, h3⟩
theorem brQ_co (w : gV) (t a p i : Nat) : vCo (brQ w t a p) i = evC (vHd w) p 4 (vCo w) i := rfl
theorem acA_hd (v : gV) (t a : Nat) : vHd (acA v t a) = vHd v := rfl
theorem acA_co (v : gV) (t a : Nat) : vCo (acA v t a) = upd (vCo v) (t * 4 + acR v t a) (vCo v (t * 4 + acR v t a) + nI 1) := rfl
theorem acB_ev {t a p t2 : Nat} (h : acR v t a = 0) (hp : ptP v t a = some p) (ht2 : t2 < 4) (hh : hol (vHd v) (nI t2) p = true) : vCo (acB v t a) (t2 * 4 + 3) = vCo v (t2 * 4 + 3) + nI 1 := by
  have e : acB v t a = brQ (acA v t a) t a p := by
    unfold acB
    rw [if_neg (by omega), if_pos h]
    have hp2 : ptP (acA v t a) t a = some p := hp
    unfold brV
    rw [hp2]
  have hr := acR_le v t a
  have e3 : (t2 * 4 + 3) / 4 = t2 := by omega
  rw [e, brQ_co, acA_hd, evC_in (by omega) (by omega) (by rw [e3]; exact hh), acA_co, pk_un (by omega)]
theorem k_v {B : Nat} (hV : pV v B) {t a : Nat} (ht : t < 4) (ha : a < 256) : vcR v t a = -1 ∨ ∃ t2 a2, t2 < 4 ∧ a2 < 256 ∧ vcR v t a = nI (t2 * 256 + a2) ∧ acR v t a = 0 ∧ vCo (acB v t a) (t2 * 4 + 3) = vCo v (t2 * 4 + 3) + nI 1 ∧ fdR (vHd (acB v t a)) t2 a2 < 0 := by
  by_cases h : acR v t a = 0
  · obtain ⟨hk, hS, hU, hM, hG, hC, hE⟩ := id hV
    obtain ⟨p, i, hp, hi, h1, h2, h3, h4, h5, h6, h7⟩ := k_0 hV ht ha h
    rw [h6]
    rcases hk.2.1 p hp with c | ⟨c, hc, e⟩
    · exact Or.inl c
    · refine Or.inr ⟨c / 256, c % 256, by omega, by omega, by rw [e]; exact congrArg nI (by omega), h, acB_ev h h3 (by omega) (by rw [hol_c e hc (by omega)]; simp), ?_⟩
      rw [h2]
      have hn : ¬ vHd v p = -1 := by
        rw [e]
        exact nI_m1 (by omega)
      have hl : lnN (c / 256) (c % 256) = vHd v p := by
        rw [lnN_eq, e]
        exact congrArg nI (by omega)
      have hpd := (acR_fF v t a).2.2.mp h
      have pset : c % 4 = p / 8 := hS p hp c hc e
      refine fd_neg.mpr (fun z => ?_)
      have z2 := fF_at z
      have z3 : c % 256 % 4 * 8 + fF (upd (vHd v) p (lnN t a)) (lnN (c / 256) (c % 256)) (c % 256 % 4 * 8) < 32 := by omega
      generalize c % 256 % 4 * 8 + fF (upd (vHd v) p (lnN t a)) (lnN (c / 256) (c % 256)) (c % 256 % 4 * 8) = r at z2 z3
      rw [hl] at z2
      by_cases y : r = p
      · rw [y, pk_us] at z2
        have := (fF_line hS hU hp ht ha z2.symm).2
        exact hpd.1 (by rw [this]; omega)
      · rw [pk_un y] at z2
        exact y (hU r p z3 hp z2 (by rw [z2]; exact hn))
  · refine Or.inl ?_
    unfold vcR
    rw [if_neg h]
theorem nAd_1 {ad : Nat → Int32} {q n a : Nat} (ha : a < 256) (hn : n ≤ 8) (hl : liK ad q n) (d : ¬ psN ad q a = 0) : nAd ad (q * 8) a (q * 8 + 1) = ad (q * 8 + 0) := by
  have h1 : 1 ≤ nL ad (q * 8) a := by
    by_cases d2 : psN ad q a < 8
    · have e := psN_at d2
      have h1 : psN ad q a < n := Nat.lt_of_not_le (fun z => liK_no ha hl z d2 e)
      have e2 := (liK_hit ha hn hl h1 e).1
      omega
    · have d8 : psN ad q a = 8 := by
        have := psN_le ad q a
        omega
      have e2 := (liK_new ha hn hl (fun j hj => psN_no d8 (by omega))).1
      omega
  rw [nAd_at, if_neg (by omega), if_pos h1]
theorem k_s {B : Nat} (hV : pV v B) {t a : Nat} (ht : t < 4) (ha : a < 256) (hev : a % 2 = 0) : vAd (acB v t a) (mqI t a * 8 + 0) = nI a ∧ gsM (vGa (acB v t a)) t = gsM (vGa v) t + (if psN (vAd v) (mqI t a) a < 8 then nI 1 else nI 0) ∧ (psN (vAd v) (mqI t a) a < 8 → vGa (acB v t a) (t * 8 + psN (vAd v) (mqI t a) a) = vGa v (t * 8 + psN (vAd v) (mqI t a) a) + nI 1) ∧ (¬ psN (vAd v) (mqI t a) a = 0 → vAd (acB v t a) (mqI t a * 8 + 1) = vAd v (mqI t a * 8 + 0)) := by
  have hM : pM (vAd v) := hV.2.2.2.1
  have c2 : vAd (acB v t a) = nAd (vAd v) (mqI t a * 8) a := ((acB_c v t a).2.1).trans (ntAd_eq hev)
  have c3 : vGa (acB v t a) = nGa (vAd v) (vGa v) t (mqI t a * 8) a := ((acB_c v t a).2.2.1).trans (ntGa_eq hev)
  clear hV
  generalize acB v t a = w at c2 c3
  have hq := mqI_lt (a := a) ht
  generalize mqI t a = q at hq c2 c3
  obtain ⟨n, hn, hl⟩ := hM q hq
  rw [c2, c3]
  clear c2 c3
  generalize vAd v = ad at hM hl
  generalize vGa v = ga
  refine ⟨by rw [nAd_at, if_pos rfl], ?_, fun d => ?_, fun d => ?_⟩
  · by_cases d : psN ad q a < 8
    · rw [nGa_hit ha hl d, if_pos d]
      unfold gsM
      rw [sumI_upd, if_pos ⟨by omega, by omega⟩]
    · rw [nGa_no (by have := psN_le ad q a; omega), if_neg d, nI_0, Int32.add_zero]
  · rw [nGa_hit ha hl d, pk_us]
  · exact nAd_1 ha hn hl d
theorem k_o {t a : Nat} (hev : ¬ a % 2 = 0) : gsM (vGa (acB v t a)) t = gsM (vGa v) t := by
  have e : ntGa v t a = vGa v := if_neg hev
  rw [(acB_c v t a).2.2.1, e]
end PF1
end
section
/-! The state: ways moved and given, least numbers, gains halved, lines removed, streams. -/
section PE1
variable {v : gV}
theorem tgt_8 {L : Nat → Nat} (hL : ∀ t, t < 4 → L t ≤ 2) (ga : Nat → Int32) : sumN (tgt L ga) 4 = 8 := tgt_sum (by
  have a0 := hL 0 (by decide)
  have a1 := hL 1 (by decide)
  have a2 := hL 2 (by decide)
  have a3 := hL 3 (by decide)
  simp only [sumN]
  omega)
theorem lfv_2 {B : Nat} (h : pV v B) : ∀ t, t < 4 → lfv v t ≤ 2 := fun t ht => (lfv_ok h.1 t ht).2
abbrev tgV (v : gV) (t : Nat) : Nat := tgt (lfv v) (vGa v) t
theorem tgV_sum {B : Nat} (h : pV v B) : sumN (tgV v) 4 = 8 := tgt_8 (lfv_2 h) _
theorem tgV_le {B : Nat} (h : pV v B) {t : Nat} (ht : t < 4) : tgV v t ≤ 8 := by
  have := sum_le (W := tgV v) ht
  have := tgV_sum h
  omega
theorem cmpW_ge {ga : Nat → Int32} {t : Nat} : ∀ (f : Nat) (W : Nat → Nat) (r : Nat), W t ≤ cmpW ga f W r t
  | 0, _, _ => Nat.le_refl _
  | f + 1, W, r => by
    unfold cmpW
    split
    · refine Nat.le_trans ?_ (cmpW_ge f _ _)
      unfold gNew
      split <;> omega
    · exact Nat.le_refl _
theorem tgt_ge (L : Nat → Nat) (ga : Nat → Int32) (t : Nat) : L t ≤ tgt L ga t := cmpW_ge 8 L _
theorem fOwn_le (ow : Nat → Int32) (x : Int32) : fOwn ow x ≤ 8 := cnt_le _ 8
theorem mx_N {T O : Nat} (hT : T ≤ 8) (hO : O ≤ 8) : (if nI T - nI O < nI 0 then nI 0 else nI T - nI O) = nI (T - O) := by
  by_cases c : O ≤ T
  · rw [pk_sub c, if_neg]
    exact nI_pos (by omega)
  · rw [if_pos (show nI T - nI O < nI 0 from pk_sneg (by omega) (by omega)), show T - O = 0 by omega]
theorem sumI_N {f : Nat → Int32} {g : Nat → Nat} : ∀ {n : Nat}, (∀ j, j < n → f j = nI (g j)) → sumI f n = nI (sumN g n)
  | 0, _ => rfl
  | n + 1, h => by
    unfold sumI sumN
    rw [h n (by omega), sumI_N (fun j hj => h j (by omega)), nI_add]
theorem mx_sum {B : Nat} (h : pV v B) : sumI (mxD (lfv v) v) 4 = nI (sumN (fun t => tgV v t - fOwn (vOw v) (nI t)) 4) := sumI_N (fun t ht => mx_N (tgV_le h ht) (fOwn_le _ _))
theorem wfl_own {ow : Nat → Int32} {ln : Nat → Nat} {t : Int32} : ∀ (f w : Nat) (b : Option Nat) (m p : Nat), (∀ q, b = some q → ow q = t) → wfl ow ln t f w b m = some p → ow p = t
  | 0, _, _, _, p, hb, h => hb p h
  | f + 1, w, b, m, p, hb, h => by
    unfold wfl at h
    split at h
    · rename_i c
      exact wfl_own f (w + 1) (some w) _ p (fun q hq => by cases hq; exact c.1) h
    · exact wfl_own f (w + 1) b _ p hb h
theorem own_4 {B : Nat} (h : pV v B) : sumN (fun t => fOwn (vOw v) (nI t)) 4 = 8 := by
  have := own_sum (ow := vOw v) 8 h.1.1
  simp only [sumN, fOwn]
  omega
theorem own_put {ow : Nat → Int32} {w d r : Nat} (hw : w < 8) (hd : d < 4) (hr : r < 4) (hne : ¬ d = r) (ho : ow w = nI d) : fOwn (upd ow w (nI r)) (nI r) = fOwn ow (nI r) + 1 ∧ fOwn ow (nI d) = fOwn (upd ow w (nI r)) (nI d) + 1 ∧ ∀ t, t < 4 → ¬ t = d → ¬ t = r → fOwn (upd ow w (nI r)) (nI t) = fOwn ow (nI t) := by
  have hdr : ¬ nI d = nI r := fun z => hne (nI_inj z (by omega) (by omega))
  refine ⟨cnt_one (k := w) (fun j hj => by rw [pk_un hj]) (by simp [pk_us]) (by simp [ho, hdr]) 8 hw, cnt_one (k := w) (fun j hj => by rw [pk_un hj]) (by simp [ho]) (by simp only [pk_us, decide_eq_true_iff]; exact fun z => hdr z.symm) 8 hw, fun t ht h1 h2 => cnt_cong (fun j hj => ?_)⟩
  by_cases c : j = w
  · rw [c, pk_us, ho, decide_eq_false (fun z => h2 (nI_inj z (by omega) (by omega)).symm), decide_eq_false (fun z => h1 (nI_inj z (by omega) (by omega)).symm)]
  · rw [pk_un c]
theorem pV_mv {B : Nat} (h : pV v B) (L : Nat → Nat) : pV (mvV L v) B := ⟨vK_mv h.1 L, h.2⟩
theorem mvs {B : Nat} (h : pV v B) : (mvW (lfv v) v = none ∧ sumI (mxD (lfv v) v) 4 = nI 0) ∨ ∃ w d r, mvW (lfv v) v = some w ∧ w < 8 ∧ d < 4 ∧ r < 4 ∧ ¬ d = r ∧ vOw v w = nI d ∧ vOw (mvV (lfv v) v) = upd (vOw v) w (nI r) ∧ sumI (mxD (lfv (mvV (lfv v) v)) (mvV (lfv v) v)) 4 = sumI (mxD (lfv v) v) 4 - nI 1 ∧ tgV (mvV (lfv v) v) d ≤ fOwn (vOw (mvV (lfv v) v)) (nI d) ∧ fOwn (vOw (mvV (lfv v) v)) (nI r) ≤ tgV (mvV (lfv v) v) r := by
  have hL := lfv_ok h.1
  have hm := amax_le (mvD (lfv v) v) 3
  have hm2 := amin_le (mvD (lfv v) v) 3
  have hmx := amax_max (mvD (lfv v) v) 3
  have hmn := amin_min (mvD (lfv v) v) 3
  have hi : ∀ t, t < 4 → (mvD (lfv v) v t).toInt = (tgV v t : Int) - (fOwn (vOw v) (nI t) : Int) := fun t ht => by
    have h1 := tgV_le h ht
    have h2 := fOwn_le (vOw v) (nI t)
    have h3 : mvD (lfv v) v t = nI (tgV v t) - nI (fOwn (vOw v) (nI t)) := rfl
    rw [h3]
    exact pk_sub_toInt (by omega) (by omega)
  have hs := tgV_sum h
  have ho := own_4 h
  have mxs := mx_sum h
  simp only [sumN] at hs ho
  by_cases c : mvD (lfv v) v (amax (mvD (lfv v) v) 3) = 0
  · refine Or.inl ⟨if_pos c, ?_⟩
    rw [mxs]
    have hz : ∀ t, t < 4 → tgV v t ≤ fOwn (vOw v) (nI t) := fun t ht => by
      have h1 := hmx t (by omega)
      rw [Int32.lt_iff_toInt_lt, c, hi t ht] at h1
      have : (0 : Int32).toInt = 0 := rfl
      omega
    rw [sumN_0 (fun t ht => by have := hz t ht; omega)]
  · have hsome := mv_some h.1 hL c
    have e1 : mvW (lfv v) v = wfl (vOw v) (lnW (vHd v) (nI (amin (mvD (lfv v) v) 3))) (nI (amin (mvD (lfv v) v) 3)) 8 0 none 5 := if_neg c
    obtain ⟨w, hw⟩ : ∃ w, mvW (lfv v) v = some w := by
      cases hq : mvW (lfv v) v with
      | none => exact absurd hq hsome
      | some w => exact ⟨w, rfl⟩
    have hw8 : w < 8 := wfl_lt 8 0 none 5 w (by omega) (fun q hq => by cases hq) (e1.symm.trans hw)
    have hwo : vOw v w = nI (amin (mvD (lfv v) v) 3) := wfl_own 8 0 none 5 w (fun q hq => by cases hq) (e1.symm.trans hw)
    have e2 : vOw (mvV (lfv v) v) = upd (vOw v) w (nI (amax (mvD (lfv v) v) 3)) := by
      show mvO (lfv v) v = _
      unfold mvO
      rw [hw]
    have pmx : ∀ t, t < 4 → (tgV v t : Int) - (fOwn (vOw v) (nI t) : Int) ≤ (tgV v (amax (mvD (lfv v) v) 3) : Int) - (fOwn (vOw v) (nI (amax (mvD (lfv v) v) 3)) : Int) := fun t ht => by
      have h1 := hmx t (by omega)
      rw [Int32.lt_iff_toInt_lt, hi t ht, hi _ (by omega)] at h1
      omega
    have pmn : ∀ t, t < 4 → (tgV v (amin (mvD (lfv v) v) 3) : Int) - (fOwn (vOw v) (nI (amin (mvD (lfv v) v) 3)) : Int) ≤ (tgV v t : Int) - (fOwn (vOw v) (nI t) : Int) := fun t ht => by
      have h1 := hmn t (by omega)
      rw [Int32.lt_iff_toInt_lt, hi t ht, hi _ (by omega)] at h1
      omega
    have hnz : ¬ (tgV v (amax (mvD (lfv v) v) 3) : Int) - (fOwn (vOw v) (nI (amax (mvD (lfv v) v) 3)) : Int) = 0 := fun z => by
      rw [← hi _ (by omega)] at z
      exact c (Int32.toInt_inj.mp z)
    generalize amax (mvD (lfv v) v) 3 = r at *
    generalize amin (mvD (lfv v) v) 3 = d at *
    have x0 := pmx 0 (by decide)
    have x1 := pmx 1 (by decide)
    have x2 := pmx 2 (by decide)
    have x3 := pmx 3 (by decide)
    have y0 := pmn 0 (by decide)
    have y1 := pmn 1 (by decide)
    have y2 := pmn 2 (by decide)
    have y3 := pmn 3 (by decide)
    have hpos : fOwn (vOw v) (nI r) < tgV v r := by omega
    have hneg : tgV v d < fOwn (vOw v) (nI d) := by
      have yr := pmn r (by omega)
      have hr4 : r = 0 ∨ r = 1 ∨ r = 2 ∨ r = 3 := by omega
      rcases hr4 with e | e | e | e <;> subst e <;> omega
    have hdr : ¬ d = r := fun z => by
      subst z
      omega
    obtain ⟨o1, o2, o3⟩ := own_put hw8 (show d < 4 by omega) (show r < 4 by omega) hdr hwo
    have hV' := pV_mv h (lfv v)
    have mxs' := mx_sum hV'
    rw [e2] at mxs'
    refine Or.inr ⟨w, d, r, hw, hw8, by omega, by omega, hdr, hwo, e2, ?_, ?_, ?_⟩
    · rw [mxs', mxs]
      have k : sumN (fun t => tgV v t - fOwn (vOw v) (nI t)) 4 = sumN (fun t => tgV (mvV (lfv v) v) t - fOwn (upd (vOw v) w (nI r)) (nI t)) 4 + 1 := by
        have et : ∀ t, tgV (mvV (lfv v) v) t = tgV v t := fun t => rfl
        simp only [sumN, et]
        have z : ∀ t, t < 4 → tgV v t - fOwn (vOw v) (nI t) = tgV v t - fOwn (upd (vOw v) w (nI r)) (nI t) + if t = r then 1 else 0 := fun t ht => by
          by_cases c1 : t = r
          · rw [c1, if_pos rfl]
            omega
          · rw [if_neg c1]
            by_cases c2 : t = d
            · rw [c2]
              omega
            · rw [o3 t ht c2 c1]
              rfl
        rw [z 0 (by decide), z 1 (by decide), z 2 (by decide), z 3 (by decide)]
        have hr4 : r = 0 ∨ r = 1 ∨ r = 2 ∨ r = 3 := by omega
        rcases hr4 with e | e | e | e <;> subst e <;> simp only [Nat.reduceEqDiff, reduceIte] <;> omega
      rw [k, pk_sub (by omega), Nat.add_sub_cancel]
    · rw [e2]
      show tgV v d ≤ _
      omega
    · rw [e2]
      show _ ≤ tgV v r
      omega
theorem mv_ch {ow : Nat → Int32} {w d r : Nat} (hw : w < 8) (hd : d < 4) (hr : r < 4) (hne : ¬ d = r) (ho : ow w = nI d) : cnt (fun k => decide (¬ upd ow w (nI r) k = ow k)) 8 = 1 := by
  have hdr : ¬ nI r = nI d := fun z => hne (nI_inj z (by omega) (by omega)).symm
  have h := cnt_one (p := fun k => decide (¬ upd ow w (nI r) k = ow k)) (q := fun _ => false) (k := w) (fun j hj => by rw [pk_un hj]; simp) (by simp [pk_us, ho, hdr]) (by decide) 8 hw
  rw [h, cnt_0 (fun _ _ => by decide)]
-- the others
theorem pV_rm {B : Nat} (h : pV v B) (t : Nat) : pV (rmV v t) B := ⟨vK_rm h.1 t, pS_rm h.2.1 _, pU_rm h.2.2.1 _, h.2.2.2⟩
theorem pV_gw {B : Nat} (h : pV v B) {w t : Nat} (ht : t < 4) : pV (upd (vOw v) w (nI t), vHd v, vSt v, vAd v, vGa v, vLe v, vCo v, vEp v, vAc v) B := ⟨vK_gw h.1 ht, h.2⟩
theorem pV_sl {B : Nat} (h : pV v B) {t l : Nat} (hl : l ≤ 2) : pV (vOw v, vHd v, vSt v, vAd v, vGa v, upd (vLe v) t (nI l), vCo v, vEp v, vAc v) B := ⟨vK_sl h.1 hl, h.2⟩
theorem hlv_N {g : Nat} (h : g < 2 ^ 31) : nI g / nI 2 = nI (g / 2) := pk_div h (by decide) (by decide)
theorem pG_hl {ga : Nat → Int32} {B : Nat} (h : pG ga B) (hB : B < 2 ^ 31) : pG (hlv ga) B := fun j hj => by
  obtain ⟨g, h1, h2⟩ := h j hj
  refine ⟨g / 2, by omega, ?_⟩
  show ga j / nI 2 = _
  rw [h2, hlv_N (by omega)]
theorem pV_hl {B : Nat} (h : pV v B) (hB : B < 2 ^ 31) : pV (hlV v) B := ⟨vK_of h.1 rfl rfl rfl rfl, h.2.1, h.2.2.1, h.2.2.2.1, pG_hl h.2.2.2.2.1 hB, h.2.2.2.2.2⟩
def gaN (ga : Nat → Int32) : Nat → Nat := fun j => (ga j).toNatClampNeg
theorem gaN_ok {ga : Nat → Int32} {B : Nat} (h : pG ga B) (hB : B < 2 ^ 31) : ∀ j, j < 32 → ga j = nI (gaN ga j) ∧ gaN ga j ≤ B := fun j hj => by
  obtain ⟨g, h1, h2⟩ := h j hj
  have e : gaN ga j = g := by
    unfold gaN
    rw [h2]
    exact nI_clamp (by omega)
  rw [e]
  exact ⟨h2, h1⟩
theorem sumN_le {f : Nat → Nat} {B : Nat} : ∀ {n : Nat}, (∀ j, j < n → f j ≤ B) → sumN f n ≤ n * B
  | 0, _ => Nat.zero_le _
  | n + 1, h => by
    unfold sumN
    have := sumN_le (n := n) (fun j hj => h j (by omega))
    have := h n (by omega)
    rw [Nat.succ_mul]
    omega
theorem sumN_half (f : Nat → Nat) : ∀ n, sumN (fun j => f j / 2) n ≤ sumN f n / 2
  | 0 => Nat.zero_le _
  | n + 1 => by
    unfold sumN
    have := sumN_half f n
    omega
theorem gsM_N {ga : Nat → Int32} {B t : Nat} (h : pG ga B) (hB : B < 2 ^ 31) (ht : t < 4) : gsM ga t = nI (sumN (fun p => gaN ga (t * 8 + p)) 8) ∧ sumN (fun p => gaN ga (t * 8 + p)) 8 ≤ 8 * B :=
  ⟨sumI_N (fun p hp => (gaN_ok h hB _ (by omega)).1), sumN_le (fun p hp => (gaN_ok h hB _ (by omega)).2)⟩
theorem sumN_32 (f : Nat → Nat) : sumN f 32 = sumN (fun p => f (0 * 8 + p)) 8 + sumN (fun p => f (1 * 8 + p)) 8 + sumN (fun p => f (2 * 8 + p)) 8 + sumN (fun p => f (3 * 8 + p)) 8 := by
  simp only [sumN, Nat.reduceMul, Nat.reduceAdd]
  omega
theorem gs_all {ga : Nat → Int32} {B : Nat} (h : pG ga B) (hB : B < 2 ^ 31) : sumI ga 32 = gsM ga 0 + gsM ga 1 + gsM ga 2 + gsM ga 3 := by
  rw [(gsM_N h hB (t := 0) (by decide)).1, (gsM_N h hB (t := 1) (by decide)).1, (gsM_N h hB (t := 2) (by decide)).1, (gsM_N h hB (t := 3) (by decide)).1, nI_add, nI_add, nI_add, ← sumN_32]
  exact sumI_N (fun j hj => (gaN_ok h hB j hj).1)
theorem hl_le {ga : Nat → Int32} {B : Nat} (h : pG ga B) (hB : B ≤ 10000) : sumI (hlv ga) 32 ≤ gsM ga 0 / nI 2 + gsM ga 1 / nI 2 + gsM ga 2 / nI 2 + gsM ga 3 / nI 2 := by
  have k := fun t (ht : t < 4) => gsM_N h (by omega) ht
  obtain ⟨a0, b0⟩ := k 0 (by decide)
  obtain ⟨a1, b1⟩ := k 1 (by decide)
  obtain ⟨a2, b2⟩ := k 2 (by decide)
  obtain ⟨a3, b3⟩ := k 3 (by decide)
  have e : sumI (hlv ga) 32 = nI (sumN (fun j => gaN ga j / 2) 32) := sumI_N (fun j hj => by
    obtain ⟨h1, h2⟩ := gaN_ok h (by omega) j hj
    show ga j / nI 2 = _
    rw [h1, hlv_N (by omega)])
  rw [e, a0, a1, a2, a3, hlv_N (by omega), hlv_N (by omega), hlv_N (by omega), hlv_N (by omega), nI_add, nI_add, nI_add, sumN_32 (fun j => gaN ga j / 2)]
  have s0 := sumN_half (fun p => gaN ga (0 * 8 + p)) 8
  have s1 := sumN_half (fun p => gaN ga (1 * 8 + p)) 8
  have s2 := sumN_half (fun p => gaN ga (2 * 8 + p)) 8
  have s3 := sumN_half (fun p => gaN ga (3 * 8 + p)) 8
  rw [nI_leI (by omega) (by omega)]
  omega
theorem st_ok {B t a z : Nat} (h : pV v B) (ht : t < 4) (L : Nat → Nat) : ∀ m, pV (stS L v t a z m) (B + m) ∧ vCo (stS L v t a z m) (t * 4 + 1) = vCo v (t * 4 + 1) + nI (stH L v t a z m) ∧ vAc (stS L v t a z m) = vAc v + nI m
  | 0 => ⟨h, by show _ = _ + nI 0; rw [nI_0, Int32.add_zero]; rfl, by show _ = _ + nI 0; rw [nI_0, Int32.add_zero]; rfl⟩
  | m + 1 => by
    obtain ⟨h1, h2, h3⟩ := st_ok (a := a) (z := z) h ht L m
    have e : stS L v t a z (m + 1) = acB (stS L v t a z m) t ((a + m * z) % 256) := acV_0 h1.2.2.2.2.2.2
    rw [e]
    refine ⟨pV_ac h1 ht (Nat.mod_lt _ (by decide)), ?_, ?_⟩
    · have hr := acR_le (stS L v t a z m) t ((a + m * z) % 256)
      rw [acB_co (by omega)]
      by_cases c : acR (stS L v t a z m) t ((a + m * z) % 256) = 1
      · rw [c, pk_us, h2]
        have e2 : stH L v t a z (m + 1) = stH L v t a z m + 1 := by
          show (if _ then _ else _) = _
          rw [if_pos c]
        rw [e2, ← nI_add, Int32.add_assoc]
      · rw [pk_un (by omega), h2]
        have e2 : stH L v t a z (m + 1) = stH L v t a z m := by
          show (if _ then _ else _) = _
          rw [if_neg c]
        rw [e2]
    · rw [(acB_c _ t _).2.2.2.2.2, h3, Int32.add_assoc, nI_add]
end PE1
end
