section
-- ===== PART A: goes FIRST, ahead of the names: the tables' words, and 'selects' of the private methods out of them =====
/-- a private method of a class that the tables say can be made, by its rows of tables_1 -/
def lw_okq (q : MethodName × Nat) : Prop := (q.1.cls ≠ "java/lang/invoke/MethodHandle" ∧ q.1.cls ≠ "java/lang/invoke/VarHandle") ∧ Cond.instantiable q.1.cls q.2 ∈ tables_1 ∧ Cond.privateMethod q.1 ∈ tables_1 ∧ Cond.instanceMethod q.1 ∈ tables_1
theorem lw_p0 : lw_okq (⟨"java/lang/Throwable", "fillInStackTrace", "(I)Ljava/lang/Throwable;"⟩, 6) := ⟨⟨by decide +kernel, by decide +kernel⟩, List.mem_of_getElem? (i := 130) (by decide +kernel), List.mem_of_getElem? (i := 128) (by decide +kernel), List.mem_of_getElem? (i := 129) (by decide +kernel)⟩
theorem lw_p1 : lw_okq (⟨"LogTreeModel", "headOf", "(II)J"⟩, 8) := ⟨⟨by decide +kernel, by decide +kernel⟩, List.mem_of_getElem? (i := 276) (by decide +kernel), List.mem_of_getElem? (i := 327) (by decide +kernel), List.mem_of_getElem? (i := 328) (by decide +kernel)⟩
theorem lw_p2 : lw_okq (⟨"LogTreeModel", "pathOf", "(III)V"⟩, 8) := ⟨⟨by decide +kernel, by decide +kernel⟩, List.mem_of_getElem? (i := 276) (by decide +kernel), List.mem_of_getElem? (i := 351) (by decide +kernel), List.mem_of_getElem? (i := 352) (by decide +kernel)⟩
theorem lw_p3 : lw_okq (⟨"LogTreeModel", "put", "(J)V"⟩, 8) := ⟨⟨by decide +kernel, by decide +kernel⟩, List.mem_of_getElem? (i := 276) (by decide +kernel), List.mem_of_getElem? (i := 355) (by decide +kernel), List.mem_of_getElem? (i := 356) (by decide +kernel)⟩
theorem lw_p4 : lw_okq (⟨"LogTreeModel", "stepsOf", "(IIIZ)V"⟩, 8) := ⟨⟨by decide +kernel, by decide +kernel⟩, List.mem_of_getElem? (i := 276) (by decide +kernel), List.mem_of_getElem? (i := 363) (by decide +kernel), List.mem_of_getElem? (i := 364) (by decide +kernel)⟩
theorem lw_p5 : lw_okq (⟨"LogTreeModel", "rootOf", "(IIJ)J"⟩, 8) := ⟨⟨by decide +kernel, by decide +kernel⟩, List.mem_of_getElem? (i := 276) (by decide +kernel), List.mem_of_getElem? (i := 384) (by decide +kernel), List.mem_of_getElem? (i := 385) (by decide +kernel)⟩
theorem lw_p6 : lw_okq (⟨"LogTreeModel", "next", "()J"⟩, 8) := ⟨⟨by decide +kernel, by decide +kernel⟩, List.mem_of_getElem? (i := 276) (by decide +kernel), List.mem_of_getElem? (i := 388) (by decide +kernel), List.mem_of_getElem? (i := 389) (by decide +kernel)⟩
theorem lw_p7 : lw_okq (⟨"LogTreeModel", "both", "(IIZJ)V"⟩, 8) := ⟨⟨by decide +kernel, by decide +kernel⟩, List.mem_of_getElem? (i := 276) (by decide +kernel), List.mem_of_getElem? (i := 396) (by decide +kernel), List.mem_of_getElem? (i := 397) (by decide +kernel)⟩
def lw_privs_1 : List (MethodName × Nat) := [(⟨"java/lang/Throwable", "fillInStackTrace", "(I)Ljava/lang/Throwable;"⟩, 6), (⟨"LogTreeModel", "headOf", "(II)J"⟩, 8), (⟨"LogTreeModel", "pathOf", "(III)V"⟩, 8), (⟨"LogTreeModel", "put", "(J)V"⟩, 8), (⟨"LogTreeModel", "stepsOf", "(IIIZ)V"⟩, 8), (⟨"LogTreeModel", "rootOf", "(IIJ)J"⟩, 8), (⟨"LogTreeModel", "next", "()J"⟩, 8), (⟨"LogTreeModel", "both", "(IIZJ)V"⟩, 8)]
theorem lw_r1 : ∀ q ∈ lw_privs_1, lw_okq q := List.forall_mem_cons.mpr ⟨lw_p0, List.forall_mem_cons.mpr ⟨lw_p1, List.forall_mem_cons.mpr ⟨lw_p2, List.forall_mem_cons.mpr ⟨lw_p3, List.forall_mem_cons.mpr ⟨lw_p4, List.forall_mem_cons.mpr ⟨lw_p5, List.forall_mem_cons.mpr ⟨lw_p6, List.forall_mem_cons.mpr ⟨lw_p7, fun _ h => absurd h List.not_mem_nil⟩⟩⟩⟩⟩⟩⟩⟩
def lw_privs : List (MethodName × Nat) := lw_privs_1
def lw_tbl : List Cond := k2_sels lw_privs ++ tables_1
theorem lw_privs_ok : ∀ q ∈ lw_privs, lw_okq q := lw_r1
end
section
/-! ===== BEGIN words of one list among another's, by their places ===== -/
theorem goodIn_r {big : List Cond} (ws : List Cond) (ps : List Nat) (hp : ws = ps.filterMap (fun i => big[i]?)) (h : ws.all goodWord = true) : GoodIn big ws := by
  intro w hw
  have h1 := List.all_eq_true.mp h w hw
  rw [hp] at hw
  obtain ⟨i, -, hi⟩ := List.mem_filterMap.mp hw
  have hm : w ∈ big := by first | exact List.mem_of_getElem? hi | exact List.getElem?_mem hi
  exact ⟨hm, good_of_word h1⟩
theorem goodIn_app {big a b : List Cond} (ha : GoodIn big a) (hb : GoodIn big b) : GoodIn big (a ++ b) := fun w h => (List.mem_append.mp h).elim (ha w) (hb w)
theorem goodIn_ca {big a b : List Cond} {c : Cond} (ha : GoodIn big (c :: a)) (hb : GoodIn big b) : GoodIn big (c :: (a ++ b)) := fun w h => (List.mem_cons.mp h).elim (fun e => ha w (List.mem_cons.mpr (Or.inl e))) (fun h => (List.mem_append.mp h).elim (fun h => ha w (List.mem_cons.mpr (Or.inr h))) (hb w))
theorem goodIn_sub {big ws : List Cond} (hm : ∀ w ∈ ws, w ∈ big) (h : ws.all goodWord = true) : GoodIn big ws := fun w hw => ⟨hm w hw, good_of_word (List.all_eq_true.mp h w hw)⟩
/-! ===== END ===== -/

/-! ===== BEGIN exceptions that leave a method, and their catching by the caller (launches without stack traces) ===== -/
section VXA
/-! The laws vx_back, vx_callV, vx_callS, vx_callSW, vx_throw0, vx_throwS follow proofs of the library, with one case more: JvmDerived/Free/Laws.lean (Back.of_free), Shelf42/LK1.lean (callV, callS), Shelf/KitTraced.lean (throwNew0V, throwNewS). -/
/-- where a method has thrown q: the class by its name, the cell, what was written, the world -/
def vx_T (XC : String → State → State → Prop) (st : State) (q : Addr) (t : State) (mc ms : Nat) (free : Addr → Prop) : Prop :=
  ∃ (E : String) (ce : Cell) (L : List Loc), XC E st t ∧ t.heap[q]? = some ce ∧ ce.vm = .none ∧ st.vm.findClass E = some ce.cls ∧ st.WarmedH t.vm ∧ st.sameButNew ({ t with vm := st.vm } : State) L mc ms ∧ ∀ z ∈ L, free z.base
def vx_Q (Qc : Array Value → State → Outcome → State → Prop) (XC : String → State → State → Prop) (mc ms : Nat) (free : Addr → Prop) : Array Value → State → Outcome → State → Prop := fun a st o t =>
  (Qc a st o t ∧ ∃ L, FrameEnd st o t L mc ms ∧ ∀ q ∈ L, free q.base) ∨ ∃ q, o = .threw q ∧ vx_T XC st q t mc ms free
/-- a callee that returns or throws -/
def vx_Met (l : Launch) (y : MethodName) (ws : List Cond) (rm : Room) (Pc : Array Value → State → Prop) (Qc : Array Value → State → Outcome → State → Prop) (XC : String → State → State → Prop) (mc ms : Nat) (free : Addr → Prop) : Prop :=
  MetFree l y (headSpec ws rm) Pc (fun _ _ _ _ _ => True) (vx_Q Qc XC mc ms free)
def vx_Post (XC : String → State → State → Prop) (mc ms : Nat) (free : Addr → Prop) : Pt → Array Value → Addr → Pt → Prop := fun A a q B =>
  ∃ (g : JFrame) (mk : MethodId) (t : State) (L : List Loc) (E : String) (ce : Cell), B.U.heap = t.heap ∧ B.U.vm = t.vm ∧ XC E (A.U.calling g mk a) t ∧ t.heap[q]? = some ce ∧ ce.vm = .none ∧ A.U.vm.findClass E = some ce.cls ∧ B.locs = A.locs ++ L ∧ (∀ z ∈ L, free z.base) ∧ B.cells = A.cells + mc ∧ B.slots = A.slots + ms
def vx_Back (l : Launch) (R : Room) (p : Program) (e : Env) (below : List Frame) (s : State) (sargs : Array Value) (y : MethodName) (len W9 : Nat)
    (Pre : Pt → Array Value → Prop) (Post : Pt → Array Value → Option Value → Pt → Prop) (PostX : Pt → Array Value → Addr → Pt → Prop) : Prop :=
  ∀ (m : MethodId) (meth : Method) (c : Code) (A : Pt) (g : JFrame) (ig : Instr) (mk : MethodId) (a : Array Value),
    Stand p l e R s m sargs below meth c A.U A.locs A.cells A.slots → g.method = m → g.locals.size = c.maxLocals → decode c.code g.pc = .ok (ig, len) →
    2 * g.monitorRoom + (g.stack.map fun v => v.category).sum ≤ W9 → A.U.methodNamed? y = some mk → Pre A a →
    (∃ (v : Option Value) (B : Pt), Stand p l e R s m sargs below meth c B.U B.locs B.cells B.slots ∧ Post A a v B ∧
      Steps p.tables e below (doInvoke e (A.U.setTop g) [] mk a).1 (B.U.setTop { g with pc := g.pc + len, stack := v.toList ++ g.stack })) ∨
    (∃ (q : Addr) (B : Pt), Stand p l e R s m sargs below meth c B.U B.locs B.cells B.slots ∧ PostX A a q B ∧
      Steps p.tables e below (doInvoke e (A.U.setTop g) [] mk a).1 ((B.U.setTop g).pushFrame (.throwing q)))
section Payer
variable {l : Launch} {R : Room} {p : Program} {e : Env} {below : List Frame} {s : State} {sargs : Array Value} {y : MethodName} {len W9 : Nat}
theorem vx_back {ws : List Cond} {rm : Room} {Pc : Array Value → State → Prop} {Qc : Array Value → State → Outcome → State → Prop} {XC : String → State → State → Prop} {mc ms : Nat} {free : Addr → Prop} {bytes : ByteArray} {maxL : Nat} {ret : Option FieldType}
    (hM : vx_Met l y ws rm Pc Qc XC mc ms free) (hblind : FrameBlind Pc) (hrc : rm.cells = mc) (hrs : rm.slots = ms)
    (hframes : rm.frames + 1 ≤ R.frames) (hlocals : W9 + (maxL + 11) + rm.locals ≤ R.locals)
    (hws : ∀ w ∈ ws, ∀ a' U, s.WarmedH U.vm → w.before a' U = true) (hcode : Cond.code y bytes maxL ret ∈ ws) (hinit : ∀ a' U, s.WarmedH U.vm → (Cond.initialized y.cls).before a' U = true) :
    vx_Back l R p e below s sargs y len W9 (PreOf R mc ms Pc) (PostOf Qc mc ms free) (vx_Post XC mc ms free) := by
  intro m meth c A g ig mk a X hg hsize hdg hW hn hp
  have h1 : (headSpec ws rm).pre.before a A.U = true := atoms_intro fun w hw => hws w hw _ _ X.warmed
  have h2 : (Cond.code y bytes maxL ret).before a A.U = true := hws _ hcode _ _ X.warmed
  have h3 : (Cond.initialized y.cls).before a A.U = true := hinit _ _ X.warmed
  have h4 : A.cells + (headSpec ws rm).room.cells ≤ R.cells := by rw [show (headSpec ws rm).room.cells = mc from hrc]; exact hp.1
  have h5 : A.slots + (headSpec ws rm).room.slots ≤ R.slots := by rw [show (headSpec ws rm).room.slots = ms from hrs]; exact hp.2.1
  have hPc : Pc a (A.U.calling g mk a) := hblind _ _ _ _ hp.2.2
  obtain ⟨U, Ls, c0, s0⟩ := A
  dsimp only [Pt.U, Pt.locs, Pt.cells, Pt.slots] at h1 h2 h3 h4 h5 X hn hPc ⊢
  obtain ⟨methY, cY, hmY, hcY, -, hlY, -, -, -, -⟩ := Cond.code_spec hn h2
  obtain ⟨kY, hkY, -⟩ := className_of_methodNamed hn
  have hinitY : kY.init = .initialized := Cond.initialized_spec (findClass_of_methodNamed hn) hkY h3
  have h : At U g.method c below := by rw [hg]; exact X.here
  have hlocals9 : W9 + (maxL + 11) + (headSpec ws rm).room.locals ≤ R.locals := hlocals
  have happ : (headSpec ws rm).appliesLoose y e.platform (U.calling g mk a) = true :=
    Spec.appliesLoose_calling (g := g) h hdg hn hkY hinitY
      (X.room_calling (g := g) (R' := (headSpec ws rm).room) hsize hmY hcY hframes (by rw [hlY]; omega) h4 h5) h1
  obtain ⟨mid, hmid⟩ := h.above
  have hfr : (U.setTop g).frames = (.java g :: mid) ++ below := by rw [State.frames_setTop' g h.top, hmid]; rfl
  obtain ⟨o, s₂, hsteps, -, hend, hq⟩ := Steps.callFree hM p X.admits X.cas X.clock (acts := []) hfr happ hPc trivial
  have hq' : vx_Q Qc XC mc ms free a (U.calling g mk a) o s₂ := hq
  rw [State.frames_setTop' g h.top] at hend
  obtain ⟨g₀, hg0⟩ := Option.isSome_iff_exists.mp h.top
  obtain ⟨r, hr⟩ := State.topJava?_eq_some.mp hg0
  have hr' : (({ U with heap := s₂.heap, slotsUsed := s₂.slotsUsed } : State).setVm s₂.vm).frames = .java g₀ :: r := hr
  rcases hq' with ⟨hqc, L, hfe, hL⟩ | ⟨q, rfl, E, ce, L, hx, hce, hcv, hcl, hW₂, hsm, hL⟩
  · obtain ⟨⟨v, rfl⟩, hW₂, e2, q2, q3, q4, q5, q6⟩ := id hfe
    have e3 : s₂ = ({ (U.calling g mk a).setFrames s₂.frames with heap := s₂.heap, slotsUsed := s₂.slotsUsed } : State).setVm s₂.vm := by
      have : s₂ = ({ s₂ with vm := (U.calling g mk a).vm } : State).setVm s₂.vm := rfl
      rw [e2] at this
      exact this
    obtain ⟨c₂, i₂, len₂, hc₂, hd₂, hf₂⟩ := hend
    have hW' : U.WarmedH s₂.vm := hW₂
    have hcc : c₂ = c := by
      have h1 : s₂.code? g.method = U.code? g.method := by
        rw [State.code?_eq, State.code?_eq, hW'.alike.method?]
      exact Option.some.inj (hc₂.symm.trans (h1.trans h.code))
    subst hcc
    have hlen : len₂ = len := by rw [hdg] at hd₂; cases hd₂; rfl
    subst hlen
    have hs₂ : s₂ = (({ U with heap := s₂.heap, slotsUsed := s₂.slotsUsed } : State).setVm s₂.vm).setTop { g with pc := g.pc + len₂, stack := v.toList ++ g.stack } := by
      refine e3.trans ?_
      rw [hf₂, State.calling_eq h.top, State.setFrames_setFrames, State.setTop_of_frames _ hr', hr]
      rfl
    have hsame : U.sameButNew ({ U with heap := s₂.heap, slotsUsed := s₂.slotsUsed } : State) L mc ms := by
      refine ⟨?_, q2, q3, q4, q5, q6⟩
      obtain ⟨t, ht, -⟩ := State.frames_cons hr
      show ({ U with heap := s₂.heap, slotsUsed := s₂.slotsUsed } : State) = { U.setFrames U.frames with heap := s₂.heap, slotsUsed := s₂.slotsUsed }
      rw [State.setFrames_self ht]
    subst hg
    refine Or.inl ⟨v, ⟨(({ U with heap := s₂.heap, slotsUsed := s₂.slotsUsed } : State).setVm s₂.vm), Ls ++ L, c0 + mc, s0 + ms⟩,
      ⟨X.admits, X.cas, X.clock, X.frames, X.room, X.hears, X.method, X.code, (X.here.setHeapUsed s₂.heap s₂.slotsUsed).setVm hW'.alike, X.tail, State.WarmedH.trans X.warmed hW', X.limits, X.bytes, X.same.trans (hsame.setVm s.vm)⟩,
      ⟨g, mk, s₂, L, rfl, rfl, hqc, rfl, hL, rfl, rfl⟩, ?_⟩
    show Steps p.tables e below _ ((({ U with heap := s₂.heap, slotsUsed := s₂.slotsUsed } : State).setVm s₂.vm).setTop { g with pc := g.pc + len₂, stack := v.toList ++ g.stack })
    rw [← hs₂]
    exact hsteps
  · obtain ⟨e2, q2, q3, q4, q5, q6⟩ := id hsm
    have e3 : s₂ = ({ (U.calling g mk a).setFrames s₂.frames with heap := s₂.heap, slotsUsed := s₂.slotsUsed } : State).setVm s₂.vm := by
      have : s₂ = ({ s₂ with vm := (U.calling g mk a).vm } : State).setVm s₂.vm := rfl
      rw [e2] at this
      exact this
    have hf₂ : s₂.frames = .throwing q :: .java g :: U.frames.tail := hend
    have hW' : U.WarmedH s₂.vm := hW₂
    have hs₂ : s₂ = ((({ U with heap := s₂.heap, slotsUsed := s₂.slotsUsed } : State).setVm s₂.vm).setTop g).pushFrame (.throwing q) := by
      refine e3.trans ?_
      rw [hf₂, State.calling_eq h.top, State.setFrames_setFrames, State.pushFrame, State.frames_setTop _ hr', State.setTop_of_frames _ hr', State.setFrames_setFrames, hr]
      rfl
    have hsame : U.sameButNew ({ U with heap := s₂.heap, slotsUsed := s₂.slotsUsed } : State) L mc ms := by
      refine ⟨?_, q2, q3, q4, q5, q6⟩
      obtain ⟨t, ht, -⟩ := State.frames_cons hr
      show ({ U with heap := s₂.heap, slotsUsed := s₂.slotsUsed } : State) = { U.setFrames U.frames with heap := s₂.heap, slotsUsed := s₂.slotsUsed }
      rw [State.setFrames_self ht]
    subst hg
    refine Or.inr ⟨q, ⟨(({ U with heap := s₂.heap, slotsUsed := s₂.slotsUsed } : State).setVm s₂.vm), Ls ++ L, c0 + mc, s0 + ms⟩,
      ⟨X.admits, X.cas, X.clock, X.frames, X.room, X.hears, X.method, X.code, (X.here.setHeapUsed s₂.heap s₂.slotsUsed).setVm hW'.alike, X.tail, State.WarmedH.trans X.warmed hW', X.limits, X.bytes, X.same.trans (hsame.setVm s.vm)⟩,
      ⟨g, mk, s₂, L, E, ce, rfl, rfl, hx, hce, hcv, hcl, rfl, hL, rfl, rfl⟩, ?_⟩
    show Steps p.tables e below _ (((({ U with heap := s₂.heap, slotsUsed := s₂.slotsUsed } : State).setVm s₂.vm).setTop g).pushFrame (.throwing q))
    rw [← hs₂]
    exact hsteps
end Payer
section Calls
variable {p : Program} {l : Launch} {e : Env} {R : Room} {s : State} {m : MethodId} {args : Array Value} {below : List Frame} {meth : Method} {c : Code} {T : State} {locs : List Loc} {cells slots : Nat}
theorem vx_callV (X : Stand p l e R s m args below meth c T locs cells slots) (hexec : p.tables.exec = Jvm.exec) {own C : String} {index : Nat} {y : MethodName} {bytes : ByteArray} {maxL : Nat} {ret : Option FieldType}
    (hown : s.vm.findClass own = some m.cls) (hlink : (Cond.methodLink own index y).before args s = true) (hinst : (Cond.instanceMethod y).before args s = true) (hsel : (Cond.selects C y y).before args s = true)
    (hcode : (Cond.code y bytes maxL ret).before args s = true) (hy : y.cls ≠ "java/lang/invoke/MethodHandle" ∧ y.cls ≠ "java/lang/invoke/VarHandle")
    {W9 : Nat} {Pre : Pt → Array Value → Prop} {Post : Pt → Array Value → Option Value → Pt → Prop} {PostX : Pt → Array Value → Addr → Pt → Prop} (hK : vx_Back l R p e below s args y 3 W9 Pre Post PostX)
    {b : Addr} {cellB : Cell} (hcell : T.heap[b]? = some cellB) (hobj : cellB.vm.isStatics = false) (hcls : s.vm.findClass C = some cellB.cls)
    {g : JFrame} (hg : g.method = m) (hsize : g.locals.size = c.maxLocals) {argsL rest : List Value} (hlen : ∀ sig, parseMethodDescriptor y.desc = some sig → argsL.length = sig.parameters.length)
    (hstack : g.stack = argsL.reverse ++ .ref b :: rest) (hW : 2 * g.monitorRoom + (rest.map fun v => v.category).sum ≤ W9) (hdg : decode c.code g.pc = .ok (.invokevirtual index, 3))
    (hpre : ∀ vm₁, s.WarmedH vm₁ → Pre ⟨T.setVm vm₁, locs, cells, slots⟩ (Value.ref b :: argsL).toArray) :
    (∃ (v : Option Value) (vm₁ : Vm) (B : Pt), s.WarmedH vm₁ ∧ Stand p l e R s m args below meth c B.U B.locs B.cells B.slots ∧ Post ⟨T.setVm vm₁, locs, cells, slots⟩ (Value.ref b :: argsL).toArray v B ∧
      ∀ target, Steps p.tables e below (B.U.setTop { g with pc := g.pc + 3, stack := v.toList ++ rest }) target → Steps p.tables e below (T.setTop g) target) ∨
    (∃ (q : Addr) (vm₁ : Vm) (B : Pt), s.WarmedH vm₁ ∧ Stand p l e R s m args below meth c B.U B.locs B.cells B.slots ∧ PostX ⟨T.setVm vm₁, locs, cells, slots⟩ (Value.ref b :: argsL).toArray q B ∧
      Steps p.tables e below (T.setTop g) ((B.U.setTop { g with stack := rest }).pushFrame (.throwing q))) := by
  obtain ⟨mk, methM, hnamed, hmethM, hstM, habM⟩ := Cond.instanceMethod_spec hinst
  obtain ⟨methM', cM, hmethM', -, -, -, -, -, -, hsigM⟩ := Cond.code_spec hnamed hcode
  cases hmethM.symm.trans hmethM'
  obtain ⟨c2, r2, m2, q1, q2, q3, q4, kP, hkP, hkPi⟩ := Cond.selects_spec hsel
  cases hcls.symm.trans q1
  cases (State.methodFound?_of_named hnamed hy).symm.trans q2
  cases hnamed.symm.trans q3
  have hselP : selectMethod e.platform s.vm cellB.cls mk = .method mk := by rw [Launch.admits_selectMethod X.admits]; exact q4
  obtain ⟨vm₁, X₁, hstep₁⟩ := X.invokevirtual hexec hown hlink hnamed hmethM hstM hkP hkPi hy (a := b) (cell := cellB) hcell
    (fun z h => by rw [h] at hobj; cases hobj) hselP hmethM habM hkP hkPi (g := g) hg (argsL := argsL) (rest := rest) (hlen _ hsigM) hstack hdg
  rcases hK m meth c ⟨T.setVm vm₁, locs, cells, slots⟩ { g with stack := rest } (.invokevirtual index) mk (Value.ref b :: argsL).toArray X₁ hg hsize hdg hW (X₁.named hnamed) (hpre vm₁ X₁.warmed) with ⟨v, B, X', hpost, hsteps⟩ | ⟨q, B, X', hpost, hsteps⟩
  · exact Or.inl ⟨v, vm₁, B, X₁.warmed, X', hpost, fun target h => hstep₁ _ fun acts => by rw [doInvoke_state]; exact hsteps.trans h⟩
  · exact Or.inr ⟨q, vm₁, B, X₁.warmed, X', hpost, hstep₁ _ fun acts => by rw [doInvoke_state]; exact hsteps⟩
theorem vx_callS (X : Stand p l e R s m args below meth c T locs cells slots) (hexec : p.tables.exec = Jvm.exec) {own : String} {index : Nat} {y : MethodName} {bytes : ByteArray} {maxL : Nat} {ret : Option FieldType}
    (hown : s.vm.findClass own = some m.cls) (hlink : (Cond.methodLink own index y).before args s = true) (hstat : (Cond.static y).before args s = true) (hinit : (Cond.initialized y.cls).before args s = true)
    (hcode : (Cond.code y bytes maxL ret).before args s = true) (hy : y.cls ≠ "java/lang/invoke/MethodHandle" ∧ y.cls ≠ "java/lang/invoke/VarHandle")
    {W9 : Nat} {Pre : Pt → Array Value → Prop} {Post : Pt → Array Value → Option Value → Pt → Prop} {PostX : Pt → Array Value → Addr → Pt → Prop} (hK : vx_Back l R p e below s args y 3 W9 Pre Post PostX)
    {g : JFrame} (hg : g.method = m) (hsize : g.locals.size = c.maxLocals) {argsL rest : List Value} (hlen : ∀ sig, parseMethodDescriptor y.desc = some sig → argsL.length = sig.parameters.length)
    (hstack : g.stack = argsL.reverse ++ rest) (hW : 2 * g.monitorRoom + (rest.map fun v => v.category).sum ≤ W9) (hdg : decode c.code g.pc = .ok (.invokestatic index, 3))
    (hpre : ∀ vm₁, s.WarmedH vm₁ → Pre ⟨T.setVm vm₁, locs, cells, slots⟩ argsL.toArray) :
    (∃ (v : Option Value) (vm₁ : Vm) (B : Pt), s.WarmedH vm₁ ∧ Stand p l e R s m args below meth c B.U B.locs B.cells B.slots ∧ Post ⟨T.setVm vm₁, locs, cells, slots⟩ argsL.toArray v B ∧
      ∀ target, Steps p.tables e below (B.U.setTop { g with pc := g.pc + 3, stack := v.toList ++ rest }) target → Steps p.tables e below (T.setTop g) target) ∨
    (∃ (q : Addr) (vm₁ : Vm) (B : Pt), s.WarmedH vm₁ ∧ Stand p l e R s m args below meth c B.U B.locs B.cells B.slots ∧ PostX ⟨T.setVm vm₁, locs, cells, slots⟩ argsL.toArray q B ∧
      Steps p.tables e below (T.setTop g) ((B.U.setTop { g with stack := rest }).pushFrame (.throwing q))) := by
  obtain ⟨mk, hnamed⟩ := Cond.code_named hcode
  obtain ⟨methM, cM, hmethM, -, -, -, -, -, -, hsigM⟩ := Cond.code_spec hnamed hcode
  have hstatic : methM.isStatic = true := Cond.static_spec hnamed hmethM hstat
  obtain ⟨kP, hkP, -⟩ := className_of_methodNamed hnamed
  have hinitP : kP.init = .initialized := Cond.initialized_spec (findClass_of_methodNamed hnamed) hkP hinit
  obtain ⟨vm₁, X₁, hstep₁⟩ := X.invokestatic hexec hown hlink hnamed hmethM hstatic hkP hinitP hy (g := g) hg (argsL := argsL) (rest := rest) (hlen _ hsigM) hstack hdg
  rcases hK m meth c ⟨T.setVm vm₁, locs, cells, slots⟩ { g with stack := rest } (.invokestatic index) mk argsL.toArray X₁ hg hsize hdg hW (X₁.named hnamed) (hpre vm₁ X₁.warmed) with ⟨v, B, X', hpost, hsteps⟩ | ⟨q, B, X', hpost, hsteps⟩
  · exact Or.inl ⟨v, vm₁, B, X₁.warmed, X', hpost, fun target h => hstep₁ _ fun acts => by rw [doInvoke_state]; exact hsteps.trans h⟩
  · exact Or.inr ⟨q, vm₁, B, X₁.warmed, X', hpost, hstep₁ _ fun acts => by rw [doInvoke_state]; exact hsteps⟩
end Calls
theorem vx_cls {s : State} {T : State} {vm₁ : Vm} {E : String} {k : ClassId} (hW : s.WarmedH vm₁) (h : (T.setVm vm₁).vm.findClass E = some k) : s.vm.findClass E = some k := by
  have h1 : vm₁.findClass E = some k := h
  rw [hW.alike.findClass] at h1
  exact h1
/-- the method's frame g, with q thrown over it -/
def vx_W (p : Program) (l : Launch) (e : Env) (R : Room) (s : State) (m : MethodId) (args : Array Value) (below : List Frame) (meth : Method) (c : Code) (H : Heap) (locs : List Loc) (cells slots : Nat) (Q : State → Prop) (g : JFrame) (q : Addr) : Prop :=
  ∀ T : State, T.heap = H → Stand p l e R s m args below meth c T locs cells slots → ∃ t, Steps p.tables e below ((T.setTop g).pushFrame (.throwing q)) t ∧ Q t
def vx_Run (p : Program) (l : Launch) (e : Env) (R : Room) (s : State) (m : MethodId) (args : Array Value) (below : List Frame) (meth : Method) (c : Code) (H : Heap) (locs : List Loc) (cells slots mc ms : Nat) (g : JFrame) (rest : List Value) (Qa : State → Outcome → State → Prop) (XC : String → State → State → Prop) (free : Addr → Prop) : Prop :=
  ∀ T : State, T.heap = H → Stand p l e R s m args below meth c T locs cells slots →
    (∃ (v : Option Value) (st₀ t T' : State) (L : List Loc), st₀.heap = H ∧ Stand p l e R s m args below meth c T' (locs ++ L) (cells + mc) (slots + ms) ∧ (∀ q ∈ L, free q.base) ∧ T'.heap = t.heap ∧ T'.vm = t.vm ∧ Qa st₀ (.returned v) t ∧
      Goes p e below T g T' { g with pc := g.pc + 3, stack := v.toList ++ rest }) ∨
    (∃ (q : Addr) (st₀ t T' : State) (L : List Loc) (E : String) (ce : Cell), st₀.heap = H ∧ Stand p l e R s m args below meth c T' (locs ++ L) (cells + mc) (slots + ms) ∧ (∀ z ∈ L, free z.base) ∧ T'.heap = t.heap ∧ T'.vm = t.vm ∧ XC E st₀ t ∧ t.heap[q]? = some ce ∧ ce.vm = .none ∧ s.vm.findClass E = some ce.cls ∧
      Steps p.tables e below (T.setTop g) ((T'.setTop { g with stack := rest }).pushFrame (.throwing q)))
def vx_X {S : Type} (px : S → Prop) (B : String → S → State → Prop) (A : Nat → Prop) : String → State → State → Prop := fun E st t => ∃ u : S, px u ∧ B E u t ∧ va_F A st t
section Runs
variable {p : Program} {l : Launch} {e : Env} {R : Room} {s : State} {m : MethodId} {args : Array Value} {below : List Frame} {meth : Method} {c : Code} {H : Heap} {locs : List Loc} {cells slots : Nat}
variable {y : MethodName} {bytes cc : ByteArray} {maxL nL mc ms n index : Nat} {ret : Option FieldType} {ws : List Cond} {rm : Room} {Pc : Array Value → State → Prop} {Qc : Array Value → State → Outcome → State → Prop} {XC : String → State → State → Prop} {free : Addr → Prop} {Ts : List Cond} {own C : String} {b : Addr} {As rest : List Value} {g : JFrame}
theorem vx_callBack (cb : CallB R s args own index y bytes maxL ret ws rm mc ms n) (hM : vx_Met l y ws rm Pc Qc XC mc ms free) (hbl : FrameBlind Pc) : vx_Back l R p e below s args y 3 8 (PreOf R mc ms Pc) (PostOf Qc mc ms free) (vx_Post XC mc ms free) := by
  obtain ⟨hrc, hrs, hfr, hlo, hws, hcw, -, hini, -⟩ := cb
  exact vx_back (bytes := bytes) (maxL := maxL) (ret := ret) hM hbl hrc hrs hfr hlo hws hcw (fun a' U hW => word_at hW (Or.inl (by first | rfl | simp [Cond.onTables, Cond.keeps, Cond.steady])) hini)
theorem vx_runV (S : CallFix p m c cc nL s args Ts own) (hM : vx_Met l y ws rm Pc Qc XC mc ms free) (cw : CallW R s args own C index y bytes maxL ret ws rm mc ms n) (hp : PreV s H C b Pc As)
    (hg : g.method = m) (hn : As.length = n) (hsize : g.locals.size = nL) (hstack : g.stack = As.reverse ++ .ref b :: rest) (hW : 2 * g.monitorRoom + (rest.map fun v => v.category).sum ≤ 8) (hdg : decode cc g.pc = .ok (.invokevirtual index, 3)) (hf : cells + mc ≤ R.cells ∧ slots + ms ≤ R.slots) :
    vx_Run p l e R s m args below meth c H locs cells slots mc ms g rest (Qc (Value.ref b :: As).toArray) XC free := by
  have hK : vx_Back l R p e below s args y 3 8 (PreOf R mc ms Pc) (PostOf Qc mc ms free) (vx_Post XC mc ms free) := vx_callBack cw.1 hM hp.1
  obtain ⟨⟨-, -, -, -, -, -, hcode, -, hy, hlen, hl⟩, hin, hse⟩ := cw
  obtain ⟨hx, hb, hml, ho, -⟩ := S
  obtain ⟨-, ⟨cellB, hcB, hoB, hclB⟩, hPc⟩ := hp
  intro T hT X
  rcases vx_callV X hx (C := C) (bytes := bytes) (maxL := maxL) (ret := ret) ho hl hin hse hcode hy hK (by rw [hT]; exact hcB) hoB hclB hg (hsize.trans hml.symm) (argsL := As) (rest := rest) (fun sig h => hn.trans (hlen sig h)) hstack hW (by rw [hb]; exact hdg)
    (fun vm₁ hW₁ => ⟨hf.1, hf.2, hPc (T.setVm vm₁) hT hW₁⟩) with ⟨v, vm₁, ⟨U', l2, c2, s2⟩, hW₁, X', ⟨g', mk, t, L, e1, e2, hq, h1, hL, h2, h3⟩, st⟩ | ⟨q, vm₁, ⟨U', l2, c2, s2⟩, hW₁, X', ⟨g', mk, t, L, E, ce, e1, e2, hq, hce, hcv, hcl, h1, hL, h2, h3⟩, st⟩
  · dsimp only [Pt.U, Pt.locs, Pt.cells, Pt.slots] at X' e1 e2 h1 h2 h3 st
    subst h1; subst h2; subst h3
    exact Or.inl ⟨v, (T.setVm vm₁).calling g' mk (Value.ref b :: As).toArray, t, U', L, hT, X', hL, e1, e2, hq, st⟩
  · dsimp only [Pt.U, Pt.locs, Pt.cells, Pt.slots] at X' e1 e2 h1 h2 h3 st hcl
    subst h1; subst h2; subst h3
    exact Or.inr ⟨q, (T.setVm vm₁).calling g' mk (Value.ref b :: As).toArray, t, U', L, E, ce, hT, X', hL, e1, e2, hq, hce, hcv, vx_cls hW₁ hcl, st⟩
theorem vx_runS (S : CallFix p m c cc nL s args Ts own) (hM : vx_Met l y ws rm Pc Qc XC mc ms free) (cw : CallB R s args own index y bytes maxL ret ws rm mc ms n ∧ (Cond.static y).before args s = true) (hp : PreS s H Pc As)
    (hg : g.method = m) (hn : As.length = n) (hsize : g.locals.size = nL) (hstack : g.stack = As.reverse ++ rest) (hW : 2 * g.monitorRoom + (rest.map fun v => v.category).sum ≤ 8) (hdg : decode cc g.pc = .ok (.invokestatic index, 3)) (hf : cells + mc ≤ R.cells ∧ slots + ms ≤ R.slots) :
    vx_Run p l e R s m args below meth c H locs cells slots mc ms g rest (Qc As.toArray) XC free := by
  have hK : vx_Back l R p e below s args y 3 8 (PreOf R mc ms Pc) (PostOf Qc mc ms free) (vx_Post XC mc ms free) := vx_callBack cw.1 hM hp.1
  obtain ⟨⟨-, -, -, -, -, -, hcode, hini, hy, hlen, hl⟩, hstt⟩ := cw
  obtain ⟨hx, hb, hml, ho, -⟩ := S
  intro T hT X
  rcases vx_callS X hx (bytes := bytes) (maxL := maxL) (ret := ret) ho hl hstt hini hcode hy hK hg (hsize.trans hml.symm) (argsL := As) (rest := rest) (fun sig h => hn.trans (hlen sig h)) hstack hW (by rw [hb]; exact hdg)
    (fun vm₁ hW₁ => ⟨hf.1, hf.2, hp.2 (T.setVm vm₁) hT hW₁⟩) with ⟨v, vm₁, ⟨U', l2, c2, s2⟩, hW₁, X', ⟨g', mk, t, L, e1, e2, hq, h1, hL, h2, h3⟩, st⟩ | ⟨q, vm₁, ⟨U', l2, c2, s2⟩, hW₁, X', ⟨g', mk, t, L, E, ce, e1, e2, hq, hce, hcv, hcl, h1, hL, h2, h3⟩, st⟩
  · dsimp only [Pt.U, Pt.locs, Pt.cells, Pt.slots] at X' e1 e2 h1 h2 h3 st
    subst h1; subst h2; subst h3
    exact Or.inl ⟨v, (T.setVm vm₁).calling g' mk As.toArray, t, U', L, hT, X', hL, e1, e2, hq, st⟩
  · dsimp only [Pt.U, Pt.locs, Pt.cells, Pt.slots] at X' e1 e2 h1 h2 h3 st hcl
    subst h1; subst h2; subst h3
    exact Or.inr ⟨q, (T.setVm vm₁).calling g' mk As.toArray, t, U', L, E, ce, hT, X', hL, e1, e2, hq, hce, hcv, vx_cls hW₁ hcl, st⟩
end Runs
section Rows
variable {p : Program} {l : Launch} {e : Env} {R : Room} {s : State} {m : MethodId} {args : Array Value} {below : List Frame} {meth : Method} {c : Code} {H : Heap} {locs : List Loc} {cells slots : Nat} {Q : State → Prop}
variable {mc ms : Nat} {free : Addr → Prop} {A0 A1 : Nat → Prop} {H0 : Heap} {a : Array Value} {pc : Nat} {ls : Array Slot} {st0 rest : List Value}
theorem vx_keep {st₀ t T' : State} {L : List Loc} (h0 : st₀.heap = H) (e1 : T'.heap = t.heap) (hS : va_S A0 H0 H locs) (hA : ∀ q, q < H.size → A1 q → A0 q) (hf : ∀ q, free q → A0 q) (hL : ∀ q ∈ L, free q.base) (hF : va_F A1 st₀ t) :
    H.size ≤ T'.heap.size ∧ (∀ q : Nat, q < H.size → ¬ A1 q → T'.heap[q]? = H[q]?) ∧ va_S A0 H0 T'.heap (locs ++ L) := by
  obtain ⟨hz, hk⟩ := hF
  rw [h0] at hz hk
  exact ⟨by rw [e1]; exact hz, fun q h1 h2 => by rw [e1]; exact hk q h1 h2,
    ⟨Nat.le_trans hS.1 (by rw [e1]; exact hz), fun q h1 h2 => by rw [e1, hk q (Nat.lt_of_lt_of_le h1 hS.1) (fun z => h2 (hA q (Nat.lt_of_lt_of_le h1 hS.1) z))]; exact hS.2.1 q h1 h2, fun q hq => by
      rcases List.mem_append.mp hq with h | h
      · exact hS.2.2 q h
      · exact hf _ (hL q h)⟩⟩
theorem vx_calli {S SX : Type} {post : Int32 → S → Prop} {px : SX → Prop} {B : S → State → Prop} {BX : String → SX → State → Prop} {AX : Nat → Prop} (hr : vx_Run p l e R s m args below meth c H locs cells slots mc ms (F0 m pc ls st0) rest (va_Qi post B A1 a) (vx_X px BX AX) free) (hS : va_S A0 H0 H locs) (hA : ∀ q, q < H.size → A1 q → A0 q) (hf : ∀ q, free q → A0 q) (hAX : ∀ q, q < H.size → AX q → A0 q)
    (kx : ∀ (E : String) (ce : Cell) (q9 : Addr) (u : SX) (t : State) (H1 : Heap) (locs1 : List Loc), t.heap = H1 → s.vm.Alike t.vm → px u → BX E u t → H.size ≤ H1.size → (∀ q : Nat, q < H.size → ¬ AX q → H1[q]? = H[q]?) → va_S A0 H0 H1 locs1 → H1[q9]? = some ce → ce.vm = .none → s.vm.findClass E = some ce.cls → vx_W p l e R s m args below meth c H1 locs1 (cells + mc) (slots + ms) Q (F0 m pc ls rest) q9)
    (kk : ∀ (r : Int32) (u : S) (t : State) (H1 : Heap) (locs1 : List Loc), t.heap = H1 → s.vm.Alike t.vm → post r u → B u t → H.size ≤ H1.size → (∀ q : Nat, q < H.size → ¬ A1 q → H1[q]? = H[q]?) → va_S A0 H0 H1 locs1 → W p l e R s m args below meth c H1 locs1 (cells + mc) (slots + ms) Q (F0 m (pc + 3) ls (.int r :: rest))) : W p l e R s m args below meth c H locs cells slots Q (F0 m pc ls st0) := by
  intro T hT X
  rcases hr T hT X with ⟨v, st₀, t, T', L, h0, X', hL, e1, e2, ⟨⟨r, u, hv, hp, hb⟩, hF⟩, st⟩ | ⟨q, st₀, t, T', L, E, ce, h0, X', hL, e1, e2, ⟨u, hp, hb, hF⟩, hce, hcv, hcl, st⟩
  · cases hv
    obtain ⟨k1, k2, k3⟩ := vx_keep h0 e1 hS hA hf hL hF
    obtain ⟨t2, a1, b1⟩ := kk r u t T'.heap (locs ++ L) e1.symm (by rw [← e2]; exact X'.warmed.alike) hp hb k1 k2 k3 T' rfl X'
    exact ⟨t2, st t2 a1, b1⟩
  · obtain ⟨k1, k2, k3⟩ := vx_keep h0 e1 hS hAX hf hL hF
    obtain ⟨t2, a1, b1⟩ := kx E ce q u t T'.heap (locs ++ L) e1.symm (by rw [← e2]; exact X'.warmed.alike) hp hb k1 k2 k3 (by rw [e1]; exact hce) hcv hcl T' rfl X'
    exact ⟨t2, st.trans a1, b1⟩
theorem vx_calll {S SX : Type} {post : Int64 → S → Prop} {px : SX → Prop} {B : S → State → Prop} {BX : String → SX → State → Prop} {AX : Nat → Prop} (hr : vx_Run p l e R s m args below meth c H locs cells slots mc ms (F0 m pc ls st0) rest (va_Ql post B A1 a) (vx_X px BX AX) free) (hS : va_S A0 H0 H locs) (hA : ∀ q, q < H.size → A1 q → A0 q) (hf : ∀ q, free q → A0 q) (hAX : ∀ q, q < H.size → AX q → A0 q)
    (kx : ∀ (E : String) (ce : Cell) (q9 : Addr) (u : SX) (t : State) (H1 : Heap) (locs1 : List Loc), t.heap = H1 → s.vm.Alike t.vm → px u → BX E u t → H.size ≤ H1.size → (∀ q : Nat, q < H.size → ¬ AX q → H1[q]? = H[q]?) → va_S A0 H0 H1 locs1 → H1[q9]? = some ce → ce.vm = .none → s.vm.findClass E = some ce.cls → vx_W p l e R s m args below meth c H1 locs1 (cells + mc) (slots + ms) Q (F0 m pc ls rest) q9)
    (kk : ∀ (r : Int64) (u : S) (t : State) (H1 : Heap) (locs1 : List Loc), t.heap = H1 → s.vm.Alike t.vm → post r u → B u t → H.size ≤ H1.size → (∀ q : Nat, q < H.size → ¬ A1 q → H1[q]? = H[q]?) → va_S A0 H0 H1 locs1 → W p l e R s m args below meth c H1 locs1 (cells + mc) (slots + ms) Q (F0 m (pc + 3) ls (.long r :: rest))) : W p l e R s m args below meth c H locs cells slots Q (F0 m pc ls st0) := by
  intro T hT X
  rcases hr T hT X with ⟨v, st₀, t, T', L, h0, X', hL, e1, e2, ⟨⟨r, u, hv, hp, hb⟩, hF⟩, st⟩ | ⟨q, st₀, t, T', L, E, ce, h0, X', hL, e1, e2, ⟨u, hp, hb, hF⟩, hce, hcv, hcl, st⟩
  · cases hv
    obtain ⟨k1, k2, k3⟩ := vx_keep h0 e1 hS hA hf hL hF
    obtain ⟨t2, a1, b1⟩ := kk r u t T'.heap (locs ++ L) e1.symm (by rw [← e2]; exact X'.warmed.alike) hp hb k1 k2 k3 T' rfl X'
    exact ⟨t2, st t2 a1, b1⟩
  · obtain ⟨k1, k2, k3⟩ := vx_keep h0 e1 hS hAX hf hL hF
    obtain ⟨t2, a1, b1⟩ := kx E ce q u t T'.heap (locs ++ L) e1.symm (by rw [← e2]; exact X'.warmed.alike) hp hb k1 k2 k3 (by rw [e1]; exact hce) hcv hcl T' rfl X'
    exact ⟨t2, st.trans a1, b1⟩
theorem vx_callf {S SX : Type} {post : UInt32 → S → Prop} {px : SX → Prop} {B : S → State → Prop} {BX : String → SX → State → Prop} {AX : Nat → Prop} (hr : vx_Run p l e R s m args below meth c H locs cells slots mc ms (F0 m pc ls st0) rest (va_Qf post B A1 a) (vx_X px BX AX) free) (hS : va_S A0 H0 H locs) (hA : ∀ q, q < H.size → A1 q → A0 q) (hf : ∀ q, free q → A0 q) (hAX : ∀ q, q < H.size → AX q → A0 q)
    (kx : ∀ (E : String) (ce : Cell) (q9 : Addr) (u : SX) (t : State) (H1 : Heap) (locs1 : List Loc), t.heap = H1 → s.vm.Alike t.vm → px u → BX E u t → H.size ≤ H1.size → (∀ q : Nat, q < H.size → ¬ AX q → H1[q]? = H[q]?) → va_S A0 H0 H1 locs1 → H1[q9]? = some ce → ce.vm = .none → s.vm.findClass E = some ce.cls → vx_W p l e R s m args below meth c H1 locs1 (cells + mc) (slots + ms) Q (F0 m pc ls rest) q9)
    (kk : ∀ (r : UInt32) (u : S) (t : State) (H1 : Heap) (locs1 : List Loc), t.heap = H1 → s.vm.Alike t.vm → post r u → B u t → H.size ≤ H1.size → (∀ q : Nat, q < H.size → ¬ A1 q → H1[q]? = H[q]?) → va_S A0 H0 H1 locs1 → W p l e R s m args below meth c H1 locs1 (cells + mc) (slots + ms) Q (F0 m (pc + 3) ls (.float r :: rest))) : W p l e R s m args below meth c H locs cells slots Q (F0 m pc ls st0) := by
  intro T hT X
  rcases hr T hT X with ⟨v, st₀, t, T', L, h0, X', hL, e1, e2, ⟨⟨r, u, hv, hp, hb⟩, hF⟩, st⟩ | ⟨q, st₀, t, T', L, E, ce, h0, X', hL, e1, e2, ⟨u, hp, hb, hF⟩, hce, hcv, hcl, st⟩
  · cases hv
    obtain ⟨k1, k2, k3⟩ := vx_keep h0 e1 hS hA hf hL hF
    obtain ⟨t2, a1, b1⟩ := kk r u t T'.heap (locs ++ L) e1.symm (by rw [← e2]; exact X'.warmed.alike) hp hb k1 k2 k3 T' rfl X'
    exact ⟨t2, st t2 a1, b1⟩
  · obtain ⟨k1, k2, k3⟩ := vx_keep h0 e1 hS hAX hf hL hF
    obtain ⟨t2, a1, b1⟩ := kx E ce q u t T'.heap (locs ++ L) e1.symm (by rw [← e2]; exact X'.warmed.alike) hp hb k1 k2 k3 (by rw [e1]; exact hce) hcv hcl T' rfl X'
    exact ⟨t2, st.trans a1, b1⟩
theorem vx_calld {S SX : Type} {post : UInt64 → S → Prop} {px : SX → Prop} {B : S → State → Prop} {BX : String → SX → State → Prop} {AX : Nat → Prop} (hr : vx_Run p l e R s m args below meth c H locs cells slots mc ms (F0 m pc ls st0) rest (va_Qd post B A1 a) (vx_X px BX AX) free) (hS : va_S A0 H0 H locs) (hA : ∀ q, q < H.size → A1 q → A0 q) (hf : ∀ q, free q → A0 q) (hAX : ∀ q, q < H.size → AX q → A0 q)
    (kx : ∀ (E : String) (ce : Cell) (q9 : Addr) (u : SX) (t : State) (H1 : Heap) (locs1 : List Loc), t.heap = H1 → s.vm.Alike t.vm → px u → BX E u t → H.size ≤ H1.size → (∀ q : Nat, q < H.size → ¬ AX q → H1[q]? = H[q]?) → va_S A0 H0 H1 locs1 → H1[q9]? = some ce → ce.vm = .none → s.vm.findClass E = some ce.cls → vx_W p l e R s m args below meth c H1 locs1 (cells + mc) (slots + ms) Q (F0 m pc ls rest) q9)
    (kk : ∀ (r : UInt64) (u : S) (t : State) (H1 : Heap) (locs1 : List Loc), t.heap = H1 → s.vm.Alike t.vm → post r u → B u t → H.size ≤ H1.size → (∀ q : Nat, q < H.size → ¬ A1 q → H1[q]? = H[q]?) → va_S A0 H0 H1 locs1 → W p l e R s m args below meth c H1 locs1 (cells + mc) (slots + ms) Q (F0 m (pc + 3) ls (.double r :: rest))) : W p l e R s m args below meth c H locs cells slots Q (F0 m pc ls st0) := by
  intro T hT X
  rcases hr T hT X with ⟨v, st₀, t, T', L, h0, X', hL, e1, e2, ⟨⟨r, u, hv, hp, hb⟩, hF⟩, st⟩ | ⟨q, st₀, t, T', L, E, ce, h0, X', hL, e1, e2, ⟨u, hp, hb, hF⟩, hce, hcv, hcl, st⟩
  · cases hv
    obtain ⟨k1, k2, k3⟩ := vx_keep h0 e1 hS hA hf hL hF
    obtain ⟨t2, a1, b1⟩ := kk r u t T'.heap (locs ++ L) e1.symm (by rw [← e2]; exact X'.warmed.alike) hp hb k1 k2 k3 T' rfl X'
    exact ⟨t2, st t2 a1, b1⟩
  · obtain ⟨k1, k2, k3⟩ := vx_keep h0 e1 hS hAX hf hL hF
    obtain ⟨t2, a1, b1⟩ := kx E ce q u t T'.heap (locs ++ L) e1.symm (by rw [← e2]; exact X'.warmed.alike) hp hb k1 k2 k3 (by rw [e1]; exact hce) hcv hcl T' rfl X'
    exact ⟨t2, st.trans a1, b1⟩
theorem vx_callv {S SX : Type} {post : S → Prop} {px : SX → Prop} {B : S → State → Prop} {BX : String → SX → State → Prop} {AX : Nat → Prop} (hr : vx_Run p l e R s m args below meth c H locs cells slots mc ms (F0 m pc ls st0) rest (va_Qv post B A1 a) (vx_X px BX AX) free) (hS : va_S A0 H0 H locs) (hA : ∀ q, q < H.size → A1 q → A0 q) (hf : ∀ q, free q → A0 q) (hAX : ∀ q, q < H.size → AX q → A0 q)
    (kx : ∀ (E : String) (ce : Cell) (q9 : Addr) (u : SX) (t : State) (H1 : Heap) (locs1 : List Loc), t.heap = H1 → s.vm.Alike t.vm → px u → BX E u t → H.size ≤ H1.size → (∀ q : Nat, q < H.size → ¬ AX q → H1[q]? = H[q]?) → va_S A0 H0 H1 locs1 → H1[q9]? = some ce → ce.vm = .none → s.vm.findClass E = some ce.cls → vx_W p l e R s m args below meth c H1 locs1 (cells + mc) (slots + ms) Q (F0 m pc ls rest) q9)
    (kk : ∀ (u : S) (t : State) (H1 : Heap) (locs1 : List Loc), t.heap = H1 → s.vm.Alike t.vm → post u → B u t → H.size ≤ H1.size → (∀ q : Nat, q < H.size → ¬ A1 q → H1[q]? = H[q]?) → va_S A0 H0 H1 locs1 → W p l e R s m args below meth c H1 locs1 (cells + mc) (slots + ms) Q (F0 m (pc + 3) ls (rest))) : W p l e R s m args below meth c H locs cells slots Q (F0 m pc ls st0) := by
  intro T hT X
  rcases hr T hT X with ⟨v, st₀, t, T', L, h0, X', hL, e1, e2, ⟨⟨u, hv, hp, hb⟩, hF⟩, st⟩ | ⟨q, st₀, t, T', L, E, ce, h0, X', hL, e1, e2, ⟨u, hp, hb, hF⟩, hce, hcv, hcl, st⟩
  · cases hv
    obtain ⟨k1, k2, k3⟩ := vx_keep h0 e1 hS hA hf hL hF
    obtain ⟨t2, a1, b1⟩ := kk u t T'.heap (locs ++ L) e1.symm (by rw [← e2]; exact X'.warmed.alike) hp hb k1 k2 k3 T' rfl X'
    exact ⟨t2, st t2 a1, b1⟩
  · obtain ⟨k1, k2, k3⟩ := vx_keep h0 e1 hS hAX hf hL hF
    obtain ⟨t2, a1, b1⟩ := kx E ce q u t T'.heap (locs ++ L) e1.symm (by rw [← e2]; exact X'.warmed.alike) hp hb k1 k2 k3 (by rw [e1]; exact hce) hcv hcl T' rfl X'
    exact ⟨t2, st.trans a1, b1⟩
end Rows
section Ends
variable {p : Program} {l : Launch} {e : Env} {R : Room} {s : State} {m : MethodId} {args : Array Value} {below : List Frame} {meth : Method} {c : Code} {H : Heap} {locs : List Loc} {cells slots : Nat} {Q : State → Prop}
variable {mc ms : Nat} {free : Addr → Prop} {A0 A1 : Nat → Prop} {H0 : Heap} {a : Array Value} {ls : Array Slot} {st0 rest : List Value}
variable {Qc : Array Value → State → Outcome → State → Prop} {XC : String → State → State → Prop}
/-- what a body that may throw owes at its end -/
def vx_MQ (below : List Frame) (Qc : Array Value → State → Outcome → State → Prop) (XC : String → State → State → Prop) (a : Array Value) (s : State) (mc ms : Nat) (free : Addr → Prop) : State → Prop := fun t =>
  ∃ o, t.status = .running ∧ Ended t below o ∧ vx_Q Qc XC mc ms free a s o t
theorem vx_ret {g : JFrame} {mc ms : Nat} (k : W p l e R s m args below meth c H locs cells slots (MQ below Qc args s mc ms free) g) : W p l e R s m args below meth c H locs cells slots (vx_MQ below Qc XC args s mc ms free) g := by
  intro T hT X
  obtain ⟨t, a1, o, b1, b2, b3, b4⟩ := k T hT X
  exact ⟨t, a1, o, b1, b2, Or.inl ⟨b3, b4⟩⟩
/-- not caught here: it goes on to the caller -/
theorem vx_widen {g : JFrame} {q : Addr} {k n : Nat} (h1 : cells ≤ k) (h2 : slots ≤ n) (kk : vx_W p l e R s m args below meth c H locs k n Q g q) : vx_W p l e R s m args below meth c H locs cells slots Q g q := fun T hT X => kk T hT (stand_widen X h1 h2)
theorem vx_out {pc : Nat} {E : String} {ce : Cell} {q : Addr} {mc ms : Nat} (hout : ∀ x ∈ c.exceptionTable.toList, covers x pc = false) (hlocks : meth.locks = false) (hcell : H[q]? = some ce) (hv : ce.vm = .none) (hcl : s.vm.findClass E = some ce.cls)
    (hx : ∀ t : State, t.heap = H → s.vm.Alike t.vm → XC E s t) (hf : ∀ z ∈ locs, free z.base) (hc : cells ≤ mc) (hs : slots ≤ ms) :
    vx_W p l e R s m args below meth c H locs cells slots (vx_MQ below Qc XC args s mc ms free) (F0 m pc ls rest) q := by
  intro T hT X
  obtain ⟨st1, hrun, hend, hW, hsm⟩ := X.leaveThrown q (g := F0 m pc ls rest) rfl rfl rfl hout hlocks
  have hcell9 : (T.setFrames (.throwing q :: below)).heap[q]? = some ce := by
    show T.heap[q]? = some ce
    rw [hT]; exact hcell
  exact ⟨_, st1, .threw q, hrun, hend, Or.inr ⟨q, rfl, E, ce, locs, hx _ hT hW.alike, hcell9, hv, hcl, hW, hsm.mono hc hs, hf⟩⟩
theorem vx_frame {U : State} {k n : Nat} (h : s.sameButNew ({ U with vm := s.vm } : State) locs k n) : s.heap.size ≤ U.heap.size ∧ ∀ q : Nat, q < s.heap.size → (∀ z ∈ locs, z.base ≠ q) → U.heap[q]? = s.heap[q]? := by
  obtain ⟨-, h2, -, -, -, h6⟩ := h
  refine ⟨h2, fun q hq hz => ?_⟩
  obtain ⟨c9, e1, e2, e3, e4⟩ := h6 q _ (Array.getElem?_eq_getElem hq)
  have hs : c9.slots = (s.heap[q]).slots := Array.ext_getElem? fun i => e4 i fun hm => hz _ hm rfl
  have h9 : c9 = s.heap[q] := by
    rw [hs] at e2
    exact e2
  have e5 : U.heap[q]? = some c9 := e1
  rw [e5, h9, Array.getElem?_eq_getElem hq]
/-- the words of a throw but the four that speak of the heap -/
def vx_no (w : Cond) : Bool := decide (w ≠ .isRef (.static Bundle.tN "UNASSIGNED_STACK" Bundle.steD)) && decide (w ≠ .isRef (.static Bundle.tN "SUPPRESSED_SENTINEL" Bundle.listD)) && decide (w ≠ .laysStatic Bundle.tN "UNASSIGNED_STACK" Bundle.steD) && decide (w ≠ .laysStatic Bundle.tN "SUPPRESSED_SENTINEL" Bundle.listD)
def vx_at0 (own : String) (ic : Nat) (X : String) (names : List String) : List Cond := (Bundle.ownAtoms0 own ic X names).filter vx_no
def vx_atS (own : String) (ic : Nat) (X : String) (names : List String) : List Cond := (Bundle.ownAtoms own ic X names).filter vx_no
/-- a word that the tables alone decide, or a good one -/
def vx_ot (w : Cond) : Bool := w.onTables || goodWord w
theorem vx_ot_at {args a' : Array Value} {s U : State} {w : Cond} (hW : s.WarmedH U.vm) (hvm : s.vm = U.vm) (hg : vx_ot w = true) (h : w.before args s = true) : w.before a' U = true := by
  simp only [vx_ot, Bool.or_eq_true] at hg
  rcases hg with hg | hg
  · exact va_tabs hg hvm h
  · exact word_at hW (good_of_word hg) h
/-- a list's words: the good ones out of the method's own list, the others by premises of their own -/
theorem vx_hat {args : Array Value} {s : State} {L B : List Cond} (h1 : ∀ w ∈ L.filter goodWord, w.before args s = true) (h2 : ∀ w ∈ L.filter (fun w => !goodWord w), w ∈ B) (h3 : ∀ w ∈ B, w.before args s = true) : ∀ w ∈ L, w.before args s = true := by
  intro w hw
  by_cases g : goodWord w = true
  · exact h1 w (List.mem_filter.mpr ⟨hw, g⟩)
  · refine h3 w (h2 w (List.mem_filter.mpr ⟨hw, ?_⟩))
    show (!goodWord w) = true
    cases hgw : goodWord w
    · rfl
    · exact absurd hgw g
theorem vx_c {args : Array Value} {s : State} {w : Cond} {B : List Cond} (h : w.before args s = true) (t : ∀ w ∈ B, w.before args s = true) : ∀ w' ∈ w :: B, w'.before args s = true := fun w' h' => (List.mem_cons.mp h').elim (fun e => by rw [e]; exact h) (t w')
theorem vx_n {args : Array Value} {s : State} : ∀ w ∈ ([] : List Cond), w.before args s = true := fun _ h => nomatch h
theorem vx_own {args : Array Value} {s : State} {L : List Cond} (h1 : ∀ w ∈ L.filter vx_no, w.before args s = true)
    (hU : (Cond.isRef (.static Bundle.tN "UNASSIGNED_STACK" Bundle.steD)).before args s = true) (hN : (Cond.isRef (.static Bundle.tN "SUPPRESSED_SENTINEL" Bundle.listD)).before args s = true)
    (lU : (Cond.laysStatic Bundle.tN "UNASSIGNED_STACK" Bundle.steD).before args s = true) (lN : (Cond.laysStatic Bundle.tN "SUPPRESSED_SENTINEL" Bundle.listD).before args s = true) : ∀ w ∈ L, w.before args s = true := by
  intro w hw
  by_cases e1 : w = .isRef (.static Bundle.tN "UNASSIGNED_STACK" Bundle.steD)
  · rw [e1]; exact hU
  · by_cases e2 : w = .isRef (.static Bundle.tN "SUPPRESSED_SENTINEL" Bundle.listD)
    · rw [e2]; exact hN
    · by_cases e3 : w = .laysStatic Bundle.tN "UNASSIGNED_STACK" Bundle.steD
      · rw [e3]; exact lU
      · by_cases e4 : w = .laysStatic Bundle.tN "SUPPRESSED_SENTINEL" Bundle.listD
        · rw [e4]; exact lN
        · exact h1 w (List.mem_filter.mpr ⟨hw, by unfold vx_no; rw [decide_eq_true e1, decide_eq_true e2, decide_eq_true e3, decide_eq_true e4]; rfl⟩)
/-- where a static field lies, its class's statics cell in H -/
def vx_L (C n d : String) (A : Nat → Prop) (U : State) (H : Heap) : Prop := ∃ (c : ClassId) (k : Class) (i : Nat) (f : Field) (a : Nat) (cell : Cell), U.vm.findClass C = some c ∧ U.fieldFound? C n d = some (c, k, i, f) ∧ f.isStatic = true ∧ k.statics = some a ∧ H[a]? = some cell ∧ cell.vm.isStatics = true ∧ cell.cls = c ∧ f.slot < cell.slots.size ∧ k.staticTypes[f.slot]? = some f.type ∧ ¬ A a
theorem vx_L.moved {C n d : String} {A : Nat → Prop} {u U : State} {H : Heap} (hvm : u.vm.Alike U.vm) (h : vx_L C n d A u H) : vx_L C n d A U H := by
  obtain ⟨c, k, i, f, a, cell, h1, h2, h3, h4, h5, h6, h7, h8, h9, h10⟩ := h
  obtain ⟨k', hi', he⟩ := State.fieldFound?_setVm hvm h2
  exact ⟨c, k', i, f, a, cell, by rw [hvm.findClass]; exact h1, hi', h3, by rw [he]; exact h4, h5, h6, h7, h8, by rw [he]; exact h9, h10⟩
theorem vx_L.kept {C n d : String} {A : Nat → Prop} {U : State} {H H1 : Heap} (h : vx_L C n d A U H) (hq : ∀ a : Nat, a < H.size → ¬ A a → H1[a]? = H[a]?) : vx_L C n d A U H1 := by
  obtain ⟨c, k, i, f, a, cell, h1, h2, h3, h4, h5, h6, h7, h8, h9, h10⟩ := h
  exact ⟨c, k, i, f, a, cell, h1, h2, h3, h4, by rw [hq a (Array.getElem?_eq_some_iff.mp h5).1 h10]; exact h5, h6, h7, h8, h9, h10⟩
theorem vx_L.narrow {C n d : String} {A B : Nat → Prop} {U : State} {H : Heap} (h : vx_L C n d A U H) (hAB : ∀ q, B q → A q) : vx_L C n d B U H := by
  obtain ⟨c, k, i, f, a, cell, h1, h2, h3, h4, h5, h6, h7, h8, h9, h10⟩ := h
  exact ⟨c, k, i, f, a, cell, h1, h2, h3, h4, h5, h6, h7, h8, h9, fun z => h10 (hAB _ z)⟩
theorem vx_L.word {C n d : String} {A : Nat → Prop} {s : State} {args : Array Value} (h : vx_L C n d A s s.heap) : (Cond.laysStatic C n d).before args s = true := by
  obtain ⟨c, k, i, f, a, cell, h1, h2, h3, h4, h5, h6, h7, h8, h9, -⟩ := h
  show (Cond.laysStatic C n d).holds args s none s [] = true
  exact Cond.laysStatic_of h1 h2 h3 h4 h5 h6 h7 h8 h9
/-- .. and what it holds: null or some reference -/
def vx_Zq (C n d : String) (A : Nat → Prop) (U : State) (H : Heap) : Prop := va_Zq C n d A U H ∧ vx_L C n d A U H
theorem vx_Zq.moved {C n d : String} {A : Nat → Prop} {u U : State} {H : Heap} (hvm : u.vm.Alike U.vm) (h : vx_Zq C n d A u H) : vx_Zq C n d A U H := ⟨va_Zq.moved hvm h.1, vx_L.moved hvm h.2⟩
theorem vx_Zq.kept {C n d : String} {A : Nat → Prop} {U : State} {H H1 : Heap} (h : vx_Zq C n d A U H) (hq : ∀ a : Nat, a < H.size → ¬ A a → H1[a]? = H[a]?) : vx_Zq C n d A U H1 := ⟨va_Zq.kept h.1 hq, vx_L.kept h.2 hq⟩
theorem vx_Zq.narrow {C n d : String} {A B : Nat → Prop} {U : State} {H : Heap} (h : vx_Zq C n d A U H) (hAB : ∀ q, B q → A q) : vx_Zq C n d B U H := ⟨va_Zq.narrow h.1 hAB, vx_L.narrow h.2 hAB⟩
theorem vx_Zqof {args : Array Value} {s : State} {C n d : String} {A : Nat → Prop} (hl : (Cond.laysStatic C n d).before args s = true) (hini : (Cond.initialized C).before args s = true) (h : (Cond.isRef (.static C n d)).before args s = true) (hA : ∀ a : Nat, a < s.heap.size → ¬ A a) : vx_Zq C n d A s s.heap := by
  refine ⟨va_Zqof hl hini h hA, ?_⟩
  obtain ⟨c, k, i, f, a, cell, h1, h2, h3, h4, h5, h6, h7, h8, h9⟩ := Cond.laysStatic_spec hl
  exact ⟨c, k, i, f, a, cell, h1, h2, h3, h4, h5, h6, h7, h8, h9, hA a (Array.getElem?_eq_some_iff.mp h5).1⟩
theorem vx_isRef {C n d : String} {v : Value} {A : Nat → Prop} {s : State} {args : Array Value} (h : va_Z C n d v A s s.heap) (hv : v.isRef = true) : (Cond.isRef (.static C n d)).before args s = true := by
  obtain ⟨cf, kf, fi, f, a, cell, h1, h2, h3, h4, h5, h6, h7, -⟩ := h
  have he : (Term.static C n d).eval args s none [] s = some v := by
    simp [Term.eval, State.fieldNamed?, h1, h2, h4, h5, h6, h7]
  simp only [Cond.before, Cond.holds, Cond.value, he]
  cases v <;> simp_all [Value.isRef]
theorem vx_isRefq {C n d : String} {A : Nat → Prop} {s : State} {args : Array Value} (h : va_Zq C n d A s s.heap) : (Cond.isRef (.static C n d)).before args s = true := by
  rcases h with h | ⟨t, h⟩
  · exact vx_isRef h rfl
  · exact vx_isRef h rfl
/-- the same frame, seen from here: as if the method were called anew in this heap -/
theorem vx_rebase {T : State} (X : Stand p l e R s m args below meth c T locs cells slots) {R' : Room} (hf : R'.frames ≤ R.frames) (hl : R'.locals ≤ R.locals) (hc : cells + R'.cells ≤ R.cells) (hs : slots + R'.slots ≤ R.slots) :
    Stand p l e R' ((T.setVm s.vm).setFrames (.invoking m args :: below)) m args below meth c T [] 0 0 := by
  have htop : (T.setVm s.vm).topJava?.isSome := X.here.top
  have hF : ((T.setVm s.vm).setFrames (.invoking m args :: below)).frames = .invoking m args :: below := State.frames_setFrames _ (State.cur_lt_of_top htop)
  obtain ⟨g₀, hg0⟩ := Option.isSome_iff_exists.mp htop
  obtain ⟨r, hr⟩ := State.topJava?_eq_some.mp hg0
  have hl9 : e.platform.stackLimits (T.setVm s.vm).me = e.platform.stackLimits s.me := X.limits
  have hb9 : (T.setVm s.vm).me.stackBytes = s.me.stackBytes := X.bytes
  refine ⟨X.admits, X.cas, X.clock, hF, ?_, X.hears, X.method, X.code, X.here, X.tail, X.warmed, ?_, ?_, ?_⟩
  · have h := X.room
    have hU : ((T.setVm s.vm).setFrames (.invoking m args :: below)).localsInUse = s.localsInUse := by
      rw [State.localsInUse_invoking hF (meth := meth) (c := c) X.method X.code, State.localsInUse_invoking X.frames X.method X.code]
    simp only [State.hasRoom, Bool.and_eq_true, decide_eq_true_eq] at h ⊢
    obtain ⟨⟨⟨⟨h1, h2, h3, h4, h5, h6⟩, h7⟩, h8⟩, h9⟩ := h
    rw [X.frames, List.length_cons] at h2 h3
    have q1 := X.heapSize
    have q2 := X.used
    simp only [hF, hU, List.length_cons, State.stackLimits_setFrames, State.stackBytes_setFrames, hl9, hb9]
    refine ⟨⟨⟨⟨by omega, by omega, by omega, by omega, by omega, h6⟩, ?_⟩, ?_⟩, X.book⟩
    · show T.heap.size + R'.cells ≤ e.platform.maxCells
      omega
    · show T.slotsUsed + R'.slots ≤ e.platform.maxSlots
      omega
  · rw [State.stackLimits_setFrames]; rfl
  · rw [State.stackBytes_setFrames]; rfl
  · refine ⟨?_, Nat.le_refl _, Nat.le_refl _, ?_, ?_, fun a c9 h9 => ⟨c9, h9, rfl, rfl, fun _ _ => rfl⟩⟩
    · obtain ⟨t, ht, -⟩ := State.frames_cons hr
      show T.setVm s.vm = { ((T.setVm s.vm).setFrames (.invoking m args :: below)).setFrames (T.setVm s.vm).frames with heap := T.heap, slotsUsed := T.slotsUsed }
      rw [State.setFrames_setFrames, State.setFrames_self ht]
      rfl
    · show T.slotsUsed = T.slotsUsed + ((T.heap.toList.drop T.heap.size).map (·.slots.size)).sum
      rw [List.drop_eq_nil_of_le (Nat.le_of_eq Array.length_toList)]
      rfl
    · show ((T.heap.toList.drop T.heap.size).map (·.slots.size)).sum ≤ 0
      rw [List.drop_eq_nil_of_le (Nat.le_of_eq Array.length_toList)]
      exact Nat.le_refl _
/-- 'throw new E()': new; dup; invokespecial; athrow -/
theorem vx_throw0 {cc : ByteArray} {pc : Nat} (hexec : p.tables.exec = Jvm.exec) (hb : c.code = cc) (hl : l.stackTraces = false) {own cls : String} {names : List String} {ik ic mc ms : Nat} {A : Nat → Prop}
    (hown : s.vm.findClass own = some m.cls) (hcls : Bundle.fit cls = true) (hnames : ∀ n ∈ names, Bundle.fit n = true)
    (hk : (Cond.classLink own ik cls).before args s = true) (hini : (Cond.initialized cls).before args s = true) (hat : ∀ w ∈ vx_at0 own ic cls names, w.before args s = true)
    (hgood : ∀ w ∈ Cond.classLink own ik cls :: Cond.initialized cls :: vx_at0 own ic cls names, vx_ot w = true)
    (hU : vx_Zq Bundle.tN "UNASSIGNED_STACK" Bundle.steD A s s.heap) (hN : vx_Zq Bundle.tN "SUPPRESSED_SENTINEL" Bundle.listD A s s.heap) (hS : va_S A s.heap H locs) (hsize : ls.size = c.maxLocals)
    (d0 : decode cc pc = .ok (.new ik, 3)) (d3 : decode cc (pc + 3) = .ok (.dup, 1)) (d4 : decode cc (pc + 4) = .ok (.invokespecial ic, 3)) (d7 : decode cc (pc + 7) = .ok (.athrow, 1))
    (hout : ∀ x ∈ c.exceptionTable.toList, covers x (pc + 7) = false)
    (hRframes : names.length + 3 < R.frames) (hRlocals : (rest.map fun v => v.category).sum + (13 * (names.length + 1) + 42) ≤ R.locals) (hRcells : cells + 1 ≤ R.cells) (hRslots : slots + 6 ≤ R.slots) (hlocks : meth.locks = false)
    (hx : ∀ t : State, s.vm.Alike t.vm → H.size ≤ t.heap.size → (∀ q : Nat, q < H.size → t.heap[q]? = H[q]?) → XC cls s t)
    (hf : ∀ z ∈ locs, free z.base) (hc : cells + 1 ≤ mc) (hs : slots + 6 ≤ ms) :
    W p l e R s m args below meth c H locs cells slots (vx_MQ below Qc XC args s mc ms free) (F0 m pc ls rest) := by
  intro T hT X
  have htr : e.platform.stackTraces = false := (show e.platform.stackTraces = l.stackTraces by rw [X.admits.platform]).trans hl
  have Y := vx_rebase X (R' := { frames := R.frames, locals := R.locals, cells := 1, slots := 6 }) (Nat.le_refl _) (Nat.le_refl _) hRcells hRslots
  obtain ⟨s', hA⟩ : ∃ z, z = (T.setVm s.vm).setFrames (.invoking m args :: below) := ⟨_, rfl⟩
  rw [← hA] at Y
  have hvm : s'.vm = s.vm := by rw [hA]; rfl
  have hhp : s'.heap = H := by rw [hA]; exact hT
  have hW0 : s.WarmedH s'.vm := by rw [hvm]; exact State.WarmedH.refl s
  have hat' : ∀ w ∈ vx_at0 own ic cls names, w.before args s' = true := fun w hw => vx_ot_at hW0 hvm.symm (hgood w (List.mem_cons_of_mem _ (List.mem_cons_of_mem _ hw))) (hat w hw)
  have hk' : (Cond.classLink own ik cls).before args s' = true := vx_ot_at hW0 hvm.symm (hgood _ List.mem_cons_self) hk
  have hini' : (Cond.initialized cls).before args s' = true := vx_ot_at hW0 hvm.symm (hgood _ (List.mem_cons_of_mem _ List.mem_cons_self)) hini
  have hU' : vx_Zq Bundle.tN "UNASSIGNED_STACK" Bundle.steD A s' s'.heap := by rw [hhp]; exact vx_Zq.moved hW0.alike (hU.kept hS.2.1)
  have hN' : vx_Zq Bundle.tN "SUPPRESSED_SENTINEL" Bundle.listD A s' s'.heap := by rw [hhp]; exact vx_Zq.moved hW0.alike (hN.kept hS.2.1)
  have h : ∀ w ∈ Bundle.ownAtoms0 own ic cls names, w.before args s' = true := vx_own hat' (vx_isRefq hU'.1) (vx_isRefq hN'.1) hU'.2.word hN'.2.word
  have hown' : s'.vm.findClass own = some m.cls := by rw [hvm]; exact hown
  have hins : (Cond.instantiable cls 6).before args s' = true := h _ (by simp [Bundle.ownAtoms0])
  obtain ⟨vm₁, cX, kX, hfX, hkX, -, -, X₁, st1⟩ := Y.newCold hexec (own := own) (C := cls) (index := ik) (n := 6) hown' hk' hins hini'
    (g := F0 m pc ls rest) rfl (by rw [hb]; exact d0) (Nat.le_refl _) (Nat.le_refl _)
  generalize hT1 : (T.setVm vm₁).pushCell { cls := cX, slots := kX.instanceTypes.map defaultValue, vm := .none } = T1 at X₁ st1
  have hcat : (Value.ref T.heap.size).category = 1 := rfl
  have hcellA : T1.heap[T.heap.size]? = some (freshCell cX kX) := by rw [← hT1]; exact State.heap_pushCell_size _ _
  have d3' : decode c.code (pc + 3) = .ok (.dup, 1) := by rw [hb]; exact d3
  obtain ⟨U, hsteps, hrun, hend, hW, hsame, ce, hce, hO⟩ := X₁.ctorThrow0 hexec htr (own := own) (cls := cls) (names := names) (ic := ic) hown' hcls hnames h (fun x hx => nomatch hx) hfX hkX hcellA (by rw [hhp, hT]; exact Nat.le_refl _)
    (g := { method := m, pc := pc + 4, locals := ls, stack := .ref T.heap.size :: .ref T.heap.size :: rest, locked := none }) rfl hsize rfl rfl (rest := rest) rfl
    (by rw [hb]; exact d4) (by rw [hb]; exact d7) hout hRframes (by simp only [List.map_cons, List.sum_cons, hcat]; omega) hlocks
  obtain ⟨f1, f2⟩ := vx_frame hsame
  rw [hhp] at f1 f2
  have hWs : s.WarmedH U.vm := State.WarmedH.trans hW0 hW
  have hcl : s.vm.findClass cls = some ce.cls := by
    have h9 := hO.cls
    rw [hvm] at h9
    exact h9
  have hall : s.sameButNew ({ U with vm := s.vm } : State) locs mc ms := by
    subst hA
    obtain ⟨e1, e2⟩ := hsame
    rw [State.setFrames_setFrames] at e1
    have h2 : (T.setVm s.vm).sameButNew ({ U with vm := s.vm } : State) [] (0 + 1) (0 + 6) := ⟨e1, e2⟩
    have h3 := X.same.trans h2
    rw [List.append_nil] at h3
    exact h3.mono hc hs
  refine ⟨U, ?_, .threw T.heap.size, hrun, hend, Or.inr ⟨T.heap.size, rfl, cls, ce, locs, hx U hWs.alike f1 (fun q hq => f2 q hq (fun z hz => nomatch hz)), hce, hO.vm, hcl, hWs, hall, hf⟩⟩
  refine st1 _ ?_
  show Steps p.tables e below (T1.setTop { method := m, pc := pc + 3, locals := ls, stack := .ref T.heap.size :: rest, locked := none }) _
  jvm_step X₁.here [X₁.here.top, hexec, d3', Value.category]
  exact hsteps
/-- 'throw new E("text")': new; dup; ldc; invokespecial; athrow -/
theorem vx_throwS {cc : ByteArray} {pc : Nat} (hexec : p.tables.exec = Jvm.exec) (hb : c.code = cc) (hl : l.stackTraces = false) {own cls text : String} {names : List String} {ik is ic mc ms sa : Nat} {A : Nat → Prop}
    (hown : s.vm.findClass own = some m.cls) (hcls : Bundle.fit cls = true) (hnames : ∀ n ∈ names, Bundle.fit n = true)
    (hk : (Cond.classLink own ik cls).before args s = true) (hini : (Cond.initialized cls).before args s = true) (hstr : vk_R own is text sa s) (hat : ∀ w ∈ vx_atS own ic cls names, w.before args s = true)
    (hgood : ∀ w ∈ Cond.classLink own ik cls :: Cond.initialized cls :: vx_atS own ic cls names, vx_ot w = true)
    (hU : vx_Zq Bundle.tN "UNASSIGNED_STACK" Bundle.steD A s s.heap) (hN : vx_Zq Bundle.tN "SUPPRESSED_SENTINEL" Bundle.listD A s s.heap) (hS : va_S A s.heap H locs) (hsize : ls.size = c.maxLocals)
    (d0 : decode cc pc = .ok (.new ik, 3)) (d3 : decode cc (pc + 3) = .ok (.dup, 1)) (d4 : decode cc (pc + 4) = .ok (.ldc is, 2)) (d6 : decode cc (pc + 6) = .ok (.invokespecial ic, 3)) (d9 : decode cc (pc + 9) = .ok (.athrow, 1))
    (hout : ∀ x ∈ c.exceptionTable.toList, covers x (pc + 9) = false)
    (hRframes : names.length + 3 < R.frames) (hRlocals : (rest.map fun v => v.category).sum + (13 * (names.length + 1) + 43) ≤ R.locals) (hRcells : cells + 1 ≤ R.cells) (hRslots : slots + 6 ≤ R.slots) (hlocks : meth.locks = false)
    (hx : ∀ t : State, s.vm.Alike t.vm → H.size ≤ t.heap.size → (∀ q : Nat, q < H.size → t.heap[q]? = H[q]?) → XC cls s t)
    (hf : ∀ z ∈ locs, free z.base) (hc : cells + 1 ≤ mc) (hs : slots + 6 ≤ ms) :
    W p l e R s m args below meth c H locs cells slots (vx_MQ below Qc XC args s mc ms free) (F0 m pc ls rest) := by
  intro T hT X
  have htr : e.platform.stackTraces = false := (show e.platform.stackTraces = l.stackTraces by rw [X.admits.platform]).trans hl
  have Y := vx_rebase X (R' := { frames := R.frames, locals := R.locals, cells := 1, slots := 6 }) (Nat.le_refl _) (Nat.le_refl _) hRcells hRslots
  obtain ⟨s', hA⟩ : ∃ z, z = (T.setVm s.vm).setFrames (.invoking m args :: below) := ⟨_, rfl⟩
  rw [← hA] at Y
  have hvm : s'.vm = s.vm := by rw [hA]; rfl
  have hhp : s'.heap = H := by rw [hA]; exact hT
  have hW0 : s.WarmedH s'.vm := by rw [hvm]; exact State.WarmedH.refl s
  have hat' : ∀ w ∈ vx_atS own ic cls names, w.before args s' = true := fun w hw => vx_ot_at hW0 hvm.symm (hgood w (List.mem_cons_of_mem _ (List.mem_cons_of_mem _ hw))) (hat w hw)
  have hk' : (Cond.classLink own ik cls).before args s' = true := vx_ot_at hW0 hvm.symm (hgood _ List.mem_cons_self) hk
  have hini' : (Cond.initialized cls).before args s' = true := vx_ot_at hW0 hvm.symm (hgood _ (List.mem_cons_of_mem _ List.mem_cons_self)) hini
  have hU' : vx_Zq Bundle.tN "UNASSIGNED_STACK" Bundle.steD A s' s'.heap := by rw [hhp]; exact vx_Zq.moved hW0.alike (hU.kept hS.2.1)
  have hN' : vx_Zq Bundle.tN "SUPPRESSED_SENTINEL" Bundle.listD A s' s'.heap := by rw [hhp]; exact vx_Zq.moved hW0.alike (hN.kept hS.2.1)
  have h : ∀ w ∈ Bundle.ownAtoms own ic cls names, w.before args s' = true := vx_own hat' (vx_isRefq hU'.1) (vx_isRefq hN'.1) hU'.2.word hN'.2.word
  have hown' : s'.vm.findClass own = some m.cls := by rw [hvm]; exact hown
  have hins : (Cond.instantiable cls 6).before args s' = true := h _ (by simp [Bundle.ownAtoms])
  obtain ⟨vm₁, cX, kX, hfX, hkX, -, -, X₁, st1⟩ := Y.newCold hexec (own := own) (C := cls) (index := ik) (n := 6) hown' hk' hins hini'
    (g := F0 m pc ls rest) rfl (by rw [hb]; exact d0) (Nat.le_refl _) (Nat.le_refl _)
  generalize hT1 : (T.setVm vm₁).pushCell { cls := cX, slots := kX.instanceTypes.map defaultValue, vm := .none } = T1 at X₁ st1
  have hcat : (Value.ref T.heap.size).category = 1 := rfl
  have hcellA : T1.heap[T.heap.size]? = some (freshCell cX kX) := by rw [← hT1]; exact State.heap_pushCell_size _ _
  have d3' : decode c.code (pc + 3) = .ok (.dup, 1) := by rw [hb]; exact d3
  have d4' : decode c.code (pc + 4) = .ok (.ldc is, 2) := by rw [hb]; exact d4
  have hstr' : vk_R own is text sa s' := vk_R.warm hW0 hstr
  obtain ⟨U, hsteps, hrun, hend, hW, hsame, ce, hce, hO⟩ := X₁.ctorThrowS hexec htr (own := own) (cls := cls) (names := names) (ic := ic) hown' hcls hnames h (fun x hx => nomatch hx) hfX hkX hcellA (by rw [hhp, hT]; exact Nat.le_refl _) (msg := .ref sa) rfl
    (g := { method := m, pc := pc + 6, locals := ls, stack := .ref sa :: .ref T.heap.size :: .ref T.heap.size :: rest, locked := none }) rfl hsize rfl rfl (rest := rest) rfl
    (by rw [hb]; exact d6) (by rw [hb]; exact d9) hout hRframes (by simp only [List.map_cons, List.sum_cons, hcat]; omega) hlocks
  obtain ⟨f1, f2⟩ := vx_frame hsame
  rw [hhp] at f1 f2
  have hWs : s.WarmedH U.vm := State.WarmedH.trans hW0 hW
  have hcl : s.vm.findClass cls = some ce.cls := by
    have h9 := hO.cls
    rw [hvm] at h9
    exact h9
  have hall : s.sameButNew ({ U with vm := s.vm } : State) locs mc ms := by
    subst hA
    obtain ⟨e1, e2⟩ := hsame
    rw [State.setFrames_setFrames] at e1
    have h2 : (T.setVm s.vm).sameButNew ({ U with vm := s.vm } : State) [] (0 + 1) (0 + 6) := ⟨e1, e2⟩
    have h3 := X.same.trans h2
    rw [List.append_nil] at h3
    exact h3.mono hc hs
  refine ⟨U, ?_, .threw T.heap.size, hrun, hend, Or.inr ⟨T.heap.size, rfl, cls, ce, locs, hx U hWs.alike f1 (fun q hq => f2 q hq (fun z hz => nomatch hz)), hce, hO.vm, hcl, hWs, hall, hf⟩⟩
  refine st1 _ ?_
  show Steps p.tables e below (T1.setTop { method := m, pc := pc + 3, locals := ls, stack := .ref T.heap.size :: rest, locked := none }) _
  jvm_step X₁.here [X₁.here.top, hexec, d3', Value.category]
  exact X₁.ldcString hexec (own := own) (text := text) (index := is) (a := sa) hown' hstr'.1 hstr'.2
    (g := { method := m, pc := pc + 4, locals := ls, stack := .ref T.heap.size :: .ref T.heap.size :: rest, locked := none }) rfl d4' _ hsteps
/-- 'throw new E("text")', the text by a wide index -/
theorem vx_throwSW {cc : ByteArray} {pc : Nat} (hexec : p.tables.exec = Jvm.exec) (hb : c.code = cc) (hl : l.stackTraces = false) {own cls text : String} {names : List String} {ik is ic mc ms sa : Nat} {A : Nat → Prop}
    (hown : s.vm.findClass own = some m.cls) (hcls : Bundle.fit cls = true) (hnames : ∀ n ∈ names, Bundle.fit n = true)
    (hk : (Cond.classLink own ik cls).before args s = true) (hini : (Cond.initialized cls).before args s = true) (hstr : vk_R own is text sa s) (hat : ∀ w ∈ vx_atS own ic cls names, w.before args s = true)
    (hgood : ∀ w ∈ Cond.classLink own ik cls :: Cond.initialized cls :: vx_atS own ic cls names, vx_ot w = true)
    (hU : vx_Zq Bundle.tN "UNASSIGNED_STACK" Bundle.steD A s s.heap) (hN : vx_Zq Bundle.tN "SUPPRESSED_SENTINEL" Bundle.listD A s s.heap) (hS : va_S A s.heap H locs) (hsize : ls.size = c.maxLocals)
    (d0 : decode cc pc = .ok (.new ik, 3)) (d3 : decode cc (pc + 3) = .ok (.dup, 1)) (d4 : decode cc (pc + 4) = .ok (.ldc_w is, 3)) (d7 : decode cc (pc + 7) = .ok (.invokespecial ic, 3)) (d10 : decode cc (pc + 10) = .ok (.athrow, 1))
    (hout : ∀ x ∈ c.exceptionTable.toList, covers x (pc + 10) = false)
    (hRframes : names.length + 3 < R.frames) (hRlocals : (rest.map fun v => v.category).sum + (13 * (names.length + 1) + 43) ≤ R.locals) (hRcells : cells + 1 ≤ R.cells) (hRslots : slots + 6 ≤ R.slots) (hlocks : meth.locks = false)
    (hx : ∀ t : State, s.vm.Alike t.vm → H.size ≤ t.heap.size → (∀ q : Nat, q < H.size → t.heap[q]? = H[q]?) → XC cls s t)
    (hf : ∀ z ∈ locs, free z.base) (hc : cells + 1 ≤ mc) (hs : slots + 6 ≤ ms) :
    W p l e R s m args below meth c H locs cells slots (vx_MQ below Qc XC args s mc ms free) (F0 m pc ls rest) := by
  intro T hT X
  have htr : e.platform.stackTraces = false := (show e.platform.stackTraces = l.stackTraces by rw [X.admits.platform]).trans hl
  have Y := vx_rebase X (R' := { frames := R.frames, locals := R.locals, cells := 1, slots := 6 }) (Nat.le_refl _) (Nat.le_refl _) hRcells hRslots
  obtain ⟨s', hA⟩ : ∃ z, z = (T.setVm s.vm).setFrames (.invoking m args :: below) := ⟨_, rfl⟩
  rw [← hA] at Y
  have hvm : s'.vm = s.vm := by rw [hA]; rfl
  have hhp : s'.heap = H := by rw [hA]; exact hT
  have hW0 : s.WarmedH s'.vm := by rw [hvm]; exact State.WarmedH.refl s
  have hat' : ∀ w ∈ vx_atS own ic cls names, w.before args s' = true := fun w hw => vx_ot_at hW0 hvm.symm (hgood w (List.mem_cons_of_mem _ (List.mem_cons_of_mem _ hw))) (hat w hw)
  have hk' : (Cond.classLink own ik cls).before args s' = true := vx_ot_at hW0 hvm.symm (hgood _ List.mem_cons_self) hk
  have hini' : (Cond.initialized cls).before args s' = true := vx_ot_at hW0 hvm.symm (hgood _ (List.mem_cons_of_mem _ List.mem_cons_self)) hini
  have hU' : vx_Zq Bundle.tN "UNASSIGNED_STACK" Bundle.steD A s' s'.heap := by rw [hhp]; exact vx_Zq.moved hW0.alike (hU.kept hS.2.1)
  have hN' : vx_Zq Bundle.tN "SUPPRESSED_SENTINEL" Bundle.listD A s' s'.heap := by rw [hhp]; exact vx_Zq.moved hW0.alike (hN.kept hS.2.1)
  have h : ∀ w ∈ Bundle.ownAtoms own ic cls names, w.before args s' = true := vx_own hat' (vx_isRefq hU'.1) (vx_isRefq hN'.1) hU'.2.word hN'.2.word
  have hown' : s'.vm.findClass own = some m.cls := by rw [hvm]; exact hown
  have hins : (Cond.instantiable cls 6).before args s' = true := h _ (by simp [Bundle.ownAtoms])
  obtain ⟨vm₁, cX, kX, hfX, hkX, -, -, X₁, st1⟩ := Y.newCold hexec (own := own) (C := cls) (index := ik) (n := 6) hown' hk' hins hini'
    (g := F0 m pc ls rest) rfl (by rw [hb]; exact d0) (Nat.le_refl _) (Nat.le_refl _)
  generalize hT1 : (T.setVm vm₁).pushCell { cls := cX, slots := kX.instanceTypes.map defaultValue, vm := .none } = T1 at X₁ st1
  have hcat : (Value.ref T.heap.size).category = 1 := rfl
  have hcellA : T1.heap[T.heap.size]? = some (freshCell cX kX) := by rw [← hT1]; exact State.heap_pushCell_size _ _
  have d3' : decode c.code (pc + 3) = .ok (.dup, 1) := by rw [hb]; exact d3
  have d4' : decode c.code (pc + 4) = .ok (.ldc_w is, 3) := by rw [hb]; exact d4
  have hstr' : vk_R own is text sa s' := vk_R.warm hW0 hstr
  obtain ⟨U, hsteps, hrun, hend, hW, hsame, ce, hce, hO⟩ := X₁.ctorThrowS hexec htr (own := own) (cls := cls) (names := names) (ic := ic) hown' hcls hnames h (fun x hx => nomatch hx) hfX hkX hcellA (by rw [hhp, hT]; exact Nat.le_refl _) (msg := .ref sa) rfl
    (g := { method := m, pc := pc + 7, locals := ls, stack := .ref sa :: .ref T.heap.size :: .ref T.heap.size :: rest, locked := none }) rfl hsize rfl rfl (rest := rest) rfl
    (by rw [hb]; exact d7) (by rw [hb]; exact d10) hout hRframes (by simp only [List.map_cons, List.sum_cons, hcat]; omega) hlocks
  obtain ⟨f1, f2⟩ := vx_frame hsame
  rw [hhp] at f1 f2
  have hWs : s.WarmedH U.vm := State.WarmedH.trans hW0 hW
  have hcl : s.vm.findClass cls = some ce.cls := by
    have h9 := hO.cls
    rw [hvm] at h9
    exact h9
  have hall : s.sameButNew ({ U with vm := s.vm } : State) locs mc ms := by
    subst hA
    obtain ⟨e1, e2⟩ := hsame
    rw [State.setFrames_setFrames] at e1
    have h2 : (T.setVm s.vm).sameButNew ({ U with vm := s.vm } : State) [] (0 + 1) (0 + 6) := ⟨e1, e2⟩
    have h3 := X.same.trans h2
    rw [List.append_nil] at h3
    exact h3.mono hc hs
  refine ⟨U, ?_, .threw T.heap.size, hrun, hend, Or.inr ⟨T.heap.size, rfl, cls, ce, locs, hx U hWs.alike f1 (fun q hq => f2 q hq (fun z hz => nomatch hz)), hce, hO.vm, hcl, hWs, hall, hf⟩⟩
  refine st1 _ ?_
  show Steps p.tables e below (T1.setTop { method := m, pc := pc + 3, locals := ls, stack := .ref T.heap.size :: rest, locked := none }) _
  jvm_step X₁.here [X₁.here.top, hexec, d3', Value.category]
  exact X₁.ldcStringW hexec (own := own) (text := text) (index := is) (a := sa) hown' hstr'.1 hstr'.2
    (g := { method := m, pc := pc + 4, locals := ls, stack := .ref T.heap.size :: .ref T.heap.size :: rest, locked := none }) rfl d4' _ hsteps
end Ends
section Bodies
variable {l : Launch}
theorem vx_ofW {y : MethodName} {ws ws' : List Cond} {rm : Room} {Pc : Array Value → State → Prop} {Qc : Array Value → State → Outcome → State → Prop} {XC : String → State → State → Prop} {mc ms : Nat} {free : Addr → Prop} {cc : ByteArray} {maxL : Nat} {ret : Option FieldType}
    (hy : plainName y.cls = true) (hw : ws = Cond.code y cc maxL ret :: ws')
    (body : ∀ p e s m args below meth c s₁, BodyLoose p l y (headSpec ws rm) cc maxL ret e s m args below meth c s₁ → c.maxLocals = maxL → (∀ x ∈ c.exceptionTable.toList, False) → Pc args s →
      W p l e (headSpec ws rm).room s m args below meth c s.heap [] 0 0 (vx_MQ below Qc XC args s mc ms free) (entryFrame m args maxL)) : vx_Met l y ws rm Pc Qc XC mc ms free := by
  refine MetFree.of_bodyS (code := cc) (maxLocals := maxL) (ret := ret) hy ?_ ?_
  · intro args s m h hn
    obtain ⟨meth, c, h1, h2, h3, h4, h5, h6, -, -⟩ := Cond.code_spec hn (atoms_spec (ws := ws) h _ (by rw [hw]; exact List.mem_cons_self))
    exact ⟨meth, c, h1, h2, h3, h4, h5, h6⟩
  · intro p e s m args below meth c s₁ B hml hP _
    have hh0 : s₁.heap = s.heap := by rw [B.state]; rfl
    have ht : ∀ x ∈ c.exceptionTable.toList, False := by
      obtain ⟨meth9, c9, h1, h2, -, -, -, -, h7, -⟩ := Cond.code_spec B.named (atoms_spec (ws := ws) B.pre _ (by rw [hw]; exact List.mem_cons_self))
      cases Option.some.inj (h1.symm.trans B.method)
      cases Option.some.inj (h2.symm.trans (Stand.of_body B).code)
      intro x hx
      rw [Array.isEmpty_iff.mp h7] at hx
      cases hx
    obtain ⟨t, a1, o, b1, b2, b3⟩ := body p e s m args below meth c s₁ B hml ht hP s₁ hh0 (Stand.of_body B)
    exact ⟨t, o, a1, b1, b2, b3⟩
/-- the table of a body with handlers -/
theorem vx_table {p : Program} {x y : MethodName} {S : Spec} {cc bytes : ByteArray} {maxL maxL' : Nat} {ret ret' : Option FieldType} {e : Env} {s s₁ : State} {m : MethodId} {args : Array Value} {below : List Frame} {meth : Method} {c : Code} {hh : List (Nat × Nat × Nat × Nat)}
    (B : BodyLoose p l y S cc maxL ret e s m args below meth c s₁) (h : (Cond.codeWith y bytes maxL' ret' hh).before args s = true) : c.exceptionTable.toList = tableOf hh := by
  obtain ⟨m9, meth9, c9, hn9, h1, h2, -, -, h6, -⟩ := Cond.codeWith_spec h
  cases Option.some.inj (hn9.symm.trans B.named)
  cases Option.some.inj (h1.symm.trans B.method)
  cases Option.some.inj (h2.symm.trans (Stand.of_body B).code)
  rw [← h6, table_eq]
end Bodies
end VXA
/-! ===== END ===== -/
/-! ===== BEGIN a static call of a method with an exception table ===== -/
section VXS
variable {p : Program} {l : Launch} {e : Env} {R : Room} {s : State} {m : MethodId} {args : Array Value} {below : List Frame} {meth : Method} {c : Code} {T : State} {H : Heap} {locs : List Loc} {cells slots : Nat}
abbrev vx_CSW (R : Room) (s : State) (args : Array Value) (own : String) (index : Nat) (y : MethodName) (bytes : ByteArray) (maxL : Nat) (ret : Option FieldType) (hh : List (Nat × Nat × Nat × Nat)) (ws : List Cond) (rm : Room) (mc ms n : Nat) : Prop :=
  (rm.cells = mc ∧ rm.slots = ms ∧ rm.frames + 1 ≤ R.frames ∧ 8 + (maxL + 11) + rm.locals ≤ R.locals ∧ (∀ w ∈ ws, ∀ (a' : Array Value) (U : State), s.WarmedH U.vm → w.before a' U = true) ∧ Cond.codeWith y bytes maxL ret hh ∈ ws) ∧
  (Cond.codeWith y bytes maxL ret hh).before args s = true ∧ (Cond.initialized y.cls).before args s = true ∧ (y.cls ≠ "java/lang/invoke/MethodHandle" ∧ y.cls ≠ "java/lang/invoke/VarHandle") ∧
  (∀ sig, parseMethodDescriptor y.desc = some sig → n = sig.parameters.length) ∧ (Cond.methodLink own index y).before args s = true ∧ (Cond.static y).before args s = true
theorem vx_cwSW {own : String} {index maxL mc ms : Nat} {y : MethodName} {bytes : ByteArray} {ret : Option FieldType} {hh : List (Nat × Nat × Nat × Nat)} {Ts ws ws' : List Cond} {rm : Room} (n : Nat) (ht : ∀ w ∈ Ts, w.before args s = true) (hT : GoodIn Ts (va_wsS own index y ws)) (hw : ws = Cond.codeWith y bytes maxL ret hh :: ws') (hrc : rm.cells = mc) (hrs : rm.slots = ms)
    (hd : y.cls ≠ "java/lang/invoke/MethodHandle" ∧ y.cls ≠ "java/lang/invoke/VarHandle" ∧ (parseMethodDescriptor y.desc).map (fun d => d.parameters.length) = some n) (hR : rm.frames + 1 ≤ R.frames ∧ 8 + (maxL + 11) + rm.locals ≤ R.locals) :
    vx_CSW R s args own index y bytes maxL ret hh ws rm mc ms n := by
  have ok : ∀ w ∈ va_wsS own index y ws, w.before args s = true := fun w h => ht w (hT w h).1
  have hG : GoodIn Ts ws := fun w h => hT w (by unfold va_wsS; exact List.mem_append_right _ h)
  have hc : Cond.codeWith y bytes maxL ret hh ∈ ws := by rw [hw]; exact List.mem_cons_self
  refine ⟨⟨hrc, hrs, hR.1, hR.2, pay_in ht hG, hc⟩, ht _ (hG _ hc).1, ok _ (by simp [va_wsS]), ⟨hd.1, hd.2.1⟩, fun sig h => ?_, ok _ (by simp [va_wsS]), ok _ (by simp [va_wsS])⟩
  have h2 := hd.2.2
  rw [h] at h2
  exact (Option.some.inj h2).symm
theorem vx_callSW (X : Stand p l e R s m args below meth c T locs cells slots) (hexec : p.tables.exec = Jvm.exec) {own : String} {index : Nat} {y : MethodName} {bytes : ByteArray} {maxL : Nat} {ret : Option FieldType} {hh : List (Nat × Nat × Nat × Nat)}
    (hown : s.vm.findClass own = some m.cls) (hlink : (Cond.methodLink own index y).before args s = true) (hstat : (Cond.static y).before args s = true) (hinit : (Cond.initialized y.cls).before args s = true)
    (hcode : (Cond.codeWith y bytes maxL ret hh).before args s = true) (hy : y.cls ≠ "java/lang/invoke/MethodHandle" ∧ y.cls ≠ "java/lang/invoke/VarHandle")
    {W9 : Nat} {Pre : Pt → Array Value → Prop} {Post : Pt → Array Value → Option Value → Pt → Prop} (hK : Back l R p e below s args y 3 W9 Pre Post)
    {g : JFrame} (hg : g.method = m) (hsize : g.locals.size = c.maxLocals) {argsL rest : List Value} (hlen : ∀ sig, parseMethodDescriptor y.desc = some sig → argsL.length = sig.parameters.length)
    (hstack : g.stack = argsL.reverse ++ rest) (hW : 2 * g.monitorRoom + (rest.map fun v => v.category).sum ≤ W9) (hdg : decode c.code g.pc = .ok (.invokestatic index, 3))
    (hpre : ∀ vm₁, s.WarmedH vm₁ → Pre ⟨T.setVm vm₁, locs, cells, slots⟩ argsL.toArray) :
    ∃ (v : Option Value) (vm₁ : Vm) (B : Pt), s.WarmedH vm₁ ∧ Stand p l e R s m args below meth c B.U B.locs B.cells B.slots ∧ Post ⟨T.setVm vm₁, locs, cells, slots⟩ argsL.toArray v B ∧
      ∀ target, Steps p.tables e below (B.U.setTop { g with pc := g.pc + 3, stack := v.toList ++ rest }) target → Steps p.tables e below (T.setTop g) target := by
  obtain ⟨mk, methM, cM, hnamed, hmethM, -, -, -, -, -, -, hsigM⟩ := Cond.codeWith_spec hcode
  have hstatic : methM.isStatic = true := Cond.static_spec hnamed hmethM hstat
  obtain ⟨kP, hkP, -⟩ := className_of_methodNamed hnamed
  have hinitP : kP.init = .initialized := Cond.initialized_spec (findClass_of_methodNamed hnamed) hkP hinit
  obtain ⟨vm₁, X₁, hstep₁⟩ := X.invokestatic hexec hown hlink hnamed hmethM hstatic hkP hinitP hy (g := g) hg (argsL := argsL) (rest := rest) (hlen _ hsigM) hstack hdg
  obtain ⟨v, B, X', hpost, hsteps⟩ := hK m meth c ⟨T.setVm vm₁, locs, cells, slots⟩ { g with stack := rest } (.invokestatic index) mk argsL.toArray X₁ hg hsize hdg hW (X₁.named hnamed) (hpre vm₁ X₁.warmed)
  exact ⟨v, vm₁, B, X₁.warmed, X', hpost, fun target h => hstep₁ _ fun acts => by rw [doInvoke_state]; exact hsteps.trans h⟩
theorem vx_runSW {y : MethodName} {bytes cc : ByteArray} {maxL nL mc ms n index : Nat} {ret : Option FieldType} {hh : List (Nat × Nat × Nat × Nat)} {ws : List Cond} {rm : Room} {Pc : Array Value → State → Prop} {Qc : Array Value → State → Outcome → State → Prop} {free : Addr → Prop} {Ts : List Cond} {own : String} {As rest : List Value} {g : JFrame}
    (S : CallFix p m c cc nL s args Ts own) (hM : Met l y ws rm Pc Qc mc ms free) (cw : vx_CSW R s args own index y bytes maxL ret hh ws rm mc ms n) (hp : PreS s H Pc As)
    (hg : g.method = m) (hn : As.length = n) (hsize : g.locals.size = nL) (hstack : g.stack = As.reverse ++ rest) (hW : 2 * g.monitorRoom + (rest.map fun v => v.category).sum ≤ 8) (hdg : decode cc g.pc = .ok (.invokestatic index, 3)) (hf : cells + mc ≤ R.cells ∧ slots + ms ≤ R.slots) :
    va_Run p l e R s m args below meth c H locs cells slots mc ms g rest (Qc As.toArray) (free) := by
  obtain ⟨⟨hrc, hrs, hfr, hlo, hws, hcw⟩, hcode, hini, hy, hlen, hl, hstt⟩ := cw
  have hK : Back l R p e below s args y 3 8 (PreOf R mc ms Pc) (PostOf Qc mc ms free) := va_backW (hh := hh) (bytes := bytes) (maxL := maxL) (ret := ret) hM hp.1 hrc hrs hfr hlo hws hcw (fun a' U hW => word_at hW (Or.inl (by first | rfl | simp [Cond.onTables, Cond.keeps, Cond.steady])) hini)
  obtain ⟨hx, hb, hml, ho, -⟩ := S
  intro T hT X
  obtain ⟨v, vm₁, ⟨U', l2, c2, s2⟩, hW₁, X', ⟨g', mk, t, L, e1, e2, hq, h1, hL, h2, h3⟩, st⟩ := vx_callSW X hx (hh := hh) (bytes := bytes) (maxL := maxL) (ret := ret) ho hl hstt hini hcode hy hK hg (hsize.trans hml.symm) (argsL := As) (rest := rest) (fun sig h => hn.trans (hlen sig h)) hstack hW (by rw [hb]; exact hdg)
    (fun vm₁ hW₁ => ⟨hf.1, hf.2, hp.2 (T.setVm vm₁) hT hW₁⟩)
  dsimp only [Pt.U, Pt.locs, Pt.cells, Pt.slots] at X' e1 e2 h1 h2 h3 st
  subst h1; subst h2; subst h3
  exact ⟨v, (T.setVm vm₁).calling g' mk As.toArray, t, U', L, hT, X', hL, e1, e2, hq, st⟩
/-- a thing of a world lies in the heap -/
theorem vx_lt {D : va_G} {cl : List vw_C} {ws : va_W} {H1 : Heap} (h : va_P D cl ws H1) {k : Nat} {q : Nat × va_E} (hk : ws[k]? = some q) : q.1 < H1.size := (h k q hk).lt
end VXS
/-! ===== END ===== -/
/-! ===== BEGIN methods with a table of their own: called by a name, returning or throwing ===== -/
section VXH
/-! vx_backW, vx_callVX, vx_callSX, vx_callVW, vx_runVW, vx_runVX, vx_runSX, vx_ofWH follow the same proofs as their sisters above (Free/Laws.lean, Shelf42/LK1.lean); vx_outP calls Shelf42/NT130.lean (outThrough). -/
section
variable {l : Launch} {R : Room} {p : Program} {e : Env} {below : List Frame} {s : State} {sargs : Array Value} {y : MethodName} {len W9 : Nat}
theorem vx_backW {ws : List Cond} {rm : Room} {Pc : Array Value → State → Prop} {Qc : Array Value → State → Outcome → State → Prop} {XC : String → State → State → Prop} {mc ms : Nat} {free : Addr → Prop} {bytes : ByteArray} {maxL : Nat} {ret : Option FieldType} {hh : List (Nat × Nat × Nat × Nat)}
    (hM : vx_Met l y ws rm Pc Qc XC mc ms free) (hblind : FrameBlind Pc) (hrc : rm.cells = mc) (hrs : rm.slots = ms)
    (hframes : rm.frames + 1 ≤ R.frames) (hlocals : W9 + (maxL + 11) + rm.locals ≤ R.locals)
    (hws : ∀ w ∈ ws, ∀ a' U, s.WarmedH U.vm → w.before a' U = true) (hcode : Cond.codeWith y bytes maxL ret hh ∈ ws) (hinit : ∀ a' U, s.WarmedH U.vm → (Cond.initialized y.cls).before a' U = true) :
    vx_Back l R p e below s sargs y len W9 (PreOf R mc ms Pc) (PostOf Qc mc ms free) (vx_Post XC mc ms free) := by
  intro m meth c A g ig mk a X hg hsize hdg hW hn hp
  have h1 : (headSpec ws rm).pre.before a A.U = true := atoms_intro fun w hw => hws w hw _ _ X.warmed
  have h2 : (Cond.codeWith y bytes maxL ret hh).before a A.U = true := hws _ hcode _ _ X.warmed
  have h3 : (Cond.initialized y.cls).before a A.U = true := hinit _ _ X.warmed
  have h4 : A.cells + (headSpec ws rm).room.cells ≤ R.cells := by rw [show (headSpec ws rm).room.cells = mc from hrc]; exact hp.1
  have h5 : A.slots + (headSpec ws rm).room.slots ≤ R.slots := by rw [show (headSpec ws rm).room.slots = ms from hrs]; exact hp.2.1
  have hPc : Pc a (A.U.calling g mk a) := hblind _ _ _ _ hp.2.2
  obtain ⟨U, Ls, c0, s0⟩ := A
  dsimp only [Pt.U, Pt.locs, Pt.cells, Pt.slots] at h1 h2 h3 h4 h5 X hn hPc ⊢
  obtain ⟨m9, methY, cY, hn9, hmY, hcY, -, hlY, -⟩ := Cond.codeWith_spec h2
  cases Option.some.inj (hn9.symm.trans hn)
  obtain ⟨kY, hkY, -⟩ := className_of_methodNamed hn
  have hinitY : kY.init = .initialized := Cond.initialized_spec (findClass_of_methodNamed hn) hkY h3
  have h : At U g.method c below := by rw [hg]; exact X.here
  have hlocals9 : W9 + (maxL + 11) + (headSpec ws rm).room.locals ≤ R.locals := hlocals
  have happ : (headSpec ws rm).appliesLoose y e.platform (U.calling g mk a) = true :=
    Spec.appliesLoose_calling (g := g) h hdg hn hkY hinitY
      (X.room_calling (g := g) (R' := (headSpec ws rm).room) hsize hmY hcY hframes (by rw [hlY]; omega) h4 h5) h1
  obtain ⟨mid, hmid⟩ := h.above
  have hfr : (U.setTop g).frames = (.java g :: mid) ++ below := by rw [State.frames_setTop' g h.top, hmid]; rfl
  obtain ⟨o, s₂, hsteps, -, hend, hq⟩ := Steps.callFree hM p X.admits X.cas X.clock (acts := []) hfr happ hPc trivial
  have hq' : vx_Q Qc XC mc ms free a (U.calling g mk a) o s₂ := hq
  rw [State.frames_setTop' g h.top] at hend
  obtain ⟨g₀, hg0⟩ := Option.isSome_iff_exists.mp h.top
  obtain ⟨r, hr⟩ := State.topJava?_eq_some.mp hg0
  have hr' : (({ U with heap := s₂.heap, slotsUsed := s₂.slotsUsed } : State).setVm s₂.vm).frames = .java g₀ :: r := hr
  rcases hq' with ⟨hqc, L, hfe, hL⟩ | ⟨q, rfl, E, ce, L, hx, hce, hcv, hcl, hW₂, hsm, hL⟩
  · obtain ⟨⟨v, rfl⟩, hW₂, e2, q2, q3, q4, q5, q6⟩ := id hfe
    have e3 : s₂ = ({ (U.calling g mk a).setFrames s₂.frames with heap := s₂.heap, slotsUsed := s₂.slotsUsed } : State).setVm s₂.vm := by
      have : s₂ = ({ s₂ with vm := (U.calling g mk a).vm } : State).setVm s₂.vm := rfl
      rw [e2] at this
      exact this
    obtain ⟨c₂, i₂, len₂, hc₂, hd₂, hf₂⟩ := hend
    have hW' : U.WarmedH s₂.vm := hW₂
    have hcc : c₂ = c := by
      have h1 : s₂.code? g.method = U.code? g.method := by
        rw [State.code?_eq, State.code?_eq, hW'.alike.method?]
      exact Option.some.inj (hc₂.symm.trans (h1.trans h.code))
    subst hcc
    have hlen : len₂ = len := by rw [hdg] at hd₂; cases hd₂; rfl
    subst hlen
    have hs₂ : s₂ = (({ U with heap := s₂.heap, slotsUsed := s₂.slotsUsed } : State).setVm s₂.vm).setTop { g with pc := g.pc + len₂, stack := v.toList ++ g.stack } := by
      refine e3.trans ?_
      rw [hf₂, State.calling_eq h.top, State.setFrames_setFrames, State.setTop_of_frames _ hr', hr]
      rfl
    have hsame : U.sameButNew ({ U with heap := s₂.heap, slotsUsed := s₂.slotsUsed } : State) L mc ms := by
      refine ⟨?_, q2, q3, q4, q5, q6⟩
      obtain ⟨t, ht, -⟩ := State.frames_cons hr
      show ({ U with heap := s₂.heap, slotsUsed := s₂.slotsUsed } : State) = { U.setFrames U.frames with heap := s₂.heap, slotsUsed := s₂.slotsUsed }
      rw [State.setFrames_self ht]
    subst hg
    refine Or.inl ⟨v, ⟨(({ U with heap := s₂.heap, slotsUsed := s₂.slotsUsed } : State).setVm s₂.vm), Ls ++ L, c0 + mc, s0 + ms⟩,
      ⟨X.admits, X.cas, X.clock, X.frames, X.room, X.hears, X.method, X.code, (X.here.setHeapUsed s₂.heap s₂.slotsUsed).setVm hW'.alike, X.tail, State.WarmedH.trans X.warmed hW', X.limits, X.bytes, X.same.trans (hsame.setVm s.vm)⟩,
      ⟨g, mk, s₂, L, rfl, rfl, hqc, rfl, hL, rfl, rfl⟩, ?_⟩
    show Steps p.tables e below _ ((({ U with heap := s₂.heap, slotsUsed := s₂.slotsUsed } : State).setVm s₂.vm).setTop { g with pc := g.pc + len₂, stack := v.toList ++ g.stack })
    rw [← hs₂]
    exact hsteps
  · obtain ⟨e2, q2, q3, q4, q5, q6⟩ := id hsm
    have e3 : s₂ = ({ (U.calling g mk a).setFrames s₂.frames with heap := s₂.heap, slotsUsed := s₂.slotsUsed } : State).setVm s₂.vm := by
      have : s₂ = ({ s₂ with vm := (U.calling g mk a).vm } : State).setVm s₂.vm := rfl
      rw [e2] at this
      exact this
    have hf₂ : s₂.frames = .throwing q :: .java g :: U.frames.tail := hend
    have hW' : U.WarmedH s₂.vm := hW₂
    have hs₂ : s₂ = ((({ U with heap := s₂.heap, slotsUsed := s₂.slotsUsed } : State).setVm s₂.vm).setTop g).pushFrame (.throwing q) := by
      refine e3.trans ?_
      rw [hf₂, State.calling_eq h.top, State.setFrames_setFrames, State.pushFrame, State.frames_setTop _ hr', State.setTop_of_frames _ hr', State.setFrames_setFrames, hr]
      rfl
    have hsame : U.sameButNew ({ U with heap := s₂.heap, slotsUsed := s₂.slotsUsed } : State) L mc ms := by
      refine ⟨?_, q2, q3, q4, q5, q6⟩
      obtain ⟨t, ht, -⟩ := State.frames_cons hr
      show ({ U with heap := s₂.heap, slotsUsed := s₂.slotsUsed } : State) = { U.setFrames U.frames with heap := s₂.heap, slotsUsed := s₂.slotsUsed }
      rw [State.setFrames_self ht]
    subst hg
    refine Or.inr ⟨q, ⟨(({ U with heap := s₂.heap, slotsUsed := s₂.slotsUsed } : State).setVm s₂.vm), Ls ++ L, c0 + mc, s0 + ms⟩,
      ⟨X.admits, X.cas, X.clock, X.frames, X.room, X.hears, X.method, X.code, (X.here.setHeapUsed s₂.heap s₂.slotsUsed).setVm hW'.alike, X.tail, State.WarmedH.trans X.warmed hW', X.limits, X.bytes, X.same.trans (hsame.setVm s.vm)⟩,
      ⟨g, mk, s₂, L, E, ce, rfl, rfl, hx, hce, hcv, hcl, rfl, hL, rfl, rfl⟩, ?_⟩
    show Steps p.tables e below _ (((({ U with heap := s₂.heap, slotsUsed := s₂.slotsUsed } : State).setVm s₂.vm).setTop g).pushFrame (.throwing q))
    rw [← hs₂]
    exact hsteps
end
variable {p : Program} {l : Launch} {e : Env} {R : Room} {s : State} {m : MethodId} {args : Array Value} {below : List Frame} {meth : Method} {c : Code} {T : State} {H : Heap} {locs : List Loc} {cells slots : Nat}
theorem vx_callVX (X : Stand p l e R s m args below meth c T locs cells slots) (hexec : p.tables.exec = Jvm.exec) {own C : String} {index : Nat} {y : MethodName} {bytes : ByteArray} {maxL : Nat} {ret : Option FieldType} {hh : List (Nat × Nat × Nat × Nat)}
    (hown : s.vm.findClass own = some m.cls) (hlink : (Cond.methodLink own index y).before args s = true) (hinst : (Cond.instanceMethod y).before args s = true) (hsel : (Cond.selects C y y).before args s = true)
    (hcode : (Cond.codeWith y bytes maxL ret hh).before args s = true) (hy : y.cls ≠ "java/lang/invoke/MethodHandle" ∧ y.cls ≠ "java/lang/invoke/VarHandle")
    {W9 : Nat} {Pre : Pt → Array Value → Prop} {Post : Pt → Array Value → Option Value → Pt → Prop} {PostX : Pt → Array Value → Addr → Pt → Prop} (hK : vx_Back l R p e below s args y 3 W9 Pre Post PostX)
    {b : Addr} {cellB : Cell} (hcell : T.heap[b]? = some cellB) (hobj : cellB.vm.isStatics = false) (hcls : s.vm.findClass C = some cellB.cls)
    {g : JFrame} (hg : g.method = m) (hsize : g.locals.size = c.maxLocals) {argsL rest : List Value} (hlen : ∀ sig, parseMethodDescriptor y.desc = some sig → argsL.length = sig.parameters.length)
    (hstack : g.stack = argsL.reverse ++ .ref b :: rest) (hW : 2 * g.monitorRoom + (rest.map fun v => v.category).sum ≤ W9) (hdg : decode c.code g.pc = .ok (.invokevirtual index, 3))
    (hpre : ∀ vm₁, s.WarmedH vm₁ → Pre ⟨T.setVm vm₁, locs, cells, slots⟩ (Value.ref b :: argsL).toArray) :
    (∃ (v : Option Value) (vm₁ : Vm) (B : Pt), s.WarmedH vm₁ ∧ Stand p l e R s m args below meth c B.U B.locs B.cells B.slots ∧ Post ⟨T.setVm vm₁, locs, cells, slots⟩ (Value.ref b :: argsL).toArray v B ∧
      ∀ target, Steps p.tables e below (B.U.setTop { g with pc := g.pc + 3, stack := v.toList ++ rest }) target → Steps p.tables e below (T.setTop g) target) ∨
    (∃ (q : Addr) (vm₁ : Vm) (B : Pt), s.WarmedH vm₁ ∧ Stand p l e R s m args below meth c B.U B.locs B.cells B.slots ∧ PostX ⟨T.setVm vm₁, locs, cells, slots⟩ (Value.ref b :: argsL).toArray q B ∧
      Steps p.tables e below (T.setTop g) ((B.U.setTop { g with stack := rest }).pushFrame (.throwing q))) := by
  obtain ⟨mk, methM, hnamed, hmethM, hstM, habM⟩ := Cond.instanceMethod_spec hinst
  obtain ⟨m8, methM', cM, hn8, hmethM', -, -, -, -, -, -, hsigM⟩ := Cond.codeWith_spec hcode
  cases Option.some.inj (hn8.symm.trans hnamed)
  cases hmethM.symm.trans hmethM'
  obtain ⟨c2, r2, m2, q1, q2, q3, q4, kP, hkP, hkPi⟩ := Cond.selects_spec hsel
  cases hcls.symm.trans q1
  cases (State.methodFound?_of_named hnamed hy).symm.trans q2
  cases hnamed.symm.trans q3
  have hselP : selectMethod e.platform s.vm cellB.cls mk = .method mk := by rw [Launch.admits_selectMethod X.admits]; exact q4
  obtain ⟨vm₁, X₁, hstep₁⟩ := X.invokevirtual hexec hown hlink hnamed hmethM hstM hkP hkPi hy (a := b) (cell := cellB) hcell
    (fun z h => by rw [h] at hobj; cases hobj) hselP hmethM habM hkP hkPi (g := g) hg (argsL := argsL) (rest := rest) (hlen _ hsigM) hstack hdg
  rcases hK m meth c ⟨T.setVm vm₁, locs, cells, slots⟩ { g with stack := rest } (.invokevirtual index) mk (Value.ref b :: argsL).toArray X₁ hg hsize hdg hW (X₁.named hnamed) (hpre vm₁ X₁.warmed) with ⟨v, B, X', hpost, hsteps⟩ | ⟨q, B, X', hpost, hsteps⟩
  · exact Or.inl ⟨v, vm₁, B, X₁.warmed, X', hpost, fun target h => hstep₁ _ fun acts => by rw [doInvoke_state]; exact hsteps.trans h⟩
  · exact Or.inr ⟨q, vm₁, B, X₁.warmed, X', hpost, hstep₁ _ fun acts => by rw [doInvoke_state]; exact hsteps⟩
theorem vx_callSX (X : Stand p l e R s m args below meth c T locs cells slots) (hexec : p.tables.exec = Jvm.exec) {own : String} {index : Nat} {y : MethodName} {bytes : ByteArray} {maxL : Nat} {ret : Option FieldType} {hh : List (Nat × Nat × Nat × Nat)}
    (hown : s.vm.findClass own = some m.cls) (hlink : (Cond.methodLink own index y).before args s = true) (hstat : (Cond.static y).before args s = true) (hinit : (Cond.initialized y.cls).before args s = true)
    (hcode : (Cond.codeWith y bytes maxL ret hh).before args s = true) (hy : y.cls ≠ "java/lang/invoke/MethodHandle" ∧ y.cls ≠ "java/lang/invoke/VarHandle")
    {W9 : Nat} {Pre : Pt → Array Value → Prop} {Post : Pt → Array Value → Option Value → Pt → Prop} {PostX : Pt → Array Value → Addr → Pt → Prop} (hK : vx_Back l R p e below s args y 3 W9 Pre Post PostX)
    {g : JFrame} (hg : g.method = m) (hsize : g.locals.size = c.maxLocals) {argsL rest : List Value} (hlen : ∀ sig, parseMethodDescriptor y.desc = some sig → argsL.length = sig.parameters.length)
    (hstack : g.stack = argsL.reverse ++ rest) (hW : 2 * g.monitorRoom + (rest.map fun v => v.category).sum ≤ W9) (hdg : decode c.code g.pc = .ok (.invokestatic index, 3))
    (hpre : ∀ vm₁, s.WarmedH vm₁ → Pre ⟨T.setVm vm₁, locs, cells, slots⟩ argsL.toArray) :
    (∃ (v : Option Value) (vm₁ : Vm) (B : Pt), s.WarmedH vm₁ ∧ Stand p l e R s m args below meth c B.U B.locs B.cells B.slots ∧ Post ⟨T.setVm vm₁, locs, cells, slots⟩ argsL.toArray v B ∧
      ∀ target, Steps p.tables e below (B.U.setTop { g with pc := g.pc + 3, stack := v.toList ++ rest }) target → Steps p.tables e below (T.setTop g) target) ∨
    (∃ (q : Addr) (vm₁ : Vm) (B : Pt), s.WarmedH vm₁ ∧ Stand p l e R s m args below meth c B.U B.locs B.cells B.slots ∧ PostX ⟨T.setVm vm₁, locs, cells, slots⟩ argsL.toArray q B ∧
      Steps p.tables e below (T.setTop g) ((B.U.setTop { g with stack := rest }).pushFrame (.throwing q))) := by
  obtain ⟨mk, methM, cM, hnamed, hmethM, -, -, -, -, -, -, hsigM⟩ := Cond.codeWith_spec hcode
  have hstatic : methM.isStatic = true := Cond.static_spec hnamed hmethM hstat
  obtain ⟨kP, hkP, -⟩ := className_of_methodNamed hnamed
  have hinitP : kP.init = .initialized := Cond.initialized_spec (findClass_of_methodNamed hnamed) hkP hinit
  obtain ⟨vm₁, X₁, hstep₁⟩ := X.invokestatic hexec hown hlink hnamed hmethM hstatic hkP hinitP hy (g := g) hg (argsL := argsL) (rest := rest) (hlen _ hsigM) hstack hdg
  rcases hK m meth c ⟨T.setVm vm₁, locs, cells, slots⟩ { g with stack := rest } (.invokestatic index) mk argsL.toArray X₁ hg hsize hdg hW (X₁.named hnamed) (hpre vm₁ X₁.warmed) with ⟨v, B, X', hpost, hsteps⟩ | ⟨q, B, X', hpost, hsteps⟩
  · exact Or.inl ⟨v, vm₁, B, X₁.warmed, X', hpost, fun target h => hstep₁ _ fun acts => by rw [doInvoke_state]; exact hsteps.trans h⟩
  · exact Or.inr ⟨q, vm₁, B, X₁.warmed, X', hpost, hstep₁ _ fun acts => by rw [doInvoke_state]; exact hsteps⟩
theorem vx_callVW (X : Stand p l e R s m args below meth c T locs cells slots) (hexec : p.tables.exec = Jvm.exec) {own C : String} {index : Nat} {y : MethodName} {bytes : ByteArray} {maxL : Nat} {ret : Option FieldType} {hh : List (Nat × Nat × Nat × Nat)}
    (hown : s.vm.findClass own = some m.cls) (hlink : (Cond.methodLink own index y).before args s = true) (hinst : (Cond.instanceMethod y).before args s = true) (hsel : (Cond.selects C y y).before args s = true)
    (hcode : (Cond.codeWith y bytes maxL ret hh).before args s = true) (hy : y.cls ≠ "java/lang/invoke/MethodHandle" ∧ y.cls ≠ "java/lang/invoke/VarHandle")
    {W9 : Nat} {Pre : Pt → Array Value → Prop} {Post : Pt → Array Value → Option Value → Pt → Prop} (hK : Back l R p e below s args y 3 W9 Pre Post)
    {b : Addr} {cellB : Cell} (hcell : T.heap[b]? = some cellB) (hobj : cellB.vm.isStatics = false) (hcls : s.vm.findClass C = some cellB.cls)
    {g : JFrame} (hg : g.method = m) (hsize : g.locals.size = c.maxLocals) {argsL rest : List Value} (hlen : ∀ sig, parseMethodDescriptor y.desc = some sig → argsL.length = sig.parameters.length)
    (hstack : g.stack = argsL.reverse ++ .ref b :: rest) (hW : 2 * g.monitorRoom + (rest.map fun v => v.category).sum ≤ W9) (hdg : decode c.code g.pc = .ok (.invokevirtual index, 3))
    (hpre : ∀ vm₁, s.WarmedH vm₁ → Pre ⟨T.setVm vm₁, locs, cells, slots⟩ (Value.ref b :: argsL).toArray) :
    ∃ (v : Option Value) (vm₁ : Vm) (B : Pt), s.WarmedH vm₁ ∧ Stand p l e R s m args below meth c B.U B.locs B.cells B.slots ∧ Post ⟨T.setVm vm₁, locs, cells, slots⟩ (Value.ref b :: argsL).toArray v B ∧
      ∀ target, Steps p.tables e below (B.U.setTop { g with pc := g.pc + 3, stack := v.toList ++ rest }) target → Steps p.tables e below (T.setTop g) target := by
  obtain ⟨mk, methM, hnamed, hmethM, hstM, habM⟩ := Cond.instanceMethod_spec hinst
  obtain ⟨m8, methM', cM, hn8, hmethM', -, -, -, -, -, -, hsigM⟩ := Cond.codeWith_spec hcode
  cases Option.some.inj (hn8.symm.trans hnamed)
  cases hmethM.symm.trans hmethM'
  obtain ⟨c2, r2, m2, q1, q2, q3, q4, kP, hkP, hkPi⟩ := Cond.selects_spec hsel
  cases hcls.symm.trans q1
  cases (State.methodFound?_of_named hnamed hy).symm.trans q2
  cases hnamed.symm.trans q3
  have hselP : selectMethod e.platform s.vm cellB.cls mk = .method mk := by rw [Launch.admits_selectMethod X.admits]; exact q4
  obtain ⟨vm₁, X₁, hstep₁⟩ := X.invokevirtual hexec hown hlink hnamed hmethM hstM hkP hkPi hy (a := b) (cell := cellB) hcell
    (fun z h => by rw [h] at hobj; cases hobj) hselP hmethM habM hkP hkPi (g := g) hg (argsL := argsL) (rest := rest) (hlen _ hsigM) hstack hdg
  obtain ⟨v, B, X', hpost, hsteps⟩ := hK m meth c ⟨T.setVm vm₁, locs, cells, slots⟩ { g with stack := rest } (.invokevirtual index) mk (Value.ref b :: argsL).toArray X₁ hg hsize hdg hW (X₁.named hnamed) (hpre vm₁ X₁.warmed)
  exact ⟨v, vm₁, B, X₁.warmed, X', hpost, fun target h => hstep₁ _ fun acts => by rw [doInvoke_state]; exact hsteps.trans h⟩
abbrev vx_CVW (R : Room) (s : State) (args : Array Value) (own C : String) (index : Nat) (y : MethodName) (bytes : ByteArray) (maxL : Nat) (ret : Option FieldType) (hh : List (Nat × Nat × Nat × Nat)) (ws : List Cond) (rm : Room) (mc ms n : Nat) : Prop :=
  (rm.cells = mc ∧ rm.slots = ms ∧ rm.frames + 1 ≤ R.frames ∧ 8 + (maxL + 11) + rm.locals ≤ R.locals ∧ (∀ w ∈ ws, ∀ (a' : Array Value) (U : State), s.WarmedH U.vm → w.before a' U = true) ∧ Cond.codeWith y bytes maxL ret hh ∈ ws) ∧
  (Cond.codeWith y bytes maxL ret hh).before args s = true ∧ (Cond.initialized y.cls).before args s = true ∧ (y.cls ≠ "java/lang/invoke/MethodHandle" ∧ y.cls ≠ "java/lang/invoke/VarHandle") ∧
  (∀ sig, parseMethodDescriptor y.desc = some sig → n = sig.parameters.length) ∧ (Cond.methodLink own index y).before args s = true ∧ (Cond.instanceMethod y).before args s = true ∧ (Cond.selects C y y).before args s = true
theorem vx_cwVW {own C : String} {index maxL mc ms : Nat} {y : MethodName} {bytes : ByteArray} {ret : Option FieldType} {hh : List (Nat × Nat × Nat × Nat)} {Ts ws ws' : List Cond} {rm : Room} (n : Nat) (ht : ∀ w ∈ Ts, w.before args s = true) (hT : GoodIn Ts (wsV own index C y ws)) (hw : ws = Cond.codeWith y bytes maxL ret hh :: ws') (hrc : rm.cells = mc) (hrs : rm.slots = ms)
    (hd : y.cls = C ∧ y.cls ≠ "java/lang/invoke/MethodHandle" ∧ y.cls ≠ "java/lang/invoke/VarHandle" ∧ (parseMethodDescriptor y.desc).map (fun d => d.parameters.length) = some n) (hR : rm.frames + 1 ≤ R.frames ∧ 8 + (maxL + 11) + rm.locals ≤ R.locals) :
    vx_CVW R s args own C index y bytes maxL ret hh ws rm mc ms n := by
  obtain ⟨hC, hd⟩ := hd
  subst hC
  have ok : ∀ w ∈ wsV own index y.cls y ws, w.before args s = true := fun w h => ht w (hT w h).1
  have hG : GoodIn Ts ws := fun w h => hT w (by unfold wsV; exact List.mem_append_right _ h)
  have hc : Cond.codeWith y bytes maxL ret hh ∈ ws := by rw [hw]; exact List.mem_cons_self
  refine ⟨⟨hrc, hrs, hR.1, hR.2, pay_in ht hG, hc⟩, ht _ (hG _ hc).1, ok _ (by simp [wsV]), ⟨hd.1, hd.2.1⟩, fun sig h => ?_, ok _ (by simp [wsV]), ok _ (by simp [wsV]), ok _ (by simp [wsV])⟩
  have h2 := hd.2.2
  rw [h] at h2
  exact (Option.some.inj h2).symm
theorem vx_runVW {y : MethodName} {bytes cc : ByteArray} {maxL nL mc ms n index : Nat} {ret : Option FieldType} {hh : List (Nat × Nat × Nat × Nat)} {ws : List Cond} {rm : Room} {Pc : Array Value → State → Prop} {Qc : Array Value → State → Outcome → State → Prop} {free : Addr → Prop} {Ts : List Cond} {own C : String} {b : Addr} {As rest : List Value} {g : JFrame}
    (S : CallFix p m c cc nL s args Ts own) (hM : Met l y ws rm Pc Qc mc ms free) (cw : vx_CVW R s args own C index y bytes maxL ret hh ws rm mc ms n) (hp : PreV s H C b Pc As)
    (hg : g.method = m) (hn : As.length = n) (hsize : g.locals.size = nL) (hstack : g.stack = As.reverse ++ .ref b :: rest) (hW : 2 * g.monitorRoom + (rest.map fun v => v.category).sum ≤ 8) (hdg : decode cc g.pc = .ok (.invokevirtual index, 3)) (hf : cells + mc ≤ R.cells ∧ slots + ms ≤ R.slots) :
    va_Run p l e R s m args below meth c H locs cells slots mc ms g rest (Qc (Value.ref b :: As).toArray) free := by
  obtain ⟨⟨hrc, hrs, hfr, hlo, hws, hcw⟩, hcode, hini, hy, hlen, hl, hin, hse⟩ := cw
  have hK : Back l R p e below s args y 3 8 (PreOf R mc ms Pc) (PostOf Qc mc ms free) := va_backW (hh := hh) (bytes := bytes) (maxL := maxL) (ret := ret) hM hp.1 hrc hrs hfr hlo hws hcw (fun a' U hW => word_at hW (Or.inl (by first | rfl | simp [Cond.onTables, Cond.keeps, Cond.steady])) hini)
  obtain ⟨hx, hb, hml, ho, -⟩ := S
  obtain ⟨-, ⟨cellB, hcB, hoB, hclB⟩, hPc⟩ := hp
  intro T hT X
  obtain ⟨v, vm₁, ⟨U', l2, c2, s2⟩, hW₁, X', ⟨g', mk, t, L, e1, e2, hq, h1, hL, h2, h3⟩, st⟩ := vx_callVW X hx (C := C) (hh := hh) (bytes := bytes) (maxL := maxL) (ret := ret) ho hl hin hse hcode hy hK (by rw [hT]; exact hcB) hoB hclB hg (hsize.trans hml.symm) (argsL := As) (rest := rest) (fun sig h => hn.trans (hlen sig h)) hstack hW (by rw [hb]; exact hdg)
    (fun vm₁ hW₁ => ⟨hf.1, hf.2, hPc (T.setVm vm₁) hT hW₁⟩)
  dsimp only [Pt.U, Pt.locs, Pt.cells, Pt.slots] at X' e1 e2 h1 h2 h3 st
  subst h1; subst h2; subst h3
  exact ⟨v, (T.setVm vm₁).calling g' mk (Value.ref b :: As).toArray, t, U', L, hT, X', hL, e1, e2, hq, st⟩
section
variable {y : MethodName} {bytes cc : ByteArray} {maxL nL mc ms n index : Nat} {ret : Option FieldType} {ws : List Cond} {rm : Room} {Pc : Array Value → State → Prop} {Qc : Array Value → State → Outcome → State → Prop} {XC : String → State → State → Prop} {free : Addr → Prop} {Ts : List Cond} {own C : String} {b : Addr} {As rest : List Value} {g : JFrame}
theorem vx_runVX {hh : List (Nat × Nat × Nat × Nat)} (S : CallFix p m c cc nL s args Ts own) (hM : vx_Met l y ws rm Pc Qc XC mc ms free) (cw : vx_CVW R s args own C index y bytes maxL ret hh ws rm mc ms n) (hp : PreV s H C b Pc As)
    (hg : g.method = m) (hn : As.length = n) (hsize : g.locals.size = nL) (hstack : g.stack = As.reverse ++ .ref b :: rest) (hW : 2 * g.monitorRoom + (rest.map fun v => v.category).sum ≤ 8) (hdg : decode cc g.pc = .ok (.invokevirtual index, 3)) (hf : cells + mc ≤ R.cells ∧ slots + ms ≤ R.slots) :
    vx_Run p l e R s m args below meth c H locs cells slots mc ms g rest (Qc (Value.ref b :: As).toArray) XC free := by
  obtain ⟨⟨hrc, hrs, hfr, hlo, hws, hcw⟩, hcode, hini, hy, hlen, hl, hin, hse⟩ := cw
  have hK : vx_Back l R p e below s args y 3 8 (PreOf R mc ms Pc) (PostOf Qc mc ms free) (vx_Post XC mc ms free) := vx_backW (hh := hh) (bytes := bytes) (maxL := maxL) (ret := ret) hM hp.1 hrc hrs hfr hlo hws hcw (fun a' U hW => word_at hW (Or.inl (by first | rfl | simp [Cond.onTables, Cond.keeps, Cond.steady])) hini)
  obtain ⟨hx, hb, hml, ho, -⟩ := S
  obtain ⟨-, ⟨cellB, hcB, hoB, hclB⟩, hPc⟩ := hp
  intro T hT X
  rcases vx_callVX X hx (C := C) (hh := hh) (bytes := bytes) (maxL := maxL) (ret := ret) ho hl hin hse hcode hy hK (by rw [hT]; exact hcB) hoB hclB hg (hsize.trans hml.symm) (argsL := As) (rest := rest) (fun sig h => hn.trans (hlen sig h)) hstack hW (by rw [hb]; exact hdg)
    (fun vm₁ hW₁ => ⟨hf.1, hf.2, hPc (T.setVm vm₁) hT hW₁⟩) with ⟨v, vm₁, ⟨U', l2, c2, s2⟩, hW₁, X', ⟨g', mk, t, L, e1, e2, hq, h1, hL, h2, h3⟩, st⟩ | ⟨q, vm₁, ⟨U', l2, c2, s2⟩, hW₁, X', ⟨g', mk, t, L, E, ce, e1, e2, hq, hce, hcv, hcl, h1, hL, h2, h3⟩, st⟩
  · dsimp only [Pt.U, Pt.locs, Pt.cells, Pt.slots] at X' e1 e2 h1 h2 h3 st
    subst h1; subst h2; subst h3
    exact Or.inl ⟨v, (T.setVm vm₁).calling g' mk (Value.ref b :: As).toArray, t, U', L, hT, X', hL, e1, e2, hq, st⟩
  · dsimp only [Pt.U, Pt.locs, Pt.cells, Pt.slots] at X' e1 e2 h1 h2 h3 st hcl
    subst h1; subst h2; subst h3
    exact Or.inr ⟨q, (T.setVm vm₁).calling g' mk (Value.ref b :: As).toArray, t, U', L, E, ce, hT, X', hL, e1, e2, hq, hce, hcv, vx_cls hW₁ hcl, st⟩
theorem vx_runSX {hh : List (Nat × Nat × Nat × Nat)} (S : CallFix p m c cc nL s args Ts own) (hM : vx_Met l y ws rm Pc Qc XC mc ms free) (cw : vx_CSW R s args own index y bytes maxL ret hh ws rm mc ms n) (hp : PreS s H Pc As)
    (hg : g.method = m) (hn : As.length = n) (hsize : g.locals.size = nL) (hstack : g.stack = As.reverse ++ rest) (hW : 2 * g.monitorRoom + (rest.map fun v => v.category).sum ≤ 8) (hdg : decode cc g.pc = .ok (.invokestatic index, 3)) (hf : cells + mc ≤ R.cells ∧ slots + ms ≤ R.slots) :
    vx_Run p l e R s m args below meth c H locs cells slots mc ms g rest (Qc As.toArray) XC free := by
  obtain ⟨⟨hrc, hrs, hfr, hlo, hws, hcw⟩, hcode, hini, hy, hlen, hl, hstt⟩ := cw
  have hK : vx_Back l R p e below s args y 3 8 (PreOf R mc ms Pc) (PostOf Qc mc ms free) (vx_Post XC mc ms free) := vx_backW (hh := hh) (bytes := bytes) (maxL := maxL) (ret := ret) hM hp.1 hrc hrs hfr hlo hws hcw (fun a' U hW => word_at hW (Or.inl (by first | rfl | simp [Cond.onTables, Cond.keeps, Cond.steady])) hini)
  obtain ⟨hx, hb, hml, ho, -⟩ := S
  intro T hT X
  rcases vx_callSX X hx (hh := hh) (bytes := bytes) (maxL := maxL) (ret := ret) ho hl hstt hini hcode hy hK hg (hsize.trans hml.symm) (argsL := As) (rest := rest) (fun sig h => hn.trans (hlen sig h)) hstack hW (by rw [hb]; exact hdg)
    (fun vm₁ hW₁ => ⟨hf.1, hf.2, hp.2 (T.setVm vm₁) hT hW₁⟩) with ⟨v, vm₁, ⟨U', l2, c2, s2⟩, hW₁, X', ⟨g', mk, t, L, e1, e2, hq, h1, hL, h2, h3⟩, st⟩ | ⟨q, vm₁, ⟨U', l2, c2, s2⟩, hW₁, X', ⟨g', mk, t, L, E, ce, e1, e2, hq, hce, hcv, hcl, h1, hL, h2, h3⟩, st⟩
  · dsimp only [Pt.U, Pt.locs, Pt.cells, Pt.slots] at X' e1 e2 h1 h2 h3 st
    subst h1; subst h2; subst h3
    exact Or.inl ⟨v, (T.setVm vm₁).calling g' mk As.toArray, t, U', L, hT, X', hL, e1, e2, hq, st⟩
  · dsimp only [Pt.U, Pt.locs, Pt.cells, Pt.slots] at X' e1 e2 h1 h2 h3 st hcl
    subst h1; subst h2; subst h3
    exact Or.inr ⟨q, (T.setVm vm₁).calling g' mk As.toArray, t, U', L, E, ce, hT, X', hL, e1, e2, hq, hce, hcv, vx_cls hW₁ hcl, st⟩
end
end VXH
theorem vx_ofWH {l : Launch} {y : MethodName} {ws ws' : List Cond} {rm : Room} {Pc : Array Value → State → Prop} {Qc : Array Value → State → Outcome → State → Prop} {XC : String → State → State → Prop} {mc ms : Nat} {free : Addr → Prop} {cc : ByteArray} {maxL : Nat} {ret : Option FieldType} {hh : List (Nat × Nat × Nat × Nat)}
    (hy : plainName y.cls = true) (hw : ws = Cond.codeWith y cc maxL ret hh :: ws')
    (body : ∀ p e s m args below meth c s₁, BodyLoose p l y (headSpec ws rm) cc maxL ret e s m args below meth c s₁ → c.maxLocals = maxL → Pc args s →
      W p l e (headSpec ws rm).room s m args below meth c s.heap [] 0 0 (vx_MQ below Qc XC args s mc ms free) (entryFrame m args maxL)) : vx_Met l y ws rm Pc Qc XC mc ms free := by
  refine MetFree.of_bodyS (code := cc) (maxLocals := maxL) (ret := ret) hy ?_ ?_
  · intro args s m h hn
    obtain ⟨m9, meth, c, hn9, h1, h2, h3, h4, -, h5, h6, -⟩ := Cond.codeWith_spec (atoms_spec (ws := ws) h _ (by rw [hw]; exact List.mem_cons_self))
    cases hn.symm.trans hn9
    exact ⟨meth, c, h1, h2, h3, h4, h5, h6⟩
  · intro p e s m args below meth c s₁ B hml hP _
    have hh0 : s₁.heap = s.heap := by rw [B.state]; rfl
    obtain ⟨t, a1, o, b1, b2, b3⟩ := body p e s m args below meth c s₁ B hml hP s₁ hh0 (Stand.of_body B)
    exact ⟨t, o, a1, b1, b2, b3⟩
/-! ===== END ===== -/
end
section
abbrev RX0 : String := "LogTree"
abbrev RX1 : String := "LogTreeModel"
abbrev RL : String := "LogTreeLaw"
abbrev RJ : String := "java/lang/Integer"
def TX0 : u_T := fun k => match k with
  | 0 => ("LogTree", "leafRow", "[J", true)
  | 1 => ("LogTree", "leafCount", "I", false)
  | 2 => ("LogTree", "proofRow", "[J", true)
  | _ => ("LogTree", "proofLength", "I", false)
def tyX0 : Nat → FieldType := fun k => match k with
  | 0 => .array .long
  | 1 => .int
  | 2 => .array .long
  | _ => .int
theorem nmX0 : ∀ a, a < 4 → ∀ b, b < 4 → a ≠ b → (TX0 a).2.1 ≠ (TX0 b).2.1 := by decide +kernel
theorem tyX0_ok : ∀ k, k < 4 → parseFieldDescriptor (TX0 k).2.2.1 = some (tyX0 k) := by decide +kernel
def TX1 : u_T := fun k => match k with
  | 0 => ("LogTreeModel", "thrown", "I", false)
  | 1 => ("LogTreeModel", "leaves", "I", false)
  | 2 => ("LogTreeModel", "length", "I", false)
  | 3 => ("LogTreeModel", "at", "I", false)
  | 4 => ("LogTreeModel", "leaf", "[J", true)
  | 5 => ("LogTreeModel", "proof", "[J", true)
  | 6 => ("LogTreeModel", "old", "J", false)
  | _ => ("LogTreeModel", "fresh", "J", false)
def tyX1 : Nat → FieldType := fun k => match k with
  | 0 => .int
  | 1 => .int
  | 2 => .int
  | 3 => .int
  | 4 => .array .long
  | 5 => .array .long
  | 6 => .long
  | _ => .long
theorem nmX1 : ∀ a, a < 8 → ∀ b, b < 8 → a ≠ b → (TX1 a).2.1 ≠ (TX1 b).2.1 := by decide +kernel
theorem tyX1_ok : ∀ k, k < 8 → parseFieldDescriptor (TX1 k).2.2.1 = some (tyX1 k) := by decide +kernel
def tq_W : List Cond := lw_tbl.filter goodWord
theorem tq_mem {w : Cond} (k : Nat) (h : lw_tbl[k]? = some w) (g : goodWord w = true) : w ∈ tq_W := List.mem_filter.mpr ⟨List.mem_of_getElem? h, g⟩
theorem inX0 : ∀ w ∈ u_ws RX0 TX0 4, w ∈ tq_W := fun w h => List.mem_filter.mpr ⟨(by decide +kernel : ∀ w ∈ u_ws RX0 TX0 4, w ∈ lw_tbl) w h, (by decide +kernel : ∀ w ∈ u_ws RX0 TX0 4, goodWord w = true) w h⟩
theorem inX1 : ∀ w ∈ u_ws RX1 TX1 8, w ∈ tq_W := fun w h => List.mem_filter.mpr ⟨(by decide +kernel : ∀ w ∈ u_ws RX1 TX1 8, w ∈ lw_tbl) w h, (by decide +kernel : ∀ w ∈ u_ws RX1 TX1 8, goodWord w = true) w h⟩
abbrev qc_X_init : ByteArray := prog_1_method_1_code
abbrev qy_X_init : MethodName := ⟨RX0, "<init>", "()V"⟩
abbrev qk_X_init : Cond := .code qy_X_init qc_X_init 1 none
def qw_X_init : List Cond := qk_X_init :: tq_W
abbrev qc_X_shows : ByteArray := prog_1_method_12_code
abbrev qy_X_shows : MethodName := ⟨RX0, "shows", "(IIJJ)Z"⟩
abbrev qk_X_shows : Cond := .code qy_X_shows qc_X_shows 7 (some .boolean)
def qw_X_shows : List Cond := qk_X_shows :: tq_W
abbrev qc_X_pathLength : ByteArray := prog_1_method_21_code
abbrev qy_X_pathLength : MethodName := ⟨RX0, "pathLength", "(II)I"⟩
abbrev qk_X_pathLength : Cond := .code qy_X_pathLength qc_X_pathLength 6 (some .int)
def qw_X_pathLength : List Cond := qk_X_pathLength :: tq_W
abbrev qc_X_powerBelow : ByteArray := prog_1_method_19_code
abbrev qy_X_powerBelow : MethodName := ⟨RX0, "powerBelow", "(I)I"⟩
abbrev qk_X_powerBelow : Cond := .code qy_X_powerBelow qc_X_powerBelow 2 (some .int)
def qw_X_powerBelow : List Cond := qk_X_powerBelow :: tq_W
abbrev qc_X_leafOf : ByteArray := prog_1_method_17_code
abbrev qy_X_leafOf : MethodName := ⟨RX0, "leafOf", "(J)J"⟩
abbrev qk_X_leafOf : Cond := .code qy_X_leafOf qc_X_leafOf 2 (some .long)
def qw_X_leafOf : List Cond := qk_X_leafOf :: tq_W
abbrev qc_X_mix : ByteArray := prog_1_method_16_code
abbrev qy_X_mix : MethodName := ⟨RX0, "mix", "(JJ)J"⟩
abbrev qk_X_mix : Cond := .code qy_X_mix qc_X_mix 8 (some .long)
def qw_X_mix : List Cond := qk_X_mix :: tq_W
abbrev qc_X_headByPath : ByteArray := prog_1_method_23_code
abbrev qy_X_headByPath : MethodName := ⟨RX0, "headByPath", "([JIIIJ)J"⟩
abbrev qk_X_headByPath : Cond := .code qy_X_headByPath qc_X_headByPath 9 (some .long)
def qw_X_headByPath : List Cond := qk_X_headByPath :: tq_W
abbrev qc_X_nodeOf : ByteArray := prog_1_method_18_code
abbrev qy_X_nodeOf : MethodName := ⟨RX0, "nodeOf", "(JJ)J"⟩
abbrev qk_X_nodeOf : Cond := .code qy_X_nodeOf qc_X_nodeOf 4 (some .long)
def qw_X_nodeOf : List Cond := qk_X_nodeOf :: tq_W
abbrev qc_X_grew : ByteArray := prog_1_method_13_code
abbrev qy_X_grew : MethodName := ⟨RX0, "grew", "(IIJJ)Z"⟩
abbrev qk_X_grew : Cond := .code qy_X_grew qc_X_grew 7 (some .boolean)
def qw_X_grew : List Cond := qk_X_grew :: tq_W
abbrev qc_X_stepsLength : ByteArray := prog_1_method_22_code
abbrev qy_X_stepsLength : MethodName := ⟨RX0, "stepsLength", "(II)I"⟩
abbrev qk_X_stepsLength : Cond := .code qy_X_stepsLength qc_X_stepsLength 7 (some .int)
def qw_X_stepsLength : List Cond := qk_X_stepsLength :: tq_W
abbrev qc_X_oldHeadBySteps : ByteArray := prog_1_method_24_code
abbrev qy_X_oldHeadBySteps : MethodName := ⟨RX0, "oldHeadBySteps", "([JIIIJ)J"⟩
abbrev qk_X_oldHeadBySteps : Cond := .code qy_X_oldHeadBySteps qc_X_oldHeadBySteps 9 (some .long)
def qw_X_oldHeadBySteps : List Cond := qk_X_oldHeadBySteps :: tq_W
abbrev qc_X_newHeadBySteps : ByteArray := prog_1_method_25_code
abbrev qy_X_newHeadBySteps : MethodName := ⟨RX0, "newHeadBySteps", "([JIIIJ)J"⟩
abbrev qk_X_newHeadBySteps : Cond := .code qy_X_newHeadBySteps qc_X_newHeadBySteps 9 (some .long)
def qw_X_newHeadBySteps : List Cond := qk_X_newHeadBySteps :: tq_W
abbrev qc_X_count : ByteArray := prog_1_method_15_code
abbrev qy_X_count : MethodName := ⟨RX0, "count", "(I)I"⟩
abbrev qk_X_count : Cond := .code qy_X_count qc_X_count 2 (some .int)
def qw_X_count : List Cond := qk_X_count :: tq_W
abbrev qc_J_bitCount : ByteArray := prog_8_method_49_code
abbrev qy_J_bitCount : MethodName := ⟨RJ, "bitCount", "(I)I"⟩
abbrev qk_J_bitCount : Cond := .code qy_J_bitCount qc_J_bitCount 1 (some .int)
def qw_J_bitCount : List Cond := qk_J_bitCount :: tq_W
abbrev qc_L_add : ByteArray := method_3_code
abbrev qy_L_add : MethodName := ⟨RL, "add", "(LLogTree;J[J)I"⟩
abbrev qk_L_add : Cond := .codeWith qy_L_add qc_L_add 5 (some .int) [(0, 9, 12, 13)]
def qw_L_add : List Cond := qk_L_add :: tq_W
abbrev qc_X_add : ByteArray := prog_1_method_2_code
abbrev qy_X_add : MethodName := ⟨RX0, "add", "(J)I"⟩
abbrev qk_X_add : Cond := .code qy_X_add qc_X_add 3 (some .int)
def qw_X_add : List Cond := qk_X_add :: tq_W
abbrev qc_L_fill : ByteArray := method_4_code
abbrev qy_L_fill : MethodName := ⟨RL, "fill", "(LLogTree;IJJ[J)I"⟩
abbrev qk_L_fill : Cond := .codeWith qy_L_fill qc_L_fill 8 (some .int) [(0, 13, 16, 19), (0, 13, 20, 13)]
def qw_L_fill : List Cond := qk_L_fill :: tq_W
abbrev qc_X_fill : ByteArray := prog_1_method_3_code
abbrev qy_X_fill : MethodName := ⟨RX0, "fill", "(IJJ)I"⟩
abbrev qk_X_fill : Cond := .code qy_X_fill qc_X_fill 7 (some .int)
def qw_X_fill : List Cond := qk_X_fill :: tq_W
abbrev qc_L_cut : ByteArray := method_5_code
abbrev qy_L_cut : MethodName := ⟨RL, "cut", "(LLogTree;I[J)I"⟩
abbrev qk_L_cut : Cond := .codeWith qy_L_cut qc_L_cut 4 (some .int) [(0, 9, 12, 19)]
def qw_L_cut : List Cond := qk_L_cut :: tq_W
abbrev qc_X_cut : ByteArray := prog_1_method_4_code
abbrev qy_X_cut : MethodName := ⟨RX0, "cut", "(I)I"⟩
abbrev qk_X_cut : Cond := .code qy_X_cut qc_X_cut 3 (some .int)
def qw_X_cut : List Cond := qk_X_cut :: tq_W
abbrev qc_L_head : ByteArray := method_6_code
abbrev qy_L_head : MethodName := ⟨RL, "head", "(LLogTree;I[J)I"⟩
abbrev qk_L_head : Cond := .codeWith qy_L_head qc_L_head 4 (some .int) [(0, 8, 11, 29)]
def qw_L_head : List Cond := qk_L_head :: tq_W
abbrev qc_X_head : ByteArray := prog_1_method_5_code
abbrev qy_X_head : MethodName := ⟨RX0, "head", "(I)J"⟩
abbrev qk_X_head : Cond := .code qy_X_head qc_X_head 2 (some .long)
def qw_X_head : List Cond := qk_X_head :: tq_W
abbrev qc_X_headOf : ByteArray := prog_1_method_20_code
abbrev qy_X_headOf : MethodName := ⟨RX0, "headOf", "([JII)J"⟩
abbrev qk_X_headOf : Cond := .code qy_X_headOf qc_X_headOf 5 (some .long)
def qw_X_headOf : List Cond := qk_X_headOf :: tq_W
abbrev qc_L_part : ByteArray := method_7_code
abbrev qy_L_part : MethodName := ⟨RL, "part", "(LLogTree;II[J)I"⟩
abbrev qk_L_part : Cond := .codeWith qy_L_part qc_L_part 5 (some .int) [(0, 9, 12, 29)]
def qw_L_part : List Cond := qk_L_part :: tq_W
abbrev qc_X_part : ByteArray := prog_1_method_6_code
abbrev qy_X_part : MethodName := ⟨RX0, "part", "(II)J"⟩
abbrev qk_X_part : Cond := .code qy_X_part qc_X_part 3 (some .long)
def qw_X_part : List Cond := qk_X_part :: tq_W
abbrev qc_L_path : ByteArray := method_8_code
abbrev qy_L_path : MethodName := ⟨RL, "path", "(LLogTree;II[J)I"⟩
abbrev qk_L_path : Cond := .codeWith qy_L_path qc_L_path 5 (some .int) [(0, 10, 13, 29)]
def qw_L_path : List Cond := qk_L_path :: tq_W
abbrev qc_X_path : ByteArray := prog_1_method_7_code
abbrev qy_X_path : MethodName := ⟨RX0, "path", "(II)I"⟩
abbrev qk_X_path : Cond := .code qy_X_path qc_X_path 7 (some .int)
def qw_X_path : List Cond := qk_X_path :: tq_W
abbrev qc_L_steps : ByteArray := method_9_code
abbrev qy_L_steps : MethodName := ⟨RL, "steps", "(LLogTree;II[J)I"⟩
abbrev qk_L_steps : Cond := .codeWith qy_L_steps qc_L_steps 5 (some .int) [(0, 10, 13, 29)]
def qw_L_steps : List Cond := qk_L_steps :: tq_W
abbrev qc_X_steps : ByteArray := prog_1_method_8_code
abbrev qy_X_steps : MethodName := ⟨RX0, "steps", "(II)I"⟩
abbrev qk_X_steps : Cond := .code qy_X_steps qc_X_steps 7 (some .int)
def qw_X_steps : List Cond := qk_X_steps :: tq_W
abbrev qc_L_proof : ByteArray := method_10_code
abbrev qy_L_proof : MethodName := ⟨RL, "proof", "(LLogTree;I[J)I"⟩
abbrev qk_L_proof : Cond := .codeWith qy_L_proof qc_L_proof 4 (some .int) [(0, 8, 11, 45)]
def qw_L_proof : List Cond := qk_L_proof :: tq_W
abbrev qc_X_proof : ByteArray := prog_1_method_9_code
abbrev qy_X_proof : MethodName := ⟨RX0, "proof", "(I)J"⟩
abbrev qk_X_proof : Cond := .code qy_X_proof qc_X_proof 2 (some .long)
def qw_X_proof : List Cond := qk_X_proof :: tq_W
abbrev qc_L_alter : ByteArray := method_11_code
abbrev qy_L_alter : MethodName := ⟨RL, "alter", "(LLogTree;IJ[J)I"⟩
abbrev qk_L_alter : Cond := .codeWith qy_L_alter qc_L_alter 6 (some .int) [(0, 10, 13, 45)]
def qw_L_alter : List Cond := qk_L_alter :: tq_W
abbrev qc_X_alter : ByteArray := prog_1_method_10_code
abbrev qy_X_alter : MethodName := ⟨RX0, "alter", "(IJ)J"⟩
abbrev qk_X_alter : Cond := .code qy_X_alter qc_X_alter 6 (some .long)
def qw_X_alter : List Cond := qk_X_alter :: tq_W
abbrev qc_L_length : ByteArray := method_12_code
abbrev qy_L_length : MethodName := ⟨RL, "length", "(LLogTree;I[J)I"⟩
abbrev qk_L_length : Cond := .codeWith qy_L_length qc_L_length 4 (some .int) [(0, 9, 12, 19)]
def qw_L_length : List Cond := qk_L_length :: tq_W
abbrev qc_X_length : ByteArray := prog_1_method_11_code
abbrev qy_X_length : MethodName := ⟨RX0, "length", "(I)I"⟩
abbrev qk_X_length : Cond := .code qy_X_length qc_X_length 4 (some .int)
def qw_X_length : List Cond := qk_X_length :: tq_W
abbrev qc_L_find : ByteArray := method_13_code
abbrev qy_L_find : MethodName := ⟨RL, "find", "(LLogTree;IJ[J)I"⟩
abbrev qk_L_find : Cond := .codeWith qy_L_find qc_L_find 6 (some .int) [(0, 11, 14, 29)]
def qw_L_find : List Cond := qk_L_find :: tq_W
abbrev qc_X_find : ByteArray := prog_1_method_14_code
abbrev qy_X_find : MethodName := ⟨RX0, "find", "(IJ)I"⟩
abbrev qk_X_find : Cond := .code qy_X_find qc_X_find 7 (some .int)
def qw_X_find : List Cond := qk_X_find :: tq_W
abbrev qc_M_init : ByteArray := prog_3_method_1_code
abbrev qy_M_init : MethodName := ⟨RX1, "<init>", "()V"⟩
abbrev qk_M_init : Cond := .code qy_M_init qc_M_init 1 none
def qw_M_init : List Cond := qk_M_init :: tq_W
abbrev qc_M_thrown : ByteArray := prog_3_method_2_code
abbrev qy_M_thrown : MethodName := ⟨RX1, "thrown", "()I"⟩
abbrev qk_M_thrown : Cond := .code qy_M_thrown qc_M_thrown 1 (some .int)
def qw_M_thrown : List Cond := qk_M_thrown :: tq_W
abbrev qc_M_add : ByteArray := prog_3_method_8_code
abbrev qy_M_add : MethodName := ⟨RX1, "add", "(J)I"⟩
abbrev qk_M_add : Cond := .code qy_M_add qc_M_add 3 (some .int)
def qw_M_add : List Cond := qk_M_add :: tq_W
abbrev qc_M_fill : ByteArray := prog_3_method_9_code
abbrev qy_M_fill : MethodName := ⟨RX1, "fill", "(IJJ)I"⟩
abbrev qk_M_fill : Cond := .code qy_M_fill qc_M_fill 7 (some .int)
def qw_M_fill : List Cond := qk_M_fill :: tq_W
abbrev qc_M_cut : ByteArray := prog_3_method_10_code
abbrev qy_M_cut : MethodName := ⟨RX1, "cut", "(I)I"⟩
abbrev qk_M_cut : Cond := .code qy_M_cut qc_M_cut 3 (some .int)
def qw_M_cut : List Cond := qk_M_cut :: tq_W
abbrev qc_M_head : ByteArray := prog_3_method_11_code
abbrev qy_M_head : MethodName := ⟨RX1, "head", "(I)J"⟩
abbrev qk_M_head : Cond := .code qy_M_head qc_M_head 2 (some .long)
def qw_M_head : List Cond := qk_M_head :: tq_W
abbrev qc_M_headOf : ByteArray := prog_3_method_7_code
abbrev qy_M_headOf : MethodName := ⟨RX1, "headOf", "(II)J"⟩
abbrev qk_M_headOf : Cond := .code qy_M_headOf qc_M_headOf 6 (some .long)
def qw_M_headOf : List Cond := qk_M_headOf :: tq_W
abbrev qc_M_mix : ByteArray := prog_3_method_4_code
abbrev qy_M_mix : MethodName := ⟨RX1, "mix", "(JJ)J"⟩
abbrev qk_M_mix : Cond := .code qy_M_mix qc_M_mix 8 (some .long)
def qw_M_mix : List Cond := qk_M_mix :: tq_W
abbrev qc_M_below : ByteArray := prog_3_method_6_code
abbrev qy_M_below : MethodName := ⟨RX1, "below", "(I)I"⟩
abbrev qk_M_below : Cond := .code qy_M_below qc_M_below 2 (some .int)
def qw_M_below : List Cond := qk_M_below :: tq_W
abbrev qc_M_node : ByteArray := prog_3_method_5_code
abbrev qy_M_node : MethodName := ⟨RX1, "node", "(JJ)J"⟩
abbrev qk_M_node : Cond := .code qy_M_node qc_M_node 4 (some .long)
def qw_M_node : List Cond := qk_M_node :: tq_W
abbrev qc_M_part : ByteArray := prog_3_method_12_code
abbrev qy_M_part : MethodName := ⟨RX1, "part", "(II)J"⟩
abbrev qk_M_part : Cond := .code qy_M_part qc_M_part 3 (some .long)
def qw_M_part : List Cond := qk_M_part :: tq_W
abbrev qc_M_path : ByteArray := prog_3_method_15_code
abbrev qy_M_path : MethodName := ⟨RX1, "path", "(II)I"⟩
abbrev qk_M_path : Cond := .code qy_M_path qc_M_path 3 (some .int)
def qw_M_path : List Cond := qk_M_path :: tq_W
abbrev qc_M_pathOf : ByteArray := prog_3_method_14_code
abbrev qy_M_pathOf : MethodName := ⟨RX1, "pathOf", "(III)V"⟩
abbrev qk_M_pathOf : Cond := .code qy_M_pathOf qc_M_pathOf 5 none
def qw_M_pathOf : List Cond := qk_M_pathOf :: tq_W
abbrev qc_M_put : ByteArray := prog_3_method_13_code
abbrev qy_M_put : MethodName := ⟨RX1, "put", "(J)V"⟩
abbrev qk_M_put : Cond := .code qy_M_put qc_M_put 3 none
def qw_M_put : List Cond := qk_M_put :: tq_W
abbrev qc_M_steps : ByteArray := prog_3_method_17_code
abbrev qy_M_steps : MethodName := ⟨RX1, "steps", "(II)I"⟩
abbrev qk_M_steps : Cond := .code qy_M_steps qc_M_steps 3 (some .int)
def qw_M_steps : List Cond := qk_M_steps :: tq_W
abbrev qc_M_stepsOf : ByteArray := prog_3_method_16_code
abbrev qy_M_stepsOf : MethodName := ⟨RX1, "stepsOf", "(IIIZ)V"⟩
abbrev qk_M_stepsOf : Cond := .code qy_M_stepsOf qc_M_stepsOf 6 none
def qw_M_stepsOf : List Cond := qk_M_stepsOf :: tq_W
abbrev qc_M_proof : ByteArray := prog_3_method_18_code
abbrev qy_M_proof : MethodName := ⟨RX1, "proof", "(I)J"⟩
abbrev qk_M_proof : Cond := .code qy_M_proof qc_M_proof 2 (some .long)
def qw_M_proof : List Cond := qk_M_proof :: tq_W
abbrev qc_M_alter : ByteArray := prog_3_method_19_code
abbrev qy_M_alter : MethodName := ⟨RX1, "alter", "(IJ)J"⟩
abbrev qk_M_alter : Cond := .code qy_M_alter qc_M_alter 6 (some .long)
def qw_M_alter : List Cond := qk_M_alter :: tq_W
abbrev qc_M_length : ByteArray := prog_3_method_20_code
abbrev qy_M_length : MethodName := ⟨RX1, "length", "(I)I"⟩
abbrev qk_M_length : Cond := .code qy_M_length qc_M_length 4 (some .int)
def qw_M_length : List Cond := qk_M_length :: tq_W
abbrev qc_M_shows : ByteArray := prog_3_method_23_code
abbrev qy_M_shows : MethodName := ⟨RX1, "shows", "(IIJJ)Z"⟩
abbrev qk_M_shows : Cond := .code qy_M_shows qc_M_shows 9 (some .boolean)
def qw_M_shows : List Cond := qk_M_shows :: tq_W
abbrev qc_M_rootOf : ByteArray := prog_3_method_22_code
abbrev qy_M_rootOf : MethodName := ⟨RX1, "rootOf", "(IIJ)J"⟩
abbrev qk_M_rootOf : Cond := .code qy_M_rootOf qc_M_rootOf 8 (some .long)
def qw_M_rootOf : List Cond := qk_M_rootOf :: tq_W
abbrev qc_M_next : ByteArray := prog_3_method_21_code
abbrev qy_M_next : MethodName := ⟨RX1, "next", "()J"⟩
abbrev qk_M_next : Cond := .code qy_M_next qc_M_next 1 (some .long)
def qw_M_next : List Cond := qk_M_next :: tq_W
abbrev qc_M_grew : ByteArray := prog_3_method_25_code
abbrev qy_M_grew : MethodName := ⟨RX1, "grew", "(IIJJ)Z"⟩
abbrev qk_M_grew : Cond := .code qy_M_grew qc_M_grew 7 (some .boolean)
def qw_M_grew : List Cond := qk_M_grew :: tq_W
abbrev qc_M_both : ByteArray := prog_3_method_24_code
abbrev qy_M_both : MethodName := ⟨RX1, "both", "(IIZJ)V"⟩
abbrev qk_M_both : Cond := .code qy_M_both qc_M_both 9 none
def qw_M_both : List Cond := qk_M_both :: tq_W
abbrev qc_M_find : ByteArray := prog_3_method_26_code
abbrev qy_M_find : MethodName := ⟨RX1, "find", "(IJ)I"⟩
abbrev qk_M_find : Cond := .code qy_M_find qc_M_find 5 (some .int)
def qw_M_find : List Cond := qk_M_find :: tq_W
abbrev qc_M_count : ByteArray := prog_3_method_27_code
abbrev qy_M_count : MethodName := ⟨RX1, "count", "(I)I"⟩
abbrev qk_M_count : Cond := .code qy_M_count qc_M_count 4 (some .int)
def qw_M_count : List Cond := qk_M_count :: tq_W
abbrev qc_L_law : ByteArray := code
abbrev qy_L_law : MethodName := ⟨RL, "law", "([I)Z"⟩
theorem qm_0 : (Jvm.Cond.initialized "LogTreeLaw") ∈ tq_W := tq_mem 8 (by decide +kernel) rfl
theorem qm_1 : (Jvm.Cond.initialized "LogTree") ∈ tq_W := tq_mem 9 (by decide +kernel) rfl
theorem qm_2 : (Jvm.Cond.initialized "LogTreeModel") ∈ tq_W := tq_mem 10 (by decide +kernel) rfl
theorem qm_6 : (Jvm.Cond.initialized "java/lang/IllegalStateException") ∈ tq_W := tq_mem 14 (by decide +kernel) rfl
theorem qm_7 : (Jvm.Cond.initialized "java/lang/IllegalArgumentException") ∈ tq_W := tq_mem 15 (by decide +kernel) rfl
theorem qm_8 : (Jvm.Cond.initialized "java/util/NoSuchElementException") ∈ tq_W := tq_mem 16 (by decide +kernel) rfl
theorem qm_9 : (Jvm.Cond.initialized "java/lang/IndexOutOfBoundsException") ∈ tq_W := tq_mem 17 (by decide +kernel) rfl
theorem qm_10 : (Jvm.Cond.initialized "java/lang/Integer") ∈ tq_W := tq_mem 18 (by decide +kernel) rfl
theorem qm_11 : (Jvm.Cond.classLink "LogTreeLaw" (8 : Nat) "LogTree") ∈ tq_W := tq_mem 19 (by decide +kernel) rfl
theorem qm_12 : (Jvm.Cond.instantiable "LogTree" (4 : Nat)) ∈ tq_W := tq_mem 20 (by decide +kernel) rfl
theorem qm_13 : (Jvm.Cond.methodLink "LogTreeLaw" (58 : Nat) ({ cls := "LogTree", name := "<init>", desc := "()V" } : Jvm.MethodName)) ∈ tq_W := tq_mem 21 (by decide +kernel) rfl
theorem qm_14 : (Jvm.Cond.instanceMethod ({ cls := "LogTree", name := "<init>", desc := "()V" } : Jvm.MethodName)) ∈ tq_W := tq_mem 22 (by decide +kernel) rfl
theorem qm_15 : (Jvm.Cond.code ({ cls := "LogTree", name := "<init>", desc := "()V" } : Jvm.MethodName) prog_1_method_1_code (1 : Nat) (Option.none : Option Jvm.ClassFile.FieldType)) ∈ tq_W := tq_mem 23 (by decide +kernel) rfl
theorem qm_16 : (Jvm.Cond.methodLink "LogTree" (1 : Nat) ({ cls := "java/lang/Object", name := "<init>", desc := "()V" } : Jvm.MethodName)) ∈ tq_W := tq_mem 24 (by decide +kernel) rfl
theorem qm_17 : (Jvm.Cond.instanceMethod ({ cls := "java/lang/Object", name := "<init>", desc := "()V" } : Jvm.MethodName)) ∈ tq_W := tq_mem 25 (by decide +kernel) rfl
theorem qm_18 : (Jvm.Cond.code ({ cls := "java/lang/Object", name := "<init>", desc := "()V" } : Jvm.MethodName) object_method_1_code (1 : Nat) (Option.none : Option Jvm.ClassFile.FieldType)) ∈ tq_W := tq_mem 26 (by decide +kernel) rfl
theorem qm_19 : (Jvm.Cond.fieldLink "LogTree" (9 : Nat) "LogTree" "leafRow" "[J") ∈ tq_W := tq_mem 27 (by decide +kernel) rfl
theorem qm_20 : (Jvm.Cond.fieldLink "LogTree" (13 : Nat) "LogTree" "leafCount" "I") ∈ tq_W := tq_mem 28 (by decide +kernel) rfl
theorem qm_21 : (Jvm.Cond.fieldLink "LogTree" (17 : Nat) "LogTree" "proofRow" "[J") ∈ tq_W := tq_mem 29 (by decide +kernel) rfl
theorem qm_22 : (Jvm.Cond.fieldLink "LogTree" (20 : Nat) "LogTree" "proofLength" "I") ∈ tq_W := tq_mem 30 (by decide +kernel) rfl
theorem qm_32 : (Jvm.Cond.arrayClass Jvm.ClassFile.FieldType.long) ∈ tq_W := tq_mem 40 (by decide +kernel) rfl
theorem qm_33 : (Jvm.Cond.methodLink "LogTreeLaw" (105 : Nat) ({ cls := "LogTree", name := "shows", desc := "(IIJJ)Z" } : Jvm.MethodName)) ∈ tq_W := tq_mem 41 (by decide +kernel) rfl
theorem qm_34 : (Jvm.Cond.instanceMethod ({ cls := "LogTree", name := "shows", desc := "(IIJJ)Z" } : Jvm.MethodName)) ∈ tq_W := tq_mem 42 (by decide +kernel) rfl
theorem qm_35 : (Jvm.Cond.selects "LogTree" ({ cls := "LogTree", name := "shows", desc := "(IIJJ)Z" } : Jvm.MethodName) ({ cls := "LogTree", name := "shows", desc := "(IIJJ)Z" } : Jvm.MethodName)) ∈ tq_W := tq_mem 43 (by decide +kernel) rfl
theorem qm_36 : (Jvm.Cond.code ({ cls := "LogTree", name := "shows", desc := "(IIJJ)Z" } : Jvm.MethodName) prog_1_method_12_code (7 : Nat) (Option.some Jvm.ClassFile.FieldType.boolean)) ∈ tq_W := tq_mem 44 (by decide +kernel) rfl
theorem qm_37 : (Jvm.Cond.constant "LogTree" (54 : Nat) (1073741824 : Int32)) ∈ tq_W := tq_mem 45 (by decide +kernel) rfl
theorem qm_38 : (Jvm.Cond.methodLink "LogTree" (40 : Nat) ({ cls := "LogTree", name := "pathLength", desc := "(II)I" } : Jvm.MethodName)) ∈ tq_W := tq_mem 46 (by decide +kernel) rfl
theorem qm_39 : (Jvm.Cond.static ({ cls := "LogTree", name := "pathLength", desc := "(II)I" } : Jvm.MethodName)) ∈ tq_W := tq_mem 47 (by decide +kernel) rfl
theorem qm_40 : (Jvm.Cond.code ({ cls := "LogTree", name := "pathLength", desc := "(II)I" } : Jvm.MethodName) prog_1_method_21_code (6 : Nat) (Option.some Jvm.ClassFile.FieldType.int)) ∈ tq_W := tq_mem 48 (by decide +kernel) rfl
theorem qm_41 : (Jvm.Cond.methodLink "LogTree" (44 : Nat) ({ cls := "LogTree", name := "powerBelow", desc := "(I)I" } : Jvm.MethodName)) ∈ tq_W := tq_mem 49 (by decide +kernel) rfl
theorem qm_42 : (Jvm.Cond.static ({ cls := "LogTree", name := "powerBelow", desc := "(I)I" } : Jvm.MethodName)) ∈ tq_W := tq_mem 50 (by decide +kernel) rfl
theorem qm_43 : (Jvm.Cond.code ({ cls := "LogTree", name := "powerBelow", desc := "(I)I" } : Jvm.MethodName) prog_1_method_19_code (2 : Nat) (Option.some Jvm.ClassFile.FieldType.int)) ∈ tq_W := tq_mem 51 (by decide +kernel) rfl
theorem qm_44 : (Jvm.Cond.methodLink "LogTree" (26 : Nat) ({ cls := "LogTree", name := "leafOf", desc := "(J)J" } : Jvm.MethodName)) ∈ tq_W := tq_mem 52 (by decide +kernel) rfl
theorem qm_45 : (Jvm.Cond.static ({ cls := "LogTree", name := "leafOf", desc := "(J)J" } : Jvm.MethodName)) ∈ tq_W := tq_mem 53 (by decide +kernel) rfl
theorem qm_46 : (Jvm.Cond.code ({ cls := "LogTree", name := "leafOf", desc := "(J)J" } : Jvm.MethodName) prog_1_method_17_code (2 : Nat) (Option.some Jvm.ClassFile.FieldType.long)) ∈ tq_W := tq_mem 54 (by decide +kernel) rfl
theorem qm_47 : (Jvm.Cond.methodLink "LogTree" (74 : Nat) ({ cls := "LogTree", name := "mix", desc := "(JJ)J" } : Jvm.MethodName)) ∈ tq_W := tq_mem 55 (by decide +kernel) rfl
theorem qm_48 : (Jvm.Cond.static ({ cls := "LogTree", name := "mix", desc := "(JJ)J" } : Jvm.MethodName)) ∈ tq_W := tq_mem 56 (by decide +kernel) rfl
theorem qm_49 : (Jvm.Cond.code ({ cls := "LogTree", name := "mix", desc := "(JJ)J" } : Jvm.MethodName) prog_1_method_16_code (8 : Nat) (Option.some Jvm.ClassFile.FieldType.long)) ∈ tq_W := tq_mem 57 (by decide +kernel) rfl
theorem qm_50 : (Jvm.Cond.constantLong "LogTree" (70 : Nat) (-7046029254386353131 : Int64)) ∈ tq_W := tq_mem 58 (by decide +kernel) rfl
theorem qm_51 : (Jvm.Cond.constantLong "LogTree" (72 : Nat) (-4658895280553007687 : Int64)) ∈ tq_W := tq_mem 59 (by decide +kernel) rfl
theorem qm_52 : (Jvm.Cond.methodLink "LogTree" (55 : Nat) ({ cls := "LogTree", name := "headByPath", desc := "([JIIIJ)J" } : Jvm.MethodName)) ∈ tq_W := tq_mem 60 (by decide +kernel) rfl
theorem qm_53 : (Jvm.Cond.static ({ cls := "LogTree", name := "headByPath", desc := "([JIIIJ)J" } : Jvm.MethodName)) ∈ tq_W := tq_mem 61 (by decide +kernel) rfl
theorem qm_54 : (Jvm.Cond.code ({ cls := "LogTree", name := "headByPath", desc := "([JIIIJ)J" } : Jvm.MethodName) prog_1_method_23_code (9 : Nat) (Option.some Jvm.ClassFile.FieldType.long)) ∈ tq_W := tq_mem 62 (by decide +kernel) rfl
theorem qm_55 : (Jvm.Cond.methodLink "LogTree" (80 : Nat) ({ cls := "LogTree", name := "nodeOf", desc := "(JJ)J" } : Jvm.MethodName)) ∈ tq_W := tq_mem 63 (by decide +kernel) rfl
theorem qm_56 : (Jvm.Cond.static ({ cls := "LogTree", name := "nodeOf", desc := "(JJ)J" } : Jvm.MethodName)) ∈ tq_W := tq_mem 64 (by decide +kernel) rfl
theorem qm_57 : (Jvm.Cond.code ({ cls := "LogTree", name := "nodeOf", desc := "(JJ)J" } : Jvm.MethodName) prog_1_method_18_code (4 : Nat) (Option.some Jvm.ClassFile.FieldType.long)) ∈ tq_W := tq_mem 65 (by decide +kernel) rfl
theorem qm_58 : (Jvm.Cond.constantLong "LogTree" (78 : Nat) (2 : Int64)) ∈ tq_W := tq_mem 66 (by decide +kernel) rfl
theorem qm_59 : (Jvm.Cond.methodLink "LogTreeLaw" (110 : Nat) ({ cls := "LogTree", name := "grew", desc := "(IIJJ)Z" } : Jvm.MethodName)) ∈ tq_W := tq_mem 67 (by decide +kernel) rfl
theorem qm_60 : (Jvm.Cond.instanceMethod ({ cls := "LogTree", name := "grew", desc := "(IIJJ)Z" } : Jvm.MethodName)) ∈ tq_W := tq_mem 68 (by decide +kernel) rfl
theorem qm_61 : (Jvm.Cond.selects "LogTree" ({ cls := "LogTree", name := "grew", desc := "(IIJJ)Z" } : Jvm.MethodName) ({ cls := "LogTree", name := "grew", desc := "(IIJJ)Z" } : Jvm.MethodName)) ∈ tq_W := tq_mem 69 (by decide +kernel) rfl
theorem qm_62 : (Jvm.Cond.code ({ cls := "LogTree", name := "grew", desc := "(IIJJ)Z" } : Jvm.MethodName) prog_1_method_13_code (7 : Nat) (Option.some Jvm.ClassFile.FieldType.boolean)) ∈ tq_W := tq_mem 70 (by decide +kernel) rfl
theorem qm_63 : (Jvm.Cond.methodLink "LogTree" (48 : Nat) ({ cls := "LogTree", name := "stepsLength", desc := "(II)I" } : Jvm.MethodName)) ∈ tq_W := tq_mem 71 (by decide +kernel) rfl
theorem qm_64 : (Jvm.Cond.static ({ cls := "LogTree", name := "stepsLength", desc := "(II)I" } : Jvm.MethodName)) ∈ tq_W := tq_mem 72 (by decide +kernel) rfl
theorem qm_65 : (Jvm.Cond.code ({ cls := "LogTree", name := "stepsLength", desc := "(II)I" } : Jvm.MethodName) prog_1_method_22_code (7 : Nat) (Option.some Jvm.ClassFile.FieldType.int)) ∈ tq_W := tq_mem 73 (by decide +kernel) rfl
theorem qm_66 : (Jvm.Cond.methodLink "LogTree" (59 : Nat) ({ cls := "LogTree", name := "oldHeadBySteps", desc := "([JIIIJ)J" } : Jvm.MethodName)) ∈ tq_W := tq_mem 74 (by decide +kernel) rfl
theorem qm_67 : (Jvm.Cond.static ({ cls := "LogTree", name := "oldHeadBySteps", desc := "([JIIIJ)J" } : Jvm.MethodName)) ∈ tq_W := tq_mem 75 (by decide +kernel) rfl
theorem qm_68 : (Jvm.Cond.code ({ cls := "LogTree", name := "oldHeadBySteps", desc := "([JIIIJ)J" } : Jvm.MethodName) prog_1_method_24_code (9 : Nat) (Option.some Jvm.ClassFile.FieldType.long)) ∈ tq_W := tq_mem 76 (by decide +kernel) rfl
theorem qm_69 : (Jvm.Cond.methodLink "LogTree" (62 : Nat) ({ cls := "LogTree", name := "newHeadBySteps", desc := "([JIIIJ)J" } : Jvm.MethodName)) ∈ tq_W := tq_mem 77 (by decide +kernel) rfl
theorem qm_70 : (Jvm.Cond.static ({ cls := "LogTree", name := "newHeadBySteps", desc := "([JIIIJ)J" } : Jvm.MethodName)) ∈ tq_W := tq_mem 78 (by decide +kernel) rfl
theorem qm_71 : (Jvm.Cond.code ({ cls := "LogTree", name := "newHeadBySteps", desc := "([JIIIJ)J" } : Jvm.MethodName) prog_1_method_25_code (9 : Nat) (Option.some Jvm.ClassFile.FieldType.long)) ∈ tq_W := tq_mem 79 (by decide +kernel) rfl
theorem qm_72 : (Jvm.Cond.methodLink "LogTreeLaw" (117 : Nat) ({ cls := "LogTree", name := "count", desc := "(I)I" } : Jvm.MethodName)) ∈ tq_W := tq_mem 80 (by decide +kernel) rfl
theorem qm_73 : (Jvm.Cond.instanceMethod ({ cls := "LogTree", name := "count", desc := "(I)I" } : Jvm.MethodName)) ∈ tq_W := tq_mem 81 (by decide +kernel) rfl
theorem qm_74 : (Jvm.Cond.selects "LogTree" ({ cls := "LogTree", name := "count", desc := "(I)I" } : Jvm.MethodName) ({ cls := "LogTree", name := "count", desc := "(I)I" } : Jvm.MethodName)) ∈ tq_W := tq_mem 82 (by decide +kernel) rfl
theorem qm_75 : (Jvm.Cond.code ({ cls := "LogTree", name := "count", desc := "(I)I" } : Jvm.MethodName) prog_1_method_15_code (2 : Nat) (Option.some Jvm.ClassFile.FieldType.int)) ∈ tq_W := tq_mem 83 (by decide +kernel) rfl
theorem qm_76 : (Jvm.Cond.methodLink "LogTree" (65 : Nat) ({ cls := "java/lang/Integer", name := "bitCount", desc := "(I)I" } : Jvm.MethodName)) ∈ tq_W := tq_mem 84 (by decide +kernel) rfl
theorem qm_77 : (Jvm.Cond.static ({ cls := "java/lang/Integer", name := "bitCount", desc := "(I)I" } : Jvm.MethodName)) ∈ tq_W := tq_mem 85 (by decide +kernel) rfl
theorem qm_78 : (Jvm.Cond.code ({ cls := "java/lang/Integer", name := "bitCount", desc := "(I)I" } : Jvm.MethodName) prog_8_method_49_code (1 : Nat) (Option.some Jvm.ClassFile.FieldType.int)) ∈ tq_W := tq_mem 86 (by decide +kernel) rfl
theorem qm_79 : (Jvm.Cond.constant "java/lang/Integer" (265 : Nat) (1431655765 : Int32)) ∈ tq_W := tq_mem 87 (by decide +kernel) rfl
theorem qm_80 : (Jvm.Cond.constant "java/lang/Integer" (266 : Nat) (858993459 : Int32)) ∈ tq_W := tq_mem 88 (by decide +kernel) rfl
theorem qm_81 : (Jvm.Cond.constant "java/lang/Integer" (267 : Nat) (252645135 : Int32)) ∈ tq_W := tq_mem 89 (by decide +kernel) rfl
theorem qm_82 : (Jvm.Cond.methodLink "LogTreeLaw" (64 : Nat) ({ cls := "LogTreeLaw", name := "add", desc := "(LLogTree;J[J)I" } : Jvm.MethodName)) ∈ tq_W := tq_mem 90 (by decide +kernel) rfl
theorem qm_83 : (Jvm.Cond.static ({ cls := "LogTreeLaw", name := "add", desc := "(LLogTree;J[J)I" } : Jvm.MethodName)) ∈ tq_W := tq_mem 91 (by decide +kernel) rfl
theorem qm_84 : (Jvm.Cond.codeWith ({ cls := "LogTreeLaw", name := "add", desc := "(LLogTree;J[J)I" } : Jvm.MethodName) method_3_code (5 : Nat) (Option.some Jvm.ClassFile.FieldType.int) [((0 : Nat), (9 : Nat), (12 : Nat), (13 : Nat))]) ∈ tq_W := tq_mem 92 (by decide +kernel) rfl
theorem qm_85 : (Jvm.Cond.classLink "LogTreeLaw" (13 : Nat) "java/lang/IllegalStateException") ∈ tq_W := tq_mem 93 (by decide +kernel) rfl
theorem qm_86 : (Jvm.Cond.methodLink "LogTreeLaw" (7 : Nat) ({ cls := "LogTree", name := "add", desc := "(J)I" } : Jvm.MethodName)) ∈ tq_W := tq_mem 94 (by decide +kernel) rfl
theorem qm_87 : (Jvm.Cond.instanceMethod ({ cls := "LogTree", name := "add", desc := "(J)I" } : Jvm.MethodName)) ∈ tq_W := tq_mem 95 (by decide +kernel) rfl
theorem qm_88 : (Jvm.Cond.selects "LogTree" ({ cls := "LogTree", name := "add", desc := "(J)I" } : Jvm.MethodName) ({ cls := "LogTree", name := "add", desc := "(J)I" } : Jvm.MethodName)) ∈ tq_W := tq_mem 96 (by decide +kernel) rfl
theorem qm_89 : (Jvm.Cond.code ({ cls := "LogTree", name := "add", desc := "(J)I" } : Jvm.MethodName) prog_1_method_2_code (3 : Nat) (Option.some Jvm.ClassFile.FieldType.int)) ∈ tq_W := tq_mem 97 (by decide +kernel) rfl
theorem qm_90 : (Jvm.Cond.classLink "LogTree" (23 : Nat) "java/lang/IllegalStateException") ∈ tq_W := tq_mem 98 (by decide +kernel) rfl
theorem qm_91 : (Jvm.Cond.instantiable "java/lang/IllegalStateException" (6 : Nat)) ∈ tq_W := tq_mem 99 (by decide +kernel) rfl
theorem qm_132 : (Jvm.Cond.methodLink "LogTree" (25 : Nat) ({ cls := "java/lang/IllegalStateException", name := "<init>", desc := "()V" } : Jvm.MethodName)) ∈ tq_W := tq_mem 140 (by decide +kernel) rfl
theorem qm_133 : (Jvm.Cond.instanceMethod ({ cls := "java/lang/IllegalStateException", name := "<init>", desc := "()V" } : Jvm.MethodName)) ∈ tq_W := tq_mem 141 (by decide +kernel) rfl
theorem qm_134 : (Jvm.Cond.code ({ cls := "java/lang/IllegalStateException", name := "<init>", desc := "()V" } : Jvm.MethodName) prog_6_method_1_code (1 : Nat) (Option.none : Option Jvm.ClassFile.FieldType)) ∈ tq_W := tq_mem 142 (by decide +kernel) rfl
theorem qm_154 : (Jvm.Cond.methodLink "LogTreeLaw" (74 : Nat) ({ cls := "LogTreeLaw", name := "fill", desc := "(LLogTree;IJJ[J)I" } : Jvm.MethodName)) ∈ tq_W := tq_mem 162 (by decide +kernel) rfl
theorem qm_155 : (Jvm.Cond.static ({ cls := "LogTreeLaw", name := "fill", desc := "(LLogTree;IJJ[J)I" } : Jvm.MethodName)) ∈ tq_W := tq_mem 163 (by decide +kernel) rfl
theorem qm_156 : (Jvm.Cond.codeWith ({ cls := "LogTreeLaw", name := "fill", desc := "(LLogTree;IJJ[J)I" } : Jvm.MethodName) method_4_code (8 : Nat) (Option.some Jvm.ClassFile.FieldType.int) [((0 : Nat), (13 : Nat), (16 : Nat), (19 : Nat)), ((0 : Nat), (13 : Nat), (20 : Nat), (13 : Nat))]) ∈ tq_W := tq_mem 164 (by decide +kernel) rfl
theorem qm_157 : (Jvm.Cond.classLink "LogTreeLaw" (19 : Nat) "java/lang/IllegalArgumentException") ∈ tq_W := tq_mem 165 (by decide +kernel) rfl
theorem qm_158 : (Jvm.Cond.methodLink "LogTreeLaw" (15 : Nat) ({ cls := "LogTree", name := "fill", desc := "(IJJ)I" } : Jvm.MethodName)) ∈ tq_W := tq_mem 166 (by decide +kernel) rfl
theorem qm_159 : (Jvm.Cond.instanceMethod ({ cls := "LogTree", name := "fill", desc := "(IJJ)I" } : Jvm.MethodName)) ∈ tq_W := tq_mem 167 (by decide +kernel) rfl
theorem qm_160 : (Jvm.Cond.selects "LogTree" ({ cls := "LogTree", name := "fill", desc := "(IJJ)I" } : Jvm.MethodName) ({ cls := "LogTree", name := "fill", desc := "(IJJ)I" } : Jvm.MethodName)) ∈ tq_W := tq_mem 168 (by decide +kernel) rfl
theorem qm_161 : (Jvm.Cond.code ({ cls := "LogTree", name := "fill", desc := "(IJJ)I" } : Jvm.MethodName) prog_1_method_3_code (7 : Nat) (Option.some Jvm.ClassFile.FieldType.int)) ∈ tq_W := tq_mem 169 (by decide +kernel) rfl
theorem qm_162 : (Jvm.Cond.classLink "LogTree" (30 : Nat) "java/lang/IllegalArgumentException") ∈ tq_W := tq_mem 170 (by decide +kernel) rfl
theorem qm_163 : (Jvm.Cond.instantiable "java/lang/IllegalArgumentException" (6 : Nat)) ∈ tq_W := tq_mem 171 (by decide +kernel) rfl
theorem qm_171 : (Jvm.Cond.methodLink "LogTree" (32 : Nat) ({ cls := "java/lang/IllegalArgumentException", name := "<init>", desc := "()V" } : Jvm.MethodName)) ∈ tq_W := tq_mem 179 (by decide +kernel) rfl
theorem qm_172 : (Jvm.Cond.instanceMethod ({ cls := "java/lang/IllegalArgumentException", name := "<init>", desc := "()V" } : Jvm.MethodName)) ∈ tq_W := tq_mem 180 (by decide +kernel) rfl
theorem qm_173 : (Jvm.Cond.code ({ cls := "java/lang/IllegalArgumentException", name := "<init>", desc := "()V" } : Jvm.MethodName) prog_5_method_1_code (1 : Nat) (Option.none : Option Jvm.ClassFile.FieldType)) ∈ tq_W := tq_mem 181 (by decide +kernel) rfl
theorem qm_177 : (Jvm.Cond.methodLink "LogTreeLaw" (78 : Nat) ({ cls := "LogTreeLaw", name := "cut", desc := "(LLogTree;I[J)I" } : Jvm.MethodName)) ∈ tq_W := tq_mem 185 (by decide +kernel) rfl
theorem qm_178 : (Jvm.Cond.static ({ cls := "LogTreeLaw", name := "cut", desc := "(LLogTree;I[J)I" } : Jvm.MethodName)) ∈ tq_W := tq_mem 186 (by decide +kernel) rfl
theorem qm_179 : (Jvm.Cond.codeWith ({ cls := "LogTreeLaw", name := "cut", desc := "(LLogTree;I[J)I" } : Jvm.MethodName) method_5_code (4 : Nat) (Option.some Jvm.ClassFile.FieldType.int) [((0 : Nat), (9 : Nat), (12 : Nat), (19 : Nat))]) ∈ tq_W := tq_mem 187 (by decide +kernel) rfl
theorem qm_180 : (Jvm.Cond.methodLink "LogTreeLaw" (21 : Nat) ({ cls := "LogTree", name := "cut", desc := "(I)I" } : Jvm.MethodName)) ∈ tq_W := tq_mem 188 (by decide +kernel) rfl
theorem qm_181 : (Jvm.Cond.instanceMethod ({ cls := "LogTree", name := "cut", desc := "(I)I" } : Jvm.MethodName)) ∈ tq_W := tq_mem 189 (by decide +kernel) rfl
theorem qm_182 : (Jvm.Cond.selects "LogTree" ({ cls := "LogTree", name := "cut", desc := "(I)I" } : Jvm.MethodName) ({ cls := "LogTree", name := "cut", desc := "(I)I" } : Jvm.MethodName)) ∈ tq_W := tq_mem 190 (by decide +kernel) rfl
theorem qm_183 : (Jvm.Cond.code ({ cls := "LogTree", name := "cut", desc := "(I)I" } : Jvm.MethodName) prog_1_method_4_code (3 : Nat) (Option.some Jvm.ClassFile.FieldType.int)) ∈ tq_W := tq_mem 191 (by decide +kernel) rfl
theorem qm_184 : (Jvm.Cond.methodLink "LogTreeLaw" (82 : Nat) ({ cls := "LogTreeLaw", name := "head", desc := "(LLogTree;I[J)I" } : Jvm.MethodName)) ∈ tq_W := tq_mem 192 (by decide +kernel) rfl
theorem qm_185 : (Jvm.Cond.static ({ cls := "LogTreeLaw", name := "head", desc := "(LLogTree;I[J)I" } : Jvm.MethodName)) ∈ tq_W := tq_mem 193 (by decide +kernel) rfl
theorem qm_186 : (Jvm.Cond.codeWith ({ cls := "LogTreeLaw", name := "head", desc := "(LLogTree;I[J)I" } : Jvm.MethodName) method_6_code (4 : Nat) (Option.some Jvm.ClassFile.FieldType.int) [((0 : Nat), (8 : Nat), (11 : Nat), (29 : Nat))]) ∈ tq_W := tq_mem 194 (by decide +kernel) rfl
theorem qm_187 : (Jvm.Cond.classLink "LogTreeLaw" (29 : Nat) "java/util/NoSuchElementException") ∈ tq_W := tq_mem 195 (by decide +kernel) rfl
theorem qm_188 : (Jvm.Cond.methodLink "LogTreeLaw" (25 : Nat) ({ cls := "LogTree", name := "head", desc := "(I)J" } : Jvm.MethodName)) ∈ tq_W := tq_mem 196 (by decide +kernel) rfl
theorem qm_189 : (Jvm.Cond.instanceMethod ({ cls := "LogTree", name := "head", desc := "(I)J" } : Jvm.MethodName)) ∈ tq_W := tq_mem 197 (by decide +kernel) rfl
theorem qm_190 : (Jvm.Cond.selects "LogTree" ({ cls := "LogTree", name := "head", desc := "(I)J" } : Jvm.MethodName) ({ cls := "LogTree", name := "head", desc := "(I)J" } : Jvm.MethodName)) ∈ tq_W := tq_mem 198 (by decide +kernel) rfl
theorem qm_191 : (Jvm.Cond.code ({ cls := "LogTree", name := "head", desc := "(I)J" } : Jvm.MethodName) prog_1_method_5_code (2 : Nat) (Option.some Jvm.ClassFile.FieldType.long)) ∈ tq_W := tq_mem 199 (by decide +kernel) rfl
theorem qm_192 : (Jvm.Cond.classLink "LogTree" (33 : Nat) "java/util/NoSuchElementException") ∈ tq_W := tq_mem 200 (by decide +kernel) rfl
theorem qm_193 : (Jvm.Cond.instantiable "java/util/NoSuchElementException" (6 : Nat)) ∈ tq_W := tq_mem 201 (by decide +kernel) rfl
theorem qm_201 : (Jvm.Cond.methodLink "LogTree" (35 : Nat) ({ cls := "java/util/NoSuchElementException", name := "<init>", desc := "()V" } : Jvm.MethodName)) ∈ tq_W := tq_mem 209 (by decide +kernel) rfl
theorem qm_202 : (Jvm.Cond.instanceMethod ({ cls := "java/util/NoSuchElementException", name := "<init>", desc := "()V" } : Jvm.MethodName)) ∈ tq_W := tq_mem 210 (by decide +kernel) rfl
theorem qm_203 : (Jvm.Cond.code ({ cls := "java/util/NoSuchElementException", name := "<init>", desc := "()V" } : Jvm.MethodName) prog_11_method_1_code (1 : Nat) (Option.none : Option Jvm.ClassFile.FieldType)) ∈ tq_W := tq_mem 211 (by decide +kernel) rfl
theorem qm_207 : (Jvm.Cond.methodLink "LogTree" (36 : Nat) ({ cls := "LogTree", name := "headOf", desc := "([JII)J" } : Jvm.MethodName)) ∈ tq_W := tq_mem 215 (by decide +kernel) rfl
theorem qm_208 : (Jvm.Cond.static ({ cls := "LogTree", name := "headOf", desc := "([JII)J" } : Jvm.MethodName)) ∈ tq_W := tq_mem 216 (by decide +kernel) rfl
theorem qm_209 : (Jvm.Cond.code ({ cls := "LogTree", name := "headOf", desc := "([JII)J" } : Jvm.MethodName) prog_1_method_20_code (5 : Nat) (Option.some Jvm.ClassFile.FieldType.long)) ∈ tq_W := tq_mem 217 (by decide +kernel) rfl
theorem qm_210 : (Jvm.Cond.methodLink "LogTreeLaw" (85 : Nat) ({ cls := "LogTreeLaw", name := "part", desc := "(LLogTree;II[J)I" } : Jvm.MethodName)) ∈ tq_W := tq_mem 218 (by decide +kernel) rfl
theorem qm_211 : (Jvm.Cond.static ({ cls := "LogTreeLaw", name := "part", desc := "(LLogTree;II[J)I" } : Jvm.MethodName)) ∈ tq_W := tq_mem 219 (by decide +kernel) rfl
theorem qm_212 : (Jvm.Cond.codeWith ({ cls := "LogTreeLaw", name := "part", desc := "(LLogTree;II[J)I" } : Jvm.MethodName) method_7_code (5 : Nat) (Option.some Jvm.ClassFile.FieldType.int) [((0 : Nat), (9 : Nat), (12 : Nat), (29 : Nat))]) ∈ tq_W := tq_mem 220 (by decide +kernel) rfl
theorem qm_213 : (Jvm.Cond.methodLink "LogTreeLaw" (31 : Nat) ({ cls := "LogTree", name := "part", desc := "(II)J" } : Jvm.MethodName)) ∈ tq_W := tq_mem 221 (by decide +kernel) rfl
theorem qm_214 : (Jvm.Cond.instanceMethod ({ cls := "LogTree", name := "part", desc := "(II)J" } : Jvm.MethodName)) ∈ tq_W := tq_mem 222 (by decide +kernel) rfl
theorem qm_215 : (Jvm.Cond.selects "LogTree" ({ cls := "LogTree", name := "part", desc := "(II)J" } : Jvm.MethodName) ({ cls := "LogTree", name := "part", desc := "(II)J" } : Jvm.MethodName)) ∈ tq_W := tq_mem 223 (by decide +kernel) rfl
theorem qm_216 : (Jvm.Cond.code ({ cls := "LogTree", name := "part", desc := "(II)J" } : Jvm.MethodName) prog_1_method_6_code (3 : Nat) (Option.some Jvm.ClassFile.FieldType.long)) ∈ tq_W := tq_mem 224 (by decide +kernel) rfl
theorem qm_217 : (Jvm.Cond.methodLink "LogTreeLaw" (89 : Nat) ({ cls := "LogTreeLaw", name := "path", desc := "(LLogTree;II[J)I" } : Jvm.MethodName)) ∈ tq_W := tq_mem 225 (by decide +kernel) rfl
theorem qm_218 : (Jvm.Cond.static ({ cls := "LogTreeLaw", name := "path", desc := "(LLogTree;II[J)I" } : Jvm.MethodName)) ∈ tq_W := tq_mem 226 (by decide +kernel) rfl
theorem qm_219 : (Jvm.Cond.codeWith ({ cls := "LogTreeLaw", name := "path", desc := "(LLogTree;II[J)I" } : Jvm.MethodName) method_8_code (5 : Nat) (Option.some Jvm.ClassFile.FieldType.int) [((0 : Nat), (10 : Nat), (13 : Nat), (29 : Nat))]) ∈ tq_W := tq_mem 227 (by decide +kernel) rfl
theorem qm_220 : (Jvm.Cond.methodLink "LogTreeLaw" (35 : Nat) ({ cls := "LogTree", name := "path", desc := "(II)I" } : Jvm.MethodName)) ∈ tq_W := tq_mem 228 (by decide +kernel) rfl
theorem qm_221 : (Jvm.Cond.instanceMethod ({ cls := "LogTree", name := "path", desc := "(II)I" } : Jvm.MethodName)) ∈ tq_W := tq_mem 229 (by decide +kernel) rfl
theorem qm_222 : (Jvm.Cond.selects "LogTree" ({ cls := "LogTree", name := "path", desc := "(II)I" } : Jvm.MethodName) ({ cls := "LogTree", name := "path", desc := "(II)I" } : Jvm.MethodName)) ∈ tq_W := tq_mem 230 (by decide +kernel) rfl
theorem qm_223 : (Jvm.Cond.code ({ cls := "LogTree", name := "path", desc := "(II)I" } : Jvm.MethodName) prog_1_method_7_code (7 : Nat) (Option.some Jvm.ClassFile.FieldType.int)) ∈ tq_W := tq_mem 231 (by decide +kernel) rfl
theorem qm_224 : (Jvm.Cond.methodLink "LogTreeLaw" (92 : Nat) ({ cls := "LogTreeLaw", name := "steps", desc := "(LLogTree;II[J)I" } : Jvm.MethodName)) ∈ tq_W := tq_mem 232 (by decide +kernel) rfl
theorem qm_225 : (Jvm.Cond.static ({ cls := "LogTreeLaw", name := "steps", desc := "(LLogTree;II[J)I" } : Jvm.MethodName)) ∈ tq_W := tq_mem 233 (by decide +kernel) rfl
theorem qm_226 : (Jvm.Cond.codeWith ({ cls := "LogTreeLaw", name := "steps", desc := "(LLogTree;II[J)I" } : Jvm.MethodName) method_9_code (5 : Nat) (Option.some Jvm.ClassFile.FieldType.int) [((0 : Nat), (10 : Nat), (13 : Nat), (29 : Nat))]) ∈ tq_W := tq_mem 234 (by decide +kernel) rfl
theorem qm_227 : (Jvm.Cond.methodLink "LogTreeLaw" (39 : Nat) ({ cls := "LogTree", name := "steps", desc := "(II)I" } : Jvm.MethodName)) ∈ tq_W := tq_mem 235 (by decide +kernel) rfl
theorem qm_228 : (Jvm.Cond.instanceMethod ({ cls := "LogTree", name := "steps", desc := "(II)I" } : Jvm.MethodName)) ∈ tq_W := tq_mem 236 (by decide +kernel) rfl
theorem qm_229 : (Jvm.Cond.selects "LogTree" ({ cls := "LogTree", name := "steps", desc := "(II)I" } : Jvm.MethodName) ({ cls := "LogTree", name := "steps", desc := "(II)I" } : Jvm.MethodName)) ∈ tq_W := tq_mem 237 (by decide +kernel) rfl
theorem qm_230 : (Jvm.Cond.code ({ cls := "LogTree", name := "steps", desc := "(II)I" } : Jvm.MethodName) prog_1_method_8_code (7 : Nat) (Option.some Jvm.ClassFile.FieldType.int)) ∈ tq_W := tq_mem 238 (by decide +kernel) rfl
theorem qm_231 : (Jvm.Cond.methodLink "LogTreeLaw" (95 : Nat) ({ cls := "LogTreeLaw", name := "proof", desc := "(LLogTree;I[J)I" } : Jvm.MethodName)) ∈ tq_W := tq_mem 239 (by decide +kernel) rfl
theorem qm_232 : (Jvm.Cond.static ({ cls := "LogTreeLaw", name := "proof", desc := "(LLogTree;I[J)I" } : Jvm.MethodName)) ∈ tq_W := tq_mem 240 (by decide +kernel) rfl
theorem qm_233 : (Jvm.Cond.codeWith ({ cls := "LogTreeLaw", name := "proof", desc := "(LLogTree;I[J)I" } : Jvm.MethodName) method_10_code (4 : Nat) (Option.some Jvm.ClassFile.FieldType.int) [((0 : Nat), (8 : Nat), (11 : Nat), (45 : Nat))]) ∈ tq_W := tq_mem 241 (by decide +kernel) rfl
theorem qm_234 : (Jvm.Cond.classLink "LogTreeLaw" (45 : Nat) "java/lang/IndexOutOfBoundsException") ∈ tq_W := tq_mem 242 (by decide +kernel) rfl
theorem qm_235 : (Jvm.Cond.methodLink "LogTreeLaw" (42 : Nat) ({ cls := "LogTree", name := "proof", desc := "(I)J" } : Jvm.MethodName)) ∈ tq_W := tq_mem 243 (by decide +kernel) rfl
theorem qm_236 : (Jvm.Cond.instanceMethod ({ cls := "LogTree", name := "proof", desc := "(I)J" } : Jvm.MethodName)) ∈ tq_W := tq_mem 244 (by decide +kernel) rfl
theorem qm_237 : (Jvm.Cond.selects "LogTree" ({ cls := "LogTree", name := "proof", desc := "(I)J" } : Jvm.MethodName) ({ cls := "LogTree", name := "proof", desc := "(I)J" } : Jvm.MethodName)) ∈ tq_W := tq_mem 245 (by decide +kernel) rfl
theorem qm_238 : (Jvm.Cond.code ({ cls := "LogTree", name := "proof", desc := "(I)J" } : Jvm.MethodName) prog_1_method_9_code (2 : Nat) (Option.some Jvm.ClassFile.FieldType.long)) ∈ tq_W := tq_mem 246 (by decide +kernel) rfl
theorem qm_239 : (Jvm.Cond.classLink "LogTree" (51 : Nat) "java/lang/IndexOutOfBoundsException") ∈ tq_W := tq_mem 247 (by decide +kernel) rfl
theorem qm_240 : (Jvm.Cond.instantiable "java/lang/IndexOutOfBoundsException" (6 : Nat)) ∈ tq_W := tq_mem 248 (by decide +kernel) rfl
theorem qm_248 : (Jvm.Cond.methodLink "LogTree" (53 : Nat) ({ cls := "java/lang/IndexOutOfBoundsException", name := "<init>", desc := "()V" } : Jvm.MethodName)) ∈ tq_W := tq_mem 256 (by decide +kernel) rfl
theorem qm_249 : (Jvm.Cond.instanceMethod ({ cls := "java/lang/IndexOutOfBoundsException", name := "<init>", desc := "()V" } : Jvm.MethodName)) ∈ tq_W := tq_mem 257 (by decide +kernel) rfl
theorem qm_250 : (Jvm.Cond.code ({ cls := "java/lang/IndexOutOfBoundsException", name := "<init>", desc := "()V" } : Jvm.MethodName) prog_7_method_1_code (1 : Nat) (Option.none : Option Jvm.ClassFile.FieldType)) ∈ tq_W := tq_mem 258 (by decide +kernel) rfl
theorem qm_254 : (Jvm.Cond.methodLink "LogTreeLaw" (98 : Nat) ({ cls := "LogTreeLaw", name := "alter", desc := "(LLogTree;IJ[J)I" } : Jvm.MethodName)) ∈ tq_W := tq_mem 262 (by decide +kernel) rfl
theorem qm_255 : (Jvm.Cond.static ({ cls := "LogTreeLaw", name := "alter", desc := "(LLogTree;IJ[J)I" } : Jvm.MethodName)) ∈ tq_W := tq_mem 263 (by decide +kernel) rfl
theorem qm_256 : (Jvm.Cond.codeWith ({ cls := "LogTreeLaw", name := "alter", desc := "(LLogTree;IJ[J)I" } : Jvm.MethodName) method_11_code (6 : Nat) (Option.some Jvm.ClassFile.FieldType.int) [((0 : Nat), (10 : Nat), (13 : Nat), (45 : Nat))]) ∈ tq_W := tq_mem 264 (by decide +kernel) rfl
theorem qm_257 : (Jvm.Cond.methodLink "LogTreeLaw" (47 : Nat) ({ cls := "LogTree", name := "alter", desc := "(IJ)J" } : Jvm.MethodName)) ∈ tq_W := tq_mem 265 (by decide +kernel) rfl
theorem qm_258 : (Jvm.Cond.instanceMethod ({ cls := "LogTree", name := "alter", desc := "(IJ)J" } : Jvm.MethodName)) ∈ tq_W := tq_mem 266 (by decide +kernel) rfl
theorem qm_259 : (Jvm.Cond.selects "LogTree" ({ cls := "LogTree", name := "alter", desc := "(IJ)J" } : Jvm.MethodName) ({ cls := "LogTree", name := "alter", desc := "(IJ)J" } : Jvm.MethodName)) ∈ tq_W := tq_mem 267 (by decide +kernel) rfl
theorem qm_260 : (Jvm.Cond.code ({ cls := "LogTree", name := "alter", desc := "(IJ)J" } : Jvm.MethodName) prog_1_method_10_code (6 : Nat) (Option.some Jvm.ClassFile.FieldType.long)) ∈ tq_W := tq_mem 268 (by decide +kernel) rfl
theorem qm_261 : (Jvm.Cond.methodLink "LogTreeLaw" (102 : Nat) ({ cls := "LogTreeLaw", name := "length", desc := "(LLogTree;I[J)I" } : Jvm.MethodName)) ∈ tq_W := tq_mem 269 (by decide +kernel) rfl
theorem qm_262 : (Jvm.Cond.static ({ cls := "LogTreeLaw", name := "length", desc := "(LLogTree;I[J)I" } : Jvm.MethodName)) ∈ tq_W := tq_mem 270 (by decide +kernel) rfl
theorem qm_263 : (Jvm.Cond.codeWith ({ cls := "LogTreeLaw", name := "length", desc := "(LLogTree;I[J)I" } : Jvm.MethodName) method_12_code (4 : Nat) (Option.some Jvm.ClassFile.FieldType.int) [((0 : Nat), (9 : Nat), (12 : Nat), (19 : Nat))]) ∈ tq_W := tq_mem 271 (by decide +kernel) rfl
theorem qm_264 : (Jvm.Cond.methodLink "LogTreeLaw" (51 : Nat) ({ cls := "LogTree", name := "length", desc := "(I)I" } : Jvm.MethodName)) ∈ tq_W := tq_mem 272 (by decide +kernel) rfl
theorem qm_265 : (Jvm.Cond.instanceMethod ({ cls := "LogTree", name := "length", desc := "(I)I" } : Jvm.MethodName)) ∈ tq_W := tq_mem 273 (by decide +kernel) rfl
theorem qm_266 : (Jvm.Cond.selects "LogTree" ({ cls := "LogTree", name := "length", desc := "(I)I" } : Jvm.MethodName) ({ cls := "LogTree", name := "length", desc := "(I)I" } : Jvm.MethodName)) ∈ tq_W := tq_mem 274 (by decide +kernel) rfl
theorem qm_267 : (Jvm.Cond.code ({ cls := "LogTree", name := "length", desc := "(I)I" } : Jvm.MethodName) prog_1_method_11_code (4 : Nat) (Option.some Jvm.ClassFile.FieldType.int)) ∈ tq_W := tq_mem 275 (by decide +kernel) rfl
theorem qm_268 : (Jvm.Cond.methodLink "LogTreeLaw" (114 : Nat) ({ cls := "LogTreeLaw", name := "find", desc := "(LLogTree;IJ[J)I" } : Jvm.MethodName)) ∈ tq_W := tq_mem 276 (by decide +kernel) rfl
theorem qm_269 : (Jvm.Cond.static ({ cls := "LogTreeLaw", name := "find", desc := "(LLogTree;IJ[J)I" } : Jvm.MethodName)) ∈ tq_W := tq_mem 277 (by decide +kernel) rfl
theorem qm_270 : (Jvm.Cond.codeWith ({ cls := "LogTreeLaw", name := "find", desc := "(LLogTree;IJ[J)I" } : Jvm.MethodName) method_13_code (6 : Nat) (Option.some Jvm.ClassFile.FieldType.int) [((0 : Nat), (11 : Nat), (14 : Nat), (29 : Nat))]) ∈ tq_W := tq_mem 278 (by decide +kernel) rfl
theorem qm_271 : (Jvm.Cond.methodLink "LogTreeLaw" (54 : Nat) ({ cls := "LogTree", name := "find", desc := "(IJ)I" } : Jvm.MethodName)) ∈ tq_W := tq_mem 279 (by decide +kernel) rfl
theorem qm_272 : (Jvm.Cond.instanceMethod ({ cls := "LogTree", name := "find", desc := "(IJ)I" } : Jvm.MethodName)) ∈ tq_W := tq_mem 280 (by decide +kernel) rfl
theorem qm_273 : (Jvm.Cond.selects "LogTree" ({ cls := "LogTree", name := "find", desc := "(IJ)I" } : Jvm.MethodName) ({ cls := "LogTree", name := "find", desc := "(IJ)I" } : Jvm.MethodName)) ∈ tq_W := tq_mem 281 (by decide +kernel) rfl
theorem qm_274 : (Jvm.Cond.code ({ cls := "LogTree", name := "find", desc := "(IJ)I" } : Jvm.MethodName) prog_1_method_14_code (7 : Nat) (Option.some Jvm.ClassFile.FieldType.int)) ∈ tq_W := tq_mem 282 (by decide +kernel) rfl
theorem qm_275 : (Jvm.Cond.classLink "LogTreeLaw" (59 : Nat) "LogTreeModel") ∈ tq_W := tq_mem 283 (by decide +kernel) rfl
theorem qm_276 : (Jvm.Cond.instantiable "LogTreeModel" (8 : Nat)) ∈ tq_W := tq_mem 284 (by decide +kernel) rfl
theorem qm_277 : (Jvm.Cond.methodLink "LogTreeLaw" (61 : Nat) ({ cls := "LogTreeModel", name := "<init>", desc := "()V" } : Jvm.MethodName)) ∈ tq_W := tq_mem 285 (by decide +kernel) rfl
theorem qm_278 : (Jvm.Cond.instanceMethod ({ cls := "LogTreeModel", name := "<init>", desc := "()V" } : Jvm.MethodName)) ∈ tq_W := tq_mem 286 (by decide +kernel) rfl
theorem qm_279 : (Jvm.Cond.code ({ cls := "LogTreeModel", name := "<init>", desc := "()V" } : Jvm.MethodName) prog_3_method_1_code (1 : Nat) (Option.none : Option Jvm.ClassFile.FieldType)) ∈ tq_W := tq_mem 287 (by decide +kernel) rfl
theorem qm_280 : (Jvm.Cond.methodLink "LogTreeModel" (1 : Nat) ({ cls := "java/lang/Object", name := "<init>", desc := "()V" } : Jvm.MethodName)) ∈ tq_W := tq_mem 288 (by decide +kernel) rfl
theorem qm_281 : (Jvm.Cond.fieldLink "LogTreeModel" (16 : Nat) "LogTreeModel" "thrown" "I") ∈ tq_W := tq_mem 289 (by decide +kernel) rfl
theorem qm_282 : (Jvm.Cond.fieldLink "LogTreeModel" (41 : Nat) "LogTreeModel" "leaves" "I") ∈ tq_W := tq_mem 290 (by decide +kernel) rfl
theorem qm_283 : (Jvm.Cond.fieldLink "LogTreeModel" (44 : Nat) "LogTreeModel" "length" "I") ∈ tq_W := tq_mem 291 (by decide +kernel) rfl
theorem qm_284 : (Jvm.Cond.fieldLink "LogTreeModel" (59 : Nat) "LogTreeModel" "at" "I") ∈ tq_W := tq_mem 292 (by decide +kernel) rfl
theorem qm_285 : (Jvm.Cond.fieldLink "LogTreeModel" (9 : Nat) "LogTreeModel" "leaf" "[J") ∈ tq_W := tq_mem 293 (by decide +kernel) rfl
theorem qm_286 : (Jvm.Cond.fieldLink "LogTreeModel" (13 : Nat) "LogTreeModel" "proof" "[J") ∈ tq_W := tq_mem 294 (by decide +kernel) rfl
theorem qm_287 : (Jvm.Cond.fieldLink "LogTreeModel" (71 : Nat) "LogTreeModel" "old" "J") ∈ tq_W := tq_mem 295 (by decide +kernel) rfl
theorem qm_288 : (Jvm.Cond.fieldLink "LogTreeModel" (75 : Nat) "LogTreeModel" "fresh" "J") ∈ tq_W := tq_mem 296 (by decide +kernel) rfl
theorem qm_306 : (Jvm.Cond.methodLink "LogTreeLaw" (70 : Nat) ({ cls := "LogTreeModel", name := "thrown", desc := "()I" } : Jvm.MethodName)) ∈ tq_W := tq_mem 314 (by decide +kernel) rfl
theorem qm_307 : (Jvm.Cond.instanceMethod ({ cls := "LogTreeModel", name := "thrown", desc := "()I" } : Jvm.MethodName)) ∈ tq_W := tq_mem 315 (by decide +kernel) rfl
theorem qm_308 : (Jvm.Cond.selects "LogTreeModel" ({ cls := "LogTreeModel", name := "thrown", desc := "()I" } : Jvm.MethodName) ({ cls := "LogTreeModel", name := "thrown", desc := "()I" } : Jvm.MethodName)) ∈ tq_W := tq_mem 316 (by decide +kernel) rfl
theorem qm_309 : (Jvm.Cond.code ({ cls := "LogTreeModel", name := "thrown", desc := "()I" } : Jvm.MethodName) prog_3_method_2_code (1 : Nat) (Option.some Jvm.ClassFile.FieldType.int)) ∈ tq_W := tq_mem 317 (by decide +kernel) rfl
theorem qm_310 : (Jvm.Cond.methodLink "LogTreeLaw" (69 : Nat) ({ cls := "LogTreeModel", name := "add", desc := "(J)I" } : Jvm.MethodName)) ∈ tq_W := tq_mem 318 (by decide +kernel) rfl
theorem qm_311 : (Jvm.Cond.instanceMethod ({ cls := "LogTreeModel", name := "add", desc := "(J)I" } : Jvm.MethodName)) ∈ tq_W := tq_mem 319 (by decide +kernel) rfl
theorem qm_312 : (Jvm.Cond.selects "LogTreeModel" ({ cls := "LogTreeModel", name := "add", desc := "(J)I" } : Jvm.MethodName) ({ cls := "LogTreeModel", name := "add", desc := "(J)I" } : Jvm.MethodName)) ∈ tq_W := tq_mem 320 (by decide +kernel) rfl
theorem qm_313 : (Jvm.Cond.code ({ cls := "LogTreeModel", name := "add", desc := "(J)I" } : Jvm.MethodName) prog_3_method_8_code (3 : Nat) (Option.some Jvm.ClassFile.FieldType.int)) ∈ tq_W := tq_mem 321 (by decide +kernel) rfl
theorem qm_314 : (Jvm.Cond.methodLink "LogTreeLaw" (77 : Nat) ({ cls := "LogTreeModel", name := "fill", desc := "(IJJ)I" } : Jvm.MethodName)) ∈ tq_W := tq_mem 322 (by decide +kernel) rfl
theorem qm_315 : (Jvm.Cond.instanceMethod ({ cls := "LogTreeModel", name := "fill", desc := "(IJJ)I" } : Jvm.MethodName)) ∈ tq_W := tq_mem 323 (by decide +kernel) rfl
theorem qm_316 : (Jvm.Cond.selects "LogTreeModel" ({ cls := "LogTreeModel", name := "fill", desc := "(IJJ)I" } : Jvm.MethodName) ({ cls := "LogTreeModel", name := "fill", desc := "(IJJ)I" } : Jvm.MethodName)) ∈ tq_W := tq_mem 324 (by decide +kernel) rfl
theorem qm_317 : (Jvm.Cond.code ({ cls := "LogTreeModel", name := "fill", desc := "(IJJ)I" } : Jvm.MethodName) prog_3_method_9_code (7 : Nat) (Option.some Jvm.ClassFile.FieldType.int)) ∈ tq_W := tq_mem 325 (by decide +kernel) rfl
theorem qm_318 : (Jvm.Cond.methodLink "LogTreeLaw" (81 : Nat) ({ cls := "LogTreeModel", name := "cut", desc := "(I)I" } : Jvm.MethodName)) ∈ tq_W := tq_mem 326 (by decide +kernel) rfl
theorem qm_319 : (Jvm.Cond.instanceMethod ({ cls := "LogTreeModel", name := "cut", desc := "(I)I" } : Jvm.MethodName)) ∈ tq_W := tq_mem 327 (by decide +kernel) rfl
theorem qm_320 : (Jvm.Cond.selects "LogTreeModel" ({ cls := "LogTreeModel", name := "cut", desc := "(I)I" } : Jvm.MethodName) ({ cls := "LogTreeModel", name := "cut", desc := "(I)I" } : Jvm.MethodName)) ∈ tq_W := tq_mem 328 (by decide +kernel) rfl
theorem qm_321 : (Jvm.Cond.code ({ cls := "LogTreeModel", name := "cut", desc := "(I)I" } : Jvm.MethodName) prog_3_method_10_code (3 : Nat) (Option.some Jvm.ClassFile.FieldType.int)) ∈ tq_W := tq_mem 329 (by decide +kernel) rfl
theorem qm_322 : (Jvm.Cond.methodLink "LogTreeLaw" (84 : Nat) ({ cls := "LogTreeModel", name := "head", desc := "(I)J" } : Jvm.MethodName)) ∈ tq_W := tq_mem 330 (by decide +kernel) rfl
theorem qm_323 : (Jvm.Cond.instanceMethod ({ cls := "LogTreeModel", name := "head", desc := "(I)J" } : Jvm.MethodName)) ∈ tq_W := tq_mem 331 (by decide +kernel) rfl
theorem qm_324 : (Jvm.Cond.selects "LogTreeModel" ({ cls := "LogTreeModel", name := "head", desc := "(I)J" } : Jvm.MethodName) ({ cls := "LogTreeModel", name := "head", desc := "(I)J" } : Jvm.MethodName)) ∈ tq_W := tq_mem 332 (by decide +kernel) rfl
theorem qm_325 : (Jvm.Cond.code ({ cls := "LogTreeModel", name := "head", desc := "(I)J" } : Jvm.MethodName) prog_3_method_11_code (2 : Nat) (Option.some Jvm.ClassFile.FieldType.long)) ∈ tq_W := tq_mem 333 (by decide +kernel) rfl
theorem qm_326 : (Jvm.Cond.methodLink "LogTreeModel" (34 : Nat) ({ cls := "LogTreeModel", name := "headOf", desc := "(II)J" } : Jvm.MethodName)) ∈ tq_W := tq_mem 334 (by decide +kernel) rfl
theorem qm_328 : (Jvm.Cond.instanceMethod ({ cls := "LogTreeModel", name := "headOf", desc := "(II)J" } : Jvm.MethodName)) ∈ tq_W := tq_mem 336 (by decide +kernel) rfl
theorem qm_329 : (Jvm.Cond.code ({ cls := "LogTreeModel", name := "headOf", desc := "(II)J" } : Jvm.MethodName) prog_3_method_7_code (6 : Nat) (Option.some Jvm.ClassFile.FieldType.long)) ∈ tq_W := tq_mem 337 (by decide +kernel) rfl
theorem qm_330 : (Jvm.Cond.methodLink "LogTreeModel" (26 : Nat) ({ cls := "LogTreeModel", name := "mix", desc := "(JJ)J" } : Jvm.MethodName)) ∈ tq_W := tq_mem 338 (by decide +kernel) rfl
theorem qm_331 : (Jvm.Cond.static ({ cls := "LogTreeModel", name := "mix", desc := "(JJ)J" } : Jvm.MethodName)) ∈ tq_W := tq_mem 339 (by decide +kernel) rfl
theorem qm_332 : (Jvm.Cond.code ({ cls := "LogTreeModel", name := "mix", desc := "(JJ)J" } : Jvm.MethodName) prog_3_method_4_code (8 : Nat) (Option.some Jvm.ClassFile.FieldType.long)) ∈ tq_W := tq_mem 340 (by decide +kernel) rfl
theorem qm_333 : (Jvm.Cond.constantLong "LogTreeModel" (20 : Nat) (-7046029254386353131 : Int64)) ∈ tq_W := tq_mem 341 (by decide +kernel) rfl
theorem qm_334 : (Jvm.Cond.constantLong "LogTreeModel" (22 : Nat) (-4658895280553007687 : Int64)) ∈ tq_W := tq_mem 342 (by decide +kernel) rfl
theorem qm_335 : (Jvm.Cond.methodLink "LogTreeModel" (30 : Nat) ({ cls := "LogTreeModel", name := "below", desc := "(I)I" } : Jvm.MethodName)) ∈ tq_W := tq_mem 343 (by decide +kernel) rfl
theorem qm_336 : (Jvm.Cond.static ({ cls := "LogTreeModel", name := "below", desc := "(I)I" } : Jvm.MethodName)) ∈ tq_W := tq_mem 344 (by decide +kernel) rfl
theorem qm_337 : (Jvm.Cond.code ({ cls := "LogTreeModel", name := "below", desc := "(I)I" } : Jvm.MethodName) prog_3_method_6_code (2 : Nat) (Option.some Jvm.ClassFile.FieldType.int)) ∈ tq_W := tq_mem 345 (by decide +kernel) rfl
theorem qm_338 : (Jvm.Cond.methodLink "LogTreeModel" (38 : Nat) ({ cls := "LogTreeModel", name := "node", desc := "(JJ)J" } : Jvm.MethodName)) ∈ tq_W := tq_mem 346 (by decide +kernel) rfl
theorem qm_339 : (Jvm.Cond.static ({ cls := "LogTreeModel", name := "node", desc := "(JJ)J" } : Jvm.MethodName)) ∈ tq_W := tq_mem 347 (by decide +kernel) rfl
theorem qm_340 : (Jvm.Cond.code ({ cls := "LogTreeModel", name := "node", desc := "(JJ)J" } : Jvm.MethodName) prog_3_method_5_code (4 : Nat) (Option.some Jvm.ClassFile.FieldType.long)) ∈ tq_W := tq_mem 348 (by decide +kernel) rfl
theorem qm_341 : (Jvm.Cond.constantLong "LogTreeModel" (24 : Nat) (2 : Int64)) ∈ tq_W := tq_mem 349 (by decide +kernel) rfl
theorem qm_342 : (Jvm.Cond.methodLink "LogTreeLaw" (88 : Nat) ({ cls := "LogTreeModel", name := "part", desc := "(II)J" } : Jvm.MethodName)) ∈ tq_W := tq_mem 350 (by decide +kernel) rfl
theorem qm_343 : (Jvm.Cond.instanceMethod ({ cls := "LogTreeModel", name := "part", desc := "(II)J" } : Jvm.MethodName)) ∈ tq_W := tq_mem 351 (by decide +kernel) rfl
theorem qm_344 : (Jvm.Cond.selects "LogTreeModel" ({ cls := "LogTreeModel", name := "part", desc := "(II)J" } : Jvm.MethodName) ({ cls := "LogTreeModel", name := "part", desc := "(II)J" } : Jvm.MethodName)) ∈ tq_W := tq_mem 352 (by decide +kernel) rfl
theorem qm_345 : (Jvm.Cond.code ({ cls := "LogTreeModel", name := "part", desc := "(II)J" } : Jvm.MethodName) prog_3_method_12_code (3 : Nat) (Option.some Jvm.ClassFile.FieldType.long)) ∈ tq_W := tq_mem 353 (by decide +kernel) rfl
theorem qm_346 : (Jvm.Cond.methodLink "LogTreeLaw" (91 : Nat) ({ cls := "LogTreeModel", name := "path", desc := "(II)I" } : Jvm.MethodName)) ∈ tq_W := tq_mem 354 (by decide +kernel) rfl
theorem qm_347 : (Jvm.Cond.instanceMethod ({ cls := "LogTreeModel", name := "path", desc := "(II)I" } : Jvm.MethodName)) ∈ tq_W := tq_mem 355 (by decide +kernel) rfl
theorem qm_348 : (Jvm.Cond.selects "LogTreeModel" ({ cls := "LogTreeModel", name := "path", desc := "(II)I" } : Jvm.MethodName) ({ cls := "LogTreeModel", name := "path", desc := "(II)I" } : Jvm.MethodName)) ∈ tq_W := tq_mem 356 (by decide +kernel) rfl
theorem qm_349 : (Jvm.Cond.code ({ cls := "LogTreeModel", name := "path", desc := "(II)I" } : Jvm.MethodName) prog_3_method_15_code (3 : Nat) (Option.some Jvm.ClassFile.FieldType.int)) ∈ tq_W := tq_mem 357 (by decide +kernel) rfl
theorem qm_350 : (Jvm.Cond.methodLink "LogTreeModel" (47 : Nat) ({ cls := "LogTreeModel", name := "pathOf", desc := "(III)V" } : Jvm.MethodName)) ∈ tq_W := tq_mem 358 (by decide +kernel) rfl
theorem qm_352 : (Jvm.Cond.instanceMethod ({ cls := "LogTreeModel", name := "pathOf", desc := "(III)V" } : Jvm.MethodName)) ∈ tq_W := tq_mem 360 (by decide +kernel) rfl
theorem qm_353 : (Jvm.Cond.code ({ cls := "LogTreeModel", name := "pathOf", desc := "(III)V" } : Jvm.MethodName) prog_3_method_14_code (5 : Nat) (Option.none : Option Jvm.ClassFile.FieldType)) ∈ tq_W := tq_mem 361 (by decide +kernel) rfl
theorem qm_354 : (Jvm.Cond.methodLink "LogTreeModel" (51 : Nat) ({ cls := "LogTreeModel", name := "put", desc := "(J)V" } : Jvm.MethodName)) ∈ tq_W := tq_mem 362 (by decide +kernel) rfl
theorem qm_356 : (Jvm.Cond.instanceMethod ({ cls := "LogTreeModel", name := "put", desc := "(J)V" } : Jvm.MethodName)) ∈ tq_W := tq_mem 364 (by decide +kernel) rfl
theorem qm_357 : (Jvm.Cond.code ({ cls := "LogTreeModel", name := "put", desc := "(J)V" } : Jvm.MethodName) prog_3_method_13_code (3 : Nat) (Option.none : Option Jvm.ClassFile.FieldType)) ∈ tq_W := tq_mem 365 (by decide +kernel) rfl
theorem qm_358 : (Jvm.Cond.methodLink "LogTreeLaw" (94 : Nat) ({ cls := "LogTreeModel", name := "steps", desc := "(II)I" } : Jvm.MethodName)) ∈ tq_W := tq_mem 366 (by decide +kernel) rfl
theorem qm_359 : (Jvm.Cond.instanceMethod ({ cls := "LogTreeModel", name := "steps", desc := "(II)I" } : Jvm.MethodName)) ∈ tq_W := tq_mem 367 (by decide +kernel) rfl
theorem qm_360 : (Jvm.Cond.selects "LogTreeModel" ({ cls := "LogTreeModel", name := "steps", desc := "(II)I" } : Jvm.MethodName) ({ cls := "LogTreeModel", name := "steps", desc := "(II)I" } : Jvm.MethodName)) ∈ tq_W := tq_mem 368 (by decide +kernel) rfl
theorem qm_361 : (Jvm.Cond.code ({ cls := "LogTreeModel", name := "steps", desc := "(II)I" } : Jvm.MethodName) prog_3_method_17_code (3 : Nat) (Option.some Jvm.ClassFile.FieldType.int)) ∈ tq_W := tq_mem 369 (by decide +kernel) rfl
theorem qm_362 : (Jvm.Cond.methodLink "LogTreeModel" (55 : Nat) ({ cls := "LogTreeModel", name := "stepsOf", desc := "(IIIZ)V" } : Jvm.MethodName)) ∈ tq_W := tq_mem 370 (by decide +kernel) rfl
theorem qm_364 : (Jvm.Cond.instanceMethod ({ cls := "LogTreeModel", name := "stepsOf", desc := "(IIIZ)V" } : Jvm.MethodName)) ∈ tq_W := tq_mem 372 (by decide +kernel) rfl
theorem qm_365 : (Jvm.Cond.code ({ cls := "LogTreeModel", name := "stepsOf", desc := "(IIIZ)V" } : Jvm.MethodName) prog_3_method_16_code (6 : Nat) (Option.none : Option Jvm.ClassFile.FieldType)) ∈ tq_W := tq_mem 373 (by decide +kernel) rfl
theorem qm_366 : (Jvm.Cond.methodLink "LogTreeLaw" (97 : Nat) ({ cls := "LogTreeModel", name := "proof", desc := "(I)J" } : Jvm.MethodName)) ∈ tq_W := tq_mem 374 (by decide +kernel) rfl
theorem qm_367 : (Jvm.Cond.instanceMethod ({ cls := "LogTreeModel", name := "proof", desc := "(I)J" } : Jvm.MethodName)) ∈ tq_W := tq_mem 375 (by decide +kernel) rfl
theorem qm_368 : (Jvm.Cond.selects "LogTreeModel" ({ cls := "LogTreeModel", name := "proof", desc := "(I)J" } : Jvm.MethodName) ({ cls := "LogTreeModel", name := "proof", desc := "(I)J" } : Jvm.MethodName)) ∈ tq_W := tq_mem 376 (by decide +kernel) rfl
theorem qm_369 : (Jvm.Cond.code ({ cls := "LogTreeModel", name := "proof", desc := "(I)J" } : Jvm.MethodName) prog_3_method_18_code (2 : Nat) (Option.some Jvm.ClassFile.FieldType.long)) ∈ tq_W := tq_mem 377 (by decide +kernel) rfl
theorem qm_370 : (Jvm.Cond.methodLink "LogTreeLaw" (101 : Nat) ({ cls := "LogTreeModel", name := "alter", desc := "(IJ)J" } : Jvm.MethodName)) ∈ tq_W := tq_mem 378 (by decide +kernel) rfl
theorem qm_371 : (Jvm.Cond.instanceMethod ({ cls := "LogTreeModel", name := "alter", desc := "(IJ)J" } : Jvm.MethodName)) ∈ tq_W := tq_mem 379 (by decide +kernel) rfl
theorem qm_372 : (Jvm.Cond.selects "LogTreeModel" ({ cls := "LogTreeModel", name := "alter", desc := "(IJ)J" } : Jvm.MethodName) ({ cls := "LogTreeModel", name := "alter", desc := "(IJ)J" } : Jvm.MethodName)) ∈ tq_W := tq_mem 380 (by decide +kernel) rfl
theorem qm_373 : (Jvm.Cond.code ({ cls := "LogTreeModel", name := "alter", desc := "(IJ)J" } : Jvm.MethodName) prog_3_method_19_code (6 : Nat) (Option.some Jvm.ClassFile.FieldType.long)) ∈ tq_W := tq_mem 381 (by decide +kernel) rfl
theorem qm_374 : (Jvm.Cond.methodLink "LogTreeLaw" (104 : Nat) ({ cls := "LogTreeModel", name := "length", desc := "(I)I" } : Jvm.MethodName)) ∈ tq_W := tq_mem 382 (by decide +kernel) rfl
theorem qm_375 : (Jvm.Cond.instanceMethod ({ cls := "LogTreeModel", name := "length", desc := "(I)I" } : Jvm.MethodName)) ∈ tq_W := tq_mem 383 (by decide +kernel) rfl
theorem qm_376 : (Jvm.Cond.selects "LogTreeModel" ({ cls := "LogTreeModel", name := "length", desc := "(I)I" } : Jvm.MethodName) ({ cls := "LogTreeModel", name := "length", desc := "(I)I" } : Jvm.MethodName)) ∈ tq_W := tq_mem 384 (by decide +kernel) rfl
theorem qm_377 : (Jvm.Cond.code ({ cls := "LogTreeModel", name := "length", desc := "(I)I" } : Jvm.MethodName) prog_3_method_20_code (4 : Nat) (Option.some Jvm.ClassFile.FieldType.int)) ∈ tq_W := tq_mem 385 (by decide +kernel) rfl
theorem qm_378 : (Jvm.Cond.methodLink "LogTreeLaw" (109 : Nat) ({ cls := "LogTreeModel", name := "shows", desc := "(IIJJ)Z" } : Jvm.MethodName)) ∈ tq_W := tq_mem 386 (by decide +kernel) rfl
theorem qm_379 : (Jvm.Cond.instanceMethod ({ cls := "LogTreeModel", name := "shows", desc := "(IIJJ)Z" } : Jvm.MethodName)) ∈ tq_W := tq_mem 387 (by decide +kernel) rfl
theorem qm_380 : (Jvm.Cond.selects "LogTreeModel" ({ cls := "LogTreeModel", name := "shows", desc := "(IIJJ)Z" } : Jvm.MethodName) ({ cls := "LogTreeModel", name := "shows", desc := "(IIJJ)Z" } : Jvm.MethodName)) ∈ tq_W := tq_mem 388 (by decide +kernel) rfl
theorem qm_381 : (Jvm.Cond.code ({ cls := "LogTreeModel", name := "shows", desc := "(IIJJ)Z" } : Jvm.MethodName) prog_3_method_23_code (9 : Nat) (Option.some Jvm.ClassFile.FieldType.boolean)) ∈ tq_W := tq_mem 389 (by decide +kernel) rfl
theorem qm_382 : (Jvm.Cond.constant "LogTreeModel" (70 : Nat) (1073741824 : Int32)) ∈ tq_W := tq_mem 390 (by decide +kernel) rfl
theorem qm_383 : (Jvm.Cond.methodLink "LogTreeModel" (62 : Nat) ({ cls := "LogTreeModel", name := "rootOf", desc := "(IIJ)J" } : Jvm.MethodName)) ∈ tq_W := tq_mem 391 (by decide +kernel) rfl
theorem qm_385 : (Jvm.Cond.instanceMethod ({ cls := "LogTreeModel", name := "rootOf", desc := "(IIJ)J" } : Jvm.MethodName)) ∈ tq_W := tq_mem 393 (by decide +kernel) rfl
theorem qm_386 : (Jvm.Cond.code ({ cls := "LogTreeModel", name := "rootOf", desc := "(IIJ)J" } : Jvm.MethodName) prog_3_method_22_code (8 : Nat) (Option.some Jvm.ClassFile.FieldType.long)) ∈ tq_W := tq_mem 394 (by decide +kernel) rfl
theorem qm_387 : (Jvm.Cond.methodLink "LogTreeModel" (66 : Nat) ({ cls := "LogTreeModel", name := "next", desc := "()J" } : Jvm.MethodName)) ∈ tq_W := tq_mem 395 (by decide +kernel) rfl
theorem qm_389 : (Jvm.Cond.instanceMethod ({ cls := "LogTreeModel", name := "next", desc := "()J" } : Jvm.MethodName)) ∈ tq_W := tq_mem 397 (by decide +kernel) rfl
theorem qm_390 : (Jvm.Cond.code ({ cls := "LogTreeModel", name := "next", desc := "()J" } : Jvm.MethodName) prog_3_method_21_code (1 : Nat) (Option.some Jvm.ClassFile.FieldType.long)) ∈ tq_W := tq_mem 398 (by decide +kernel) rfl
theorem qm_391 : (Jvm.Cond.methodLink "LogTreeLaw" (113 : Nat) ({ cls := "LogTreeModel", name := "grew", desc := "(IIJJ)Z" } : Jvm.MethodName)) ∈ tq_W := tq_mem 399 (by decide +kernel) rfl
theorem qm_392 : (Jvm.Cond.instanceMethod ({ cls := "LogTreeModel", name := "grew", desc := "(IIJJ)Z" } : Jvm.MethodName)) ∈ tq_W := tq_mem 400 (by decide +kernel) rfl
theorem qm_393 : (Jvm.Cond.selects "LogTreeModel" ({ cls := "LogTreeModel", name := "grew", desc := "(IIJJ)Z" } : Jvm.MethodName) ({ cls := "LogTreeModel", name := "grew", desc := "(IIJJ)Z" } : Jvm.MethodName)) ∈ tq_W := tq_mem 401 (by decide +kernel) rfl
theorem qm_394 : (Jvm.Cond.code ({ cls := "LogTreeModel", name := "grew", desc := "(IIJJ)Z" } : Jvm.MethodName) prog_3_method_25_code (7 : Nat) (Option.some Jvm.ClassFile.FieldType.boolean)) ∈ tq_W := tq_mem 402 (by decide +kernel) rfl
theorem qm_395 : (Jvm.Cond.methodLink "LogTreeModel" (78 : Nat) ({ cls := "LogTreeModel", name := "both", desc := "(IIZJ)V" } : Jvm.MethodName)) ∈ tq_W := tq_mem 403 (by decide +kernel) rfl
theorem qm_397 : (Jvm.Cond.instanceMethod ({ cls := "LogTreeModel", name := "both", desc := "(IIZJ)V" } : Jvm.MethodName)) ∈ tq_W := tq_mem 405 (by decide +kernel) rfl
theorem qm_398 : (Jvm.Cond.code ({ cls := "LogTreeModel", name := "both", desc := "(IIZJ)V" } : Jvm.MethodName) prog_3_method_24_code (9 : Nat) (Option.none : Option Jvm.ClassFile.FieldType)) ∈ tq_W := tq_mem 406 (by decide +kernel) rfl
theorem qm_399 : (Jvm.Cond.methodLink "LogTreeLaw" (116 : Nat) ({ cls := "LogTreeModel", name := "find", desc := "(IJ)I" } : Jvm.MethodName)) ∈ tq_W := tq_mem 407 (by decide +kernel) rfl
theorem qm_400 : (Jvm.Cond.instanceMethod ({ cls := "LogTreeModel", name := "find", desc := "(IJ)I" } : Jvm.MethodName)) ∈ tq_W := tq_mem 408 (by decide +kernel) rfl
theorem qm_401 : (Jvm.Cond.selects "LogTreeModel" ({ cls := "LogTreeModel", name := "find", desc := "(IJ)I" } : Jvm.MethodName) ({ cls := "LogTreeModel", name := "find", desc := "(IJ)I" } : Jvm.MethodName)) ∈ tq_W := tq_mem 409 (by decide +kernel) rfl
theorem qm_402 : (Jvm.Cond.code ({ cls := "LogTreeModel", name := "find", desc := "(IJ)I" } : Jvm.MethodName) prog_3_method_26_code (5 : Nat) (Option.some Jvm.ClassFile.FieldType.int)) ∈ tq_W := tq_mem 410 (by decide +kernel) rfl
theorem qm_403 : (Jvm.Cond.methodLink "LogTreeLaw" (120 : Nat) ({ cls := "LogTreeModel", name := "count", desc := "(I)I" } : Jvm.MethodName)) ∈ tq_W := tq_mem 411 (by decide +kernel) rfl
theorem qm_404 : (Jvm.Cond.instanceMethod ({ cls := "LogTreeModel", name := "count", desc := "(I)I" } : Jvm.MethodName)) ∈ tq_W := tq_mem 412 (by decide +kernel) rfl
theorem qm_405 : (Jvm.Cond.selects "LogTreeModel" ({ cls := "LogTreeModel", name := "count", desc := "(I)I" } : Jvm.MethodName) ({ cls := "LogTreeModel", name := "count", desc := "(I)I" } : Jvm.MethodName)) ∈ tq_W := tq_mem 413 (by decide +kernel) rfl
theorem qm_406 : (Jvm.Cond.code ({ cls := "LogTreeModel", name := "count", desc := "(I)I" } : Jvm.MethodName) prog_3_method_27_code (4 : Nat) (Option.some Jvm.ClassFile.FieldType.int)) ∈ tq_W := tq_mem 414 (by decide +kernel) rfl
theorem qm_407 : (Jvm.Cond.constantLong "LogTreeLaw" (62 : Nat) (4294967295 : Int64)) ∈ tq_W := tq_mem 415 (by decide +kernel) rfl
theorem qs_M_headOf : Cond.selects RX1 qy_M_headOf qy_M_headOf ∈ tq_W := tq_mem 1 (by decide +kernel) rfl
theorem qs_M_pathOf : Cond.selects RX1 qy_M_pathOf qy_M_pathOf ∈ tq_W := tq_mem 2 (by decide +kernel) rfl
theorem qs_M_put : Cond.selects RX1 qy_M_put qy_M_put ∈ tq_W := tq_mem 3 (by decide +kernel) rfl
theorem qs_M_stepsOf : Cond.selects RX1 qy_M_stepsOf qy_M_stepsOf ∈ tq_W := tq_mem 4 (by decide +kernel) rfl
theorem qs_M_rootOf : Cond.selects RX1 qy_M_rootOf qy_M_rootOf ∈ tq_W := tq_mem 5 (by decide +kernel) rfl
theorem qs_M_next : Cond.selects RX1 qy_M_next qy_M_next ∈ tq_W := tq_mem 6 (by decide +kernel) rfl
theorem qs_M_both : Cond.selects RX1 qy_M_both qy_M_both ∈ tq_W := tq_mem 7 (by decide +kernel) rfl
end
section
theorem qd_X_init_0 : decode qc_X_init 0 = .ok (.aload_n 0, 1) := by decide +kernel
theorem qd_X_init_1 : decode qc_X_init 1 = .ok (.invokespecial 1, 3) := by decide +kernel
theorem qd_X_init_4 : decode qc_X_init 4 = .ok (.aload_n 0, 1) := by decide +kernel
theorem qd_X_init_5 : decode qc_X_init 5 = .ok (.sipush 600, 3) := by decide +kernel
theorem qd_X_init_8 : decode qc_X_init 8 = .ok (.newarray .long, 2) := by decide +kernel
theorem qd_X_init_10 : decode qc_X_init 10 = .ok (.putfield 9, 3) := by decide +kernel
theorem qd_X_init_13 : decode qc_X_init 13 = .ok (.aload_n 0, 1) := by decide +kernel
theorem qd_X_init_14 : decode qc_X_init 14 = .ok (.iconst 0, 1) := by decide +kernel
theorem qd_X_init_15 : decode qc_X_init 15 = .ok (.putfield 13, 3) := by decide +kernel
theorem qd_X_init_18 : decode qc_X_init 18 = .ok (.aload_n 0, 1) := by decide +kernel
theorem qd_X_init_19 : decode qc_X_init 19 = .ok (.bipush 40, 2) := by decide +kernel
theorem qd_X_init_21 : decode qc_X_init 21 = .ok (.newarray .long, 2) := by decide +kernel
theorem qd_X_init_23 : decode qc_X_init 23 = .ok (.putfield 17, 3) := by decide +kernel
theorem qd_X_init_26 : decode qc_X_init 26 = .ok (.aload_n 0, 1) := by decide +kernel
theorem qd_X_init_27 : decode qc_X_init 27 = .ok (.iconst 0, 1) := by decide +kernel
theorem qd_X_init_28 : decode qc_X_init 28 = .ok (.putfield 20, 3) := by decide +kernel
theorem qd_X_init_31 : decode qc_X_init 31 = .ok (.return_, 1) := by decide +kernel
theorem qd_X_shows_0 : decode qc_X_shows 0 = .ok (.iload_n 1, 1) := by decide +kernel
theorem qd_X_shows_1 : decode qc_X_shows 1 = .ok (.ifCond .lt 14, 3) := by decide +kernel
theorem qd_X_shows_4 : decode qc_X_shows 4 = .ok (.iload_n 1, 1) := by decide +kernel
theorem qd_X_shows_5 : decode qc_X_shows 5 = .ok (.iload_n 2, 1) := by decide +kernel
theorem qd_X_shows_6 : decode qc_X_shows 6 = .ok (.if_icmp .ge 9, 3) := by decide +kernel
theorem qd_X_shows_9 : decode qc_X_shows 9 = .ok (.iload_n 2, 1) := by decide +kernel
theorem qd_X_shows_10 : decode qc_X_shows 10 = .ok (.ldc 54, 2) := by decide +kernel
theorem qd_X_shows_12 : decode qc_X_shows 12 = .ok (.if_icmp .le 5, 3) := by decide +kernel
theorem qd_X_shows_15 : decode qc_X_shows 15 = .ok (.iconst 0, 1) := by decide +kernel
theorem qd_X_shows_16 : decode qc_X_shows 16 = .ok (.ireturn, 1) := by decide +kernel
theorem qd_X_shows_17 : decode qc_X_shows 17 = .ok (.aload_n 0, 1) := by decide +kernel
theorem qd_X_shows_18 : decode qc_X_shows 18 = .ok (.getfield 20, 3) := by decide +kernel
theorem qd_X_shows_21 : decode qc_X_shows 21 = .ok (.iload_n 1, 1) := by decide +kernel
theorem qd_X_shows_22 : decode qc_X_shows 22 = .ok (.iload_n 2, 1) := by decide +kernel
theorem qd_X_shows_23 : decode qc_X_shows 23 = .ok (.invokestatic 40, 3) := by decide +kernel
theorem qd_X_shows_26 : decode qc_X_shows 26 = .ok (.if_icmp .eq 5, 3) := by decide +kernel
theorem qd_X_shows_29 : decode qc_X_shows 29 = .ok (.iconst 0, 1) := by decide +kernel
theorem qd_X_shows_30 : decode qc_X_shows 30 = .ok (.ireturn, 1) := by decide +kernel
theorem qd_X_shows_31 : decode qc_X_shows 31 = .ok (.aload_n 0, 1) := by decide +kernel
theorem qd_X_shows_32 : decode qc_X_shows 32 = .ok (.getfield 17, 3) := by decide +kernel
theorem qd_X_shows_35 : decode qc_X_shows 35 = .ok (.aload_n 0, 1) := by decide +kernel
theorem qd_X_shows_36 : decode qc_X_shows 36 = .ok (.getfield 20, 3) := by decide +kernel
theorem qd_X_shows_39 : decode qc_X_shows 39 = .ok (.iload_n 1, 1) := by decide +kernel
theorem qd_X_shows_40 : decode qc_X_shows 40 = .ok (.iload_n 2, 1) := by decide +kernel
theorem qd_X_shows_41 : decode qc_X_shows 41 = .ok (.lload_n 3, 1) := by decide +kernel
theorem qd_X_shows_42 : decode qc_X_shows 42 = .ok (.invokestatic 26, 3) := by decide +kernel
theorem qd_X_shows_45 : decode qc_X_shows 45 = .ok (.invokestatic 55, 3) := by decide +kernel
theorem qd_X_shows_48 : decode qc_X_shows 48 = .ok (.lload 5, 2) := by decide +kernel
theorem qd_X_shows_50 : decode qc_X_shows 50 = .ok (.lcmp, 1) := by decide +kernel
theorem qd_X_shows_51 : decode qc_X_shows 51 = .ok (.ifCond .ne 7, 3) := by decide +kernel
theorem qd_X_shows_54 : decode qc_X_shows 54 = .ok (.iconst 1, 1) := by decide +kernel
theorem qd_X_shows_55 : decode qc_X_shows 55 = .ok (.goto 4, 3) := by decide +kernel
theorem qd_X_shows_58 : decode qc_X_shows 58 = .ok (.iconst 0, 1) := by decide +kernel
theorem qd_X_shows_59 : decode qc_X_shows 59 = .ok (.ireturn, 1) := by decide +kernel
theorem qd_X_pathLength_0 : decode qc_X_pathLength 0 = .ok (.iload_n 0, 1) := by decide +kernel
theorem qd_X_pathLength_1 : decode qc_X_pathLength 1 = .ok (.istore_n 2, 1) := by decide +kernel
theorem qd_X_pathLength_2 : decode qc_X_pathLength 2 = .ok (.iload_n 1, 1) := by decide +kernel
theorem qd_X_pathLength_3 : decode qc_X_pathLength 3 = .ok (.istore_n 3, 1) := by decide +kernel
theorem qd_X_pathLength_4 : decode qc_X_pathLength 4 = .ok (.iconst 0, 1) := by decide +kernel
theorem qd_X_pathLength_5 : decode qc_X_pathLength 5 = .ok (.istore 4, 2) := by decide +kernel
theorem qd_X_pathLength_7 : decode qc_X_pathLength 7 = .ok (.iload_n 3, 1) := by decide +kernel
theorem qd_X_pathLength_8 : decode qc_X_pathLength 8 = .ok (.iconst 1, 1) := by decide +kernel
theorem qd_X_pathLength_9 : decode qc_X_pathLength 9 = .ok (.if_icmp .le 44, 3) := by decide +kernel
theorem qd_X_pathLength_12 : decode qc_X_pathLength 12 = .ok (.iload 4, 2) := by decide +kernel
theorem qd_X_pathLength_14 : decode qc_X_pathLength 14 = .ok (.bipush 40, 2) := by decide +kernel
theorem qd_X_pathLength_16 : decode qc_X_pathLength 16 = .ok (.if_icmp .ge 37, 3) := by decide +kernel
theorem qd_X_pathLength_19 : decode qc_X_pathLength 19 = .ok (.iload_n 3, 1) := by decide +kernel
theorem qd_X_pathLength_20 : decode qc_X_pathLength 20 = .ok (.invokestatic 44, 3) := by decide +kernel
theorem qd_X_pathLength_23 : decode qc_X_pathLength 23 = .ok (.istore 5, 2) := by decide +kernel
theorem qd_X_pathLength_25 : decode qc_X_pathLength 25 = .ok (.iload_n 2, 1) := by decide +kernel
theorem qd_X_pathLength_26 : decode qc_X_pathLength 26 = .ok (.iload 5, 2) := by decide +kernel
theorem qd_X_pathLength_28 : decode qc_X_pathLength 28 = .ok (.if_icmp .ge 9, 3) := by decide +kernel
theorem qd_X_pathLength_31 : decode qc_X_pathLength 31 = .ok (.iload 5, 2) := by decide +kernel
theorem qd_X_pathLength_33 : decode qc_X_pathLength 33 = .ok (.istore_n 3, 1) := by decide +kernel
theorem qd_X_pathLength_34 : decode qc_X_pathLength 34 = .ok (.goto 13, 3) := by decide +kernel
theorem qd_X_pathLength_37 : decode qc_X_pathLength 37 = .ok (.iload_n 2, 1) := by decide +kernel
theorem qd_X_pathLength_38 : decode qc_X_pathLength 38 = .ok (.iload 5, 2) := by decide +kernel
theorem qd_X_pathLength_40 : decode qc_X_pathLength 40 = .ok (.isub, 1) := by decide +kernel
theorem qd_X_pathLength_41 : decode qc_X_pathLength 41 = .ok (.istore_n 2, 1) := by decide +kernel
theorem qd_X_pathLength_42 : decode qc_X_pathLength 42 = .ok (.iload_n 3, 1) := by decide +kernel
theorem qd_X_pathLength_43 : decode qc_X_pathLength 43 = .ok (.iload 5, 2) := by decide +kernel
theorem qd_X_pathLength_45 : decode qc_X_pathLength 45 = .ok (.isub, 1) := by decide +kernel
theorem qd_X_pathLength_46 : decode qc_X_pathLength 46 = .ok (.istore_n 3, 1) := by decide +kernel
theorem qd_X_pathLength_47 : decode qc_X_pathLength 47 = .ok (.iinc 4 1, 3) := by decide +kernel
theorem qd_X_pathLength_50 : decode qc_X_pathLength 50 = .ok (.goto (-43), 3) := by decide +kernel
theorem qd_X_pathLength_53 : decode qc_X_pathLength 53 = .ok (.iload 4, 2) := by decide +kernel
theorem qd_X_pathLength_55 : decode qc_X_pathLength 55 = .ok (.ireturn, 1) := by decide +kernel
theorem qd_X_powerBelow_0 : decode qc_X_powerBelow 0 = .ok (.iconst 1, 1) := by decide +kernel
theorem qd_X_powerBelow_1 : decode qc_X_powerBelow 1 = .ok (.istore_n 1, 1) := by decide +kernel
theorem qd_X_powerBelow_2 : decode qc_X_powerBelow 2 = .ok (.iload_n 1, 1) := by decide +kernel
theorem qd_X_powerBelow_3 : decode qc_X_powerBelow 3 = .ok (.ldc 54, 2) := by decide +kernel
theorem qd_X_powerBelow_5 : decode qc_X_powerBelow 5 = .ok (.if_icmp .ge 17, 3) := by decide +kernel
theorem qd_X_powerBelow_8 : decode qc_X_powerBelow 8 = .ok (.iload_n 1, 1) := by decide +kernel
theorem qd_X_powerBelow_9 : decode qc_X_powerBelow 9 = .ok (.iload_n 0, 1) := by decide +kernel
theorem qd_X_powerBelow_10 : decode qc_X_powerBelow 10 = .ok (.iload_n 1, 1) := by decide +kernel
theorem qd_X_powerBelow_11 : decode qc_X_powerBelow 11 = .ok (.isub, 1) := by decide +kernel
theorem qd_X_powerBelow_12 : decode qc_X_powerBelow 12 = .ok (.if_icmp .ge 10, 3) := by decide +kernel
theorem qd_X_powerBelow_15 : decode qc_X_powerBelow 15 = .ok (.iload_n 1, 1) := by decide +kernel
theorem qd_X_powerBelow_16 : decode qc_X_powerBelow 16 = .ok (.iload_n 1, 1) := by decide +kernel
theorem qd_X_powerBelow_17 : decode qc_X_powerBelow 17 = .ok (.iadd, 1) := by decide +kernel
theorem qd_X_powerBelow_18 : decode qc_X_powerBelow 18 = .ok (.istore_n 1, 1) := by decide +kernel
theorem qd_X_powerBelow_19 : decode qc_X_powerBelow 19 = .ok (.goto (-17), 3) := by decide +kernel
theorem qd_X_powerBelow_22 : decode qc_X_powerBelow 22 = .ok (.iload_n 1, 1) := by decide +kernel
theorem qd_X_powerBelow_23 : decode qc_X_powerBelow 23 = .ok (.ireturn, 1) := by decide +kernel
theorem qd_X_leafOf_0 : decode qc_X_leafOf 0 = .ok (.lconst 1, 1) := by decide +kernel
theorem qd_X_leafOf_1 : decode qc_X_leafOf 1 = .ok (.lload_n 0, 1) := by decide +kernel
theorem qd_X_leafOf_2 : decode qc_X_leafOf 2 = .ok (.invokestatic 74, 3) := by decide +kernel
theorem qd_X_leafOf_5 : decode qc_X_leafOf 5 = .ok (.lreturn, 1) := by decide +kernel
theorem qd_X_mix_0 : decode qc_X_mix 0 = .ok (.lload_n 0, 1) := by decide +kernel
theorem qd_X_mix_1 : decode qc_X_mix 1 = .ok (.lload_n 2, 1) := by decide +kernel
theorem qd_X_mix_2 : decode qc_X_mix 2 = .ok (.lxor, 1) := by decide +kernel
theorem qd_X_mix_3 : decode qc_X_mix 3 = .ok (.ldc2_w 70, 3) := by decide +kernel
theorem qd_X_mix_6 : decode qc_X_mix 6 = .ok (.lmul, 1) := by decide +kernel
theorem qd_X_mix_7 : decode qc_X_mix 7 = .ok (.lstore 4, 2) := by decide +kernel
theorem qd_X_mix_9 : decode qc_X_mix 9 = .ok (.lload 4, 2) := by decide +kernel
theorem qd_X_mix_11 : decode qc_X_mix 11 = .ok (.lload 4, 2) := by decide +kernel
theorem qd_X_mix_13 : decode qc_X_mix 13 = .ok (.bipush 29, 2) := by decide +kernel
theorem qd_X_mix_15 : decode qc_X_mix 15 = .ok (.lushr, 1) := by decide +kernel
theorem qd_X_mix_16 : decode qc_X_mix 16 = .ok (.lxor, 1) := by decide +kernel
theorem qd_X_mix_17 : decode qc_X_mix 17 = .ok (.ldc2_w 72, 3) := by decide +kernel
theorem qd_X_mix_20 : decode qc_X_mix 20 = .ok (.lmul, 1) := by decide +kernel
theorem qd_X_mix_21 : decode qc_X_mix 21 = .ok (.lstore 6, 2) := by decide +kernel
theorem qd_X_mix_23 : decode qc_X_mix 23 = .ok (.lload 6, 2) := by decide +kernel
theorem qd_X_mix_25 : decode qc_X_mix 25 = .ok (.lload 6, 2) := by decide +kernel
theorem qd_X_mix_27 : decode qc_X_mix 27 = .ok (.bipush 32, 2) := by decide +kernel
theorem qd_X_mix_29 : decode qc_X_mix 29 = .ok (.lushr, 1) := by decide +kernel
theorem qd_X_mix_30 : decode qc_X_mix 30 = .ok (.lxor, 1) := by decide +kernel
theorem qd_X_mix_31 : decode qc_X_mix 31 = .ok (.lreturn, 1) := by decide +kernel
theorem qd_X_headByPath_0 : decode qc_X_headByPath 0 = .ok (.iload_n 1, 1) := by decide +kernel
theorem qd_X_headByPath_1 : decode qc_X_headByPath 1 = .ok (.ifCond .le 8, 3) := by decide +kernel
theorem qd_X_headByPath_4 : decode qc_X_headByPath 4 = .ok (.iload_n 3, 1) := by decide +kernel
theorem qd_X_headByPath_5 : decode qc_X_headByPath 5 = .ok (.iconst 1, 1) := by decide +kernel
theorem qd_X_headByPath_6 : decode qc_X_headByPath 6 = .ok (.if_icmp .gt 6, 3) := by decide +kernel
theorem qd_X_headByPath_9 : decode qc_X_headByPath 9 = .ok (.lload 4, 2) := by decide +kernel
theorem qd_X_headByPath_11 : decode qc_X_headByPath 11 = .ok (.lreturn, 1) := by decide +kernel
theorem qd_X_headByPath_12 : decode qc_X_headByPath 12 = .ok (.aload_n 0, 1) := by decide +kernel
theorem qd_X_headByPath_13 : decode qc_X_headByPath 13 = .ok (.iload_n 1, 1) := by decide +kernel
theorem qd_X_headByPath_14 : decode qc_X_headByPath 14 = .ok (.iconst 1, 1) := by decide +kernel
theorem qd_X_headByPath_15 : decode qc_X_headByPath 15 = .ok (.isub, 1) := by decide +kernel
theorem qd_X_headByPath_16 : decode qc_X_headByPath 16 = .ok (.laload, 1) := by decide +kernel
theorem qd_X_headByPath_17 : decode qc_X_headByPath 17 = .ok (.lstore 6, 2) := by decide +kernel
theorem qd_X_headByPath_19 : decode qc_X_headByPath 19 = .ok (.iload_n 3, 1) := by decide +kernel
theorem qd_X_headByPath_20 : decode qc_X_headByPath 20 = .ok (.invokestatic 44, 3) := by decide +kernel
theorem qd_X_headByPath_23 : decode qc_X_headByPath 23 = .ok (.istore 8, 2) := by decide +kernel
theorem qd_X_headByPath_25 : decode qc_X_headByPath 25 = .ok (.iload_n 2, 1) := by decide +kernel
theorem qd_X_headByPath_26 : decode qc_X_headByPath 26 = .ok (.iload 8, 2) := by decide +kernel
theorem qd_X_headByPath_28 : decode qc_X_headByPath 28 = .ok (.if_icmp .ge 21, 3) := by decide +kernel
theorem qd_X_headByPath_31 : decode qc_X_headByPath 31 = .ok (.aload_n 0, 1) := by decide +kernel
theorem qd_X_headByPath_32 : decode qc_X_headByPath 32 = .ok (.iload_n 1, 1) := by decide +kernel
theorem qd_X_headByPath_33 : decode qc_X_headByPath 33 = .ok (.iconst 1, 1) := by decide +kernel
theorem qd_X_headByPath_34 : decode qc_X_headByPath 34 = .ok (.isub, 1) := by decide +kernel
theorem qd_X_headByPath_35 : decode qc_X_headByPath 35 = .ok (.iload_n 2, 1) := by decide +kernel
theorem qd_X_headByPath_36 : decode qc_X_headByPath 36 = .ok (.iload 8, 2) := by decide +kernel
theorem qd_X_headByPath_38 : decode qc_X_headByPath 38 = .ok (.lload 4, 2) := by decide +kernel
theorem qd_X_headByPath_40 : decode qc_X_headByPath 40 = .ok (.invokestatic 55, 3) := by decide +kernel
theorem qd_X_headByPath_43 : decode qc_X_headByPath 43 = .ok (.lload 6, 2) := by decide +kernel
theorem qd_X_headByPath_45 : decode qc_X_headByPath 45 = .ok (.invokestatic 80, 3) := by decide +kernel
theorem qd_X_headByPath_48 : decode qc_X_headByPath 48 = .ok (.lreturn, 1) := by decide +kernel
theorem qd_X_headByPath_49 : decode qc_X_headByPath 49 = .ok (.lload 6, 2) := by decide +kernel
theorem qd_X_headByPath_51 : decode qc_X_headByPath 51 = .ok (.aload_n 0, 1) := by decide +kernel
theorem qd_X_headByPath_52 : decode qc_X_headByPath 52 = .ok (.iload_n 1, 1) := by decide +kernel
theorem qd_X_headByPath_53 : decode qc_X_headByPath 53 = .ok (.iconst 1, 1) := by decide +kernel
theorem qd_X_headByPath_54 : decode qc_X_headByPath 54 = .ok (.isub, 1) := by decide +kernel
theorem qd_X_headByPath_55 : decode qc_X_headByPath 55 = .ok (.iload_n 2, 1) := by decide +kernel
theorem qd_X_headByPath_56 : decode qc_X_headByPath 56 = .ok (.iload 8, 2) := by decide +kernel
theorem qd_X_headByPath_58 : decode qc_X_headByPath 58 = .ok (.isub, 1) := by decide +kernel
theorem qd_X_headByPath_59 : decode qc_X_headByPath 59 = .ok (.iload_n 3, 1) := by decide +kernel
theorem qd_X_headByPath_60 : decode qc_X_headByPath 60 = .ok (.iload 8, 2) := by decide +kernel
theorem qd_X_headByPath_62 : decode qc_X_headByPath 62 = .ok (.isub, 1) := by decide +kernel
theorem qd_X_headByPath_63 : decode qc_X_headByPath 63 = .ok (.lload 4, 2) := by decide +kernel
theorem qd_X_headByPath_65 : decode qc_X_headByPath 65 = .ok (.invokestatic 55, 3) := by decide +kernel
theorem qd_X_headByPath_68 : decode qc_X_headByPath 68 = .ok (.invokestatic 80, 3) := by decide +kernel
theorem qd_X_headByPath_71 : decode qc_X_headByPath 71 = .ok (.lreturn, 1) := by decide +kernel
theorem qd_X_nodeOf_0 : decode qc_X_nodeOf 0 = .ok (.ldc2_w 78, 3) := by decide +kernel
theorem qd_X_nodeOf_3 : decode qc_X_nodeOf 3 = .ok (.lload_n 0, 1) := by decide +kernel
theorem qd_X_nodeOf_4 : decode qc_X_nodeOf 4 = .ok (.invokestatic 74, 3) := by decide +kernel
theorem qd_X_nodeOf_7 : decode qc_X_nodeOf 7 = .ok (.lload_n 2, 1) := by decide +kernel
theorem qd_X_nodeOf_8 : decode qc_X_nodeOf 8 = .ok (.invokestatic 74, 3) := by decide +kernel
theorem qd_X_nodeOf_11 : decode qc_X_nodeOf 11 = .ok (.lreturn, 1) := by decide +kernel
theorem qd_X_grew_0 : decode qc_X_grew 0 = .ok (.iload_n 1, 1) := by decide +kernel
theorem qd_X_grew_1 : decode qc_X_grew 1 = .ok (.iconst 1, 1) := by decide +kernel
theorem qd_X_grew_2 : decode qc_X_grew 2 = .ok (.if_icmp .lt 14, 3) := by decide +kernel
theorem qd_X_grew_5 : decode qc_X_grew 5 = .ok (.iload_n 1, 1) := by decide +kernel
theorem qd_X_grew_6 : decode qc_X_grew 6 = .ok (.iload_n 2, 1) := by decide +kernel
theorem qd_X_grew_7 : decode qc_X_grew 7 = .ok (.if_icmp .gt 9, 3) := by decide +kernel
theorem qd_X_grew_10 : decode qc_X_grew 10 = .ok (.iload_n 2, 1) := by decide +kernel
theorem qd_X_grew_11 : decode qc_X_grew 11 = .ok (.ldc 54, 2) := by decide +kernel
theorem qd_X_grew_13 : decode qc_X_grew 13 = .ok (.if_icmp .le 5, 3) := by decide +kernel
theorem qd_X_grew_16 : decode qc_X_grew 16 = .ok (.iconst 0, 1) := by decide +kernel
theorem qd_X_grew_17 : decode qc_X_grew 17 = .ok (.ireturn, 1) := by decide +kernel
theorem qd_X_grew_18 : decode qc_X_grew 18 = .ok (.aload_n 0, 1) := by decide +kernel
theorem qd_X_grew_19 : decode qc_X_grew 19 = .ok (.getfield 20, 3) := by decide +kernel
theorem qd_X_grew_22 : decode qc_X_grew 22 = .ok (.iload_n 1, 1) := by decide +kernel
theorem qd_X_grew_23 : decode qc_X_grew 23 = .ok (.iload_n 2, 1) := by decide +kernel
theorem qd_X_grew_24 : decode qc_X_grew 24 = .ok (.invokestatic 48, 3) := by decide +kernel
theorem qd_X_grew_27 : decode qc_X_grew 27 = .ok (.if_icmp .eq 5, 3) := by decide +kernel
theorem qd_X_grew_30 : decode qc_X_grew 30 = .ok (.iconst 0, 1) := by decide +kernel
theorem qd_X_grew_31 : decode qc_X_grew 31 = .ok (.ireturn, 1) := by decide +kernel
theorem qd_X_grew_32 : decode qc_X_grew 32 = .ok (.aload_n 0, 1) := by decide +kernel
theorem qd_X_grew_33 : decode qc_X_grew 33 = .ok (.getfield 17, 3) := by decide +kernel
theorem qd_X_grew_36 : decode qc_X_grew 36 = .ok (.aload_n 0, 1) := by decide +kernel
theorem qd_X_grew_37 : decode qc_X_grew 37 = .ok (.getfield 20, 3) := by decide +kernel
theorem qd_X_grew_40 : decode qc_X_grew 40 = .ok (.iload_n 1, 1) := by decide +kernel
theorem qd_X_grew_41 : decode qc_X_grew 41 = .ok (.iload_n 2, 1) := by decide +kernel
theorem qd_X_grew_42 : decode qc_X_grew 42 = .ok (.lload_n 3, 1) := by decide +kernel
theorem qd_X_grew_43 : decode qc_X_grew 43 = .ok (.invokestatic 59, 3) := by decide +kernel
theorem qd_X_grew_46 : decode qc_X_grew 46 = .ok (.lload_n 3, 1) := by decide +kernel
theorem qd_X_grew_47 : decode qc_X_grew 47 = .ok (.lcmp, 1) := by decide +kernel
theorem qd_X_grew_48 : decode qc_X_grew 48 = .ok (.ifCond .ne 27, 3) := by decide +kernel
theorem qd_X_grew_51 : decode qc_X_grew 51 = .ok (.aload_n 0, 1) := by decide +kernel
theorem qd_X_grew_52 : decode qc_X_grew 52 = .ok (.getfield 17, 3) := by decide +kernel
theorem qd_X_grew_55 : decode qc_X_grew 55 = .ok (.aload_n 0, 1) := by decide +kernel
theorem qd_X_grew_56 : decode qc_X_grew 56 = .ok (.getfield 20, 3) := by decide +kernel
theorem qd_X_grew_59 : decode qc_X_grew 59 = .ok (.iload_n 1, 1) := by decide +kernel
theorem qd_X_grew_60 : decode qc_X_grew 60 = .ok (.iload_n 2, 1) := by decide +kernel
theorem qd_X_grew_61 : decode qc_X_grew 61 = .ok (.lload_n 3, 1) := by decide +kernel
theorem qd_X_grew_62 : decode qc_X_grew 62 = .ok (.invokestatic 62, 3) := by decide +kernel
theorem qd_X_grew_65 : decode qc_X_grew 65 = .ok (.lload 5, 2) := by decide +kernel
theorem qd_X_grew_67 : decode qc_X_grew 67 = .ok (.lcmp, 1) := by decide +kernel
theorem qd_X_grew_68 : decode qc_X_grew 68 = .ok (.ifCond .ne 7, 3) := by decide +kernel
theorem qd_X_grew_71 : decode qc_X_grew 71 = .ok (.iconst 1, 1) := by decide +kernel
theorem qd_X_grew_72 : decode qc_X_grew 72 = .ok (.goto 4, 3) := by decide +kernel
theorem qd_X_grew_75 : decode qc_X_grew 75 = .ok (.iconst 0, 1) := by decide +kernel
theorem qd_X_grew_76 : decode qc_X_grew 76 = .ok (.ireturn, 1) := by decide +kernel
theorem qd_X_stepsLength_0 : decode qc_X_stepsLength 0 = .ok (.iload_n 0, 1) := by decide +kernel
theorem qd_X_stepsLength_1 : decode qc_X_stepsLength 1 = .ok (.istore_n 2, 1) := by decide +kernel
theorem qd_X_stepsLength_2 : decode qc_X_stepsLength 2 = .ok (.iload_n 1, 1) := by decide +kernel
theorem qd_X_stepsLength_3 : decode qc_X_stepsLength 3 = .ok (.istore_n 3, 1) := by decide +kernel
theorem qd_X_stepsLength_4 : decode qc_X_stepsLength 4 = .ok (.iconst 1, 1) := by decide +kernel
theorem qd_X_stepsLength_5 : decode qc_X_stepsLength 5 = .ok (.istore 4, 2) := by decide +kernel
theorem qd_X_stepsLength_7 : decode qc_X_stepsLength 7 = .ok (.iconst 0, 1) := by decide +kernel
theorem qd_X_stepsLength_8 : decode qc_X_stepsLength 8 = .ok (.istore 5, 2) := by decide +kernel
theorem qd_X_stepsLength_10 : decode qc_X_stepsLength 10 = .ok (.iload_n 2, 1) := by decide +kernel
theorem qd_X_stepsLength_11 : decode qc_X_stepsLength 11 = .ok (.iload_n 3, 1) := by decide +kernel
theorem qd_X_stepsLength_12 : decode qc_X_stepsLength 12 = .ok (.if_icmp .eq 47, 3) := by decide +kernel
theorem qd_X_stepsLength_15 : decode qc_X_stepsLength 15 = .ok (.iload 5, 2) := by decide +kernel
theorem qd_X_stepsLength_17 : decode qc_X_stepsLength 17 = .ok (.bipush 39, 2) := by decide +kernel
theorem qd_X_stepsLength_19 : decode qc_X_stepsLength 19 = .ok (.if_icmp .ge 40, 3) := by decide +kernel
theorem qd_X_stepsLength_22 : decode qc_X_stepsLength 22 = .ok (.iload_n 3, 1) := by decide +kernel
theorem qd_X_stepsLength_23 : decode qc_X_stepsLength 23 = .ok (.invokestatic 44, 3) := by decide +kernel
theorem qd_X_stepsLength_26 : decode qc_X_stepsLength 26 = .ok (.istore 6, 2) := by decide +kernel
theorem qd_X_stepsLength_28 : decode qc_X_stepsLength 28 = .ok (.iload_n 2, 1) := by decide +kernel
theorem qd_X_stepsLength_29 : decode qc_X_stepsLength 29 = .ok (.iload 6, 2) := by decide +kernel
theorem qd_X_stepsLength_31 : decode qc_X_stepsLength 31 = .ok (.if_icmp .gt 9, 3) := by decide +kernel
theorem qd_X_stepsLength_34 : decode qc_X_stepsLength 34 = .ok (.iload 6, 2) := by decide +kernel
theorem qd_X_stepsLength_36 : decode qc_X_stepsLength 36 = .ok (.istore_n 3, 1) := by decide +kernel
theorem qd_X_stepsLength_37 : decode qc_X_stepsLength 37 = .ok (.goto 16, 3) := by decide +kernel
theorem qd_X_stepsLength_40 : decode qc_X_stepsLength 40 = .ok (.iload_n 2, 1) := by decide +kernel
theorem qd_X_stepsLength_41 : decode qc_X_stepsLength 41 = .ok (.iload 6, 2) := by decide +kernel
theorem qd_X_stepsLength_43 : decode qc_X_stepsLength 43 = .ok (.isub, 1) := by decide +kernel
theorem qd_X_stepsLength_44 : decode qc_X_stepsLength 44 = .ok (.istore_n 2, 1) := by decide +kernel
theorem qd_X_stepsLength_45 : decode qc_X_stepsLength 45 = .ok (.iload_n 3, 1) := by decide +kernel
theorem qd_X_stepsLength_46 : decode qc_X_stepsLength 46 = .ok (.iload 6, 2) := by decide +kernel
theorem qd_X_stepsLength_48 : decode qc_X_stepsLength 48 = .ok (.isub, 1) := by decide +kernel
theorem qd_X_stepsLength_49 : decode qc_X_stepsLength 49 = .ok (.istore_n 3, 1) := by decide +kernel
theorem qd_X_stepsLength_50 : decode qc_X_stepsLength 50 = .ok (.iconst 0, 1) := by decide +kernel
theorem qd_X_stepsLength_51 : decode qc_X_stepsLength 51 = .ok (.istore 4, 2) := by decide +kernel
theorem qd_X_stepsLength_53 : decode qc_X_stepsLength 53 = .ok (.iinc 5 1, 3) := by decide +kernel
theorem qd_X_stepsLength_56 : decode qc_X_stepsLength 56 = .ok (.goto (-46), 3) := by decide +kernel
theorem qd_X_stepsLength_59 : decode qc_X_stepsLength 59 = .ok (.iload 4, 2) := by decide +kernel
theorem qd_X_stepsLength_61 : decode qc_X_stepsLength 61 = .ok (.ifCond .eq 8, 3) := by decide +kernel
theorem qd_X_stepsLength_64 : decode qc_X_stepsLength 64 = .ok (.iload 5, 2) := by decide +kernel
theorem qd_X_stepsLength_66 : decode qc_X_stepsLength 66 = .ok (.goto 7, 3) := by decide +kernel
theorem qd_X_stepsLength_69 : decode qc_X_stepsLength 69 = .ok (.iload 5, 2) := by decide +kernel
theorem qd_X_stepsLength_71 : decode qc_X_stepsLength 71 = .ok (.iconst 1, 1) := by decide +kernel
theorem qd_X_stepsLength_72 : decode qc_X_stepsLength 72 = .ok (.iadd, 1) := by decide +kernel
theorem qd_X_stepsLength_73 : decode qc_X_stepsLength 73 = .ok (.ireturn, 1) := by decide +kernel
theorem qd_X_oldHeadBySteps_0 : decode qc_X_oldHeadBySteps 0 = .ok (.iload_n 1, 1) := by decide +kernel
theorem qd_X_oldHeadBySteps_1 : decode qc_X_oldHeadBySteps 1 = .ok (.ifCond .gt 6, 3) := by decide +kernel
theorem qd_X_oldHeadBySteps_4 : decode qc_X_oldHeadBySteps 4 = .ok (.lload 4, 2) := by decide +kernel
theorem qd_X_oldHeadBySteps_6 : decode qc_X_oldHeadBySteps 6 = .ok (.lreturn, 1) := by decide +kernel
theorem qd_X_oldHeadBySteps_7 : decode qc_X_oldHeadBySteps 7 = .ok (.aload_n 0, 1) := by decide +kernel
theorem qd_X_oldHeadBySteps_8 : decode qc_X_oldHeadBySteps 8 = .ok (.iload_n 1, 1) := by decide +kernel
theorem qd_X_oldHeadBySteps_9 : decode qc_X_oldHeadBySteps 9 = .ok (.iconst 1, 1) := by decide +kernel
theorem qd_X_oldHeadBySteps_10 : decode qc_X_oldHeadBySteps 10 = .ok (.isub, 1) := by decide +kernel
theorem qd_X_oldHeadBySteps_11 : decode qc_X_oldHeadBySteps 11 = .ok (.laload, 1) := by decide +kernel
theorem qd_X_oldHeadBySteps_12 : decode qc_X_oldHeadBySteps 12 = .ok (.lstore 6, 2) := by decide +kernel
theorem qd_X_oldHeadBySteps_14 : decode qc_X_oldHeadBySteps 14 = .ok (.iload_n 2, 1) := by decide +kernel
theorem qd_X_oldHeadBySteps_15 : decode qc_X_oldHeadBySteps 15 = .ok (.iload_n 3, 1) := by decide +kernel
theorem qd_X_oldHeadBySteps_16 : decode qc_X_oldHeadBySteps 16 = .ok (.if_icmp .lt 6, 3) := by decide +kernel
theorem qd_X_oldHeadBySteps_19 : decode qc_X_oldHeadBySteps 19 = .ok (.lload 6, 2) := by decide +kernel
theorem qd_X_oldHeadBySteps_21 : decode qc_X_oldHeadBySteps 21 = .ok (.lreturn, 1) := by decide +kernel
theorem qd_X_oldHeadBySteps_22 : decode qc_X_oldHeadBySteps 22 = .ok (.iload_n 3, 1) := by decide +kernel
theorem qd_X_oldHeadBySteps_23 : decode qc_X_oldHeadBySteps 23 = .ok (.invokestatic 44, 3) := by decide +kernel
theorem qd_X_oldHeadBySteps_26 : decode qc_X_oldHeadBySteps 26 = .ok (.istore 8, 2) := by decide +kernel
theorem qd_X_oldHeadBySteps_28 : decode qc_X_oldHeadBySteps 28 = .ok (.iload_n 2, 1) := by decide +kernel
theorem qd_X_oldHeadBySteps_29 : decode qc_X_oldHeadBySteps 29 = .ok (.iload 8, 2) := by decide +kernel
theorem qd_X_oldHeadBySteps_31 : decode qc_X_oldHeadBySteps 31 = .ok (.if_icmp .gt 16, 3) := by decide +kernel
theorem qd_X_oldHeadBySteps_34 : decode qc_X_oldHeadBySteps 34 = .ok (.aload_n 0, 1) := by decide +kernel
theorem qd_X_oldHeadBySteps_35 : decode qc_X_oldHeadBySteps 35 = .ok (.iload_n 1, 1) := by decide +kernel
theorem qd_X_oldHeadBySteps_36 : decode qc_X_oldHeadBySteps 36 = .ok (.iconst 1, 1) := by decide +kernel
theorem qd_X_oldHeadBySteps_37 : decode qc_X_oldHeadBySteps 37 = .ok (.isub, 1) := by decide +kernel
theorem qd_X_oldHeadBySteps_38 : decode qc_X_oldHeadBySteps 38 = .ok (.iload_n 2, 1) := by decide +kernel
theorem qd_X_oldHeadBySteps_39 : decode qc_X_oldHeadBySteps 39 = .ok (.iload 8, 2) := by decide +kernel
theorem qd_X_oldHeadBySteps_41 : decode qc_X_oldHeadBySteps 41 = .ok (.lload 4, 2) := by decide +kernel
theorem qd_X_oldHeadBySteps_43 : decode qc_X_oldHeadBySteps 43 = .ok (.invokestatic 59, 3) := by decide +kernel
theorem qd_X_oldHeadBySteps_46 : decode qc_X_oldHeadBySteps 46 = .ok (.lreturn, 1) := by decide +kernel
theorem qd_X_oldHeadBySteps_47 : decode qc_X_oldHeadBySteps 47 = .ok (.lload 6, 2) := by decide +kernel
theorem qd_X_oldHeadBySteps_49 : decode qc_X_oldHeadBySteps 49 = .ok (.aload_n 0, 1) := by decide +kernel
theorem qd_X_oldHeadBySteps_50 : decode qc_X_oldHeadBySteps 50 = .ok (.iload_n 1, 1) := by decide +kernel
theorem qd_X_oldHeadBySteps_51 : decode qc_X_oldHeadBySteps 51 = .ok (.iconst 1, 1) := by decide +kernel
theorem qd_X_oldHeadBySteps_52 : decode qc_X_oldHeadBySteps 52 = .ok (.isub, 1) := by decide +kernel
theorem qd_X_oldHeadBySteps_53 : decode qc_X_oldHeadBySteps 53 = .ok (.iload_n 2, 1) := by decide +kernel
theorem qd_X_oldHeadBySteps_54 : decode qc_X_oldHeadBySteps 54 = .ok (.iload 8, 2) := by decide +kernel
theorem qd_X_oldHeadBySteps_56 : decode qc_X_oldHeadBySteps 56 = .ok (.isub, 1) := by decide +kernel
theorem qd_X_oldHeadBySteps_57 : decode qc_X_oldHeadBySteps 57 = .ok (.iload_n 3, 1) := by decide +kernel
theorem qd_X_oldHeadBySteps_58 : decode qc_X_oldHeadBySteps 58 = .ok (.iload 8, 2) := by decide +kernel
theorem qd_X_oldHeadBySteps_60 : decode qc_X_oldHeadBySteps 60 = .ok (.isub, 1) := by decide +kernel
theorem qd_X_oldHeadBySteps_61 : decode qc_X_oldHeadBySteps 61 = .ok (.lload 4, 2) := by decide +kernel
theorem qd_X_oldHeadBySteps_63 : decode qc_X_oldHeadBySteps 63 = .ok (.invokestatic 59, 3) := by decide +kernel
theorem qd_X_oldHeadBySteps_66 : decode qc_X_oldHeadBySteps 66 = .ok (.invokestatic 80, 3) := by decide +kernel
theorem qd_X_oldHeadBySteps_69 : decode qc_X_oldHeadBySteps 69 = .ok (.lreturn, 1) := by decide +kernel
theorem qd_X_newHeadBySteps_0 : decode qc_X_newHeadBySteps 0 = .ok (.iload_n 1, 1) := by decide +kernel
theorem qd_X_newHeadBySteps_1 : decode qc_X_newHeadBySteps 1 = .ok (.ifCond .gt 6, 3) := by decide +kernel
theorem qd_X_newHeadBySteps_4 : decode qc_X_newHeadBySteps 4 = .ok (.lload 4, 2) := by decide +kernel
theorem qd_X_newHeadBySteps_6 : decode qc_X_newHeadBySteps 6 = .ok (.lreturn, 1) := by decide +kernel
theorem qd_X_newHeadBySteps_7 : decode qc_X_newHeadBySteps 7 = .ok (.aload_n 0, 1) := by decide +kernel
theorem qd_X_newHeadBySteps_8 : decode qc_X_newHeadBySteps 8 = .ok (.iload_n 1, 1) := by decide +kernel
theorem qd_X_newHeadBySteps_9 : decode qc_X_newHeadBySteps 9 = .ok (.iconst 1, 1) := by decide +kernel
theorem qd_X_newHeadBySteps_10 : decode qc_X_newHeadBySteps 10 = .ok (.isub, 1) := by decide +kernel
theorem qd_X_newHeadBySteps_11 : decode qc_X_newHeadBySteps 11 = .ok (.laload, 1) := by decide +kernel
theorem qd_X_newHeadBySteps_12 : decode qc_X_newHeadBySteps 12 = .ok (.lstore 6, 2) := by decide +kernel
theorem qd_X_newHeadBySteps_14 : decode qc_X_newHeadBySteps 14 = .ok (.iload_n 2, 1) := by decide +kernel
theorem qd_X_newHeadBySteps_15 : decode qc_X_newHeadBySteps 15 = .ok (.iload_n 3, 1) := by decide +kernel
theorem qd_X_newHeadBySteps_16 : decode qc_X_newHeadBySteps 16 = .ok (.if_icmp .lt 6, 3) := by decide +kernel
theorem qd_X_newHeadBySteps_19 : decode qc_X_newHeadBySteps 19 = .ok (.lload 6, 2) := by decide +kernel
theorem qd_X_newHeadBySteps_21 : decode qc_X_newHeadBySteps 21 = .ok (.lreturn, 1) := by decide +kernel
theorem qd_X_newHeadBySteps_22 : decode qc_X_newHeadBySteps 22 = .ok (.iload_n 3, 1) := by decide +kernel
theorem qd_X_newHeadBySteps_23 : decode qc_X_newHeadBySteps 23 = .ok (.invokestatic 44, 3) := by decide +kernel
theorem qd_X_newHeadBySteps_26 : decode qc_X_newHeadBySteps 26 = .ok (.istore 8, 2) := by decide +kernel
theorem qd_X_newHeadBySteps_28 : decode qc_X_newHeadBySteps 28 = .ok (.iload_n 2, 1) := by decide +kernel
theorem qd_X_newHeadBySteps_29 : decode qc_X_newHeadBySteps 29 = .ok (.iload 8, 2) := by decide +kernel
theorem qd_X_newHeadBySteps_31 : decode qc_X_newHeadBySteps 31 = .ok (.if_icmp .gt 21, 3) := by decide +kernel
theorem qd_X_newHeadBySteps_34 : decode qc_X_newHeadBySteps 34 = .ok (.aload_n 0, 1) := by decide +kernel
theorem qd_X_newHeadBySteps_35 : decode qc_X_newHeadBySteps 35 = .ok (.iload_n 1, 1) := by decide +kernel
theorem qd_X_newHeadBySteps_36 : decode qc_X_newHeadBySteps 36 = .ok (.iconst 1, 1) := by decide +kernel
theorem qd_X_newHeadBySteps_37 : decode qc_X_newHeadBySteps 37 = .ok (.isub, 1) := by decide +kernel
theorem qd_X_newHeadBySteps_38 : decode qc_X_newHeadBySteps 38 = .ok (.iload_n 2, 1) := by decide +kernel
theorem qd_X_newHeadBySteps_39 : decode qc_X_newHeadBySteps 39 = .ok (.iload 8, 2) := by decide +kernel
theorem qd_X_newHeadBySteps_41 : decode qc_X_newHeadBySteps 41 = .ok (.lload 4, 2) := by decide +kernel
theorem qd_X_newHeadBySteps_43 : decode qc_X_newHeadBySteps 43 = .ok (.invokestatic 62, 3) := by decide +kernel
theorem qd_X_newHeadBySteps_46 : decode qc_X_newHeadBySteps 46 = .ok (.lload 6, 2) := by decide +kernel
theorem qd_X_newHeadBySteps_48 : decode qc_X_newHeadBySteps 48 = .ok (.invokestatic 80, 3) := by decide +kernel
theorem qd_X_newHeadBySteps_51 : decode qc_X_newHeadBySteps 51 = .ok (.lreturn, 1) := by decide +kernel
theorem qd_X_newHeadBySteps_52 : decode qc_X_newHeadBySteps 52 = .ok (.lload 6, 2) := by decide +kernel
theorem qd_X_newHeadBySteps_54 : decode qc_X_newHeadBySteps 54 = .ok (.aload_n 0, 1) := by decide +kernel
theorem qd_X_newHeadBySteps_55 : decode qc_X_newHeadBySteps 55 = .ok (.iload_n 1, 1) := by decide +kernel
theorem qd_X_newHeadBySteps_56 : decode qc_X_newHeadBySteps 56 = .ok (.iconst 1, 1) := by decide +kernel
theorem qd_X_newHeadBySteps_57 : decode qc_X_newHeadBySteps 57 = .ok (.isub, 1) := by decide +kernel
theorem qd_X_newHeadBySteps_58 : decode qc_X_newHeadBySteps 58 = .ok (.iload_n 2, 1) := by decide +kernel
theorem qd_X_newHeadBySteps_59 : decode qc_X_newHeadBySteps 59 = .ok (.iload 8, 2) := by decide +kernel
theorem qd_X_newHeadBySteps_61 : decode qc_X_newHeadBySteps 61 = .ok (.isub, 1) := by decide +kernel
theorem qd_X_newHeadBySteps_62 : decode qc_X_newHeadBySteps 62 = .ok (.iload_n 3, 1) := by decide +kernel
theorem qd_X_newHeadBySteps_63 : decode qc_X_newHeadBySteps 63 = .ok (.iload 8, 2) := by decide +kernel
theorem qd_X_newHeadBySteps_65 : decode qc_X_newHeadBySteps 65 = .ok (.isub, 1) := by decide +kernel
theorem qd_X_newHeadBySteps_66 : decode qc_X_newHeadBySteps 66 = .ok (.lload 4, 2) := by decide +kernel
theorem qd_X_newHeadBySteps_68 : decode qc_X_newHeadBySteps 68 = .ok (.invokestatic 62, 3) := by decide +kernel
theorem qd_X_newHeadBySteps_71 : decode qc_X_newHeadBySteps 71 = .ok (.invokestatic 80, 3) := by decide +kernel
theorem qd_X_newHeadBySteps_74 : decode qc_X_newHeadBySteps 74 = .ok (.lreturn, 1) := by decide +kernel
theorem qd_X_count_0 : decode qc_X_count 0 = .ok (.iload_n 1, 1) := by decide +kernel
theorem qd_X_count_1 : decode qc_X_count 1 = .ok (.tableswitch 45 0 2 #[27, 32, 37], 27) := by decide +kernel
theorem qd_X_count_28 : decode qc_X_count 28 = .ok (.aload_n 0, 1) := by decide +kernel
theorem qd_X_count_29 : decode qc_X_count 29 = .ok (.getfield 13, 3) := by decide +kernel
theorem qd_X_count_32 : decode qc_X_count 32 = .ok (.ireturn, 1) := by decide +kernel
theorem qd_X_count_33 : decode qc_X_count 33 = .ok (.aload_n 0, 1) := by decide +kernel
theorem qd_X_count_34 : decode qc_X_count 34 = .ok (.getfield 20, 3) := by decide +kernel
theorem qd_X_count_37 : decode qc_X_count 37 = .ok (.ireturn, 1) := by decide +kernel
theorem qd_X_count_38 : decode qc_X_count 38 = .ok (.aload_n 0, 1) := by decide +kernel
theorem qd_X_count_39 : decode qc_X_count 39 = .ok (.getfield 13, 3) := by decide +kernel
theorem qd_X_count_42 : decode qc_X_count 42 = .ok (.invokestatic 65, 3) := by decide +kernel
theorem qd_X_count_45 : decode qc_X_count 45 = .ok (.ireturn, 1) := by decide +kernel
theorem qd_X_count_46 : decode qc_X_count 46 = .ok (.iconst (-1), 1) := by decide +kernel
theorem qd_X_count_47 : decode qc_X_count 47 = .ok (.ireturn, 1) := by decide +kernel
theorem qd_X_add_0 : decode qc_X_add 0 = .ok (.aload_n 0, 1) := by decide +kernel
theorem qd_X_add_1 : decode qc_X_add 1 = .ok (.getfield 13, 3) := by decide +kernel
theorem qd_X_add_4 : decode qc_X_add 4 = .ok (.sipush 600, 3) := by decide +kernel
theorem qd_X_add_7 : decode qc_X_add 7 = .ok (.if_icmp .lt 11, 3) := by decide +kernel
theorem qd_X_add_10 : decode qc_X_add 10 = .ok (.new 23, 3) := by decide +kernel
theorem qd_X_add_13 : decode qc_X_add 13 = .ok (.dup, 1) := by decide +kernel
theorem qd_X_add_14 : decode qc_X_add 14 = .ok (.invokespecial 25, 3) := by decide +kernel
theorem qd_X_add_17 : decode qc_X_add 17 = .ok (.athrow, 1) := by decide +kernel
theorem qd_X_add_18 : decode qc_X_add 18 = .ok (.aload_n 0, 1) := by decide +kernel
theorem qd_X_add_19 : decode qc_X_add 19 = .ok (.getfield 9, 3) := by decide +kernel
theorem qd_X_add_22 : decode qc_X_add 22 = .ok (.aload_n 0, 1) := by decide +kernel
theorem qd_X_add_23 : decode qc_X_add 23 = .ok (.getfield 13, 3) := by decide +kernel
theorem qd_X_add_26 : decode qc_X_add 26 = .ok (.lload_n 1, 1) := by decide +kernel
theorem qd_X_add_27 : decode qc_X_add 27 = .ok (.invokestatic 26, 3) := by decide +kernel
theorem qd_X_add_30 : decode qc_X_add 30 = .ok (.lastore, 1) := by decide +kernel
theorem qd_X_add_31 : decode qc_X_add 31 = .ok (.aload_n 0, 1) := by decide +kernel
theorem qd_X_add_32 : decode qc_X_add 32 = .ok (.dup, 1) := by decide +kernel
theorem qd_X_add_33 : decode qc_X_add 33 = .ok (.getfield 13, 3) := by decide +kernel
theorem qd_X_add_36 : decode qc_X_add 36 = .ok (.iconst 1, 1) := by decide +kernel
theorem qd_X_add_37 : decode qc_X_add 37 = .ok (.iadd, 1) := by decide +kernel
theorem qd_X_add_38 : decode qc_X_add 38 = .ok (.putfield 13, 3) := by decide +kernel
theorem qd_X_add_41 : decode qc_X_add 41 = .ok (.aload_n 0, 1) := by decide +kernel
theorem qd_X_add_42 : decode qc_X_add 42 = .ok (.getfield 13, 3) := by decide +kernel
theorem qd_X_add_45 : decode qc_X_add 45 = .ok (.ireturn, 1) := by decide +kernel
theorem qd_X_fill_0 : decode qc_X_fill 0 = .ok (.iload_n 1, 1) := by decide +kernel
theorem qd_X_fill_1 : decode qc_X_fill 1 = .ok (.iconst 1, 1) := by decide +kernel
theorem qd_X_fill_2 : decode qc_X_fill 2 = .ok (.if_icmp .lt 10, 3) := by decide +kernel
theorem qd_X_fill_5 : decode qc_X_fill 5 = .ok (.iload_n 1, 1) := by decide +kernel
theorem qd_X_fill_6 : decode qc_X_fill 6 = .ok (.sipush 200, 3) := by decide +kernel
theorem qd_X_fill_9 : decode qc_X_fill 9 = .ok (.if_icmp .le 11, 3) := by decide +kernel
theorem qd_X_fill_12 : decode qc_X_fill 12 = .ok (.new 30, 3) := by decide +kernel
theorem qd_X_fill_15 : decode qc_X_fill 15 = .ok (.dup, 1) := by decide +kernel
theorem qd_X_fill_16 : decode qc_X_fill 16 = .ok (.invokespecial 32, 3) := by decide +kernel
theorem qd_X_fill_19 : decode qc_X_fill 19 = .ok (.athrow, 1) := by decide +kernel
theorem qd_X_fill_20 : decode qc_X_fill 20 = .ok (.aload_n 0, 1) := by decide +kernel
theorem qd_X_fill_21 : decode qc_X_fill 21 = .ok (.getfield 13, 3) := by decide +kernel
theorem qd_X_fill_24 : decode qc_X_fill 24 = .ok (.iload_n 1, 1) := by decide +kernel
theorem qd_X_fill_25 : decode qc_X_fill 25 = .ok (.iadd, 1) := by decide +kernel
theorem qd_X_fill_26 : decode qc_X_fill 26 = .ok (.sipush 600, 3) := by decide +kernel
theorem qd_X_fill_29 : decode qc_X_fill 29 = .ok (.if_icmp .le 11, 3) := by decide +kernel
theorem qd_X_fill_32 : decode qc_X_fill 32 = .ok (.new 23, 3) := by decide +kernel
theorem qd_X_fill_35 : decode qc_X_fill 35 = .ok (.dup, 1) := by decide +kernel
theorem qd_X_fill_36 : decode qc_X_fill 36 = .ok (.invokespecial 25, 3) := by decide +kernel
theorem qd_X_fill_39 : decode qc_X_fill 39 = .ok (.athrow, 1) := by decide +kernel
theorem qd_X_fill_40 : decode qc_X_fill 40 = .ok (.iconst 0, 1) := by decide +kernel
theorem qd_X_fill_41 : decode qc_X_fill 41 = .ok (.istore 6, 2) := by decide +kernel
theorem qd_X_fill_43 : decode qc_X_fill 43 = .ok (.iload 6, 2) := by decide +kernel
theorem qd_X_fill_45 : decode qc_X_fill 45 = .ok (.iload_n 1, 1) := by decide +kernel
theorem qd_X_fill_46 : decode qc_X_fill 46 = .ok (.if_icmp .ge 32, 3) := by decide +kernel
theorem qd_X_fill_49 : decode qc_X_fill 49 = .ok (.aload_n 0, 1) := by decide +kernel
theorem qd_X_fill_50 : decode qc_X_fill 50 = .ok (.getfield 9, 3) := by decide +kernel
theorem qd_X_fill_53 : decode qc_X_fill 53 = .ok (.aload_n 0, 1) := by decide +kernel
theorem qd_X_fill_54 : decode qc_X_fill 54 = .ok (.getfield 13, 3) := by decide +kernel
theorem qd_X_fill_57 : decode qc_X_fill 57 = .ok (.iload 6, 2) := by decide +kernel
theorem qd_X_fill_59 : decode qc_X_fill 59 = .ok (.iadd, 1) := by decide +kernel
theorem qd_X_fill_60 : decode qc_X_fill 60 = .ok (.lload_n 2, 1) := by decide +kernel
theorem qd_X_fill_61 : decode qc_X_fill 61 = .ok (.iload 6, 2) := by decide +kernel
theorem qd_X_fill_63 : decode qc_X_fill 63 = .ok (.i2l, 1) := by decide +kernel
theorem qd_X_fill_64 : decode qc_X_fill 64 = .ok (.lload 4, 2) := by decide +kernel
theorem qd_X_fill_66 : decode qc_X_fill 66 = .ok (.lmul, 1) := by decide +kernel
theorem qd_X_fill_67 : decode qc_X_fill 67 = .ok (.ladd, 1) := by decide +kernel
theorem qd_X_fill_68 : decode qc_X_fill 68 = .ok (.invokestatic 26, 3) := by decide +kernel
theorem qd_X_fill_71 : decode qc_X_fill 71 = .ok (.lastore, 1) := by decide +kernel
theorem qd_X_fill_72 : decode qc_X_fill 72 = .ok (.iinc 6 1, 3) := by decide +kernel
theorem qd_X_fill_75 : decode qc_X_fill 75 = .ok (.goto (-32), 3) := by decide +kernel
theorem qd_X_fill_78 : decode qc_X_fill 78 = .ok (.aload_n 0, 1) := by decide +kernel
theorem qd_X_fill_79 : decode qc_X_fill 79 = .ok (.dup, 1) := by decide +kernel
theorem qd_X_fill_80 : decode qc_X_fill 80 = .ok (.getfield 13, 3) := by decide +kernel
theorem qd_X_fill_83 : decode qc_X_fill 83 = .ok (.iload_n 1, 1) := by decide +kernel
theorem qd_X_fill_84 : decode qc_X_fill 84 = .ok (.iadd, 1) := by decide +kernel
theorem qd_X_fill_85 : decode qc_X_fill 85 = .ok (.putfield 13, 3) := by decide +kernel
theorem qd_X_fill_88 : decode qc_X_fill 88 = .ok (.aload_n 0, 1) := by decide +kernel
theorem qd_X_fill_89 : decode qc_X_fill 89 = .ok (.getfield 13, 3) := by decide +kernel
theorem qd_X_fill_92 : decode qc_X_fill 92 = .ok (.ireturn, 1) := by decide +kernel
theorem qd_X_cut_0 : decode qc_X_cut 0 = .ok (.iload_n 1, 1) := by decide +kernel
theorem qd_X_cut_1 : decode qc_X_cut 1 = .ok (.ifCond .lt 11, 3) := by decide +kernel
theorem qd_X_cut_4 : decode qc_X_cut 4 = .ok (.iload_n 1, 1) := by decide +kernel
theorem qd_X_cut_5 : decode qc_X_cut 5 = .ok (.aload_n 0, 1) := by decide +kernel
theorem qd_X_cut_6 : decode qc_X_cut 6 = .ok (.getfield 13, 3) := by decide +kernel
theorem qd_X_cut_9 : decode qc_X_cut 9 = .ok (.if_icmp .le 11, 3) := by decide +kernel
theorem qd_X_cut_12 : decode qc_X_cut 12 = .ok (.new 30, 3) := by decide +kernel
theorem qd_X_cut_15 : decode qc_X_cut 15 = .ok (.dup, 1) := by decide +kernel
theorem qd_X_cut_16 : decode qc_X_cut 16 = .ok (.invokespecial 32, 3) := by decide +kernel
theorem qd_X_cut_19 : decode qc_X_cut 19 = .ok (.athrow, 1) := by decide +kernel
theorem qd_X_cut_20 : decode qc_X_cut 20 = .ok (.aload_n 0, 1) := by decide +kernel
theorem qd_X_cut_21 : decode qc_X_cut 21 = .ok (.getfield 13, 3) := by decide +kernel
theorem qd_X_cut_24 : decode qc_X_cut 24 = .ok (.iload_n 1, 1) := by decide +kernel
theorem qd_X_cut_25 : decode qc_X_cut 25 = .ok (.isub, 1) := by decide +kernel
theorem qd_X_cut_26 : decode qc_X_cut 26 = .ok (.istore_n 2, 1) := by decide +kernel
theorem qd_X_cut_27 : decode qc_X_cut 27 = .ok (.aload_n 0, 1) := by decide +kernel
theorem qd_X_cut_28 : decode qc_X_cut 28 = .ok (.iload_n 1, 1) := by decide +kernel
theorem qd_X_cut_29 : decode qc_X_cut 29 = .ok (.putfield 13, 3) := by decide +kernel
theorem qd_X_cut_32 : decode qc_X_cut 32 = .ok (.iload_n 2, 1) := by decide +kernel
theorem qd_X_cut_33 : decode qc_X_cut 33 = .ok (.ireturn, 1) := by decide +kernel
theorem qd_X_head_0 : decode qc_X_head 0 = .ok (.iload_n 1, 1) := by decide +kernel
theorem qd_X_head_1 : decode qc_X_head 1 = .ok (.ifCond .lt 11, 3) := by decide +kernel
theorem qd_X_head_4 : decode qc_X_head 4 = .ok (.iload_n 1, 1) := by decide +kernel
theorem qd_X_head_5 : decode qc_X_head 5 = .ok (.aload_n 0, 1) := by decide +kernel
theorem qd_X_head_6 : decode qc_X_head 6 = .ok (.getfield 13, 3) := by decide +kernel
theorem qd_X_head_9 : decode qc_X_head 9 = .ok (.if_icmp .le 11, 3) := by decide +kernel
theorem qd_X_head_12 : decode qc_X_head 12 = .ok (.new 33, 3) := by decide +kernel
theorem qd_X_head_15 : decode qc_X_head 15 = .ok (.dup, 1) := by decide +kernel
theorem qd_X_head_16 : decode qc_X_head 16 = .ok (.invokespecial 35, 3) := by decide +kernel
theorem qd_X_head_19 : decode qc_X_head 19 = .ok (.athrow, 1) := by decide +kernel
theorem qd_X_head_20 : decode qc_X_head 20 = .ok (.aload_n 0, 1) := by decide +kernel
theorem qd_X_head_21 : decode qc_X_head 21 = .ok (.getfield 9, 3) := by decide +kernel
theorem qd_X_head_24 : decode qc_X_head 24 = .ok (.iconst 0, 1) := by decide +kernel
theorem qd_X_head_25 : decode qc_X_head 25 = .ok (.iload_n 1, 1) := by decide +kernel
theorem qd_X_head_26 : decode qc_X_head 26 = .ok (.invokestatic 36, 3) := by decide +kernel
theorem qd_X_head_29 : decode qc_X_head 29 = .ok (.lreturn, 1) := by decide +kernel
theorem qd_X_headOf_0 : decode qc_X_headOf 0 = .ok (.iload_n 2, 1) := by decide +kernel
theorem qd_X_headOf_1 : decode qc_X_headOf 1 = .ok (.iload_n 1, 1) := by decide +kernel
theorem qd_X_headOf_2 : decode qc_X_headOf 2 = .ok (.isub, 1) := by decide +kernel
theorem qd_X_headOf_3 : decode qc_X_headOf 3 = .ok (.istore_n 3, 1) := by decide +kernel
theorem qd_X_headOf_4 : decode qc_X_headOf 4 = .ok (.iload_n 3, 1) := by decide +kernel
theorem qd_X_headOf_5 : decode qc_X_headOf 5 = .ok (.ifCond .gt 5, 3) := by decide +kernel
theorem qd_X_headOf_8 : decode qc_X_headOf 8 = .ok (.lconst 0, 1) := by decide +kernel
theorem qd_X_headOf_9 : decode qc_X_headOf 9 = .ok (.lreturn, 1) := by decide +kernel
theorem qd_X_headOf_10 : decode qc_X_headOf 10 = .ok (.iload_n 3, 1) := by decide +kernel
theorem qd_X_headOf_11 : decode qc_X_headOf 11 = .ok (.iconst 1, 1) := by decide +kernel
theorem qd_X_headOf_12 : decode qc_X_headOf 12 = .ok (.if_icmp .ne 7, 3) := by decide +kernel
theorem qd_X_headOf_15 : decode qc_X_headOf 15 = .ok (.aload_n 0, 1) := by decide +kernel
theorem qd_X_headOf_16 : decode qc_X_headOf 16 = .ok (.iload_n 1, 1) := by decide +kernel
theorem qd_X_headOf_17 : decode qc_X_headOf 17 = .ok (.laload, 1) := by decide +kernel
theorem qd_X_headOf_18 : decode qc_X_headOf 18 = .ok (.lreturn, 1) := by decide +kernel
theorem qd_X_headOf_19 : decode qc_X_headOf 19 = .ok (.iload_n 1, 1) := by decide +kernel
theorem qd_X_headOf_20 : decode qc_X_headOf 20 = .ok (.iload_n 3, 1) := by decide +kernel
theorem qd_X_headOf_21 : decode qc_X_headOf 21 = .ok (.invokestatic 44, 3) := by decide +kernel
theorem qd_X_headOf_24 : decode qc_X_headOf 24 = .ok (.iadd, 1) := by decide +kernel
theorem qd_X_headOf_25 : decode qc_X_headOf 25 = .ok (.istore 4, 2) := by decide +kernel
theorem qd_X_headOf_27 : decode qc_X_headOf 27 = .ok (.aload_n 0, 1) := by decide +kernel
theorem qd_X_headOf_28 : decode qc_X_headOf 28 = .ok (.iload_n 1, 1) := by decide +kernel
theorem qd_X_headOf_29 : decode qc_X_headOf 29 = .ok (.iload 4, 2) := by decide +kernel
theorem qd_X_headOf_31 : decode qc_X_headOf 31 = .ok (.invokestatic 36, 3) := by decide +kernel
theorem qd_X_headOf_34 : decode qc_X_headOf 34 = .ok (.aload_n 0, 1) := by decide +kernel
theorem qd_X_headOf_35 : decode qc_X_headOf 35 = .ok (.iload 4, 2) := by decide +kernel
theorem qd_X_headOf_37 : decode qc_X_headOf 37 = .ok (.iload_n 2, 1) := by decide +kernel
theorem qd_X_headOf_38 : decode qc_X_headOf 38 = .ok (.invokestatic 36, 3) := by decide +kernel
theorem qd_X_headOf_41 : decode qc_X_headOf 41 = .ok (.invokestatic 80, 3) := by decide +kernel
theorem qd_X_headOf_44 : decode qc_X_headOf 44 = .ok (.lreturn, 1) := by decide +kernel
theorem qd_X_part_0 : decode qc_X_part 0 = .ok (.iload_n 1, 1) := by decide +kernel
theorem qd_X_part_1 : decode qc_X_part 1 = .ok (.ifCond .lt 16, 3) := by decide +kernel
theorem qd_X_part_4 : decode qc_X_part 4 = .ok (.iload_n 1, 1) := by decide +kernel
theorem qd_X_part_5 : decode qc_X_part 5 = .ok (.iload_n 2, 1) := by decide +kernel
theorem qd_X_part_6 : decode qc_X_part 6 = .ok (.if_icmp .gt 11, 3) := by decide +kernel
theorem qd_X_part_9 : decode qc_X_part 9 = .ok (.iload_n 2, 1) := by decide +kernel
theorem qd_X_part_10 : decode qc_X_part 10 = .ok (.aload_n 0, 1) := by decide +kernel
theorem qd_X_part_11 : decode qc_X_part 11 = .ok (.getfield 13, 3) := by decide +kernel
theorem qd_X_part_14 : decode qc_X_part 14 = .ok (.if_icmp .le 11, 3) := by decide +kernel
theorem qd_X_part_17 : decode qc_X_part 17 = .ok (.new 33, 3) := by decide +kernel
theorem qd_X_part_20 : decode qc_X_part 20 = .ok (.dup, 1) := by decide +kernel
theorem qd_X_part_21 : decode qc_X_part 21 = .ok (.invokespecial 35, 3) := by decide +kernel
theorem qd_X_part_24 : decode qc_X_part 24 = .ok (.athrow, 1) := by decide +kernel
theorem qd_X_part_25 : decode qc_X_part 25 = .ok (.aload_n 0, 1) := by decide +kernel
theorem qd_X_part_26 : decode qc_X_part 26 = .ok (.getfield 9, 3) := by decide +kernel
theorem qd_X_part_29 : decode qc_X_part 29 = .ok (.iload_n 1, 1) := by decide +kernel
theorem qd_X_part_30 : decode qc_X_part 30 = .ok (.iload_n 2, 1) := by decide +kernel
theorem qd_X_part_31 : decode qc_X_part 31 = .ok (.invokestatic 36, 3) := by decide +kernel
theorem qd_X_part_34 : decode qc_X_part 34 = .ok (.lreturn, 1) := by decide +kernel
theorem qd_X_path_0 : decode qc_X_path 0 = .ok (.iload_n 1, 1) := by decide +kernel
theorem qd_X_path_1 : decode qc_X_path 1 = .ok (.ifCond .lt 16, 3) := by decide +kernel
theorem qd_X_path_4 : decode qc_X_path 4 = .ok (.iload_n 1, 1) := by decide +kernel
theorem qd_X_path_5 : decode qc_X_path 5 = .ok (.iload_n 2, 1) := by decide +kernel
theorem qd_X_path_6 : decode qc_X_path 6 = .ok (.if_icmp .ge 11, 3) := by decide +kernel
theorem qd_X_path_9 : decode qc_X_path 9 = .ok (.iload_n 2, 1) := by decide +kernel
theorem qd_X_path_10 : decode qc_X_path 10 = .ok (.aload_n 0, 1) := by decide +kernel
theorem qd_X_path_11 : decode qc_X_path 11 = .ok (.getfield 13, 3) := by decide +kernel
theorem qd_X_path_14 : decode qc_X_path 14 = .ok (.if_icmp .le 11, 3) := by decide +kernel
theorem qd_X_path_17 : decode qc_X_path 17 = .ok (.new 33, 3) := by decide +kernel
theorem qd_X_path_20 : decode qc_X_path 20 = .ok (.dup, 1) := by decide +kernel
theorem qd_X_path_21 : decode qc_X_path 21 = .ok (.invokespecial 35, 3) := by decide +kernel
theorem qd_X_path_24 : decode qc_X_path 24 = .ok (.athrow, 1) := by decide +kernel
theorem qd_X_path_25 : decode qc_X_path 25 = .ok (.aload_n 0, 1) := by decide +kernel
theorem qd_X_path_26 : decode qc_X_path 26 = .ok (.iload_n 1, 1) := by decide +kernel
theorem qd_X_path_27 : decode qc_X_path 27 = .ok (.iload_n 2, 1) := by decide +kernel
theorem qd_X_path_28 : decode qc_X_path 28 = .ok (.invokestatic 40, 3) := by decide +kernel
theorem qd_X_path_31 : decode qc_X_path 31 = .ok (.putfield 20, 3) := by decide +kernel
theorem qd_X_path_34 : decode qc_X_path 34 = .ok (.iconst 0, 1) := by decide +kernel
theorem qd_X_path_35 : decode qc_X_path 35 = .ok (.istore_n 3, 1) := by decide +kernel
theorem qd_X_path_36 : decode qc_X_path 36 = .ok (.iload_n 2, 1) := by decide +kernel
theorem qd_X_path_37 : decode qc_X_path 37 = .ok (.istore 4, 2) := by decide +kernel
theorem qd_X_path_39 : decode qc_X_path 39 = .ok (.aload_n 0, 1) := by decide +kernel
theorem qd_X_path_40 : decode qc_X_path 40 = .ok (.getfield 20, 3) := by decide +kernel
theorem qd_X_path_43 : decode qc_X_path 43 = .ok (.iconst 1, 1) := by decide +kernel
theorem qd_X_path_44 : decode qc_X_path 44 = .ok (.isub, 1) := by decide +kernel
theorem qd_X_path_45 : decode qc_X_path 45 = .ok (.istore 5, 2) := by decide +kernel
theorem qd_X_path_47 : decode qc_X_path 47 = .ok (.iload 5, 2) := by decide +kernel
theorem qd_X_path_49 : decode qc_X_path 49 = .ok (.ifCond .lt 71, 3) := by decide +kernel
theorem qd_X_path_52 : decode qc_X_path 52 = .ok (.iload_n 3, 1) := by decide +kernel
theorem qd_X_path_53 : decode qc_X_path 53 = .ok (.iload 4, 2) := by decide +kernel
theorem qd_X_path_55 : decode qc_X_path 55 = .ok (.iload_n 3, 1) := by decide +kernel
theorem qd_X_path_56 : decode qc_X_path 56 = .ok (.isub, 1) := by decide +kernel
theorem qd_X_path_57 : decode qc_X_path 57 = .ok (.invokestatic 44, 3) := by decide +kernel
theorem qd_X_path_60 : decode qc_X_path 60 = .ok (.iadd, 1) := by decide +kernel
theorem qd_X_path_61 : decode qc_X_path 61 = .ok (.istore 6, 2) := by decide +kernel
theorem qd_X_path_63 : decode qc_X_path 63 = .ok (.iload_n 1, 1) := by decide +kernel
theorem qd_X_path_64 : decode qc_X_path 64 = .ok (.iload 6, 2) := by decide +kernel
theorem qd_X_path_66 : decode qc_X_path 66 = .ok (.if_icmp .ge 28, 3) := by decide +kernel
theorem qd_X_path_69 : decode qc_X_path 69 = .ok (.aload_n 0, 1) := by decide +kernel
theorem qd_X_path_70 : decode qc_X_path 70 = .ok (.getfield 17, 3) := by decide +kernel
theorem qd_X_path_73 : decode qc_X_path 73 = .ok (.iload 5, 2) := by decide +kernel
theorem qd_X_path_75 : decode qc_X_path 75 = .ok (.aload_n 0, 1) := by decide +kernel
theorem qd_X_path_76 : decode qc_X_path 76 = .ok (.getfield 9, 3) := by decide +kernel
theorem qd_X_path_79 : decode qc_X_path 79 = .ok (.iload 6, 2) := by decide +kernel
theorem qd_X_path_81 : decode qc_X_path 81 = .ok (.iload 4, 2) := by decide +kernel
theorem qd_X_path_83 : decode qc_X_path 83 = .ok (.invokestatic 36, 3) := by decide +kernel
theorem qd_X_path_86 : decode qc_X_path 86 = .ok (.lastore, 1) := by decide +kernel
theorem qd_X_path_87 : decode qc_X_path 87 = .ok (.iload 6, 2) := by decide +kernel
theorem qd_X_path_89 : decode qc_X_path 89 = .ok (.istore 4, 2) := by decide +kernel
theorem qd_X_path_91 : decode qc_X_path 91 = .ok (.goto 23, 3) := by decide +kernel
theorem qd_X_path_94 : decode qc_X_path 94 = .ok (.aload_n 0, 1) := by decide +kernel
theorem qd_X_path_95 : decode qc_X_path 95 = .ok (.getfield 17, 3) := by decide +kernel
theorem qd_X_path_98 : decode qc_X_path 98 = .ok (.iload 5, 2) := by decide +kernel
theorem qd_X_path_100 : decode qc_X_path 100 = .ok (.aload_n 0, 1) := by decide +kernel
theorem qd_X_path_101 : decode qc_X_path 101 = .ok (.getfield 9, 3) := by decide +kernel
theorem qd_X_path_104 : decode qc_X_path 104 = .ok (.iload_n 3, 1) := by decide +kernel
theorem qd_X_path_105 : decode qc_X_path 105 = .ok (.iload 6, 2) := by decide +kernel
theorem qd_X_path_107 : decode qc_X_path 107 = .ok (.invokestatic 36, 3) := by decide +kernel
theorem qd_X_path_110 : decode qc_X_path 110 = .ok (.lastore, 1) := by decide +kernel
theorem qd_X_path_111 : decode qc_X_path 111 = .ok (.iload 6, 2) := by decide +kernel
theorem qd_X_path_113 : decode qc_X_path 113 = .ok (.istore_n 3, 1) := by decide +kernel
theorem qd_X_path_114 : decode qc_X_path 114 = .ok (.iinc 5 (-1), 3) := by decide +kernel
theorem qd_X_path_117 : decode qc_X_path 117 = .ok (.goto (-70), 3) := by decide +kernel
theorem qd_X_path_120 : decode qc_X_path 120 = .ok (.aload_n 0, 1) := by decide +kernel
theorem qd_X_path_121 : decode qc_X_path 121 = .ok (.getfield 20, 3) := by decide +kernel
theorem qd_X_path_124 : decode qc_X_path 124 = .ok (.ireturn, 1) := by decide +kernel
theorem qd_X_steps_0 : decode qc_X_steps 0 = .ok (.iload_n 1, 1) := by decide +kernel
theorem qd_X_steps_1 : decode qc_X_steps 1 = .ok (.iconst 1, 1) := by decide +kernel
theorem qd_X_steps_2 : decode qc_X_steps 2 = .ok (.if_icmp .lt 16, 3) := by decide +kernel
theorem qd_X_steps_5 : decode qc_X_steps 5 = .ok (.iload_n 1, 1) := by decide +kernel
theorem qd_X_steps_6 : decode qc_X_steps 6 = .ok (.iload_n 2, 1) := by decide +kernel
theorem qd_X_steps_7 : decode qc_X_steps 7 = .ok (.if_icmp .gt 11, 3) := by decide +kernel
theorem qd_X_steps_10 : decode qc_X_steps 10 = .ok (.iload_n 2, 1) := by decide +kernel
theorem qd_X_steps_11 : decode qc_X_steps 11 = .ok (.aload_n 0, 1) := by decide +kernel
theorem qd_X_steps_12 : decode qc_X_steps 12 = .ok (.getfield 13, 3) := by decide +kernel
theorem qd_X_steps_15 : decode qc_X_steps 15 = .ok (.if_icmp .le 11, 3) := by decide +kernel
theorem qd_X_steps_18 : decode qc_X_steps 18 = .ok (.new 33, 3) := by decide +kernel
theorem qd_X_steps_21 : decode qc_X_steps 21 = .ok (.dup, 1) := by decide +kernel
theorem qd_X_steps_22 : decode qc_X_steps 22 = .ok (.invokespecial 35, 3) := by decide +kernel
theorem qd_X_steps_25 : decode qc_X_steps 25 = .ok (.athrow, 1) := by decide +kernel
theorem qd_X_steps_26 : decode qc_X_steps 26 = .ok (.aload_n 0, 1) := by decide +kernel
theorem qd_X_steps_27 : decode qc_X_steps 27 = .ok (.iload_n 1, 1) := by decide +kernel
theorem qd_X_steps_28 : decode qc_X_steps 28 = .ok (.iload_n 2, 1) := by decide +kernel
theorem qd_X_steps_29 : decode qc_X_steps 29 = .ok (.invokestatic 48, 3) := by decide +kernel
theorem qd_X_steps_32 : decode qc_X_steps 32 = .ok (.putfield 20, 3) := by decide +kernel
theorem qd_X_steps_35 : decode qc_X_steps 35 = .ok (.iconst 0, 1) := by decide +kernel
theorem qd_X_steps_36 : decode qc_X_steps 36 = .ok (.istore_n 3, 1) := by decide +kernel
theorem qd_X_steps_37 : decode qc_X_steps 37 = .ok (.iload_n 2, 1) := by decide +kernel
theorem qd_X_steps_38 : decode qc_X_steps 38 = .ok (.istore 4, 2) := by decide +kernel
theorem qd_X_steps_40 : decode qc_X_steps 40 = .ok (.aload_n 0, 1) := by decide +kernel
theorem qd_X_steps_41 : decode qc_X_steps 41 = .ok (.getfield 20, 3) := by decide +kernel
theorem qd_X_steps_44 : decode qc_X_steps 44 = .ok (.iconst 1, 1) := by decide +kernel
theorem qd_X_steps_45 : decode qc_X_steps 45 = .ok (.isub, 1) := by decide +kernel
theorem qd_X_steps_46 : decode qc_X_steps 46 = .ok (.istore 5, 2) := by decide +kernel
theorem qd_X_steps_48 : decode qc_X_steps 48 = .ok (.iload 5, 2) := by decide +kernel
theorem qd_X_steps_50 : decode qc_X_steps 50 = .ok (.ifCond .lt 97, 3) := by decide +kernel
theorem qd_X_steps_53 : decode qc_X_steps 53 = .ok (.iload_n 3, 1) := by decide +kernel
theorem qd_X_steps_54 : decode qc_X_steps 54 = .ok (.iload 4, 2) := by decide +kernel
theorem qd_X_steps_56 : decode qc_X_steps 56 = .ok (.iload_n 3, 1) := by decide +kernel
theorem qd_X_steps_57 : decode qc_X_steps 57 = .ok (.isub, 1) := by decide +kernel
theorem qd_X_steps_58 : decode qc_X_steps 58 = .ok (.invokestatic 44, 3) := by decide +kernel
theorem qd_X_steps_61 : decode qc_X_steps 61 = .ok (.iadd, 1) := by decide +kernel
theorem qd_X_steps_62 : decode qc_X_steps 62 = .ok (.istore 6, 2) := by decide +kernel
theorem qd_X_steps_64 : decode qc_X_steps 64 = .ok (.iload_n 1, 1) := by decide +kernel
theorem qd_X_steps_65 : decode qc_X_steps 65 = .ok (.iload 4, 2) := by decide +kernel
theorem qd_X_steps_67 : decode qc_X_steps 67 = .ok (.if_icmp .ne 23, 3) := by decide +kernel
theorem qd_X_steps_70 : decode qc_X_steps 70 = .ok (.aload_n 0, 1) := by decide +kernel
theorem qd_X_steps_71 : decode qc_X_steps 71 = .ok (.getfield 17, 3) := by decide +kernel
theorem qd_X_steps_74 : decode qc_X_steps 74 = .ok (.iload 5, 2) := by decide +kernel
theorem qd_X_steps_76 : decode qc_X_steps 76 = .ok (.aload_n 0, 1) := by decide +kernel
theorem qd_X_steps_77 : decode qc_X_steps 77 = .ok (.getfield 9, 3) := by decide +kernel
theorem qd_X_steps_80 : decode qc_X_steps 80 = .ok (.iload_n 3, 1) := by decide +kernel
theorem qd_X_steps_81 : decode qc_X_steps 81 = .ok (.iload 4, 2) := by decide +kernel
theorem qd_X_steps_83 : decode qc_X_steps 83 = .ok (.invokestatic 36, 3) := by decide +kernel
theorem qd_X_steps_86 : decode qc_X_steps 86 = .ok (.lastore, 1) := by decide +kernel
theorem qd_X_steps_87 : decode qc_X_steps 87 = .ok (.goto 54, 3) := by decide +kernel
theorem qd_X_steps_90 : decode qc_X_steps 90 = .ok (.iload_n 1, 1) := by decide +kernel
theorem qd_X_steps_91 : decode qc_X_steps 91 = .ok (.iload 6, 2) := by decide +kernel
theorem qd_X_steps_93 : decode qc_X_steps 93 = .ok (.if_icmp .gt 28, 3) := by decide +kernel
theorem qd_X_steps_96 : decode qc_X_steps 96 = .ok (.aload_n 0, 1) := by decide +kernel
theorem qd_X_steps_97 : decode qc_X_steps 97 = .ok (.getfield 17, 3) := by decide +kernel
theorem qd_X_steps_100 : decode qc_X_steps 100 = .ok (.iload 5, 2) := by decide +kernel
theorem qd_X_steps_102 : decode qc_X_steps 102 = .ok (.aload_n 0, 1) := by decide +kernel
theorem qd_X_steps_103 : decode qc_X_steps 103 = .ok (.getfield 9, 3) := by decide +kernel
theorem qd_X_steps_106 : decode qc_X_steps 106 = .ok (.iload 6, 2) := by decide +kernel
theorem qd_X_steps_108 : decode qc_X_steps 108 = .ok (.iload 4, 2) := by decide +kernel
theorem qd_X_steps_110 : decode qc_X_steps 110 = .ok (.invokestatic 36, 3) := by decide +kernel
theorem qd_X_steps_113 : decode qc_X_steps 113 = .ok (.lastore, 1) := by decide +kernel
theorem qd_X_steps_114 : decode qc_X_steps 114 = .ok (.iload 6, 2) := by decide +kernel
theorem qd_X_steps_116 : decode qc_X_steps 116 = .ok (.istore 4, 2) := by decide +kernel
theorem qd_X_steps_118 : decode qc_X_steps 118 = .ok (.goto 23, 3) := by decide +kernel
theorem qd_X_steps_121 : decode qc_X_steps 121 = .ok (.aload_n 0, 1) := by decide +kernel
theorem qd_X_steps_122 : decode qc_X_steps 122 = .ok (.getfield 17, 3) := by decide +kernel
theorem qd_X_steps_125 : decode qc_X_steps 125 = .ok (.iload 5, 2) := by decide +kernel
theorem qd_X_steps_127 : decode qc_X_steps 127 = .ok (.aload_n 0, 1) := by decide +kernel
theorem qd_X_steps_128 : decode qc_X_steps 128 = .ok (.getfield 9, 3) := by decide +kernel
theorem qd_X_steps_131 : decode qc_X_steps 131 = .ok (.iload_n 3, 1) := by decide +kernel
theorem qd_X_steps_132 : decode qc_X_steps 132 = .ok (.iload 6, 2) := by decide +kernel
theorem qd_X_steps_134 : decode qc_X_steps 134 = .ok (.invokestatic 36, 3) := by decide +kernel
theorem qd_X_steps_137 : decode qc_X_steps 137 = .ok (.lastore, 1) := by decide +kernel
theorem qd_X_steps_138 : decode qc_X_steps 138 = .ok (.iload 6, 2) := by decide +kernel
theorem qd_X_steps_140 : decode qc_X_steps 140 = .ok (.istore_n 3, 1) := by decide +kernel
theorem qd_X_steps_141 : decode qc_X_steps 141 = .ok (.iinc 5 (-1), 3) := by decide +kernel
theorem qd_X_steps_144 : decode qc_X_steps 144 = .ok (.goto (-96), 3) := by decide +kernel
theorem qd_X_steps_147 : decode qc_X_steps 147 = .ok (.aload_n 0, 1) := by decide +kernel
theorem qd_X_steps_148 : decode qc_X_steps 148 = .ok (.getfield 20, 3) := by decide +kernel
theorem qd_X_steps_151 : decode qc_X_steps 151 = .ok (.ireturn, 1) := by decide +kernel
theorem qd_X_proof_0 : decode qc_X_proof 0 = .ok (.iload_n 1, 1) := by decide +kernel
theorem qd_X_proof_1 : decode qc_X_proof 1 = .ok (.ifCond .lt 11, 3) := by decide +kernel
theorem qd_X_proof_4 : decode qc_X_proof 4 = .ok (.iload_n 1, 1) := by decide +kernel
theorem qd_X_proof_5 : decode qc_X_proof 5 = .ok (.aload_n 0, 1) := by decide +kernel
theorem qd_X_proof_6 : decode qc_X_proof 6 = .ok (.getfield 20, 3) := by decide +kernel
theorem qd_X_proof_9 : decode qc_X_proof 9 = .ok (.if_icmp .lt 11, 3) := by decide +kernel
theorem qd_X_proof_12 : decode qc_X_proof 12 = .ok (.new 51, 3) := by decide +kernel
theorem qd_X_proof_15 : decode qc_X_proof 15 = .ok (.dup, 1) := by decide +kernel
theorem qd_X_proof_16 : decode qc_X_proof 16 = .ok (.invokespecial 53, 3) := by decide +kernel
theorem qd_X_proof_19 : decode qc_X_proof 19 = .ok (.athrow, 1) := by decide +kernel
theorem qd_X_proof_20 : decode qc_X_proof 20 = .ok (.aload_n 0, 1) := by decide +kernel
theorem qd_X_proof_21 : decode qc_X_proof 21 = .ok (.getfield 17, 3) := by decide +kernel
theorem qd_X_proof_24 : decode qc_X_proof 24 = .ok (.iload_n 1, 1) := by decide +kernel
theorem qd_X_proof_25 : decode qc_X_proof 25 = .ok (.laload, 1) := by decide +kernel
theorem qd_X_proof_26 : decode qc_X_proof 26 = .ok (.lreturn, 1) := by decide +kernel
theorem qd_X_alter_0 : decode qc_X_alter 0 = .ok (.iload_n 1, 1) := by decide +kernel
theorem qd_X_alter_1 : decode qc_X_alter 1 = .ok (.ifCond .lt 11, 3) := by decide +kernel
theorem qd_X_alter_4 : decode qc_X_alter 4 = .ok (.iload_n 1, 1) := by decide +kernel
theorem qd_X_alter_5 : decode qc_X_alter 5 = .ok (.aload_n 0, 1) := by decide +kernel
theorem qd_X_alter_6 : decode qc_X_alter 6 = .ok (.getfield 20, 3) := by decide +kernel
theorem qd_X_alter_9 : decode qc_X_alter 9 = .ok (.if_icmp .lt 11, 3) := by decide +kernel
theorem qd_X_alter_12 : decode qc_X_alter 12 = .ok (.new 51, 3) := by decide +kernel
theorem qd_X_alter_15 : decode qc_X_alter 15 = .ok (.dup, 1) := by decide +kernel
theorem qd_X_alter_16 : decode qc_X_alter 16 = .ok (.invokespecial 53, 3) := by decide +kernel
theorem qd_X_alter_19 : decode qc_X_alter 19 = .ok (.athrow, 1) := by decide +kernel
theorem qd_X_alter_20 : decode qc_X_alter 20 = .ok (.aload_n 0, 1) := by decide +kernel
theorem qd_X_alter_21 : decode qc_X_alter 21 = .ok (.getfield 17, 3) := by decide +kernel
theorem qd_X_alter_24 : decode qc_X_alter 24 = .ok (.iload_n 1, 1) := by decide +kernel
theorem qd_X_alter_25 : decode qc_X_alter 25 = .ok (.laload, 1) := by decide +kernel
theorem qd_X_alter_26 : decode qc_X_alter 26 = .ok (.lstore 4, 2) := by decide +kernel
theorem qd_X_alter_28 : decode qc_X_alter 28 = .ok (.aload_n 0, 1) := by decide +kernel
theorem qd_X_alter_29 : decode qc_X_alter 29 = .ok (.getfield 17, 3) := by decide +kernel
theorem qd_X_alter_32 : decode qc_X_alter 32 = .ok (.iload_n 1, 1) := by decide +kernel
theorem qd_X_alter_33 : decode qc_X_alter 33 = .ok (.lload_n 2, 1) := by decide +kernel
theorem qd_X_alter_34 : decode qc_X_alter 34 = .ok (.lastore, 1) := by decide +kernel
theorem qd_X_alter_35 : decode qc_X_alter 35 = .ok (.lload 4, 2) := by decide +kernel
theorem qd_X_alter_37 : decode qc_X_alter 37 = .ok (.lreturn, 1) := by decide +kernel
theorem qd_X_length_0 : decode qc_X_length 0 = .ok (.iload_n 1, 1) := by decide +kernel
theorem qd_X_length_1 : decode qc_X_length 1 = .ok (.ifCond .lt 9, 3) := by decide +kernel
theorem qd_X_length_4 : decode qc_X_length 4 = .ok (.iload_n 1, 1) := by decide +kernel
theorem qd_X_length_5 : decode qc_X_length 5 = .ok (.bipush 40, 2) := by decide +kernel
theorem qd_X_length_7 : decode qc_X_length 7 = .ok (.if_icmp .le 11, 3) := by decide +kernel
theorem qd_X_length_10 : decode qc_X_length 10 = .ok (.new 30, 3) := by decide +kernel
theorem qd_X_length_13 : decode qc_X_length 13 = .ok (.dup, 1) := by decide +kernel
theorem qd_X_length_14 : decode qc_X_length 14 = .ok (.invokespecial 32, 3) := by decide +kernel
theorem qd_X_length_17 : decode qc_X_length 17 = .ok (.athrow, 1) := by decide +kernel
theorem qd_X_length_18 : decode qc_X_length 18 = .ok (.aload_n 0, 1) := by decide +kernel
theorem qd_X_length_19 : decode qc_X_length 19 = .ok (.getfield 20, 3) := by decide +kernel
theorem qd_X_length_22 : decode qc_X_length 22 = .ok (.istore_n 2, 1) := by decide +kernel
theorem qd_X_length_23 : decode qc_X_length 23 = .ok (.iload_n 2, 1) := by decide +kernel
theorem qd_X_length_24 : decode qc_X_length 24 = .ok (.istore_n 3, 1) := by decide +kernel
theorem qd_X_length_25 : decode qc_X_length 25 = .ok (.iload_n 3, 1) := by decide +kernel
theorem qd_X_length_26 : decode qc_X_length 26 = .ok (.iload_n 1, 1) := by decide +kernel
theorem qd_X_length_27 : decode qc_X_length 27 = .ok (.if_icmp .ge 16, 3) := by decide +kernel
theorem qd_X_length_30 : decode qc_X_length 30 = .ok (.aload_n 0, 1) := by decide +kernel
theorem qd_X_length_31 : decode qc_X_length 31 = .ok (.getfield 17, 3) := by decide +kernel
theorem qd_X_length_34 : decode qc_X_length 34 = .ok (.iload_n 3, 1) := by decide +kernel
theorem qd_X_length_35 : decode qc_X_length 35 = .ok (.lconst 0, 1) := by decide +kernel
theorem qd_X_length_36 : decode qc_X_length 36 = .ok (.lastore, 1) := by decide +kernel
theorem qd_X_length_37 : decode qc_X_length 37 = .ok (.iinc 3 1, 3) := by decide +kernel
theorem qd_X_length_40 : decode qc_X_length 40 = .ok (.goto (-15), 3) := by decide +kernel
theorem qd_X_length_43 : decode qc_X_length 43 = .ok (.aload_n 0, 1) := by decide +kernel
theorem qd_X_length_44 : decode qc_X_length 44 = .ok (.iload_n 1, 1) := by decide +kernel
theorem qd_X_length_45 : decode qc_X_length 45 = .ok (.putfield 20, 3) := by decide +kernel
theorem qd_X_length_48 : decode qc_X_length 48 = .ok (.iload_n 2, 1) := by decide +kernel
theorem qd_X_length_49 : decode qc_X_length 49 = .ok (.ireturn, 1) := by decide +kernel
theorem qd_X_find_0 : decode qc_X_find 0 = .ok (.iload_n 1, 1) := by decide +kernel
theorem qd_X_find_1 : decode qc_X_find 1 = .ok (.ifCond .lt 11, 3) := by decide +kernel
theorem qd_X_find_4 : decode qc_X_find 4 = .ok (.iload_n 1, 1) := by decide +kernel
theorem qd_X_find_5 : decode qc_X_find 5 = .ok (.aload_n 0, 1) := by decide +kernel
theorem qd_X_find_6 : decode qc_X_find 6 = .ok (.getfield 13, 3) := by decide +kernel
theorem qd_X_find_9 : decode qc_X_find 9 = .ok (.if_icmp .le 11, 3) := by decide +kernel
theorem qd_X_find_12 : decode qc_X_find 12 = .ok (.new 33, 3) := by decide +kernel
theorem qd_X_find_15 : decode qc_X_find 15 = .ok (.dup, 1) := by decide +kernel
theorem qd_X_find_16 : decode qc_X_find 16 = .ok (.invokespecial 35, 3) := by decide +kernel
theorem qd_X_find_19 : decode qc_X_find 19 = .ok (.athrow, 1) := by decide +kernel
theorem qd_X_find_20 : decode qc_X_find 20 = .ok (.lload_n 2, 1) := by decide +kernel
theorem qd_X_find_21 : decode qc_X_find 21 = .ok (.invokestatic 26, 3) := by decide +kernel
theorem qd_X_find_24 : decode qc_X_find 24 = .ok (.lstore 4, 2) := by decide +kernel
theorem qd_X_find_26 : decode qc_X_find 26 = .ok (.iconst 0, 1) := by decide +kernel
theorem qd_X_find_27 : decode qc_X_find 27 = .ok (.istore 6, 2) := by decide +kernel
theorem qd_X_find_29 : decode qc_X_find 29 = .ok (.iload 6, 2) := by decide +kernel
theorem qd_X_find_31 : decode qc_X_find 31 = .ok (.iload_n 1, 1) := by decide +kernel
theorem qd_X_find_32 : decode qc_X_find 32 = .ok (.if_icmp .ge 25, 3) := by decide +kernel
theorem qd_X_find_35 : decode qc_X_find 35 = .ok (.aload_n 0, 1) := by decide +kernel
theorem qd_X_find_36 : decode qc_X_find 36 = .ok (.getfield 9, 3) := by decide +kernel
theorem qd_X_find_39 : decode qc_X_find 39 = .ok (.iload 6, 2) := by decide +kernel
theorem qd_X_find_41 : decode qc_X_find 41 = .ok (.laload, 1) := by decide +kernel
theorem qd_X_find_42 : decode qc_X_find 42 = .ok (.lload 4, 2) := by decide +kernel
theorem qd_X_find_44 : decode qc_X_find 44 = .ok (.lcmp, 1) := by decide +kernel
theorem qd_X_find_45 : decode qc_X_find 45 = .ok (.ifCond .ne 6, 3) := by decide +kernel
theorem qd_X_find_48 : decode qc_X_find 48 = .ok (.iload 6, 2) := by decide +kernel
theorem qd_X_find_50 : decode qc_X_find 50 = .ok (.ireturn, 1) := by decide +kernel
theorem qd_X_find_51 : decode qc_X_find 51 = .ok (.iinc 6 1, 3) := by decide +kernel
theorem qd_X_find_54 : decode qc_X_find 54 = .ok (.goto (-25), 3) := by decide +kernel
theorem qd_X_find_57 : decode qc_X_find 57 = .ok (.iconst (-1), 1) := by decide +kernel
theorem qd_X_find_58 : decode qc_X_find 58 = .ok (.ireturn, 1) := by decide +kernel
theorem qd_J_bitCount_0 : decode qc_J_bitCount 0 = .ok (.iload_n 0, 1) := by decide +kernel
theorem qd_J_bitCount_1 : decode qc_J_bitCount 1 = .ok (.iload_n 0, 1) := by decide +kernel
theorem qd_J_bitCount_2 : decode qc_J_bitCount 2 = .ok (.iconst 1, 1) := by decide +kernel
theorem qd_J_bitCount_3 : decode qc_J_bitCount 3 = .ok (.iushr, 1) := by decide +kernel
theorem qd_J_bitCount_4 : decode qc_J_bitCount 4 = .ok (.ldc_w 265, 3) := by decide +kernel
theorem qd_J_bitCount_7 : decode qc_J_bitCount 7 = .ok (.iand, 1) := by decide +kernel
theorem qd_J_bitCount_8 : decode qc_J_bitCount 8 = .ok (.isub, 1) := by decide +kernel
theorem qd_J_bitCount_9 : decode qc_J_bitCount 9 = .ok (.istore_n 0, 1) := by decide +kernel
theorem qd_J_bitCount_10 : decode qc_J_bitCount 10 = .ok (.iload_n 0, 1) := by decide +kernel
theorem qd_J_bitCount_11 : decode qc_J_bitCount 11 = .ok (.ldc_w 266, 3) := by decide +kernel
theorem qd_J_bitCount_14 : decode qc_J_bitCount 14 = .ok (.iand, 1) := by decide +kernel
theorem qd_J_bitCount_15 : decode qc_J_bitCount 15 = .ok (.iload_n 0, 1) := by decide +kernel
theorem qd_J_bitCount_16 : decode qc_J_bitCount 16 = .ok (.iconst 2, 1) := by decide +kernel
theorem qd_J_bitCount_17 : decode qc_J_bitCount 17 = .ok (.iushr, 1) := by decide +kernel
theorem qd_J_bitCount_18 : decode qc_J_bitCount 18 = .ok (.ldc_w 266, 3) := by decide +kernel
theorem qd_J_bitCount_21 : decode qc_J_bitCount 21 = .ok (.iand, 1) := by decide +kernel
theorem qd_J_bitCount_22 : decode qc_J_bitCount 22 = .ok (.iadd, 1) := by decide +kernel
theorem qd_J_bitCount_23 : decode qc_J_bitCount 23 = .ok (.istore_n 0, 1) := by decide +kernel
theorem qd_J_bitCount_24 : decode qc_J_bitCount 24 = .ok (.iload_n 0, 1) := by decide +kernel
theorem qd_J_bitCount_25 : decode qc_J_bitCount 25 = .ok (.iload_n 0, 1) := by decide +kernel
theorem qd_J_bitCount_26 : decode qc_J_bitCount 26 = .ok (.iconst 4, 1) := by decide +kernel
theorem qd_J_bitCount_27 : decode qc_J_bitCount 27 = .ok (.iushr, 1) := by decide +kernel
theorem qd_J_bitCount_28 : decode qc_J_bitCount 28 = .ok (.iadd, 1) := by decide +kernel
theorem qd_J_bitCount_29 : decode qc_J_bitCount 29 = .ok (.ldc_w 267, 3) := by decide +kernel
theorem qd_J_bitCount_32 : decode qc_J_bitCount 32 = .ok (.iand, 1) := by decide +kernel
theorem qd_J_bitCount_33 : decode qc_J_bitCount 33 = .ok (.istore_n 0, 1) := by decide +kernel
theorem qd_J_bitCount_34 : decode qc_J_bitCount 34 = .ok (.iload_n 0, 1) := by decide +kernel
theorem qd_J_bitCount_35 : decode qc_J_bitCount 35 = .ok (.iload_n 0, 1) := by decide +kernel
theorem qd_J_bitCount_36 : decode qc_J_bitCount 36 = .ok (.bipush 8, 2) := by decide +kernel
theorem qd_J_bitCount_38 : decode qc_J_bitCount 38 = .ok (.iushr, 1) := by decide +kernel
theorem qd_J_bitCount_39 : decode qc_J_bitCount 39 = .ok (.iadd, 1) := by decide +kernel
theorem qd_J_bitCount_40 : decode qc_J_bitCount 40 = .ok (.istore_n 0, 1) := by decide +kernel
theorem qd_J_bitCount_41 : decode qc_J_bitCount 41 = .ok (.iload_n 0, 1) := by decide +kernel
theorem qd_J_bitCount_42 : decode qc_J_bitCount 42 = .ok (.iload_n 0, 1) := by decide +kernel
theorem qd_J_bitCount_43 : decode qc_J_bitCount 43 = .ok (.bipush 16, 2) := by decide +kernel
theorem qd_J_bitCount_45 : decode qc_J_bitCount 45 = .ok (.iushr, 1) := by decide +kernel
theorem qd_J_bitCount_46 : decode qc_J_bitCount 46 = .ok (.iadd, 1) := by decide +kernel
theorem qd_J_bitCount_47 : decode qc_J_bitCount 47 = .ok (.istore_n 0, 1) := by decide +kernel
theorem qd_J_bitCount_48 : decode qc_J_bitCount 48 = .ok (.iload_n 0, 1) := by decide +kernel
theorem qd_J_bitCount_49 : decode qc_J_bitCount 49 = .ok (.bipush 63, 2) := by decide +kernel
theorem qd_J_bitCount_51 : decode qc_J_bitCount 51 = .ok (.iand, 1) := by decide +kernel
theorem qd_J_bitCount_52 : decode qc_J_bitCount 52 = .ok (.ireturn, 1) := by decide +kernel
end
section
theorem qd_L_add_0 : decode qc_L_add 0 = .ok (.aload_n 3, 1) := by decide +kernel
theorem qd_L_add_1 : decode qc_L_add 1 = .ok (.iconst 0, 1) := by decide +kernel
theorem qd_L_add_2 : decode qc_L_add 2 = .ok (.aload_n 0, 1) := by decide +kernel
theorem qd_L_add_3 : decode qc_L_add 3 = .ok (.lload_n 1, 1) := by decide +kernel
theorem qd_L_add_4 : decode qc_L_add 4 = .ok (.invokevirtual 7, 3) := by decide +kernel
theorem qd_L_add_7 : decode qc_L_add 7 = .ok (.i2l, 1) := by decide +kernel
theorem qd_L_add_8 : decode qc_L_add 8 = .ok (.lastore, 1) := by decide +kernel
theorem qd_L_add_9 : decode qc_L_add 9 = .ok (.goto 7, 3) := by decide +kernel
theorem qd_L_add_12 : decode qc_L_add 12 = .ok (.astore 4, 2) := by decide +kernel
theorem qd_L_add_14 : decode qc_L_add 14 = .ok (.iconst 1, 1) := by decide +kernel
theorem qd_L_add_15 : decode qc_L_add 15 = .ok (.ireturn, 1) := by decide +kernel
theorem qd_L_add_16 : decode qc_L_add 16 = .ok (.iconst 0, 1) := by decide +kernel
theorem qd_L_add_17 : decode qc_L_add 17 = .ok (.ireturn, 1) := by decide +kernel
theorem qd_L_fill_0 : decode qc_L_fill 0 = .ok (.aload 6, 2) := by decide +kernel
theorem qd_L_fill_2 : decode qc_L_fill 2 = .ok (.iconst 0, 1) := by decide +kernel
theorem qd_L_fill_3 : decode qc_L_fill 3 = .ok (.aload_n 0, 1) := by decide +kernel
theorem qd_L_fill_4 : decode qc_L_fill 4 = .ok (.iload_n 1, 1) := by decide +kernel
theorem qd_L_fill_5 : decode qc_L_fill 5 = .ok (.lload_n 2, 1) := by decide +kernel
theorem qd_L_fill_6 : decode qc_L_fill 6 = .ok (.lload 4, 2) := by decide +kernel
theorem qd_L_fill_8 : decode qc_L_fill 8 = .ok (.invokevirtual 15, 3) := by decide +kernel
theorem qd_L_fill_11 : decode qc_L_fill 11 = .ok (.i2l, 1) := by decide +kernel
theorem qd_L_fill_12 : decode qc_L_fill 12 = .ok (.lastore, 1) := by decide +kernel
theorem qd_L_fill_13 : decode qc_L_fill 13 = .ok (.goto 11, 3) := by decide +kernel
theorem qd_L_fill_16 : decode qc_L_fill 16 = .ok (.astore 7, 2) := by decide +kernel
theorem qd_L_fill_18 : decode qc_L_fill 18 = .ok (.iconst 1, 1) := by decide +kernel
theorem qd_L_fill_19 : decode qc_L_fill 19 = .ok (.ireturn, 1) := by decide +kernel
theorem qd_L_fill_20 : decode qc_L_fill 20 = .ok (.astore 7, 2) := by decide +kernel
theorem qd_L_fill_22 : decode qc_L_fill 22 = .ok (.iconst 2, 1) := by decide +kernel
theorem qd_L_fill_23 : decode qc_L_fill 23 = .ok (.ireturn, 1) := by decide +kernel
theorem qd_L_fill_24 : decode qc_L_fill 24 = .ok (.iconst 0, 1) := by decide +kernel
theorem qd_L_fill_25 : decode qc_L_fill 25 = .ok (.ireturn, 1) := by decide +kernel
theorem qd_L_cut_0 : decode qc_L_cut 0 = .ok (.aload_n 2, 1) := by decide +kernel
theorem qd_L_cut_1 : decode qc_L_cut 1 = .ok (.iconst 0, 1) := by decide +kernel
theorem qd_L_cut_2 : decode qc_L_cut 2 = .ok (.aload_n 0, 1) := by decide +kernel
theorem qd_L_cut_3 : decode qc_L_cut 3 = .ok (.iload_n 1, 1) := by decide +kernel
theorem qd_L_cut_4 : decode qc_L_cut 4 = .ok (.invokevirtual 21, 3) := by decide +kernel
theorem qd_L_cut_7 : decode qc_L_cut 7 = .ok (.i2l, 1) := by decide +kernel
theorem qd_L_cut_8 : decode qc_L_cut 8 = .ok (.lastore, 1) := by decide +kernel
theorem qd_L_cut_9 : decode qc_L_cut 9 = .ok (.goto 6, 3) := by decide +kernel
theorem qd_L_cut_12 : decode qc_L_cut 12 = .ok (.astore_n 3, 1) := by decide +kernel
theorem qd_L_cut_13 : decode qc_L_cut 13 = .ok (.iconst 1, 1) := by decide +kernel
theorem qd_L_cut_14 : decode qc_L_cut 14 = .ok (.ireturn, 1) := by decide +kernel
theorem qd_L_cut_15 : decode qc_L_cut 15 = .ok (.iconst 0, 1) := by decide +kernel
theorem qd_L_cut_16 : decode qc_L_cut 16 = .ok (.ireturn, 1) := by decide +kernel
theorem qd_L_head_0 : decode qc_L_head 0 = .ok (.aload_n 2, 1) := by decide +kernel
theorem qd_L_head_1 : decode qc_L_head 1 = .ok (.iconst 0, 1) := by decide +kernel
theorem qd_L_head_2 : decode qc_L_head 2 = .ok (.aload_n 0, 1) := by decide +kernel
theorem qd_L_head_3 : decode qc_L_head 3 = .ok (.iload_n 1, 1) := by decide +kernel
theorem qd_L_head_4 : decode qc_L_head 4 = .ok (.invokevirtual 25, 3) := by decide +kernel
theorem qd_L_head_7 : decode qc_L_head 7 = .ok (.lastore, 1) := by decide +kernel
theorem qd_L_head_8 : decode qc_L_head 8 = .ok (.goto 6, 3) := by decide +kernel
theorem qd_L_head_11 : decode qc_L_head 11 = .ok (.astore_n 3, 1) := by decide +kernel
theorem qd_L_head_12 : decode qc_L_head 12 = .ok (.iconst 1, 1) := by decide +kernel
theorem qd_L_head_13 : decode qc_L_head 13 = .ok (.ireturn, 1) := by decide +kernel
theorem qd_L_head_14 : decode qc_L_head 14 = .ok (.iconst 0, 1) := by decide +kernel
theorem qd_L_head_15 : decode qc_L_head 15 = .ok (.ireturn, 1) := by decide +kernel
theorem qd_L_part_0 : decode qc_L_part 0 = .ok (.aload_n 3, 1) := by decide +kernel
theorem qd_L_part_1 : decode qc_L_part 1 = .ok (.iconst 0, 1) := by decide +kernel
theorem qd_L_part_2 : decode qc_L_part 2 = .ok (.aload_n 0, 1) := by decide +kernel
theorem qd_L_part_3 : decode qc_L_part 3 = .ok (.iload_n 1, 1) := by decide +kernel
theorem qd_L_part_4 : decode qc_L_part 4 = .ok (.iload_n 2, 1) := by decide +kernel
theorem qd_L_part_5 : decode qc_L_part 5 = .ok (.invokevirtual 31, 3) := by decide +kernel
theorem qd_L_part_8 : decode qc_L_part 8 = .ok (.lastore, 1) := by decide +kernel
theorem qd_L_part_9 : decode qc_L_part 9 = .ok (.goto 7, 3) := by decide +kernel
theorem qd_L_part_12 : decode qc_L_part 12 = .ok (.astore 4, 2) := by decide +kernel
theorem qd_L_part_14 : decode qc_L_part 14 = .ok (.iconst 1, 1) := by decide +kernel
theorem qd_L_part_15 : decode qc_L_part 15 = .ok (.ireturn, 1) := by decide +kernel
theorem qd_L_part_16 : decode qc_L_part 16 = .ok (.iconst 0, 1) := by decide +kernel
theorem qd_L_part_17 : decode qc_L_part 17 = .ok (.ireturn, 1) := by decide +kernel
theorem qd_L_path_0 : decode qc_L_path 0 = .ok (.aload_n 3, 1) := by decide +kernel
theorem qd_L_path_1 : decode qc_L_path 1 = .ok (.iconst 0, 1) := by decide +kernel
theorem qd_L_path_2 : decode qc_L_path 2 = .ok (.aload_n 0, 1) := by decide +kernel
theorem qd_L_path_3 : decode qc_L_path 3 = .ok (.iload_n 1, 1) := by decide +kernel
theorem qd_L_path_4 : decode qc_L_path 4 = .ok (.iload_n 2, 1) := by decide +kernel
theorem qd_L_path_5 : decode qc_L_path 5 = .ok (.invokevirtual 35, 3) := by decide +kernel
theorem qd_L_path_8 : decode qc_L_path 8 = .ok (.i2l, 1) := by decide +kernel
theorem qd_L_path_9 : decode qc_L_path 9 = .ok (.lastore, 1) := by decide +kernel
theorem qd_L_path_10 : decode qc_L_path 10 = .ok (.goto 7, 3) := by decide +kernel
theorem qd_L_path_13 : decode qc_L_path 13 = .ok (.astore 4, 2) := by decide +kernel
theorem qd_L_path_15 : decode qc_L_path 15 = .ok (.iconst 1, 1) := by decide +kernel
theorem qd_L_path_16 : decode qc_L_path 16 = .ok (.ireturn, 1) := by decide +kernel
theorem qd_L_path_17 : decode qc_L_path 17 = .ok (.iconst 0, 1) := by decide +kernel
theorem qd_L_path_18 : decode qc_L_path 18 = .ok (.ireturn, 1) := by decide +kernel
theorem qd_L_steps_0 : decode qc_L_steps 0 = .ok (.aload_n 3, 1) := by decide +kernel
theorem qd_L_steps_1 : decode qc_L_steps 1 = .ok (.iconst 0, 1) := by decide +kernel
theorem qd_L_steps_2 : decode qc_L_steps 2 = .ok (.aload_n 0, 1) := by decide +kernel
theorem qd_L_steps_3 : decode qc_L_steps 3 = .ok (.iload_n 1, 1) := by decide +kernel
theorem qd_L_steps_4 : decode qc_L_steps 4 = .ok (.iload_n 2, 1) := by decide +kernel
theorem qd_L_steps_5 : decode qc_L_steps 5 = .ok (.invokevirtual 39, 3) := by decide +kernel
theorem qd_L_steps_8 : decode qc_L_steps 8 = .ok (.i2l, 1) := by decide +kernel
theorem qd_L_steps_9 : decode qc_L_steps 9 = .ok (.lastore, 1) := by decide +kernel
theorem qd_L_steps_10 : decode qc_L_steps 10 = .ok (.goto 7, 3) := by decide +kernel
theorem qd_L_steps_13 : decode qc_L_steps 13 = .ok (.astore 4, 2) := by decide +kernel
theorem qd_L_steps_15 : decode qc_L_steps 15 = .ok (.iconst 1, 1) := by decide +kernel
theorem qd_L_steps_16 : decode qc_L_steps 16 = .ok (.ireturn, 1) := by decide +kernel
theorem qd_L_steps_17 : decode qc_L_steps 17 = .ok (.iconst 0, 1) := by decide +kernel
theorem qd_L_steps_18 : decode qc_L_steps 18 = .ok (.ireturn, 1) := by decide +kernel
theorem qd_L_proof_0 : decode qc_L_proof 0 = .ok (.aload_n 2, 1) := by decide +kernel
theorem qd_L_proof_1 : decode qc_L_proof 1 = .ok (.iconst 0, 1) := by decide +kernel
theorem qd_L_proof_2 : decode qc_L_proof 2 = .ok (.aload_n 0, 1) := by decide +kernel
theorem qd_L_proof_3 : decode qc_L_proof 3 = .ok (.iload_n 1, 1) := by decide +kernel
theorem qd_L_proof_4 : decode qc_L_proof 4 = .ok (.invokevirtual 42, 3) := by decide +kernel
theorem qd_L_proof_7 : decode qc_L_proof 7 = .ok (.lastore, 1) := by decide +kernel
theorem qd_L_proof_8 : decode qc_L_proof 8 = .ok (.goto 6, 3) := by decide +kernel
theorem qd_L_proof_11 : decode qc_L_proof 11 = .ok (.astore_n 3, 1) := by decide +kernel
theorem qd_L_proof_12 : decode qc_L_proof 12 = .ok (.iconst 1, 1) := by decide +kernel
theorem qd_L_proof_13 : decode qc_L_proof 13 = .ok (.ireturn, 1) := by decide +kernel
theorem qd_L_proof_14 : decode qc_L_proof 14 = .ok (.iconst 0, 1) := by decide +kernel
theorem qd_L_proof_15 : decode qc_L_proof 15 = .ok (.ireturn, 1) := by decide +kernel
theorem qd_L_alter_0 : decode qc_L_alter 0 = .ok (.aload 4, 2) := by decide +kernel
theorem qd_L_alter_2 : decode qc_L_alter 2 = .ok (.iconst 0, 1) := by decide +kernel
theorem qd_L_alter_3 : decode qc_L_alter 3 = .ok (.aload_n 0, 1) := by decide +kernel
theorem qd_L_alter_4 : decode qc_L_alter 4 = .ok (.iload_n 1, 1) := by decide +kernel
theorem qd_L_alter_5 : decode qc_L_alter 5 = .ok (.lload_n 2, 1) := by decide +kernel
theorem qd_L_alter_6 : decode qc_L_alter 6 = .ok (.invokevirtual 47, 3) := by decide +kernel
theorem qd_L_alter_9 : decode qc_L_alter 9 = .ok (.lastore, 1) := by decide +kernel
theorem qd_L_alter_10 : decode qc_L_alter 10 = .ok (.goto 7, 3) := by decide +kernel
theorem qd_L_alter_13 : decode qc_L_alter 13 = .ok (.astore 5, 2) := by decide +kernel
theorem qd_L_alter_15 : decode qc_L_alter 15 = .ok (.iconst 1, 1) := by decide +kernel
theorem qd_L_alter_16 : decode qc_L_alter 16 = .ok (.ireturn, 1) := by decide +kernel
theorem qd_L_alter_17 : decode qc_L_alter 17 = .ok (.iconst 0, 1) := by decide +kernel
theorem qd_L_alter_18 : decode qc_L_alter 18 = .ok (.ireturn, 1) := by decide +kernel
theorem qd_L_length_0 : decode qc_L_length 0 = .ok (.aload_n 2, 1) := by decide +kernel
theorem qd_L_length_1 : decode qc_L_length 1 = .ok (.iconst 0, 1) := by decide +kernel
theorem qd_L_length_2 : decode qc_L_length 2 = .ok (.aload_n 0, 1) := by decide +kernel
theorem qd_L_length_3 : decode qc_L_length 3 = .ok (.iload_n 1, 1) := by decide +kernel
theorem qd_L_length_4 : decode qc_L_length 4 = .ok (.invokevirtual 51, 3) := by decide +kernel
theorem qd_L_length_7 : decode qc_L_length 7 = .ok (.i2l, 1) := by decide +kernel
theorem qd_L_length_8 : decode qc_L_length 8 = .ok (.lastore, 1) := by decide +kernel
theorem qd_L_length_9 : decode qc_L_length 9 = .ok (.goto 6, 3) := by decide +kernel
theorem qd_L_length_12 : decode qc_L_length 12 = .ok (.astore_n 3, 1) := by decide +kernel
theorem qd_L_length_13 : decode qc_L_length 13 = .ok (.iconst 1, 1) := by decide +kernel
theorem qd_L_length_14 : decode qc_L_length 14 = .ok (.ireturn, 1) := by decide +kernel
theorem qd_L_length_15 : decode qc_L_length 15 = .ok (.iconst 0, 1) := by decide +kernel
theorem qd_L_length_16 : decode qc_L_length 16 = .ok (.ireturn, 1) := by decide +kernel
theorem qd_L_find_0 : decode qc_L_find 0 = .ok (.aload 4, 2) := by decide +kernel
theorem qd_L_find_2 : decode qc_L_find 2 = .ok (.iconst 0, 1) := by decide +kernel
theorem qd_L_find_3 : decode qc_L_find 3 = .ok (.aload_n 0, 1) := by decide +kernel
theorem qd_L_find_4 : decode qc_L_find 4 = .ok (.iload_n 1, 1) := by decide +kernel
theorem qd_L_find_5 : decode qc_L_find 5 = .ok (.lload_n 2, 1) := by decide +kernel
theorem qd_L_find_6 : decode qc_L_find 6 = .ok (.invokevirtual 54, 3) := by decide +kernel
theorem qd_L_find_9 : decode qc_L_find 9 = .ok (.i2l, 1) := by decide +kernel
theorem qd_L_find_10 : decode qc_L_find 10 = .ok (.lastore, 1) := by decide +kernel
theorem qd_L_find_11 : decode qc_L_find 11 = .ok (.goto 7, 3) := by decide +kernel
theorem qd_L_find_14 : decode qc_L_find 14 = .ok (.astore 5, 2) := by decide +kernel
theorem qd_L_find_16 : decode qc_L_find 16 = .ok (.iconst 1, 1) := by decide +kernel
theorem qd_L_find_17 : decode qc_L_find 17 = .ok (.ireturn, 1) := by decide +kernel
theorem qd_L_find_18 : decode qc_L_find 18 = .ok (.iconst 0, 1) := by decide +kernel
theorem qd_L_find_19 : decode qc_L_find 19 = .ok (.ireturn, 1) := by decide +kernel
theorem qd_M_init_0 : decode qc_M_init 0 = .ok (.aload_n 0, 1) := by decide +kernel
theorem qd_M_init_1 : decode qc_M_init 1 = .ok (.invokespecial 1, 3) := by decide +kernel
theorem qd_M_init_4 : decode qc_M_init 4 = .ok (.aload_n 0, 1) := by decide +kernel
theorem qd_M_init_5 : decode qc_M_init 5 = .ok (.sipush 600, 3) := by decide +kernel
theorem qd_M_init_8 : decode qc_M_init 8 = .ok (.newarray .long, 2) := by decide +kernel
theorem qd_M_init_10 : decode qc_M_init 10 = .ok (.putfield 9, 3) := by decide +kernel
theorem qd_M_init_13 : decode qc_M_init 13 = .ok (.aload_n 0, 1) := by decide +kernel
theorem qd_M_init_14 : decode qc_M_init 14 = .ok (.bipush 40, 2) := by decide +kernel
theorem qd_M_init_16 : decode qc_M_init 16 = .ok (.newarray .long, 2) := by decide +kernel
theorem qd_M_init_18 : decode qc_M_init 18 = .ok (.putfield 13, 3) := by decide +kernel
theorem qd_M_init_21 : decode qc_M_init 21 = .ok (.return_, 1) := by decide +kernel
theorem qd_M_thrown_0 : decode qc_M_thrown 0 = .ok (.aload_n 0, 1) := by decide +kernel
theorem qd_M_thrown_1 : decode qc_M_thrown 1 = .ok (.getfield 16, 3) := by decide +kernel
theorem qd_M_thrown_4 : decode qc_M_thrown 4 = .ok (.ireturn, 1) := by decide +kernel
theorem qd_M_add_0 : decode qc_M_add 0 = .ok (.aload_n 0, 1) := by decide +kernel
theorem qd_M_add_1 : decode qc_M_add 1 = .ok (.aload_n 0, 1) := by decide +kernel
theorem qd_M_add_2 : decode qc_M_add 2 = .ok (.getfield 41, 3) := by decide +kernel
theorem qd_M_add_5 : decode qc_M_add 5 = .ok (.sipush 600, 3) := by decide +kernel
theorem qd_M_add_8 : decode qc_M_add 8 = .ok (.if_icmp .ne 7, 3) := by decide +kernel
theorem qd_M_add_11 : decode qc_M_add 11 = .ok (.iconst 1, 1) := by decide +kernel
theorem qd_M_add_12 : decode qc_M_add 12 = .ok (.goto 4, 3) := by decide +kernel
theorem qd_M_add_15 : decode qc_M_add 15 = .ok (.iconst 0, 1) := by decide +kernel
theorem qd_M_add_16 : decode qc_M_add 16 = .ok (.putfield 16, 3) := by decide +kernel
theorem qd_M_add_19 : decode qc_M_add 19 = .ok (.aload_n 0, 1) := by decide +kernel
theorem qd_M_add_20 : decode qc_M_add 20 = .ok (.getfield 16, 3) := by decide +kernel
theorem qd_M_add_23 : decode qc_M_add 23 = .ok (.ifCond .le 5, 3) := by decide +kernel
theorem qd_M_add_26 : decode qc_M_add 26 = .ok (.iconst 0, 1) := by decide +kernel
theorem qd_M_add_27 : decode qc_M_add 27 = .ok (.ireturn, 1) := by decide +kernel
theorem qd_M_add_28 : decode qc_M_add 28 = .ok (.aload_n 0, 1) := by decide +kernel
theorem qd_M_add_29 : decode qc_M_add 29 = .ok (.getfield 9, 3) := by decide +kernel
theorem qd_M_add_32 : decode qc_M_add 32 = .ok (.aload_n 0, 1) := by decide +kernel
theorem qd_M_add_33 : decode qc_M_add 33 = .ok (.getfield 41, 3) := by decide +kernel
theorem qd_M_add_36 : decode qc_M_add 36 = .ok (.lload_n 1, 1) := by decide +kernel
theorem qd_M_add_37 : decode qc_M_add 37 = .ok (.lastore, 1) := by decide +kernel
theorem qd_M_add_38 : decode qc_M_add 38 = .ok (.aload_n 0, 1) := by decide +kernel
theorem qd_M_add_39 : decode qc_M_add 39 = .ok (.dup, 1) := by decide +kernel
theorem qd_M_add_40 : decode qc_M_add 40 = .ok (.getfield 41, 3) := by decide +kernel
theorem qd_M_add_43 : decode qc_M_add 43 = .ok (.iconst 1, 1) := by decide +kernel
theorem qd_M_add_44 : decode qc_M_add 44 = .ok (.iadd, 1) := by decide +kernel
theorem qd_M_add_45 : decode qc_M_add 45 = .ok (.putfield 41, 3) := by decide +kernel
theorem qd_M_add_48 : decode qc_M_add 48 = .ok (.aload_n 0, 1) := by decide +kernel
theorem qd_M_add_49 : decode qc_M_add 49 = .ok (.getfield 41, 3) := by decide +kernel
theorem qd_M_add_52 : decode qc_M_add 52 = .ok (.ireturn, 1) := by decide +kernel
theorem qd_M_fill_0 : decode qc_M_fill 0 = .ok (.aload_n 0, 1) := by decide +kernel
theorem qd_M_fill_1 : decode qc_M_fill 1 = .ok (.iload_n 1, 1) := by decide +kernel
theorem qd_M_fill_2 : decode qc_M_fill 2 = .ok (.iconst 1, 1) := by decide +kernel
theorem qd_M_fill_3 : decode qc_M_fill 3 = .ok (.if_icmp .lt 10, 3) := by decide +kernel
theorem qd_M_fill_6 : decode qc_M_fill 6 = .ok (.iload_n 1, 1) := by decide +kernel
theorem qd_M_fill_7 : decode qc_M_fill 7 = .ok (.sipush 200, 3) := by decide +kernel
theorem qd_M_fill_10 : decode qc_M_fill 10 = .ok (.if_icmp .le 7, 3) := by decide +kernel
theorem qd_M_fill_13 : decode qc_M_fill 13 = .ok (.iconst 1, 1) := by decide +kernel
theorem qd_M_fill_14 : decode qc_M_fill 14 = .ok (.goto 20, 3) := by decide +kernel
theorem qd_M_fill_17 : decode qc_M_fill 17 = .ok (.aload_n 0, 1) := by decide +kernel
theorem qd_M_fill_18 : decode qc_M_fill 18 = .ok (.getfield 41, 3) := by decide +kernel
theorem qd_M_fill_21 : decode qc_M_fill 21 = .ok (.iload_n 1, 1) := by decide +kernel
theorem qd_M_fill_22 : decode qc_M_fill 22 = .ok (.iadd, 1) := by decide +kernel
theorem qd_M_fill_23 : decode qc_M_fill 23 = .ok (.sipush 600, 3) := by decide +kernel
theorem qd_M_fill_26 : decode qc_M_fill 26 = .ok (.if_icmp .le 7, 3) := by decide +kernel
theorem qd_M_fill_29 : decode qc_M_fill 29 = .ok (.iconst 2, 1) := by decide +kernel
theorem qd_M_fill_30 : decode qc_M_fill 30 = .ok (.goto 4, 3) := by decide +kernel
theorem qd_M_fill_33 : decode qc_M_fill 33 = .ok (.iconst 0, 1) := by decide +kernel
theorem qd_M_fill_34 : decode qc_M_fill 34 = .ok (.putfield 16, 3) := by decide +kernel
theorem qd_M_fill_37 : decode qc_M_fill 37 = .ok (.aload_n 0, 1) := by decide +kernel
theorem qd_M_fill_38 : decode qc_M_fill 38 = .ok (.getfield 16, 3) := by decide +kernel
theorem qd_M_fill_41 : decode qc_M_fill 41 = .ok (.ifCond .le 5, 3) := by decide +kernel
theorem qd_M_fill_44 : decode qc_M_fill 44 = .ok (.iconst 0, 1) := by decide +kernel
theorem qd_M_fill_45 : decode qc_M_fill 45 = .ok (.ireturn, 1) := by decide +kernel
theorem qd_M_fill_46 : decode qc_M_fill 46 = .ok (.iconst 0, 1) := by decide +kernel
theorem qd_M_fill_47 : decode qc_M_fill 47 = .ok (.istore 6, 2) := by decide +kernel
theorem qd_M_fill_49 : decode qc_M_fill 49 = .ok (.iload 6, 2) := by decide +kernel
theorem qd_M_fill_51 : decode qc_M_fill 51 = .ok (.iload_n 1, 1) := by decide +kernel
theorem qd_M_fill_52 : decode qc_M_fill 52 = .ok (.if_icmp .ge 29, 3) := by decide +kernel
theorem qd_M_fill_55 : decode qc_M_fill 55 = .ok (.aload_n 0, 1) := by decide +kernel
theorem qd_M_fill_56 : decode qc_M_fill 56 = .ok (.getfield 9, 3) := by decide +kernel
theorem qd_M_fill_59 : decode qc_M_fill 59 = .ok (.aload_n 0, 1) := by decide +kernel
theorem qd_M_fill_60 : decode qc_M_fill 60 = .ok (.getfield 41, 3) := by decide +kernel
theorem qd_M_fill_63 : decode qc_M_fill 63 = .ok (.iload 6, 2) := by decide +kernel
theorem qd_M_fill_65 : decode qc_M_fill 65 = .ok (.iadd, 1) := by decide +kernel
theorem qd_M_fill_66 : decode qc_M_fill 66 = .ok (.lload_n 2, 1) := by decide +kernel
theorem qd_M_fill_67 : decode qc_M_fill 67 = .ok (.iload 6, 2) := by decide +kernel
theorem qd_M_fill_69 : decode qc_M_fill 69 = .ok (.i2l, 1) := by decide +kernel
theorem qd_M_fill_70 : decode qc_M_fill 70 = .ok (.lload 4, 2) := by decide +kernel
theorem qd_M_fill_72 : decode qc_M_fill 72 = .ok (.lmul, 1) := by decide +kernel
theorem qd_M_fill_73 : decode qc_M_fill 73 = .ok (.ladd, 1) := by decide +kernel
theorem qd_M_fill_74 : decode qc_M_fill 74 = .ok (.lastore, 1) := by decide +kernel
theorem qd_M_fill_75 : decode qc_M_fill 75 = .ok (.iinc 6 1, 3) := by decide +kernel
theorem qd_M_fill_78 : decode qc_M_fill 78 = .ok (.goto (-29), 3) := by decide +kernel
theorem qd_M_fill_81 : decode qc_M_fill 81 = .ok (.aload_n 0, 1) := by decide +kernel
theorem qd_M_fill_82 : decode qc_M_fill 82 = .ok (.dup, 1) := by decide +kernel
theorem qd_M_fill_83 : decode qc_M_fill 83 = .ok (.getfield 41, 3) := by decide +kernel
theorem qd_M_fill_86 : decode qc_M_fill 86 = .ok (.iload_n 1, 1) := by decide +kernel
theorem qd_M_fill_87 : decode qc_M_fill 87 = .ok (.iadd, 1) := by decide +kernel
theorem qd_M_fill_88 : decode qc_M_fill 88 = .ok (.putfield 41, 3) := by decide +kernel
theorem qd_M_fill_91 : decode qc_M_fill 91 = .ok (.aload_n 0, 1) := by decide +kernel
theorem qd_M_fill_92 : decode qc_M_fill 92 = .ok (.getfield 41, 3) := by decide +kernel
theorem qd_M_fill_95 : decode qc_M_fill 95 = .ok (.ireturn, 1) := by decide +kernel
theorem qd_M_cut_0 : decode qc_M_cut 0 = .ok (.aload_n 0, 1) := by decide +kernel
theorem qd_M_cut_1 : decode qc_M_cut 1 = .ok (.iload_n 1, 1) := by decide +kernel
theorem qd_M_cut_2 : decode qc_M_cut 2 = .ok (.ifCond .lt 11, 3) := by decide +kernel
theorem qd_M_cut_5 : decode qc_M_cut 5 = .ok (.iload_n 1, 1) := by decide +kernel
theorem qd_M_cut_6 : decode qc_M_cut 6 = .ok (.aload_n 0, 1) := by decide +kernel
theorem qd_M_cut_7 : decode qc_M_cut 7 = .ok (.getfield 41, 3) := by decide +kernel
theorem qd_M_cut_10 : decode qc_M_cut 10 = .ok (.if_icmp .le 7, 3) := by decide +kernel
theorem qd_M_cut_13 : decode qc_M_cut 13 = .ok (.iconst 1, 1) := by decide +kernel
theorem qd_M_cut_14 : decode qc_M_cut 14 = .ok (.goto 4, 3) := by decide +kernel
theorem qd_M_cut_17 : decode qc_M_cut 17 = .ok (.iconst 0, 1) := by decide +kernel
theorem qd_M_cut_18 : decode qc_M_cut 18 = .ok (.putfield 16, 3) := by decide +kernel
theorem qd_M_cut_21 : decode qc_M_cut 21 = .ok (.aload_n 0, 1) := by decide +kernel
theorem qd_M_cut_22 : decode qc_M_cut 22 = .ok (.getfield 16, 3) := by decide +kernel
theorem qd_M_cut_25 : decode qc_M_cut 25 = .ok (.ifCond .le 5, 3) := by decide +kernel
theorem qd_M_cut_28 : decode qc_M_cut 28 = .ok (.iconst 0, 1) := by decide +kernel
theorem qd_M_cut_29 : decode qc_M_cut 29 = .ok (.ireturn, 1) := by decide +kernel
theorem qd_M_cut_30 : decode qc_M_cut 30 = .ok (.aload_n 0, 1) := by decide +kernel
theorem qd_M_cut_31 : decode qc_M_cut 31 = .ok (.getfield 41, 3) := by decide +kernel
theorem qd_M_cut_34 : decode qc_M_cut 34 = .ok (.iload_n 1, 1) := by decide +kernel
theorem qd_M_cut_35 : decode qc_M_cut 35 = .ok (.isub, 1) := by decide +kernel
theorem qd_M_cut_36 : decode qc_M_cut 36 = .ok (.istore_n 2, 1) := by decide +kernel
theorem qd_M_cut_37 : decode qc_M_cut 37 = .ok (.aload_n 0, 1) := by decide +kernel
theorem qd_M_cut_38 : decode qc_M_cut 38 = .ok (.iload_n 1, 1) := by decide +kernel
theorem qd_M_cut_39 : decode qc_M_cut 39 = .ok (.putfield 41, 3) := by decide +kernel
theorem qd_M_cut_42 : decode qc_M_cut 42 = .ok (.iload_n 2, 1) := by decide +kernel
theorem qd_M_cut_43 : decode qc_M_cut 43 = .ok (.ireturn, 1) := by decide +kernel
theorem qd_M_head_0 : decode qc_M_head 0 = .ok (.aload_n 0, 1) := by decide +kernel
theorem qd_M_head_1 : decode qc_M_head 1 = .ok (.iload_n 1, 1) := by decide +kernel
theorem qd_M_head_2 : decode qc_M_head 2 = .ok (.ifCond .lt 11, 3) := by decide +kernel
theorem qd_M_head_5 : decode qc_M_head 5 = .ok (.iload_n 1, 1) := by decide +kernel
theorem qd_M_head_6 : decode qc_M_head 6 = .ok (.aload_n 0, 1) := by decide +kernel
theorem qd_M_head_7 : decode qc_M_head 7 = .ok (.getfield 41, 3) := by decide +kernel
theorem qd_M_head_10 : decode qc_M_head 10 = .ok (.if_icmp .le 7, 3) := by decide +kernel
theorem qd_M_head_13 : decode qc_M_head 13 = .ok (.iconst 1, 1) := by decide +kernel
theorem qd_M_head_14 : decode qc_M_head 14 = .ok (.goto 4, 3) := by decide +kernel
theorem qd_M_head_17 : decode qc_M_head 17 = .ok (.iconst 0, 1) := by decide +kernel
theorem qd_M_head_18 : decode qc_M_head 18 = .ok (.putfield 16, 3) := by decide +kernel
theorem qd_M_head_21 : decode qc_M_head 21 = .ok (.aload_n 0, 1) := by decide +kernel
theorem qd_M_head_22 : decode qc_M_head 22 = .ok (.getfield 16, 3) := by decide +kernel
theorem qd_M_head_25 : decode qc_M_head 25 = .ok (.ifCond .le 7, 3) := by decide +kernel
theorem qd_M_head_28 : decode qc_M_head 28 = .ok (.lconst 0, 1) := by decide +kernel
theorem qd_M_head_29 : decode qc_M_head 29 = .ok (.goto 9, 3) := by decide +kernel
theorem qd_M_head_32 : decode qc_M_head 32 = .ok (.aload_n 0, 1) := by decide +kernel
theorem qd_M_head_33 : decode qc_M_head 33 = .ok (.iconst 0, 1) := by decide +kernel
theorem qd_M_head_34 : decode qc_M_head 34 = .ok (.iload_n 1, 1) := by decide +kernel
theorem qd_M_head_35 : decode qc_M_head 35 = .ok (.invokevirtual 34, 3) := by decide +kernel
theorem qd_M_head_38 : decode qc_M_head 38 = .ok (.lreturn, 1) := by decide +kernel
theorem qd_M_headOf_0 : decode qc_M_headOf 0 = .ok (.iload_n 2, 1) := by decide +kernel
theorem qd_M_headOf_1 : decode qc_M_headOf 1 = .ok (.ifCond .ne 5, 3) := by decide +kernel
theorem qd_M_headOf_4 : decode qc_M_headOf 4 = .ok (.lconst 0, 1) := by decide +kernel
theorem qd_M_headOf_5 : decode qc_M_headOf 5 = .ok (.lreturn, 1) := by decide +kernel
theorem qd_M_headOf_6 : decode qc_M_headOf 6 = .ok (.iload_n 2, 1) := by decide +kernel
theorem qd_M_headOf_7 : decode qc_M_headOf 7 = .ok (.iconst 1, 1) := by decide +kernel
theorem qd_M_headOf_8 : decode qc_M_headOf 8 = .ok (.if_icmp .ne 14, 3) := by decide +kernel
theorem qd_M_headOf_11 : decode qc_M_headOf 11 = .ok (.lconst 1, 1) := by decide +kernel
theorem qd_M_headOf_12 : decode qc_M_headOf 12 = .ok (.aload_n 0, 1) := by decide +kernel
theorem qd_M_headOf_13 : decode qc_M_headOf 13 = .ok (.getfield 9, 3) := by decide +kernel
theorem qd_M_headOf_16 : decode qc_M_headOf 16 = .ok (.iload_n 1, 1) := by decide +kernel
theorem qd_M_headOf_17 : decode qc_M_headOf 17 = .ok (.laload, 1) := by decide +kernel
theorem qd_M_headOf_18 : decode qc_M_headOf 18 = .ok (.invokestatic 26, 3) := by decide +kernel
theorem qd_M_headOf_21 : decode qc_M_headOf 21 = .ok (.lreturn, 1) := by decide +kernel
theorem qd_M_headOf_22 : decode qc_M_headOf 22 = .ok (.iload_n 2, 1) := by decide +kernel
theorem qd_M_headOf_23 : decode qc_M_headOf 23 = .ok (.invokestatic 30, 3) := by decide +kernel
theorem qd_M_headOf_26 : decode qc_M_headOf 26 = .ok (.istore_n 3, 1) := by decide +kernel
theorem qd_M_headOf_27 : decode qc_M_headOf 27 = .ok (.aload_n 0, 1) := by decide +kernel
theorem qd_M_headOf_28 : decode qc_M_headOf 28 = .ok (.iload_n 1, 1) := by decide +kernel
theorem qd_M_headOf_29 : decode qc_M_headOf 29 = .ok (.iload_n 3, 1) := by decide +kernel
theorem qd_M_headOf_30 : decode qc_M_headOf 30 = .ok (.invokevirtual 34, 3) := by decide +kernel
theorem qd_M_headOf_33 : decode qc_M_headOf 33 = .ok (.lstore 4, 2) := by decide +kernel
theorem qd_M_headOf_35 : decode qc_M_headOf 35 = .ok (.lload 4, 2) := by decide +kernel
theorem qd_M_headOf_37 : decode qc_M_headOf 37 = .ok (.aload_n 0, 1) := by decide +kernel
theorem qd_M_headOf_38 : decode qc_M_headOf 38 = .ok (.iload_n 1, 1) := by decide +kernel
theorem qd_M_headOf_39 : decode qc_M_headOf 39 = .ok (.iload_n 3, 1) := by decide +kernel
theorem qd_M_headOf_40 : decode qc_M_headOf 40 = .ok (.iadd, 1) := by decide +kernel
theorem qd_M_headOf_41 : decode qc_M_headOf 41 = .ok (.iload_n 2, 1) := by decide +kernel
theorem qd_M_headOf_42 : decode qc_M_headOf 42 = .ok (.iload_n 3, 1) := by decide +kernel
theorem qd_M_headOf_43 : decode qc_M_headOf 43 = .ok (.isub, 1) := by decide +kernel
theorem qd_M_headOf_44 : decode qc_M_headOf 44 = .ok (.invokevirtual 34, 3) := by decide +kernel
theorem qd_M_headOf_47 : decode qc_M_headOf 47 = .ok (.invokestatic 38, 3) := by decide +kernel
theorem qd_M_headOf_50 : decode qc_M_headOf 50 = .ok (.lreturn, 1) := by decide +kernel
theorem qd_M_mix_0 : decode qc_M_mix 0 = .ok (.lload_n 0, 1) := by decide +kernel
theorem qd_M_mix_1 : decode qc_M_mix 1 = .ok (.lload_n 2, 1) := by decide +kernel
theorem qd_M_mix_2 : decode qc_M_mix 2 = .ok (.lxor, 1) := by decide +kernel
theorem qd_M_mix_3 : decode qc_M_mix 3 = .ok (.ldc2_w 20, 3) := by decide +kernel
theorem qd_M_mix_6 : decode qc_M_mix 6 = .ok (.lmul, 1) := by decide +kernel
theorem qd_M_mix_7 : decode qc_M_mix 7 = .ok (.lstore 4, 2) := by decide +kernel
theorem qd_M_mix_9 : decode qc_M_mix 9 = .ok (.lload 4, 2) := by decide +kernel
theorem qd_M_mix_11 : decode qc_M_mix 11 = .ok (.lload 4, 2) := by decide +kernel
theorem qd_M_mix_13 : decode qc_M_mix 13 = .ok (.bipush 29, 2) := by decide +kernel
theorem qd_M_mix_15 : decode qc_M_mix 15 = .ok (.lushr, 1) := by decide +kernel
theorem qd_M_mix_16 : decode qc_M_mix 16 = .ok (.lxor, 1) := by decide +kernel
theorem qd_M_mix_17 : decode qc_M_mix 17 = .ok (.ldc2_w 22, 3) := by decide +kernel
theorem qd_M_mix_20 : decode qc_M_mix 20 = .ok (.lmul, 1) := by decide +kernel
theorem qd_M_mix_21 : decode qc_M_mix 21 = .ok (.lstore 6, 2) := by decide +kernel
theorem qd_M_mix_23 : decode qc_M_mix 23 = .ok (.lload 6, 2) := by decide +kernel
theorem qd_M_mix_25 : decode qc_M_mix 25 = .ok (.lload 6, 2) := by decide +kernel
theorem qd_M_mix_27 : decode qc_M_mix 27 = .ok (.bipush 32, 2) := by decide +kernel
theorem qd_M_mix_29 : decode qc_M_mix 29 = .ok (.lushr, 1) := by decide +kernel
theorem qd_M_mix_30 : decode qc_M_mix 30 = .ok (.lxor, 1) := by decide +kernel
theorem qd_M_mix_31 : decode qc_M_mix 31 = .ok (.lreturn, 1) := by decide +kernel
theorem qd_M_below_0 : decode qc_M_below 0 = .ok (.iconst 1, 1) := by decide +kernel
theorem qd_M_below_1 : decode qc_M_below 1 = .ok (.istore_n 1, 1) := by decide +kernel
theorem qd_M_below_2 : decode qc_M_below 2 = .ok (.iload_n 1, 1) := by decide +kernel
theorem qd_M_below_3 : decode qc_M_below 3 = .ok (.iload_n 0, 1) := by decide +kernel
theorem qd_M_below_4 : decode qc_M_below 4 = .ok (.iload_n 1, 1) := by decide +kernel
theorem qd_M_below_5 : decode qc_M_below 5 = .ok (.isub, 1) := by decide +kernel
theorem qd_M_below_6 : decode qc_M_below 6 = .ok (.if_icmp .ge 10, 3) := by decide +kernel
theorem qd_M_below_9 : decode qc_M_below 9 = .ok (.iload_n 1, 1) := by decide +kernel
theorem qd_M_below_10 : decode qc_M_below 10 = .ok (.iload_n 1, 1) := by decide +kernel
theorem qd_M_below_11 : decode qc_M_below 11 = .ok (.iadd, 1) := by decide +kernel
theorem qd_M_below_12 : decode qc_M_below 12 = .ok (.istore_n 1, 1) := by decide +kernel
theorem qd_M_below_13 : decode qc_M_below 13 = .ok (.goto (-11), 3) := by decide +kernel
theorem qd_M_below_16 : decode qc_M_below 16 = .ok (.iload_n 1, 1) := by decide +kernel
theorem qd_M_below_17 : decode qc_M_below 17 = .ok (.ireturn, 1) := by decide +kernel
theorem qd_M_node_0 : decode qc_M_node 0 = .ok (.ldc2_w 24, 3) := by decide +kernel
theorem qd_M_node_3 : decode qc_M_node 3 = .ok (.lload_n 0, 1) := by decide +kernel
theorem qd_M_node_4 : decode qc_M_node 4 = .ok (.invokestatic 26, 3) := by decide +kernel
theorem qd_M_node_7 : decode qc_M_node 7 = .ok (.lload_n 2, 1) := by decide +kernel
theorem qd_M_node_8 : decode qc_M_node 8 = .ok (.invokestatic 26, 3) := by decide +kernel
theorem qd_M_node_11 : decode qc_M_node 11 = .ok (.lreturn, 1) := by decide +kernel
theorem qd_M_part_0 : decode qc_M_part 0 = .ok (.aload_n 0, 1) := by decide +kernel
theorem qd_M_part_1 : decode qc_M_part 1 = .ok (.iload_n 1, 1) := by decide +kernel
theorem qd_M_part_2 : decode qc_M_part 2 = .ok (.ifCond .lt 16, 3) := by decide +kernel
theorem qd_M_part_5 : decode qc_M_part 5 = .ok (.iload_n 1, 1) := by decide +kernel
theorem qd_M_part_6 : decode qc_M_part 6 = .ok (.iload_n 2, 1) := by decide +kernel
theorem qd_M_part_7 : decode qc_M_part 7 = .ok (.if_icmp .gt 11, 3) := by decide +kernel
theorem qd_M_part_10 : decode qc_M_part 10 = .ok (.iload_n 2, 1) := by decide +kernel
theorem qd_M_part_11 : decode qc_M_part 11 = .ok (.aload_n 0, 1) := by decide +kernel
theorem qd_M_part_12 : decode qc_M_part 12 = .ok (.getfield 41, 3) := by decide +kernel
theorem qd_M_part_15 : decode qc_M_part 15 = .ok (.if_icmp .le 7, 3) := by decide +kernel
theorem qd_M_part_18 : decode qc_M_part 18 = .ok (.iconst 1, 1) := by decide +kernel
theorem qd_M_part_19 : decode qc_M_part 19 = .ok (.goto 4, 3) := by decide +kernel
theorem qd_M_part_22 : decode qc_M_part 22 = .ok (.iconst 0, 1) := by decide +kernel
theorem qd_M_part_23 : decode qc_M_part 23 = .ok (.putfield 16, 3) := by decide +kernel
theorem qd_M_part_26 : decode qc_M_part 26 = .ok (.aload_n 0, 1) := by decide +kernel
theorem qd_M_part_27 : decode qc_M_part 27 = .ok (.getfield 16, 3) := by decide +kernel
theorem qd_M_part_30 : decode qc_M_part 30 = .ok (.ifCond .le 7, 3) := by decide +kernel
theorem qd_M_part_33 : decode qc_M_part 33 = .ok (.lconst 0, 1) := by decide +kernel
theorem qd_M_part_34 : decode qc_M_part 34 = .ok (.goto 11, 3) := by decide +kernel
theorem qd_M_part_37 : decode qc_M_part 37 = .ok (.aload_n 0, 1) := by decide +kernel
theorem qd_M_part_38 : decode qc_M_part 38 = .ok (.iload_n 1, 1) := by decide +kernel
theorem qd_M_part_39 : decode qc_M_part 39 = .ok (.iload_n 2, 1) := by decide +kernel
theorem qd_M_part_40 : decode qc_M_part 40 = .ok (.iload_n 1, 1) := by decide +kernel
theorem qd_M_part_41 : decode qc_M_part 41 = .ok (.isub, 1) := by decide +kernel
theorem qd_M_part_42 : decode qc_M_part 42 = .ok (.invokevirtual 34, 3) := by decide +kernel
theorem qd_M_part_45 : decode qc_M_part 45 = .ok (.lreturn, 1) := by decide +kernel
theorem qd_M_path_0 : decode qc_M_path 0 = .ok (.aload_n 0, 1) := by decide +kernel
theorem qd_M_path_1 : decode qc_M_path 1 = .ok (.iload_n 1, 1) := by decide +kernel
theorem qd_M_path_2 : decode qc_M_path 2 = .ok (.ifCond .lt 16, 3) := by decide +kernel
theorem qd_M_path_5 : decode qc_M_path 5 = .ok (.iload_n 1, 1) := by decide +kernel
theorem qd_M_path_6 : decode qc_M_path 6 = .ok (.iload_n 2, 1) := by decide +kernel
theorem qd_M_path_7 : decode qc_M_path 7 = .ok (.if_icmp .ge 11, 3) := by decide +kernel
theorem qd_M_path_10 : decode qc_M_path 10 = .ok (.iload_n 2, 1) := by decide +kernel
theorem qd_M_path_11 : decode qc_M_path 11 = .ok (.aload_n 0, 1) := by decide +kernel
theorem qd_M_path_12 : decode qc_M_path 12 = .ok (.getfield 41, 3) := by decide +kernel
theorem qd_M_path_15 : decode qc_M_path 15 = .ok (.if_icmp .le 7, 3) := by decide +kernel
theorem qd_M_path_18 : decode qc_M_path 18 = .ok (.iconst 1, 1) := by decide +kernel
theorem qd_M_path_19 : decode qc_M_path 19 = .ok (.goto 4, 3) := by decide +kernel
theorem qd_M_path_22 : decode qc_M_path 22 = .ok (.iconst 0, 1) := by decide +kernel
theorem qd_M_path_23 : decode qc_M_path 23 = .ok (.putfield 16, 3) := by decide +kernel
theorem qd_M_path_26 : decode qc_M_path 26 = .ok (.aload_n 0, 1) := by decide +kernel
theorem qd_M_path_27 : decode qc_M_path 27 = .ok (.getfield 16, 3) := by decide +kernel
theorem qd_M_path_30 : decode qc_M_path 30 = .ok (.ifCond .le 5, 3) := by decide +kernel
theorem qd_M_path_33 : decode qc_M_path 33 = .ok (.iconst 0, 1) := by decide +kernel
theorem qd_M_path_34 : decode qc_M_path 34 = .ok (.ireturn, 1) := by decide +kernel
theorem qd_M_path_35 : decode qc_M_path 35 = .ok (.aload_n 0, 1) := by decide +kernel
theorem qd_M_path_36 : decode qc_M_path 36 = .ok (.iconst 0, 1) := by decide +kernel
theorem qd_M_path_37 : decode qc_M_path 37 = .ok (.putfield 44, 3) := by decide +kernel
theorem qd_M_path_40 : decode qc_M_path 40 = .ok (.aload_n 0, 1) := by decide +kernel
theorem qd_M_path_41 : decode qc_M_path 41 = .ok (.iconst 0, 1) := by decide +kernel
theorem qd_M_path_42 : decode qc_M_path 42 = .ok (.iload_n 1, 1) := by decide +kernel
theorem qd_M_path_43 : decode qc_M_path 43 = .ok (.iload_n 2, 1) := by decide +kernel
theorem qd_M_path_44 : decode qc_M_path 44 = .ok (.invokevirtual 47, 3) := by decide +kernel
theorem qd_M_path_47 : decode qc_M_path 47 = .ok (.aload_n 0, 1) := by decide +kernel
theorem qd_M_path_48 : decode qc_M_path 48 = .ok (.getfield 44, 3) := by decide +kernel
theorem qd_M_path_51 : decode qc_M_path 51 = .ok (.ireturn, 1) := by decide +kernel
theorem qd_M_pathOf_0 : decode qc_M_pathOf 0 = .ok (.iload_n 3, 1) := by decide +kernel
theorem qd_M_pathOf_1 : decode qc_M_pathOf 1 = .ok (.iconst 1, 1) := by decide +kernel
theorem qd_M_pathOf_2 : decode qc_M_pathOf 2 = .ok (.if_icmp .ne 4, 3) := by decide +kernel
theorem qd_M_pathOf_5 : decode qc_M_pathOf 5 = .ok (.return_, 1) := by decide +kernel
theorem qd_M_pathOf_6 : decode qc_M_pathOf 6 = .ok (.iload_n 3, 1) := by decide +kernel
theorem qd_M_pathOf_7 : decode qc_M_pathOf 7 = .ok (.invokestatic 30, 3) := by decide +kernel
theorem qd_M_pathOf_10 : decode qc_M_pathOf 10 = .ok (.istore 4, 2) := by decide +kernel
theorem qd_M_pathOf_12 : decode qc_M_pathOf 12 = .ok (.iload_n 2, 1) := by decide +kernel
theorem qd_M_pathOf_13 : decode qc_M_pathOf 13 = .ok (.iload 4, 2) := by decide +kernel
theorem qd_M_pathOf_15 : decode qc_M_pathOf 15 = .ok (.if_icmp .ge 30, 3) := by decide +kernel
theorem qd_M_pathOf_18 : decode qc_M_pathOf 18 = .ok (.aload_n 0, 1) := by decide +kernel
theorem qd_M_pathOf_19 : decode qc_M_pathOf 19 = .ok (.iload_n 1, 1) := by decide +kernel
theorem qd_M_pathOf_20 : decode qc_M_pathOf 20 = .ok (.iload_n 2, 1) := by decide +kernel
theorem qd_M_pathOf_21 : decode qc_M_pathOf 21 = .ok (.iload 4, 2) := by decide +kernel
theorem qd_M_pathOf_23 : decode qc_M_pathOf 23 = .ok (.invokevirtual 47, 3) := by decide +kernel
theorem qd_M_pathOf_26 : decode qc_M_pathOf 26 = .ok (.aload_n 0, 1) := by decide +kernel
theorem qd_M_pathOf_27 : decode qc_M_pathOf 27 = .ok (.aload_n 0, 1) := by decide +kernel
theorem qd_M_pathOf_28 : decode qc_M_pathOf 28 = .ok (.iload_n 1, 1) := by decide +kernel
theorem qd_M_pathOf_29 : decode qc_M_pathOf 29 = .ok (.iload 4, 2) := by decide +kernel
theorem qd_M_pathOf_31 : decode qc_M_pathOf 31 = .ok (.iadd, 1) := by decide +kernel
theorem qd_M_pathOf_32 : decode qc_M_pathOf 32 = .ok (.iload_n 3, 1) := by decide +kernel
theorem qd_M_pathOf_33 : decode qc_M_pathOf 33 = .ok (.iload 4, 2) := by decide +kernel
theorem qd_M_pathOf_35 : decode qc_M_pathOf 35 = .ok (.isub, 1) := by decide +kernel
theorem qd_M_pathOf_36 : decode qc_M_pathOf 36 = .ok (.invokevirtual 34, 3) := by decide +kernel
theorem qd_M_pathOf_39 : decode qc_M_pathOf 39 = .ok (.invokevirtual 51, 3) := by decide +kernel
theorem qd_M_pathOf_42 : decode qc_M_pathOf 42 = .ok (.goto 30, 3) := by decide +kernel
theorem qd_M_pathOf_45 : decode qc_M_pathOf 45 = .ok (.aload_n 0, 1) := by decide +kernel
theorem qd_M_pathOf_46 : decode qc_M_pathOf 46 = .ok (.iload_n 1, 1) := by decide +kernel
theorem qd_M_pathOf_47 : decode qc_M_pathOf 47 = .ok (.iload 4, 2) := by decide +kernel
theorem qd_M_pathOf_49 : decode qc_M_pathOf 49 = .ok (.iadd, 1) := by decide +kernel
theorem qd_M_pathOf_50 : decode qc_M_pathOf 50 = .ok (.iload_n 2, 1) := by decide +kernel
theorem qd_M_pathOf_51 : decode qc_M_pathOf 51 = .ok (.iload 4, 2) := by decide +kernel
theorem qd_M_pathOf_53 : decode qc_M_pathOf 53 = .ok (.isub, 1) := by decide +kernel
theorem qd_M_pathOf_54 : decode qc_M_pathOf 54 = .ok (.iload_n 3, 1) := by decide +kernel
theorem qd_M_pathOf_55 : decode qc_M_pathOf 55 = .ok (.iload 4, 2) := by decide +kernel
theorem qd_M_pathOf_57 : decode qc_M_pathOf 57 = .ok (.isub, 1) := by decide +kernel
theorem qd_M_pathOf_58 : decode qc_M_pathOf 58 = .ok (.invokevirtual 47, 3) := by decide +kernel
theorem qd_M_pathOf_61 : decode qc_M_pathOf 61 = .ok (.aload_n 0, 1) := by decide +kernel
theorem qd_M_pathOf_62 : decode qc_M_pathOf 62 = .ok (.aload_n 0, 1) := by decide +kernel
theorem qd_M_pathOf_63 : decode qc_M_pathOf 63 = .ok (.iload_n 1, 1) := by decide +kernel
theorem qd_M_pathOf_64 : decode qc_M_pathOf 64 = .ok (.iload 4, 2) := by decide +kernel
theorem qd_M_pathOf_66 : decode qc_M_pathOf 66 = .ok (.invokevirtual 34, 3) := by decide +kernel
theorem qd_M_pathOf_69 : decode qc_M_pathOf 69 = .ok (.invokevirtual 51, 3) := by decide +kernel
theorem qd_M_pathOf_72 : decode qc_M_pathOf 72 = .ok (.return_, 1) := by decide +kernel
theorem qd_M_put_0 : decode qc_M_put 0 = .ok (.aload_n 0, 1) := by decide +kernel
theorem qd_M_put_1 : decode qc_M_put 1 = .ok (.getfield 13, 3) := by decide +kernel
theorem qd_M_put_4 : decode qc_M_put 4 = .ok (.aload_n 0, 1) := by decide +kernel
theorem qd_M_put_5 : decode qc_M_put 5 = .ok (.getfield 44, 3) := by decide +kernel
theorem qd_M_put_8 : decode qc_M_put 8 = .ok (.lload_n 1, 1) := by decide +kernel
theorem qd_M_put_9 : decode qc_M_put 9 = .ok (.lastore, 1) := by decide +kernel
theorem qd_M_put_10 : decode qc_M_put 10 = .ok (.aload_n 0, 1) := by decide +kernel
theorem qd_M_put_11 : decode qc_M_put 11 = .ok (.dup, 1) := by decide +kernel
theorem qd_M_put_12 : decode qc_M_put 12 = .ok (.getfield 44, 3) := by decide +kernel
theorem qd_M_put_15 : decode qc_M_put 15 = .ok (.iconst 1, 1) := by decide +kernel
theorem qd_M_put_16 : decode qc_M_put 16 = .ok (.iadd, 1) := by decide +kernel
theorem qd_M_put_17 : decode qc_M_put 17 = .ok (.putfield 44, 3) := by decide +kernel
theorem qd_M_put_20 : decode qc_M_put 20 = .ok (.return_, 1) := by decide +kernel
theorem qd_M_steps_0 : decode qc_M_steps 0 = .ok (.aload_n 0, 1) := by decide +kernel
theorem qd_M_steps_1 : decode qc_M_steps 1 = .ok (.iload_n 1, 1) := by decide +kernel
theorem qd_M_steps_2 : decode qc_M_steps 2 = .ok (.iconst 1, 1) := by decide +kernel
theorem qd_M_steps_3 : decode qc_M_steps 3 = .ok (.if_icmp .lt 16, 3) := by decide +kernel
theorem qd_M_steps_6 : decode qc_M_steps 6 = .ok (.iload_n 1, 1) := by decide +kernel
theorem qd_M_steps_7 : decode qc_M_steps 7 = .ok (.iload_n 2, 1) := by decide +kernel
theorem qd_M_steps_8 : decode qc_M_steps 8 = .ok (.if_icmp .gt 11, 3) := by decide +kernel
theorem qd_M_steps_11 : decode qc_M_steps 11 = .ok (.iload_n 2, 1) := by decide +kernel
theorem qd_M_steps_12 : decode qc_M_steps 12 = .ok (.aload_n 0, 1) := by decide +kernel
theorem qd_M_steps_13 : decode qc_M_steps 13 = .ok (.getfield 41, 3) := by decide +kernel
theorem qd_M_steps_16 : decode qc_M_steps 16 = .ok (.if_icmp .le 7, 3) := by decide +kernel
theorem qd_M_steps_19 : decode qc_M_steps 19 = .ok (.iconst 1, 1) := by decide +kernel
theorem qd_M_steps_20 : decode qc_M_steps 20 = .ok (.goto 4, 3) := by decide +kernel
theorem qd_M_steps_23 : decode qc_M_steps 23 = .ok (.iconst 0, 1) := by decide +kernel
theorem qd_M_steps_24 : decode qc_M_steps 24 = .ok (.putfield 16, 3) := by decide +kernel
theorem qd_M_steps_27 : decode qc_M_steps 27 = .ok (.aload_n 0, 1) := by decide +kernel
theorem qd_M_steps_28 : decode qc_M_steps 28 = .ok (.getfield 16, 3) := by decide +kernel
theorem qd_M_steps_31 : decode qc_M_steps 31 = .ok (.ifCond .le 5, 3) := by decide +kernel
theorem qd_M_steps_34 : decode qc_M_steps 34 = .ok (.iconst 0, 1) := by decide +kernel
theorem qd_M_steps_35 : decode qc_M_steps 35 = .ok (.ireturn, 1) := by decide +kernel
theorem qd_M_steps_36 : decode qc_M_steps 36 = .ok (.aload_n 0, 1) := by decide +kernel
theorem qd_M_steps_37 : decode qc_M_steps 37 = .ok (.iconst 0, 1) := by decide +kernel
theorem qd_M_steps_38 : decode qc_M_steps 38 = .ok (.putfield 44, 3) := by decide +kernel
theorem qd_M_steps_41 : decode qc_M_steps 41 = .ok (.aload_n 0, 1) := by decide +kernel
theorem qd_M_steps_42 : decode qc_M_steps 42 = .ok (.iconst 0, 1) := by decide +kernel
theorem qd_M_steps_43 : decode qc_M_steps 43 = .ok (.iload_n 1, 1) := by decide +kernel
theorem qd_M_steps_44 : decode qc_M_steps 44 = .ok (.iload_n 2, 1) := by decide +kernel
theorem qd_M_steps_45 : decode qc_M_steps 45 = .ok (.iconst 1, 1) := by decide +kernel
theorem qd_M_steps_46 : decode qc_M_steps 46 = .ok (.invokevirtual 55, 3) := by decide +kernel
theorem qd_M_steps_49 : decode qc_M_steps 49 = .ok (.aload_n 0, 1) := by decide +kernel
theorem qd_M_steps_50 : decode qc_M_steps 50 = .ok (.getfield 44, 3) := by decide +kernel
theorem qd_M_steps_53 : decode qc_M_steps 53 = .ok (.ireturn, 1) := by decide +kernel
theorem qd_M_stepsOf_0 : decode qc_M_stepsOf 0 = .ok (.iload_n 2, 1) := by decide +kernel
theorem qd_M_stepsOf_1 : decode qc_M_stepsOf 1 = .ok (.iload_n 3, 1) := by decide +kernel
theorem qd_M_stepsOf_2 : decode qc_M_stepsOf 2 = .ok (.if_icmp .ne 19, 3) := by decide +kernel
theorem qd_M_stepsOf_5 : decode qc_M_stepsOf 5 = .ok (.iload 4, 2) := by decide +kernel
theorem qd_M_stepsOf_7 : decode qc_M_stepsOf 7 = .ok (.ifCond .ne 13, 3) := by decide +kernel
theorem qd_M_stepsOf_10 : decode qc_M_stepsOf 10 = .ok (.aload_n 0, 1) := by decide +kernel
theorem qd_M_stepsOf_11 : decode qc_M_stepsOf 11 = .ok (.aload_n 0, 1) := by decide +kernel
theorem qd_M_stepsOf_12 : decode qc_M_stepsOf 12 = .ok (.iload_n 1, 1) := by decide +kernel
theorem qd_M_stepsOf_13 : decode qc_M_stepsOf 13 = .ok (.iload_n 3, 1) := by decide +kernel
theorem qd_M_stepsOf_14 : decode qc_M_stepsOf 14 = .ok (.invokevirtual 34, 3) := by decide +kernel
theorem qd_M_stepsOf_17 : decode qc_M_stepsOf 17 = .ok (.invokevirtual 51, 3) := by decide +kernel
theorem qd_M_stepsOf_20 : decode qc_M_stepsOf 20 = .ok (.return_, 1) := by decide +kernel
theorem qd_M_stepsOf_21 : decode qc_M_stepsOf 21 = .ok (.iload_n 3, 1) := by decide +kernel
theorem qd_M_stepsOf_22 : decode qc_M_stepsOf 22 = .ok (.invokestatic 30, 3) := by decide +kernel
theorem qd_M_stepsOf_25 : decode qc_M_stepsOf 25 = .ok (.istore 5, 2) := by decide +kernel
theorem qd_M_stepsOf_27 : decode qc_M_stepsOf 27 = .ok (.iload_n 2, 1) := by decide +kernel
theorem qd_M_stepsOf_28 : decode qc_M_stepsOf 28 = .ok (.iload 5, 2) := by decide +kernel
theorem qd_M_stepsOf_30 : decode qc_M_stepsOf 30 = .ok (.if_icmp .gt 32, 3) := by decide +kernel
theorem qd_M_stepsOf_33 : decode qc_M_stepsOf 33 = .ok (.aload_n 0, 1) := by decide +kernel
theorem qd_M_stepsOf_34 : decode qc_M_stepsOf 34 = .ok (.iload_n 1, 1) := by decide +kernel
theorem qd_M_stepsOf_35 : decode qc_M_stepsOf 35 = .ok (.iload_n 2, 1) := by decide +kernel
theorem qd_M_stepsOf_36 : decode qc_M_stepsOf 36 = .ok (.iload 5, 2) := by decide +kernel
theorem qd_M_stepsOf_38 : decode qc_M_stepsOf 38 = .ok (.iload 4, 2) := by decide +kernel
theorem qd_M_stepsOf_40 : decode qc_M_stepsOf 40 = .ok (.invokevirtual 55, 3) := by decide +kernel
theorem qd_M_stepsOf_43 : decode qc_M_stepsOf 43 = .ok (.aload_n 0, 1) := by decide +kernel
theorem qd_M_stepsOf_44 : decode qc_M_stepsOf 44 = .ok (.aload_n 0, 1) := by decide +kernel
theorem qd_M_stepsOf_45 : decode qc_M_stepsOf 45 = .ok (.iload_n 1, 1) := by decide +kernel
theorem qd_M_stepsOf_46 : decode qc_M_stepsOf 46 = .ok (.iload 5, 2) := by decide +kernel
theorem qd_M_stepsOf_48 : decode qc_M_stepsOf 48 = .ok (.iadd, 1) := by decide +kernel
theorem qd_M_stepsOf_49 : decode qc_M_stepsOf 49 = .ok (.iload_n 3, 1) := by decide +kernel
theorem qd_M_stepsOf_50 : decode qc_M_stepsOf 50 = .ok (.iload 5, 2) := by decide +kernel
theorem qd_M_stepsOf_52 : decode qc_M_stepsOf 52 = .ok (.isub, 1) := by decide +kernel
theorem qd_M_stepsOf_53 : decode qc_M_stepsOf 53 = .ok (.invokevirtual 34, 3) := by decide +kernel
theorem qd_M_stepsOf_56 : decode qc_M_stepsOf 56 = .ok (.invokevirtual 51, 3) := by decide +kernel
theorem qd_M_stepsOf_59 : decode qc_M_stepsOf 59 = .ok (.goto 31, 3) := by decide +kernel
theorem qd_M_stepsOf_62 : decode qc_M_stepsOf 62 = .ok (.aload_n 0, 1) := by decide +kernel
theorem qd_M_stepsOf_63 : decode qc_M_stepsOf 63 = .ok (.iload_n 1, 1) := by decide +kernel
theorem qd_M_stepsOf_64 : decode qc_M_stepsOf 64 = .ok (.iload 5, 2) := by decide +kernel
theorem qd_M_stepsOf_66 : decode qc_M_stepsOf 66 = .ok (.iadd, 1) := by decide +kernel
theorem qd_M_stepsOf_67 : decode qc_M_stepsOf 67 = .ok (.iload_n 2, 1) := by decide +kernel
theorem qd_M_stepsOf_68 : decode qc_M_stepsOf 68 = .ok (.iload 5, 2) := by decide +kernel
theorem qd_M_stepsOf_70 : decode qc_M_stepsOf 70 = .ok (.isub, 1) := by decide +kernel
theorem qd_M_stepsOf_71 : decode qc_M_stepsOf 71 = .ok (.iload_n 3, 1) := by decide +kernel
theorem qd_M_stepsOf_72 : decode qc_M_stepsOf 72 = .ok (.iload 5, 2) := by decide +kernel
theorem qd_M_stepsOf_74 : decode qc_M_stepsOf 74 = .ok (.isub, 1) := by decide +kernel
theorem qd_M_stepsOf_75 : decode qc_M_stepsOf 75 = .ok (.iconst 0, 1) := by decide +kernel
theorem qd_M_stepsOf_76 : decode qc_M_stepsOf 76 = .ok (.invokevirtual 55, 3) := by decide +kernel
theorem qd_M_stepsOf_79 : decode qc_M_stepsOf 79 = .ok (.aload_n 0, 1) := by decide +kernel
theorem qd_M_stepsOf_80 : decode qc_M_stepsOf 80 = .ok (.aload_n 0, 1) := by decide +kernel
theorem qd_M_stepsOf_81 : decode qc_M_stepsOf 81 = .ok (.iload_n 1, 1) := by decide +kernel
theorem qd_M_stepsOf_82 : decode qc_M_stepsOf 82 = .ok (.iload 5, 2) := by decide +kernel
theorem qd_M_stepsOf_84 : decode qc_M_stepsOf 84 = .ok (.invokevirtual 34, 3) := by decide +kernel
theorem qd_M_stepsOf_87 : decode qc_M_stepsOf 87 = .ok (.invokevirtual 51, 3) := by decide +kernel
theorem qd_M_stepsOf_90 : decode qc_M_stepsOf 90 = .ok (.return_, 1) := by decide +kernel
theorem qd_M_proof_0 : decode qc_M_proof 0 = .ok (.aload_n 0, 1) := by decide +kernel
theorem qd_M_proof_1 : decode qc_M_proof 1 = .ok (.iload_n 1, 1) := by decide +kernel
theorem qd_M_proof_2 : decode qc_M_proof 2 = .ok (.ifCond .lt 11, 3) := by decide +kernel
theorem qd_M_proof_5 : decode qc_M_proof 5 = .ok (.iload_n 1, 1) := by decide +kernel
theorem qd_M_proof_6 : decode qc_M_proof 6 = .ok (.aload_n 0, 1) := by decide +kernel
theorem qd_M_proof_7 : decode qc_M_proof 7 = .ok (.getfield 44, 3) := by decide +kernel
theorem qd_M_proof_10 : decode qc_M_proof 10 = .ok (.if_icmp .lt 7, 3) := by decide +kernel
theorem qd_M_proof_13 : decode qc_M_proof 13 = .ok (.iconst 1, 1) := by decide +kernel
theorem qd_M_proof_14 : decode qc_M_proof 14 = .ok (.goto 4, 3) := by decide +kernel
theorem qd_M_proof_17 : decode qc_M_proof 17 = .ok (.iconst 0, 1) := by decide +kernel
theorem qd_M_proof_18 : decode qc_M_proof 18 = .ok (.putfield 16, 3) := by decide +kernel
theorem qd_M_proof_21 : decode qc_M_proof 21 = .ok (.aload_n 0, 1) := by decide +kernel
theorem qd_M_proof_22 : decode qc_M_proof 22 = .ok (.getfield 16, 3) := by decide +kernel
theorem qd_M_proof_25 : decode qc_M_proof 25 = .ok (.ifCond .le 7, 3) := by decide +kernel
theorem qd_M_proof_28 : decode qc_M_proof 28 = .ok (.lconst 0, 1) := by decide +kernel
theorem qd_M_proof_29 : decode qc_M_proof 29 = .ok (.goto 9, 3) := by decide +kernel
theorem qd_M_proof_32 : decode qc_M_proof 32 = .ok (.aload_n 0, 1) := by decide +kernel
theorem qd_M_proof_33 : decode qc_M_proof 33 = .ok (.getfield 13, 3) := by decide +kernel
theorem qd_M_proof_36 : decode qc_M_proof 36 = .ok (.iload_n 1, 1) := by decide +kernel
theorem qd_M_proof_37 : decode qc_M_proof 37 = .ok (.laload, 1) := by decide +kernel
theorem qd_M_proof_38 : decode qc_M_proof 38 = .ok (.lreturn, 1) := by decide +kernel
theorem qd_M_alter_0 : decode qc_M_alter 0 = .ok (.aload_n 0, 1) := by decide +kernel
theorem qd_M_alter_1 : decode qc_M_alter 1 = .ok (.iload_n 1, 1) := by decide +kernel
theorem qd_M_alter_2 : decode qc_M_alter 2 = .ok (.ifCond .lt 11, 3) := by decide +kernel
theorem qd_M_alter_5 : decode qc_M_alter 5 = .ok (.iload_n 1, 1) := by decide +kernel
theorem qd_M_alter_6 : decode qc_M_alter 6 = .ok (.aload_n 0, 1) := by decide +kernel
theorem qd_M_alter_7 : decode qc_M_alter 7 = .ok (.getfield 44, 3) := by decide +kernel
theorem qd_M_alter_10 : decode qc_M_alter 10 = .ok (.if_icmp .lt 7, 3) := by decide +kernel
theorem qd_M_alter_13 : decode qc_M_alter 13 = .ok (.iconst 1, 1) := by decide +kernel
theorem qd_M_alter_14 : decode qc_M_alter 14 = .ok (.goto 4, 3) := by decide +kernel
theorem qd_M_alter_17 : decode qc_M_alter 17 = .ok (.iconst 0, 1) := by decide +kernel
theorem qd_M_alter_18 : decode qc_M_alter 18 = .ok (.putfield 16, 3) := by decide +kernel
theorem qd_M_alter_21 : decode qc_M_alter 21 = .ok (.aload_n 0, 1) := by decide +kernel
theorem qd_M_alter_22 : decode qc_M_alter 22 = .ok (.getfield 16, 3) := by decide +kernel
theorem qd_M_alter_25 : decode qc_M_alter 25 = .ok (.ifCond .le 5, 3) := by decide +kernel
theorem qd_M_alter_28 : decode qc_M_alter 28 = .ok (.lconst 0, 1) := by decide +kernel
theorem qd_M_alter_29 : decode qc_M_alter 29 = .ok (.lreturn, 1) := by decide +kernel
theorem qd_M_alter_30 : decode qc_M_alter 30 = .ok (.aload_n 0, 1) := by decide +kernel
theorem qd_M_alter_31 : decode qc_M_alter 31 = .ok (.getfield 13, 3) := by decide +kernel
theorem qd_M_alter_34 : decode qc_M_alter 34 = .ok (.iload_n 1, 1) := by decide +kernel
theorem qd_M_alter_35 : decode qc_M_alter 35 = .ok (.laload, 1) := by decide +kernel
theorem qd_M_alter_36 : decode qc_M_alter 36 = .ok (.lstore 4, 2) := by decide +kernel
theorem qd_M_alter_38 : decode qc_M_alter 38 = .ok (.aload_n 0, 1) := by decide +kernel
theorem qd_M_alter_39 : decode qc_M_alter 39 = .ok (.getfield 13, 3) := by decide +kernel
theorem qd_M_alter_42 : decode qc_M_alter 42 = .ok (.iload_n 1, 1) := by decide +kernel
theorem qd_M_alter_43 : decode qc_M_alter 43 = .ok (.lload_n 2, 1) := by decide +kernel
theorem qd_M_alter_44 : decode qc_M_alter 44 = .ok (.lastore, 1) := by decide +kernel
theorem qd_M_alter_45 : decode qc_M_alter 45 = .ok (.lload 4, 2) := by decide +kernel
theorem qd_M_alter_47 : decode qc_M_alter 47 = .ok (.lreturn, 1) := by decide +kernel
theorem qd_M_length_0 : decode qc_M_length 0 = .ok (.aload_n 0, 1) := by decide +kernel
theorem qd_M_length_1 : decode qc_M_length 1 = .ok (.iload_n 1, 1) := by decide +kernel
theorem qd_M_length_2 : decode qc_M_length 2 = .ok (.ifCond .lt 9, 3) := by decide +kernel
theorem qd_M_length_5 : decode qc_M_length 5 = .ok (.iload_n 1, 1) := by decide +kernel
theorem qd_M_length_6 : decode qc_M_length 6 = .ok (.bipush 40, 2) := by decide +kernel
theorem qd_M_length_8 : decode qc_M_length 8 = .ok (.if_icmp .le 7, 3) := by decide +kernel
theorem qd_M_length_11 : decode qc_M_length 11 = .ok (.iconst 1, 1) := by decide +kernel
theorem qd_M_length_12 : decode qc_M_length 12 = .ok (.goto 4, 3) := by decide +kernel
theorem qd_M_length_15 : decode qc_M_length 15 = .ok (.iconst 0, 1) := by decide +kernel
theorem qd_M_length_16 : decode qc_M_length 16 = .ok (.putfield 16, 3) := by decide +kernel
theorem qd_M_length_19 : decode qc_M_length 19 = .ok (.aload_n 0, 1) := by decide +kernel
theorem qd_M_length_20 : decode qc_M_length 20 = .ok (.getfield 16, 3) := by decide +kernel
theorem qd_M_length_23 : decode qc_M_length 23 = .ok (.ifCond .le 5, 3) := by decide +kernel
theorem qd_M_length_26 : decode qc_M_length 26 = .ok (.iconst 0, 1) := by decide +kernel
theorem qd_M_length_27 : decode qc_M_length 27 = .ok (.ireturn, 1) := by decide +kernel
theorem qd_M_length_28 : decode qc_M_length 28 = .ok (.aload_n 0, 1) := by decide +kernel
theorem qd_M_length_29 : decode qc_M_length 29 = .ok (.getfield 44, 3) := by decide +kernel
theorem qd_M_length_32 : decode qc_M_length 32 = .ok (.istore_n 2, 1) := by decide +kernel
theorem qd_M_length_33 : decode qc_M_length 33 = .ok (.iload_n 2, 1) := by decide +kernel
theorem qd_M_length_34 : decode qc_M_length 34 = .ok (.istore_n 3, 1) := by decide +kernel
theorem qd_M_length_35 : decode qc_M_length 35 = .ok (.iload_n 3, 1) := by decide +kernel
theorem qd_M_length_36 : decode qc_M_length 36 = .ok (.iload_n 1, 1) := by decide +kernel
theorem qd_M_length_37 : decode qc_M_length 37 = .ok (.if_icmp .ge 16, 3) := by decide +kernel
theorem qd_M_length_40 : decode qc_M_length 40 = .ok (.aload_n 0, 1) := by decide +kernel
theorem qd_M_length_41 : decode qc_M_length 41 = .ok (.getfield 13, 3) := by decide +kernel
theorem qd_M_length_44 : decode qc_M_length 44 = .ok (.iload_n 3, 1) := by decide +kernel
theorem qd_M_length_45 : decode qc_M_length 45 = .ok (.lconst 0, 1) := by decide +kernel
theorem qd_M_length_46 : decode qc_M_length 46 = .ok (.lastore, 1) := by decide +kernel
theorem qd_M_length_47 : decode qc_M_length 47 = .ok (.iinc 3 1, 3) := by decide +kernel
theorem qd_M_length_50 : decode qc_M_length 50 = .ok (.goto (-15), 3) := by decide +kernel
theorem qd_M_length_53 : decode qc_M_length 53 = .ok (.aload_n 0, 1) := by decide +kernel
theorem qd_M_length_54 : decode qc_M_length 54 = .ok (.iload_n 1, 1) := by decide +kernel
theorem qd_M_length_55 : decode qc_M_length 55 = .ok (.putfield 44, 3) := by decide +kernel
theorem qd_M_length_58 : decode qc_M_length 58 = .ok (.iload_n 2, 1) := by decide +kernel
theorem qd_M_length_59 : decode qc_M_length 59 = .ok (.ireturn, 1) := by decide +kernel
theorem qd_M_shows_0 : decode qc_M_shows 0 = .ok (.aload_n 0, 1) := by decide +kernel
theorem qd_M_shows_1 : decode qc_M_shows 1 = .ok (.iconst 0, 1) := by decide +kernel
theorem qd_M_shows_2 : decode qc_M_shows 2 = .ok (.putfield 16, 3) := by decide +kernel
theorem qd_M_shows_5 : decode qc_M_shows 5 = .ok (.iload_n 1, 1) := by decide +kernel
theorem qd_M_shows_6 : decode qc_M_shows 6 = .ok (.ifCond .lt 14, 3) := by decide +kernel
theorem qd_M_shows_9 : decode qc_M_shows 9 = .ok (.iload_n 1, 1) := by decide +kernel
theorem qd_M_shows_10 : decode qc_M_shows 10 = .ok (.iload_n 2, 1) := by decide +kernel
theorem qd_M_shows_11 : decode qc_M_shows 11 = .ok (.if_icmp .ge 9, 3) := by decide +kernel
theorem qd_M_shows_14 : decode qc_M_shows 14 = .ok (.iload_n 2, 1) := by decide +kernel
theorem qd_M_shows_15 : decode qc_M_shows 15 = .ok (.ldc 70, 2) := by decide +kernel
theorem qd_M_shows_17 : decode qc_M_shows 17 = .ok (.if_icmp .le 5, 3) := by decide +kernel
theorem qd_M_shows_20 : decode qc_M_shows 20 = .ok (.iconst 0, 1) := by decide +kernel
theorem qd_M_shows_21 : decode qc_M_shows 21 = .ok (.ireturn, 1) := by decide +kernel
theorem qd_M_shows_22 : decode qc_M_shows 22 = .ok (.aload_n 0, 1) := by decide +kernel
theorem qd_M_shows_23 : decode qc_M_shows 23 = .ok (.iconst 0, 1) := by decide +kernel
theorem qd_M_shows_24 : decode qc_M_shows 24 = .ok (.putfield 59, 3) := by decide +kernel
theorem qd_M_shows_27 : decode qc_M_shows 27 = .ok (.aload_n 0, 1) := by decide +kernel
theorem qd_M_shows_28 : decode qc_M_shows 28 = .ok (.iload_n 1, 1) := by decide +kernel
theorem qd_M_shows_29 : decode qc_M_shows 29 = .ok (.iload_n 2, 1) := by decide +kernel
theorem qd_M_shows_30 : decode qc_M_shows 30 = .ok (.lload_n 3, 1) := by decide +kernel
theorem qd_M_shows_31 : decode qc_M_shows 31 = .ok (.invokevirtual 62, 3) := by decide +kernel
theorem qd_M_shows_34 : decode qc_M_shows 34 = .ok (.lstore 7, 2) := by decide +kernel
theorem qd_M_shows_36 : decode qc_M_shows 36 = .ok (.aload_n 0, 1) := by decide +kernel
theorem qd_M_shows_37 : decode qc_M_shows 37 = .ok (.getfield 59, 3) := by decide +kernel
theorem qd_M_shows_40 : decode qc_M_shows 40 = .ok (.aload_n 0, 1) := by decide +kernel
theorem qd_M_shows_41 : decode qc_M_shows 41 = .ok (.getfield 44, 3) := by decide +kernel
theorem qd_M_shows_44 : decode qc_M_shows 44 = .ok (.if_icmp .ne 15, 3) := by decide +kernel
theorem qd_M_shows_47 : decode qc_M_shows 47 = .ok (.lload 7, 2) := by decide +kernel
theorem qd_M_shows_49 : decode qc_M_shows 49 = .ok (.lload 5, 2) := by decide +kernel
theorem qd_M_shows_51 : decode qc_M_shows 51 = .ok (.lcmp, 1) := by decide +kernel
theorem qd_M_shows_52 : decode qc_M_shows 52 = .ok (.ifCond .ne 7, 3) := by decide +kernel
theorem qd_M_shows_55 : decode qc_M_shows 55 = .ok (.iconst 1, 1) := by decide +kernel
theorem qd_M_shows_56 : decode qc_M_shows 56 = .ok (.goto 4, 3) := by decide +kernel
theorem qd_M_shows_59 : decode qc_M_shows 59 = .ok (.iconst 0, 1) := by decide +kernel
theorem qd_M_shows_60 : decode qc_M_shows 60 = .ok (.ireturn, 1) := by decide +kernel
theorem qd_M_rootOf_0 : decode qc_M_rootOf 0 = .ok (.iload_n 2, 1) := by decide +kernel
theorem qd_M_rootOf_1 : decode qc_M_rootOf 1 = .ok (.iconst 1, 1) := by decide +kernel
theorem qd_M_rootOf_2 : decode qc_M_rootOf 2 = .ok (.if_icmp .ne 9, 3) := by decide +kernel
theorem qd_M_rootOf_5 : decode qc_M_rootOf 5 = .ok (.lconst 1, 1) := by decide +kernel
theorem qd_M_rootOf_6 : decode qc_M_rootOf 6 = .ok (.lload_n 3, 1) := by decide +kernel
theorem qd_M_rootOf_7 : decode qc_M_rootOf 7 = .ok (.invokestatic 26, 3) := by decide +kernel
theorem qd_M_rootOf_10 : decode qc_M_rootOf 10 = .ok (.lreturn, 1) := by decide +kernel
theorem qd_M_rootOf_11 : decode qc_M_rootOf 11 = .ok (.iload_n 2, 1) := by decide +kernel
theorem qd_M_rootOf_12 : decode qc_M_rootOf 12 = .ok (.invokestatic 30, 3) := by decide +kernel
theorem qd_M_rootOf_15 : decode qc_M_rootOf 15 = .ok (.istore 5, 2) := by decide +kernel
theorem qd_M_rootOf_17 : decode qc_M_rootOf 17 = .ok (.iload_n 1, 1) := by decide +kernel
theorem qd_M_rootOf_18 : decode qc_M_rootOf 18 = .ok (.iload 5, 2) := by decide +kernel
theorem qd_M_rootOf_20 : decode qc_M_rootOf 20 = .ok (.if_icmp .ge 23, 3) := by decide +kernel
theorem qd_M_rootOf_23 : decode qc_M_rootOf 23 = .ok (.aload_n 0, 1) := by decide +kernel
theorem qd_M_rootOf_24 : decode qc_M_rootOf 24 = .ok (.iload_n 1, 1) := by decide +kernel
theorem qd_M_rootOf_25 : decode qc_M_rootOf 25 = .ok (.iload 5, 2) := by decide +kernel
theorem qd_M_rootOf_27 : decode qc_M_rootOf 27 = .ok (.lload_n 3, 1) := by decide +kernel
theorem qd_M_rootOf_28 : decode qc_M_rootOf 28 = .ok (.invokevirtual 62, 3) := by decide +kernel
theorem qd_M_rootOf_31 : decode qc_M_rootOf 31 = .ok (.lstore 6, 2) := by decide +kernel
theorem qd_M_rootOf_33 : decode qc_M_rootOf 33 = .ok (.lload 6, 2) := by decide +kernel
theorem qd_M_rootOf_35 : decode qc_M_rootOf 35 = .ok (.aload_n 0, 1) := by decide +kernel
theorem qd_M_rootOf_36 : decode qc_M_rootOf 36 = .ok (.invokevirtual 66, 3) := by decide +kernel
theorem qd_M_rootOf_39 : decode qc_M_rootOf 39 = .ok (.invokestatic 38, 3) := by decide +kernel
theorem qd_M_rootOf_42 : decode qc_M_rootOf 42 = .ok (.lreturn, 1) := by decide +kernel
theorem qd_M_rootOf_43 : decode qc_M_rootOf 43 = .ok (.aload_n 0, 1) := by decide +kernel
theorem qd_M_rootOf_44 : decode qc_M_rootOf 44 = .ok (.iload_n 1, 1) := by decide +kernel
theorem qd_M_rootOf_45 : decode qc_M_rootOf 45 = .ok (.iload 5, 2) := by decide +kernel
theorem qd_M_rootOf_47 : decode qc_M_rootOf 47 = .ok (.isub, 1) := by decide +kernel
theorem qd_M_rootOf_48 : decode qc_M_rootOf 48 = .ok (.iload_n 2, 1) := by decide +kernel
theorem qd_M_rootOf_49 : decode qc_M_rootOf 49 = .ok (.iload 5, 2) := by decide +kernel
theorem qd_M_rootOf_51 : decode qc_M_rootOf 51 = .ok (.isub, 1) := by decide +kernel
theorem qd_M_rootOf_52 : decode qc_M_rootOf 52 = .ok (.lload_n 3, 1) := by decide +kernel
theorem qd_M_rootOf_53 : decode qc_M_rootOf 53 = .ok (.invokevirtual 62, 3) := by decide +kernel
theorem qd_M_rootOf_56 : decode qc_M_rootOf 56 = .ok (.lstore 6, 2) := by decide +kernel
theorem qd_M_rootOf_58 : decode qc_M_rootOf 58 = .ok (.aload_n 0, 1) := by decide +kernel
theorem qd_M_rootOf_59 : decode qc_M_rootOf 59 = .ok (.invokevirtual 66, 3) := by decide +kernel
theorem qd_M_rootOf_62 : decode qc_M_rootOf 62 = .ok (.lload 6, 2) := by decide +kernel
theorem qd_M_rootOf_64 : decode qc_M_rootOf 64 = .ok (.invokestatic 38, 3) := by decide +kernel
theorem qd_M_rootOf_67 : decode qc_M_rootOf 67 = .ok (.lreturn, 1) := by decide +kernel
theorem qd_M_next_0 : decode qc_M_next 0 = .ok (.aload_n 0, 1) := by decide +kernel
theorem qd_M_next_1 : decode qc_M_next 1 = .ok (.dup, 1) := by decide +kernel
theorem qd_M_next_2 : decode qc_M_next 2 = .ok (.getfield 59, 3) := by decide +kernel
theorem qd_M_next_5 : decode qc_M_next 5 = .ok (.iconst 1, 1) := by decide +kernel
theorem qd_M_next_6 : decode qc_M_next 6 = .ok (.iadd, 1) := by decide +kernel
theorem qd_M_next_7 : decode qc_M_next 7 = .ok (.putfield 59, 3) := by decide +kernel
theorem qd_M_next_10 : decode qc_M_next 10 = .ok (.aload_n 0, 1) := by decide +kernel
theorem qd_M_next_11 : decode qc_M_next 11 = .ok (.getfield 59, 3) := by decide +kernel
theorem qd_M_next_14 : decode qc_M_next 14 = .ok (.aload_n 0, 1) := by decide +kernel
theorem qd_M_next_15 : decode qc_M_next 15 = .ok (.getfield 44, 3) := by decide +kernel
theorem qd_M_next_18 : decode qc_M_next 18 = .ok (.if_icmp .gt 17, 3) := by decide +kernel
theorem qd_M_next_21 : decode qc_M_next 21 = .ok (.aload_n 0, 1) := by decide +kernel
theorem qd_M_next_22 : decode qc_M_next 22 = .ok (.getfield 13, 3) := by decide +kernel
theorem qd_M_next_25 : decode qc_M_next 25 = .ok (.aload_n 0, 1) := by decide +kernel
theorem qd_M_next_26 : decode qc_M_next 26 = .ok (.getfield 59, 3) := by decide +kernel
theorem qd_M_next_29 : decode qc_M_next 29 = .ok (.iconst 1, 1) := by decide +kernel
theorem qd_M_next_30 : decode qc_M_next 30 = .ok (.isub, 1) := by decide +kernel
theorem qd_M_next_31 : decode qc_M_next 31 = .ok (.laload, 1) := by decide +kernel
theorem qd_M_next_32 : decode qc_M_next 32 = .ok (.goto 4, 3) := by decide +kernel
theorem qd_M_next_35 : decode qc_M_next 35 = .ok (.lconst 0, 1) := by decide +kernel
theorem qd_M_next_36 : decode qc_M_next 36 = .ok (.lreturn, 1) := by decide +kernel
theorem qd_M_grew_0 : decode qc_M_grew 0 = .ok (.aload_n 0, 1) := by decide +kernel
theorem qd_M_grew_1 : decode qc_M_grew 1 = .ok (.iconst 0, 1) := by decide +kernel
theorem qd_M_grew_2 : decode qc_M_grew 2 = .ok (.putfield 16, 3) := by decide +kernel
theorem qd_M_grew_5 : decode qc_M_grew 5 = .ok (.iload_n 1, 1) := by decide +kernel
theorem qd_M_grew_6 : decode qc_M_grew 6 = .ok (.iconst 1, 1) := by decide +kernel
theorem qd_M_grew_7 : decode qc_M_grew 7 = .ok (.if_icmp .lt 14, 3) := by decide +kernel
theorem qd_M_grew_10 : decode qc_M_grew 10 = .ok (.iload_n 1, 1) := by decide +kernel
theorem qd_M_grew_11 : decode qc_M_grew 11 = .ok (.iload_n 2, 1) := by decide +kernel
theorem qd_M_grew_12 : decode qc_M_grew 12 = .ok (.if_icmp .gt 9, 3) := by decide +kernel
theorem qd_M_grew_15 : decode qc_M_grew 15 = .ok (.iload_n 2, 1) := by decide +kernel
theorem qd_M_grew_16 : decode qc_M_grew 16 = .ok (.ldc 70, 2) := by decide +kernel
theorem qd_M_grew_18 : decode qc_M_grew 18 = .ok (.if_icmp .le 5, 3) := by decide +kernel
theorem qd_M_grew_21 : decode qc_M_grew 21 = .ok (.iconst 0, 1) := by decide +kernel
theorem qd_M_grew_22 : decode qc_M_grew 22 = .ok (.ireturn, 1) := by decide +kernel
theorem qd_M_grew_23 : decode qc_M_grew 23 = .ok (.aload_n 0, 1) := by decide +kernel
theorem qd_M_grew_24 : decode qc_M_grew 24 = .ok (.iconst 0, 1) := by decide +kernel
theorem qd_M_grew_25 : decode qc_M_grew 25 = .ok (.putfield 59, 3) := by decide +kernel
theorem qd_M_grew_28 : decode qc_M_grew 28 = .ok (.aload_n 0, 1) := by decide +kernel
theorem qd_M_grew_29 : decode qc_M_grew 29 = .ok (.iload_n 1, 1) := by decide +kernel
theorem qd_M_grew_30 : decode qc_M_grew 30 = .ok (.iload_n 2, 1) := by decide +kernel
theorem qd_M_grew_31 : decode qc_M_grew 31 = .ok (.iconst 1, 1) := by decide +kernel
theorem qd_M_grew_32 : decode qc_M_grew 32 = .ok (.lload_n 3, 1) := by decide +kernel
theorem qd_M_grew_33 : decode qc_M_grew 33 = .ok (.invokevirtual 78, 3) := by decide +kernel
theorem qd_M_grew_36 : decode qc_M_grew 36 = .ok (.aload_n 0, 1) := by decide +kernel
theorem qd_M_grew_37 : decode qc_M_grew 37 = .ok (.getfield 59, 3) := by decide +kernel
theorem qd_M_grew_40 : decode qc_M_grew 40 = .ok (.aload_n 0, 1) := by decide +kernel
theorem qd_M_grew_41 : decode qc_M_grew 41 = .ok (.getfield 44, 3) := by decide +kernel
theorem qd_M_grew_44 : decode qc_M_grew 44 = .ok (.if_icmp .ne 26, 3) := by decide +kernel
theorem qd_M_grew_47 : decode qc_M_grew 47 = .ok (.aload_n 0, 1) := by decide +kernel
theorem qd_M_grew_48 : decode qc_M_grew 48 = .ok (.getfield 71, 3) := by decide +kernel
theorem qd_M_grew_51 : decode qc_M_grew 51 = .ok (.lload_n 3, 1) := by decide +kernel
theorem qd_M_grew_52 : decode qc_M_grew 52 = .ok (.lcmp, 1) := by decide +kernel
theorem qd_M_grew_53 : decode qc_M_grew 53 = .ok (.ifCond .ne 17, 3) := by decide +kernel
theorem qd_M_grew_56 : decode qc_M_grew 56 = .ok (.aload_n 0, 1) := by decide +kernel
theorem qd_M_grew_57 : decode qc_M_grew 57 = .ok (.getfield 75, 3) := by decide +kernel
theorem qd_M_grew_60 : decode qc_M_grew 60 = .ok (.lload 5, 2) := by decide +kernel
theorem qd_M_grew_62 : decode qc_M_grew 62 = .ok (.lcmp, 1) := by decide +kernel
theorem qd_M_grew_63 : decode qc_M_grew 63 = .ok (.ifCond .ne 7, 3) := by decide +kernel
theorem qd_M_grew_66 : decode qc_M_grew 66 = .ok (.iconst 1, 1) := by decide +kernel
theorem qd_M_grew_67 : decode qc_M_grew 67 = .ok (.goto 4, 3) := by decide +kernel
theorem qd_M_grew_70 : decode qc_M_grew 70 = .ok (.iconst 0, 1) := by decide +kernel
theorem qd_M_grew_71 : decode qc_M_grew 71 = .ok (.ireturn, 1) := by decide +kernel
theorem qd_M_both_0 : decode qc_M_both 0 = .ok (.iload_n 1, 1) := by decide +kernel
theorem qd_M_both_1 : decode qc_M_both 1 = .ok (.iload_n 2, 1) := by decide +kernel
theorem qd_M_both_2 : decode qc_M_both 2 = .ok (.if_icmp .ne 29, 3) := by decide +kernel
theorem qd_M_both_5 : decode qc_M_both 5 = .ok (.aload_n 0, 1) := by decide +kernel
theorem qd_M_both_6 : decode qc_M_both 6 = .ok (.iload_n 3, 1) := by decide +kernel
theorem qd_M_both_7 : decode qc_M_both 7 = .ok (.ifCond .eq 8, 3) := by decide +kernel
theorem qd_M_both_10 : decode qc_M_both 10 = .ok (.lload 4, 2) := by decide +kernel
theorem qd_M_both_12 : decode qc_M_both 12 = .ok (.goto 7, 3) := by decide +kernel
theorem qd_M_both_15 : decode qc_M_both 15 = .ok (.aload_n 0, 1) := by decide +kernel
theorem qd_M_both_16 : decode qc_M_both 16 = .ok (.invokevirtual 66, 3) := by decide +kernel
theorem qd_M_both_19 : decode qc_M_both 19 = .ok (.putfield 71, 3) := by decide +kernel
theorem qd_M_both_22 : decode qc_M_both 22 = .ok (.aload_n 0, 1) := by decide +kernel
theorem qd_M_both_23 : decode qc_M_both 23 = .ok (.aload_n 0, 1) := by decide +kernel
theorem qd_M_both_24 : decode qc_M_both 24 = .ok (.getfield 71, 3) := by decide +kernel
theorem qd_M_both_27 : decode qc_M_both 27 = .ok (.putfield 75, 3) := by decide +kernel
theorem qd_M_both_30 : decode qc_M_both 30 = .ok (.return_, 1) := by decide +kernel
theorem qd_M_both_31 : decode qc_M_both 31 = .ok (.iload_n 2, 1) := by decide +kernel
theorem qd_M_both_32 : decode qc_M_both 32 = .ok (.invokestatic 30, 3) := by decide +kernel
theorem qd_M_both_35 : decode qc_M_both 35 = .ok (.istore 6, 2) := by decide +kernel
theorem qd_M_both_37 : decode qc_M_both 37 = .ok (.iload_n 1, 1) := by decide +kernel
theorem qd_M_both_38 : decode qc_M_both 38 = .ok (.iload 6, 2) := by decide +kernel
theorem qd_M_both_40 : decode qc_M_both 40 = .ok (.if_icmp .gt 31, 3) := by decide +kernel
theorem qd_M_both_43 : decode qc_M_both 43 = .ok (.aload_n 0, 1) := by decide +kernel
theorem qd_M_both_44 : decode qc_M_both 44 = .ok (.iload_n 1, 1) := by decide +kernel
theorem qd_M_both_45 : decode qc_M_both 45 = .ok (.iload 6, 2) := by decide +kernel
theorem qd_M_both_47 : decode qc_M_both 47 = .ok (.iload_n 3, 1) := by decide +kernel
theorem qd_M_both_48 : decode qc_M_both 48 = .ok (.lload 4, 2) := by decide +kernel
theorem qd_M_both_50 : decode qc_M_both 50 = .ok (.invokevirtual 78, 3) := by decide +kernel
theorem qd_M_both_53 : decode qc_M_both 53 = .ok (.aload_n 0, 1) := by decide +kernel
theorem qd_M_both_54 : decode qc_M_both 54 = .ok (.aload_n 0, 1) := by decide +kernel
theorem qd_M_both_55 : decode qc_M_both 55 = .ok (.getfield 75, 3) := by decide +kernel
theorem qd_M_both_58 : decode qc_M_both 58 = .ok (.aload_n 0, 1) := by decide +kernel
theorem qd_M_both_59 : decode qc_M_both 59 = .ok (.invokevirtual 66, 3) := by decide +kernel
theorem qd_M_both_62 : decode qc_M_both 62 = .ok (.invokestatic 38, 3) := by decide +kernel
theorem qd_M_both_65 : decode qc_M_both 65 = .ok (.putfield 75, 3) := by decide +kernel
theorem qd_M_both_68 : decode qc_M_both 68 = .ok (.goto 50, 3) := by decide +kernel
theorem qd_M_both_71 : decode qc_M_both 71 = .ok (.aload_n 0, 1) := by decide +kernel
theorem qd_M_both_72 : decode qc_M_both 72 = .ok (.iload_n 1, 1) := by decide +kernel
theorem qd_M_both_73 : decode qc_M_both 73 = .ok (.iload 6, 2) := by decide +kernel
theorem qd_M_both_75 : decode qc_M_both 75 = .ok (.isub, 1) := by decide +kernel
theorem qd_M_both_76 : decode qc_M_both 76 = .ok (.iload_n 2, 1) := by decide +kernel
theorem qd_M_both_77 : decode qc_M_both 77 = .ok (.iload 6, 2) := by decide +kernel
theorem qd_M_both_79 : decode qc_M_both 79 = .ok (.isub, 1) := by decide +kernel
theorem qd_M_both_80 : decode qc_M_both 80 = .ok (.iconst 0, 1) := by decide +kernel
theorem qd_M_both_81 : decode qc_M_both 81 = .ok (.lload 4, 2) := by decide +kernel
theorem qd_M_both_83 : decode qc_M_both 83 = .ok (.invokevirtual 78, 3) := by decide +kernel
theorem qd_M_both_86 : decode qc_M_both 86 = .ok (.aload_n 0, 1) := by decide +kernel
theorem qd_M_both_87 : decode qc_M_both 87 = .ok (.invokevirtual 66, 3) := by decide +kernel
theorem qd_M_both_90 : decode qc_M_both 90 = .ok (.lstore 7, 2) := by decide +kernel
theorem qd_M_both_92 : decode qc_M_both 92 = .ok (.aload_n 0, 1) := by decide +kernel
theorem qd_M_both_93 : decode qc_M_both 93 = .ok (.lload 7, 2) := by decide +kernel
theorem qd_M_both_95 : decode qc_M_both 95 = .ok (.aload_n 0, 1) := by decide +kernel
theorem qd_M_both_96 : decode qc_M_both 96 = .ok (.getfield 71, 3) := by decide +kernel
theorem qd_M_both_99 : decode qc_M_both 99 = .ok (.invokestatic 38, 3) := by decide +kernel
theorem qd_M_both_102 : decode qc_M_both 102 = .ok (.putfield 71, 3) := by decide +kernel
theorem qd_M_both_105 : decode qc_M_both 105 = .ok (.aload_n 0, 1) := by decide +kernel
theorem qd_M_both_106 : decode qc_M_both 106 = .ok (.lload 7, 2) := by decide +kernel
theorem qd_M_both_108 : decode qc_M_both 108 = .ok (.aload_n 0, 1) := by decide +kernel
theorem qd_M_both_109 : decode qc_M_both 109 = .ok (.getfield 75, 3) := by decide +kernel
theorem qd_M_both_112 : decode qc_M_both 112 = .ok (.invokestatic 38, 3) := by decide +kernel
theorem qd_M_both_115 : decode qc_M_both 115 = .ok (.putfield 75, 3) := by decide +kernel
theorem qd_M_both_118 : decode qc_M_both 118 = .ok (.return_, 1) := by decide +kernel
theorem qd_M_find_0 : decode qc_M_find 0 = .ok (.aload_n 0, 1) := by decide +kernel
theorem qd_M_find_1 : decode qc_M_find 1 = .ok (.iload_n 1, 1) := by decide +kernel
theorem qd_M_find_2 : decode qc_M_find 2 = .ok (.ifCond .lt 11, 3) := by decide +kernel
theorem qd_M_find_5 : decode qc_M_find 5 = .ok (.iload_n 1, 1) := by decide +kernel
theorem qd_M_find_6 : decode qc_M_find 6 = .ok (.aload_n 0, 1) := by decide +kernel
theorem qd_M_find_7 : decode qc_M_find 7 = .ok (.getfield 41, 3) := by decide +kernel
theorem qd_M_find_10 : decode qc_M_find 10 = .ok (.if_icmp .le 7, 3) := by decide +kernel
theorem qd_M_find_13 : decode qc_M_find 13 = .ok (.iconst 1, 1) := by decide +kernel
theorem qd_M_find_14 : decode qc_M_find 14 = .ok (.goto 4, 3) := by decide +kernel
theorem qd_M_find_17 : decode qc_M_find 17 = .ok (.iconst 0, 1) := by decide +kernel
theorem qd_M_find_18 : decode qc_M_find 18 = .ok (.putfield 16, 3) := by decide +kernel
theorem qd_M_find_21 : decode qc_M_find 21 = .ok (.iconst 0, 1) := by decide +kernel
theorem qd_M_find_22 : decode qc_M_find 22 = .ok (.istore 4, 2) := by decide +kernel
theorem qd_M_find_24 : decode qc_M_find 24 = .ok (.iload 4, 2) := by decide +kernel
theorem qd_M_find_26 : decode qc_M_find 26 = .ok (.iload_n 1, 1) := by decide +kernel
theorem qd_M_find_27 : decode qc_M_find 27 = .ok (.if_icmp .ge 39, 3) := by decide +kernel
theorem qd_M_find_30 : decode qc_M_find 30 = .ok (.aload_n 0, 1) := by decide +kernel
theorem qd_M_find_31 : decode qc_M_find 31 = .ok (.getfield 16, 3) := by decide +kernel
theorem qd_M_find_34 : decode qc_M_find 34 = .ok (.ifCond .ne 32, 3) := by decide +kernel
theorem qd_M_find_37 : decode qc_M_find 37 = .ok (.lconst 1, 1) := by decide +kernel
theorem qd_M_find_38 : decode qc_M_find 38 = .ok (.aload_n 0, 1) := by decide +kernel
theorem qd_M_find_39 : decode qc_M_find 39 = .ok (.getfield 9, 3) := by decide +kernel
theorem qd_M_find_42 : decode qc_M_find 42 = .ok (.iload 4, 2) := by decide +kernel
theorem qd_M_find_44 : decode qc_M_find 44 = .ok (.laload, 1) := by decide +kernel
theorem qd_M_find_45 : decode qc_M_find 45 = .ok (.invokestatic 26, 3) := by decide +kernel
theorem qd_M_find_48 : decode qc_M_find 48 = .ok (.lconst 1, 1) := by decide +kernel
theorem qd_M_find_49 : decode qc_M_find 49 = .ok (.lload_n 2, 1) := by decide +kernel
theorem qd_M_find_50 : decode qc_M_find 50 = .ok (.invokestatic 26, 3) := by decide +kernel
theorem qd_M_find_53 : decode qc_M_find 53 = .ok (.lcmp, 1) := by decide +kernel
theorem qd_M_find_54 : decode qc_M_find 54 = .ok (.ifCond .ne 6, 3) := by decide +kernel
theorem qd_M_find_57 : decode qc_M_find 57 = .ok (.iload 4, 2) := by decide +kernel
theorem qd_M_find_59 : decode qc_M_find 59 = .ok (.ireturn, 1) := by decide +kernel
theorem qd_M_find_60 : decode qc_M_find 60 = .ok (.iinc 4 1, 3) := by decide +kernel
theorem qd_M_find_63 : decode qc_M_find 63 = .ok (.goto (-39), 3) := by decide +kernel
theorem qd_M_find_66 : decode qc_M_find 66 = .ok (.aload_n 0, 1) := by decide +kernel
theorem qd_M_find_67 : decode qc_M_find 67 = .ok (.getfield 16, 3) := by decide +kernel
theorem qd_M_find_70 : decode qc_M_find 70 = .ok (.ifCond .le 7, 3) := by decide +kernel
theorem qd_M_find_73 : decode qc_M_find 73 = .ok (.iconst 0, 1) := by decide +kernel
theorem qd_M_find_74 : decode qc_M_find 74 = .ok (.goto 4, 3) := by decide +kernel
theorem qd_M_find_77 : decode qc_M_find 77 = .ok (.iconst (-1), 1) := by decide +kernel
theorem qd_M_find_78 : decode qc_M_find 78 = .ok (.ireturn, 1) := by decide +kernel
theorem qd_M_count_0 : decode qc_M_count 0 = .ok (.aload_n 0, 1) := by decide +kernel
theorem qd_M_count_1 : decode qc_M_count 1 = .ok (.iconst 0, 1) := by decide +kernel
theorem qd_M_count_2 : decode qc_M_count 2 = .ok (.putfield 16, 3) := by decide +kernel
theorem qd_M_count_5 : decode qc_M_count 5 = .ok (.iload_n 1, 1) := by decide +kernel
theorem qd_M_count_6 : decode qc_M_count 6 = .ok (.ifCond .ne 8, 3) := by decide +kernel
theorem qd_M_count_9 : decode qc_M_count 9 = .ok (.aload_n 0, 1) := by decide +kernel
theorem qd_M_count_10 : decode qc_M_count 10 = .ok (.getfield 41, 3) := by decide +kernel
theorem qd_M_count_13 : decode qc_M_count 13 = .ok (.ireturn, 1) := by decide +kernel
theorem qd_M_count_14 : decode qc_M_count 14 = .ok (.iload_n 1, 1) := by decide +kernel
theorem qd_M_count_15 : decode qc_M_count 15 = .ok (.iconst 1, 1) := by decide +kernel
theorem qd_M_count_16 : decode qc_M_count 16 = .ok (.if_icmp .ne 8, 3) := by decide +kernel
theorem qd_M_count_19 : decode qc_M_count 19 = .ok (.aload_n 0, 1) := by decide +kernel
theorem qd_M_count_20 : decode qc_M_count 20 = .ok (.getfield 44, 3) := by decide +kernel
theorem qd_M_count_23 : decode qc_M_count 23 = .ok (.ireturn, 1) := by decide +kernel
theorem qd_M_count_24 : decode qc_M_count 24 = .ok (.iload_n 1, 1) := by decide +kernel
theorem qd_M_count_25 : decode qc_M_count 25 = .ok (.iconst 2, 1) := by decide +kernel
theorem qd_M_count_26 : decode qc_M_count 26 = .ok (.if_icmp .eq 5, 3) := by decide +kernel
theorem qd_M_count_29 : decode qc_M_count 29 = .ok (.iconst (-1), 1) := by decide +kernel
theorem qd_M_count_30 : decode qc_M_count 30 = .ok (.ireturn, 1) := by decide +kernel
theorem qd_M_count_31 : decode qc_M_count 31 = .ok (.iconst 0, 1) := by decide +kernel
theorem qd_M_count_32 : decode qc_M_count 32 = .ok (.istore_n 2, 1) := by decide +kernel
theorem qd_M_count_33 : decode qc_M_count 33 = .ok (.aload_n 0, 1) := by decide +kernel
theorem qd_M_count_34 : decode qc_M_count 34 = .ok (.getfield 41, 3) := by decide +kernel
theorem qd_M_count_37 : decode qc_M_count 37 = .ok (.istore_n 3, 1) := by decide +kernel
theorem qd_M_count_38 : decode qc_M_count 38 = .ok (.iload_n 3, 1) := by decide +kernel
theorem qd_M_count_39 : decode qc_M_count 39 = .ok (.ifCond .le 16, 3) := by decide +kernel
theorem qd_M_count_42 : decode qc_M_count 42 = .ok (.iload_n 2, 1) := by decide +kernel
theorem qd_M_count_43 : decode qc_M_count 43 = .ok (.iload_n 3, 1) := by decide +kernel
theorem qd_M_count_44 : decode qc_M_count 44 = .ok (.iconst 2, 1) := by decide +kernel
theorem qd_M_count_45 : decode qc_M_count 45 = .ok (.irem, 1) := by decide +kernel
theorem qd_M_count_46 : decode qc_M_count 46 = .ok (.iadd, 1) := by decide +kernel
theorem qd_M_count_47 : decode qc_M_count 47 = .ok (.istore_n 2, 1) := by decide +kernel
theorem qd_M_count_48 : decode qc_M_count 48 = .ok (.iload_n 3, 1) := by decide +kernel
theorem qd_M_count_49 : decode qc_M_count 49 = .ok (.iconst 2, 1) := by decide +kernel
theorem qd_M_count_50 : decode qc_M_count 50 = .ok (.idiv, 1) := by decide +kernel
theorem qd_M_count_51 : decode qc_M_count 51 = .ok (.istore_n 3, 1) := by decide +kernel
theorem qd_M_count_52 : decode qc_M_count 52 = .ok (.goto (-14), 3) := by decide +kernel
theorem qd_M_count_55 : decode qc_M_count 55 = .ok (.iload_n 2, 1) := by decide +kernel
theorem qd_M_count_56 : decode qc_M_count 56 = .ok (.ireturn, 1) := by decide +kernel
end
section
theorem qd_L_law_0 : decode qc_L_law 0 = .ok (.new 8, 3) := by decide +kernel
theorem qd_L_law_3 : decode qc_L_law 3 = .ok (.dup, 1) := by decide +kernel
theorem qd_L_law_4 : decode qc_L_law 4 = .ok (.invokespecial 58, 3) := by decide +kernel
theorem qd_L_law_7 : decode qc_L_law 7 = .ok (.astore_n 1, 1) := by decide +kernel
theorem qd_L_law_8 : decode qc_L_law 8 = .ok (.new 59, 3) := by decide +kernel
theorem qd_L_law_11 : decode qc_L_law 11 = .ok (.dup, 1) := by decide +kernel
theorem qd_L_law_12 : decode qc_L_law 12 = .ok (.invokespecial 61, 3) := by decide +kernel
theorem qd_L_law_15 : decode qc_L_law 15 = .ok (.astore_n 2, 1) := by decide +kernel
theorem qd_L_law_16 : decode qc_L_law 16 = .ok (.iconst 1, 1) := by decide +kernel
theorem qd_L_law_17 : decode qc_L_law 17 = .ok (.newarray .long, 2) := by decide +kernel
theorem qd_L_law_19 : decode qc_L_law 19 = .ok (.astore_n 3, 1) := by decide +kernel
theorem qd_L_law_20 : decode qc_L_law 20 = .ok (.iconst 0, 1) := by decide +kernel
theorem qd_L_law_21 : decode qc_L_law 21 = .ok (.istore 4, 2) := by decide +kernel
theorem qd_L_law_23 : decode qc_L_law 23 = .ok (.iload 4, 2) := by decide +kernel
theorem qd_L_law_25 : decode qc_L_law 25 = .ok (.aload_n 0, 1) := by decide +kernel
theorem qd_L_law_26 : decode qc_L_law 26 = .ok (.arraylength, 1) := by decide +kernel
theorem qd_L_law_27 : decode qc_L_law 27 = .ok (.bipush 7, 2) := by decide +kernel
theorem qd_L_law_29 : decode qc_L_law 29 = .ok (.isub, 1) := by decide +kernel
theorem qd_L_law_30 : decode qc_L_law 30 = .ok (.if_icmp .gt 1223, 3) := by decide +kernel
theorem qd_L_law_33 : decode qc_L_law 33 = .ok (.aload_n 0, 1) := by decide +kernel
theorem qd_L_law_34 : decode qc_L_law 34 = .ok (.iload 4, 2) := by decide +kernel
theorem qd_L_law_36 : decode qc_L_law 36 = .ok (.iaload, 1) := by decide +kernel
theorem qd_L_law_37 : decode qc_L_law 37 = .ok (.bipush 15, 2) := by decide +kernel
theorem qd_L_law_39 : decode qc_L_law 39 = .ok (.iand, 1) := by decide +kernel
theorem qd_L_law_40 : decode qc_L_law 40 = .ok (.tableswitch 1207 0 13 #[72, 160, 304, 360, 415, 482, 550, 618, 673, 772, 828, 955, 1082, 1182], 72) := by decide +kernel
theorem qd_L_law_112 : decode qc_L_law 112 = .ok (.aload_n 1, 1) := by decide +kernel
theorem qd_L_law_113 : decode qc_L_law 113 = .ok (.aload_n 0, 1) := by decide +kernel
theorem qd_L_law_114 : decode qc_L_law 114 = .ok (.iload 4, 2) := by decide +kernel
theorem qd_L_law_116 : decode qc_L_law 116 = .ok (.iconst 1, 1) := by decide +kernel
theorem qd_L_law_117 : decode qc_L_law 117 = .ok (.iadd, 1) := by decide +kernel
theorem qd_L_law_118 : decode qc_L_law 118 = .ok (.iaload, 1) := by decide +kernel
theorem qd_L_law_119 : decode qc_L_law 119 = .ok (.i2l, 1) := by decide +kernel
theorem qd_L_law_120 : decode qc_L_law 120 = .ok (.bipush 32, 2) := by decide +kernel
theorem qd_L_law_122 : decode qc_L_law 122 = .ok (.lshl, 1) := by decide +kernel
theorem qd_L_law_123 : decode qc_L_law 123 = .ok (.aload_n 0, 1) := by decide +kernel
theorem qd_L_law_124 : decode qc_L_law 124 = .ok (.iload 4, 2) := by decide +kernel
theorem qd_L_law_126 : decode qc_L_law 126 = .ok (.iconst 2, 1) := by decide +kernel
theorem qd_L_law_127 : decode qc_L_law 127 = .ok (.iadd, 1) := by decide +kernel
theorem qd_L_law_128 : decode qc_L_law 128 = .ok (.iaload, 1) := by decide +kernel
theorem qd_L_law_129 : decode qc_L_law 129 = .ok (.i2l, 1) := by decide +kernel
theorem qd_L_law_130 : decode qc_L_law 130 = .ok (.ldc2_w 62, 3) := by decide +kernel
theorem qd_L_law_133 : decode qc_L_law 133 = .ok (.land, 1) := by decide +kernel
theorem qd_L_law_134 : decode qc_L_law 134 = .ok (.lor, 1) := by decide +kernel
theorem qd_L_law_135 : decode qc_L_law 135 = .ok (.aload_n 3, 1) := by decide +kernel
theorem qd_L_law_136 : decode qc_L_law 136 = .ok (.invokestatic 64, 3) := by decide +kernel
theorem qd_L_law_139 : decode qc_L_law 139 = .ok (.istore 5, 2) := by decide +kernel
theorem qd_L_law_141 : decode qc_L_law 141 = .ok (.aload_n 2, 1) := by decide +kernel
theorem qd_L_law_142 : decode qc_L_law 142 = .ok (.aload_n 0, 1) := by decide +kernel
theorem qd_L_law_143 : decode qc_L_law 143 = .ok (.iload 4, 2) := by decide +kernel
theorem qd_L_law_145 : decode qc_L_law 145 = .ok (.iconst 1, 1) := by decide +kernel
theorem qd_L_law_146 : decode qc_L_law 146 = .ok (.iadd, 1) := by decide +kernel
theorem qd_L_law_147 : decode qc_L_law 147 = .ok (.iaload, 1) := by decide +kernel
theorem qd_L_law_148 : decode qc_L_law 148 = .ok (.i2l, 1) := by decide +kernel
theorem qd_L_law_149 : decode qc_L_law 149 = .ok (.bipush 32, 2) := by decide +kernel
theorem qd_L_law_151 : decode qc_L_law 151 = .ok (.lshl, 1) := by decide +kernel
theorem qd_L_law_152 : decode qc_L_law 152 = .ok (.aload_n 0, 1) := by decide +kernel
theorem qd_L_law_153 : decode qc_L_law 153 = .ok (.iload 4, 2) := by decide +kernel
theorem qd_L_law_155 : decode qc_L_law 155 = .ok (.iconst 2, 1) := by decide +kernel
theorem qd_L_law_156 : decode qc_L_law 156 = .ok (.iadd, 1) := by decide +kernel
theorem qd_L_law_157 : decode qc_L_law 157 = .ok (.iaload, 1) := by decide +kernel
theorem qd_L_law_158 : decode qc_L_law 158 = .ok (.i2l, 1) := by decide +kernel
theorem qd_L_law_159 : decode qc_L_law 159 = .ok (.ldc2_w 62, 3) := by decide +kernel
theorem qd_L_law_162 : decode qc_L_law 162 = .ok (.land, 1) := by decide +kernel
theorem qd_L_law_163 : decode qc_L_law 163 = .ok (.lor, 1) := by decide +kernel
theorem qd_L_law_164 : decode qc_L_law 164 = .ok (.invokevirtual 69, 3) := by decide +kernel
theorem qd_L_law_167 : decode qc_L_law 167 = .ok (.istore 6, 2) := by decide +kernel
theorem qd_L_law_169 : decode qc_L_law 169 = .ok (.aload_n 2, 1) := by decide +kernel
theorem qd_L_law_170 : decode qc_L_law 170 = .ok (.invokevirtual 70, 3) := by decide +kernel
theorem qd_L_law_173 : decode qc_L_law 173 = .ok (.iload 5, 2) := by decide +kernel
theorem qd_L_law_175 : decode qc_L_law 175 = .ok (.if_icmp .eq 5, 3) := by decide +kernel
theorem qd_L_law_178 : decode qc_L_law 178 = .ok (.iconst 0, 1) := by decide +kernel
theorem qd_L_law_179 : decode qc_L_law 179 = .ok (.ireturn, 1) := by decide +kernel
theorem qd_L_law_180 : decode qc_L_law 180 = .ok (.iload 5, 2) := by decide +kernel
theorem qd_L_law_182 : decode qc_L_law 182 = .ok (.ifCond .ne 15, 3) := by decide +kernel
theorem qd_L_law_185 : decode qc_L_law 185 = .ok (.aload_n 3, 1) := by decide +kernel
theorem qd_L_law_186 : decode qc_L_law 186 = .ok (.iconst 0, 1) := by decide +kernel
theorem qd_L_law_187 : decode qc_L_law 187 = .ok (.laload, 1) := by decide +kernel
theorem qd_L_law_188 : decode qc_L_law 188 = .ok (.iload 6, 2) := by decide +kernel
theorem qd_L_law_190 : decode qc_L_law 190 = .ok (.i2l, 1) := by decide +kernel
theorem qd_L_law_191 : decode qc_L_law 191 = .ok (.lcmp, 1) := by decide +kernel
theorem qd_L_law_192 : decode qc_L_law 192 = .ok (.ifCond .eq 5, 3) := by decide +kernel
theorem qd_L_law_195 : decode qc_L_law 195 = .ok (.iconst 0, 1) := by decide +kernel
theorem qd_L_law_196 : decode qc_L_law 196 = .ok (.ireturn, 1) := by decide +kernel
theorem qd_L_law_197 : decode qc_L_law 197 = .ok (.goto 1050, 3) := by decide +kernel
theorem qd_L_law_200 : decode qc_L_law 200 = .ok (.aload_n 1, 1) := by decide +kernel
theorem qd_L_law_201 : decode qc_L_law 201 = .ok (.aload_n 0, 1) := by decide +kernel
theorem qd_L_law_202 : decode qc_L_law 202 = .ok (.iload 4, 2) := by decide +kernel
theorem qd_L_law_204 : decode qc_L_law 204 = .ok (.iconst 1, 1) := by decide +kernel
theorem qd_L_law_205 : decode qc_L_law 205 = .ok (.iadd, 1) := by decide +kernel
theorem qd_L_law_206 : decode qc_L_law 206 = .ok (.iaload, 1) := by decide +kernel
theorem qd_L_law_207 : decode qc_L_law 207 = .ok (.aload_n 0, 1) := by decide +kernel
theorem qd_L_law_208 : decode qc_L_law 208 = .ok (.iload 4, 2) := by decide +kernel
theorem qd_L_law_210 : decode qc_L_law 210 = .ok (.iconst 2, 1) := by decide +kernel
theorem qd_L_law_211 : decode qc_L_law 211 = .ok (.iadd, 1) := by decide +kernel
theorem qd_L_law_212 : decode qc_L_law 212 = .ok (.iaload, 1) := by decide +kernel
theorem qd_L_law_213 : decode qc_L_law 213 = .ok (.i2l, 1) := by decide +kernel
theorem qd_L_law_214 : decode qc_L_law 214 = .ok (.bipush 32, 2) := by decide +kernel
theorem qd_L_law_216 : decode qc_L_law 216 = .ok (.lshl, 1) := by decide +kernel
theorem qd_L_law_217 : decode qc_L_law 217 = .ok (.aload_n 0, 1) := by decide +kernel
theorem qd_L_law_218 : decode qc_L_law 218 = .ok (.iload 4, 2) := by decide +kernel
theorem qd_L_law_220 : decode qc_L_law 220 = .ok (.iconst 3, 1) := by decide +kernel
theorem qd_L_law_221 : decode qc_L_law 221 = .ok (.iadd, 1) := by decide +kernel
theorem qd_L_law_222 : decode qc_L_law 222 = .ok (.iaload, 1) := by decide +kernel
theorem qd_L_law_223 : decode qc_L_law 223 = .ok (.i2l, 1) := by decide +kernel
theorem qd_L_law_224 : decode qc_L_law 224 = .ok (.ldc2_w 62, 3) := by decide +kernel
theorem qd_L_law_227 : decode qc_L_law 227 = .ok (.land, 1) := by decide +kernel
theorem qd_L_law_228 : decode qc_L_law 228 = .ok (.lor, 1) := by decide +kernel
theorem qd_L_law_229 : decode qc_L_law 229 = .ok (.aload_n 0, 1) := by decide +kernel
theorem qd_L_law_230 : decode qc_L_law 230 = .ok (.iload 4, 2) := by decide +kernel
theorem qd_L_law_232 : decode qc_L_law 232 = .ok (.iconst 4, 1) := by decide +kernel
theorem qd_L_law_233 : decode qc_L_law 233 = .ok (.iadd, 1) := by decide +kernel
theorem qd_L_law_234 : decode qc_L_law 234 = .ok (.iaload, 1) := by decide +kernel
theorem qd_L_law_235 : decode qc_L_law 235 = .ok (.i2l, 1) := by decide +kernel
theorem qd_L_law_236 : decode qc_L_law 236 = .ok (.bipush 32, 2) := by decide +kernel
theorem qd_L_law_238 : decode qc_L_law 238 = .ok (.lshl, 1) := by decide +kernel
theorem qd_L_law_239 : decode qc_L_law 239 = .ok (.aload_n 0, 1) := by decide +kernel
theorem qd_L_law_240 : decode qc_L_law 240 = .ok (.iload 4, 2) := by decide +kernel
theorem qd_L_law_242 : decode qc_L_law 242 = .ok (.iconst 5, 1) := by decide +kernel
theorem qd_L_law_243 : decode qc_L_law 243 = .ok (.iadd, 1) := by decide +kernel
theorem qd_L_law_244 : decode qc_L_law 244 = .ok (.iaload, 1) := by decide +kernel
theorem qd_L_law_245 : decode qc_L_law 245 = .ok (.i2l, 1) := by decide +kernel
theorem qd_L_law_246 : decode qc_L_law 246 = .ok (.ldc2_w 62, 3) := by decide +kernel
theorem qd_L_law_249 : decode qc_L_law 249 = .ok (.land, 1) := by decide +kernel
theorem qd_L_law_250 : decode qc_L_law 250 = .ok (.lor, 1) := by decide +kernel
theorem qd_L_law_251 : decode qc_L_law 251 = .ok (.aload_n 3, 1) := by decide +kernel
theorem qd_L_law_252 : decode qc_L_law 252 = .ok (.invokestatic 74, 3) := by decide +kernel
theorem qd_L_law_255 : decode qc_L_law 255 = .ok (.istore 5, 2) := by decide +kernel
theorem qd_L_law_257 : decode qc_L_law 257 = .ok (.aload_n 2, 1) := by decide +kernel
theorem qd_L_law_258 : decode qc_L_law 258 = .ok (.aload_n 0, 1) := by decide +kernel
theorem qd_L_law_259 : decode qc_L_law 259 = .ok (.iload 4, 2) := by decide +kernel
theorem qd_L_law_261 : decode qc_L_law 261 = .ok (.iconst 1, 1) := by decide +kernel
theorem qd_L_law_262 : decode qc_L_law 262 = .ok (.iadd, 1) := by decide +kernel
theorem qd_L_law_263 : decode qc_L_law 263 = .ok (.iaload, 1) := by decide +kernel
theorem qd_L_law_264 : decode qc_L_law 264 = .ok (.aload_n 0, 1) := by decide +kernel
theorem qd_L_law_265 : decode qc_L_law 265 = .ok (.iload 4, 2) := by decide +kernel
theorem qd_L_law_267 : decode qc_L_law 267 = .ok (.iconst 2, 1) := by decide +kernel
theorem qd_L_law_268 : decode qc_L_law 268 = .ok (.iadd, 1) := by decide +kernel
theorem qd_L_law_269 : decode qc_L_law 269 = .ok (.iaload, 1) := by decide +kernel
theorem qd_L_law_270 : decode qc_L_law 270 = .ok (.i2l, 1) := by decide +kernel
theorem qd_L_law_271 : decode qc_L_law 271 = .ok (.bipush 32, 2) := by decide +kernel
theorem qd_L_law_273 : decode qc_L_law 273 = .ok (.lshl, 1) := by decide +kernel
theorem qd_L_law_274 : decode qc_L_law 274 = .ok (.aload_n 0, 1) := by decide +kernel
theorem qd_L_law_275 : decode qc_L_law 275 = .ok (.iload 4, 2) := by decide +kernel
theorem qd_L_law_277 : decode qc_L_law 277 = .ok (.iconst 3, 1) := by decide +kernel
theorem qd_L_law_278 : decode qc_L_law 278 = .ok (.iadd, 1) := by decide +kernel
theorem qd_L_law_279 : decode qc_L_law 279 = .ok (.iaload, 1) := by decide +kernel
theorem qd_L_law_280 : decode qc_L_law 280 = .ok (.i2l, 1) := by decide +kernel
theorem qd_L_law_281 : decode qc_L_law 281 = .ok (.ldc2_w 62, 3) := by decide +kernel
theorem qd_L_law_284 : decode qc_L_law 284 = .ok (.land, 1) := by decide +kernel
theorem qd_L_law_285 : decode qc_L_law 285 = .ok (.lor, 1) := by decide +kernel
theorem qd_L_law_286 : decode qc_L_law 286 = .ok (.aload_n 0, 1) := by decide +kernel
theorem qd_L_law_287 : decode qc_L_law 287 = .ok (.iload 4, 2) := by decide +kernel
theorem qd_L_law_289 : decode qc_L_law 289 = .ok (.iconst 4, 1) := by decide +kernel
theorem qd_L_law_290 : decode qc_L_law 290 = .ok (.iadd, 1) := by decide +kernel
theorem qd_L_law_291 : decode qc_L_law 291 = .ok (.iaload, 1) := by decide +kernel
theorem qd_L_law_292 : decode qc_L_law 292 = .ok (.i2l, 1) := by decide +kernel
theorem qd_L_law_293 : decode qc_L_law 293 = .ok (.bipush 32, 2) := by decide +kernel
theorem qd_L_law_295 : decode qc_L_law 295 = .ok (.lshl, 1) := by decide +kernel
theorem qd_L_law_296 : decode qc_L_law 296 = .ok (.aload_n 0, 1) := by decide +kernel
theorem qd_L_law_297 : decode qc_L_law 297 = .ok (.iload 4, 2) := by decide +kernel
theorem qd_L_law_299 : decode qc_L_law 299 = .ok (.iconst 5, 1) := by decide +kernel
theorem qd_L_law_300 : decode qc_L_law 300 = .ok (.iadd, 1) := by decide +kernel
theorem qd_L_law_301 : decode qc_L_law 301 = .ok (.iaload, 1) := by decide +kernel
theorem qd_L_law_302 : decode qc_L_law 302 = .ok (.i2l, 1) := by decide +kernel
theorem qd_L_law_303 : decode qc_L_law 303 = .ok (.ldc2_w 62, 3) := by decide +kernel
theorem qd_L_law_306 : decode qc_L_law 306 = .ok (.land, 1) := by decide +kernel
theorem qd_L_law_307 : decode qc_L_law 307 = .ok (.lor, 1) := by decide +kernel
theorem qd_L_law_308 : decode qc_L_law 308 = .ok (.invokevirtual 77, 3) := by decide +kernel
theorem qd_L_law_311 : decode qc_L_law 311 = .ok (.istore 6, 2) := by decide +kernel
theorem qd_L_law_313 : decode qc_L_law 313 = .ok (.aload_n 2, 1) := by decide +kernel
theorem qd_L_law_314 : decode qc_L_law 314 = .ok (.invokevirtual 70, 3) := by decide +kernel
theorem qd_L_law_317 : decode qc_L_law 317 = .ok (.iload 5, 2) := by decide +kernel
theorem qd_L_law_319 : decode qc_L_law 319 = .ok (.if_icmp .eq 5, 3) := by decide +kernel
theorem qd_L_law_322 : decode qc_L_law 322 = .ok (.iconst 0, 1) := by decide +kernel
theorem qd_L_law_323 : decode qc_L_law 323 = .ok (.ireturn, 1) := by decide +kernel
theorem qd_L_law_324 : decode qc_L_law 324 = .ok (.iload 5, 2) := by decide +kernel
theorem qd_L_law_326 : decode qc_L_law 326 = .ok (.ifCond .ne 15, 3) := by decide +kernel
theorem qd_L_law_329 : decode qc_L_law 329 = .ok (.aload_n 3, 1) := by decide +kernel
theorem qd_L_law_330 : decode qc_L_law 330 = .ok (.iconst 0, 1) := by decide +kernel
theorem qd_L_law_331 : decode qc_L_law 331 = .ok (.laload, 1) := by decide +kernel
theorem qd_L_law_332 : decode qc_L_law 332 = .ok (.iload 6, 2) := by decide +kernel
theorem qd_L_law_334 : decode qc_L_law 334 = .ok (.i2l, 1) := by decide +kernel
theorem qd_L_law_335 : decode qc_L_law 335 = .ok (.lcmp, 1) := by decide +kernel
theorem qd_L_law_336 : decode qc_L_law 336 = .ok (.ifCond .eq 5, 3) := by decide +kernel
theorem qd_L_law_339 : decode qc_L_law 339 = .ok (.iconst 0, 1) := by decide +kernel
theorem qd_L_law_340 : decode qc_L_law 340 = .ok (.ireturn, 1) := by decide +kernel
theorem qd_L_law_341 : decode qc_L_law 341 = .ok (.goto 906, 3) := by decide +kernel
theorem qd_L_law_344 : decode qc_L_law 344 = .ok (.aload_n 1, 1) := by decide +kernel
theorem qd_L_law_345 : decode qc_L_law 345 = .ok (.aload_n 0, 1) := by decide +kernel
theorem qd_L_law_346 : decode qc_L_law 346 = .ok (.iload 4, 2) := by decide +kernel
theorem qd_L_law_348 : decode qc_L_law 348 = .ok (.iconst 1, 1) := by decide +kernel
theorem qd_L_law_349 : decode qc_L_law 349 = .ok (.iadd, 1) := by decide +kernel
theorem qd_L_law_350 : decode qc_L_law 350 = .ok (.iaload, 1) := by decide +kernel
theorem qd_L_law_351 : decode qc_L_law 351 = .ok (.aload_n 3, 1) := by decide +kernel
theorem qd_L_law_352 : decode qc_L_law 352 = .ok (.invokestatic 78, 3) := by decide +kernel
theorem qd_L_law_355 : decode qc_L_law 355 = .ok (.istore 5, 2) := by decide +kernel
theorem qd_L_law_357 : decode qc_L_law 357 = .ok (.aload_n 2, 1) := by decide +kernel
theorem qd_L_law_358 : decode qc_L_law 358 = .ok (.aload_n 0, 1) := by decide +kernel
theorem qd_L_law_359 : decode qc_L_law 359 = .ok (.iload 4, 2) := by decide +kernel
theorem qd_L_law_361 : decode qc_L_law 361 = .ok (.iconst 1, 1) := by decide +kernel
theorem qd_L_law_362 : decode qc_L_law 362 = .ok (.iadd, 1) := by decide +kernel
theorem qd_L_law_363 : decode qc_L_law 363 = .ok (.iaload, 1) := by decide +kernel
theorem qd_L_law_364 : decode qc_L_law 364 = .ok (.invokevirtual 81, 3) := by decide +kernel
theorem qd_L_law_367 : decode qc_L_law 367 = .ok (.istore 6, 2) := by decide +kernel
theorem qd_L_law_369 : decode qc_L_law 369 = .ok (.aload_n 2, 1) := by decide +kernel
theorem qd_L_law_370 : decode qc_L_law 370 = .ok (.invokevirtual 70, 3) := by decide +kernel
theorem qd_L_law_373 : decode qc_L_law 373 = .ok (.iload 5, 2) := by decide +kernel
theorem qd_L_law_375 : decode qc_L_law 375 = .ok (.if_icmp .eq 5, 3) := by decide +kernel
theorem qd_L_law_378 : decode qc_L_law 378 = .ok (.iconst 0, 1) := by decide +kernel
theorem qd_L_law_379 : decode qc_L_law 379 = .ok (.ireturn, 1) := by decide +kernel
theorem qd_L_law_380 : decode qc_L_law 380 = .ok (.iload 5, 2) := by decide +kernel
theorem qd_L_law_382 : decode qc_L_law 382 = .ok (.ifCond .ne 15, 3) := by decide +kernel
theorem qd_L_law_385 : decode qc_L_law 385 = .ok (.aload_n 3, 1) := by decide +kernel
theorem qd_L_law_386 : decode qc_L_law 386 = .ok (.iconst 0, 1) := by decide +kernel
theorem qd_L_law_387 : decode qc_L_law 387 = .ok (.laload, 1) := by decide +kernel
theorem qd_L_law_388 : decode qc_L_law 388 = .ok (.iload 6, 2) := by decide +kernel
theorem qd_L_law_390 : decode qc_L_law 390 = .ok (.i2l, 1) := by decide +kernel
theorem qd_L_law_391 : decode qc_L_law 391 = .ok (.lcmp, 1) := by decide +kernel
theorem qd_L_law_392 : decode qc_L_law 392 = .ok (.ifCond .eq 5, 3) := by decide +kernel
theorem qd_L_law_395 : decode qc_L_law 395 = .ok (.iconst 0, 1) := by decide +kernel
theorem qd_L_law_396 : decode qc_L_law 396 = .ok (.ireturn, 1) := by decide +kernel
theorem qd_L_law_397 : decode qc_L_law 397 = .ok (.goto 850, 3) := by decide +kernel
theorem qd_L_law_400 : decode qc_L_law 400 = .ok (.aload_n 1, 1) := by decide +kernel
theorem qd_L_law_401 : decode qc_L_law 401 = .ok (.aload_n 0, 1) := by decide +kernel
theorem qd_L_law_402 : decode qc_L_law 402 = .ok (.iload 4, 2) := by decide +kernel
theorem qd_L_law_404 : decode qc_L_law 404 = .ok (.iconst 1, 1) := by decide +kernel
theorem qd_L_law_405 : decode qc_L_law 405 = .ok (.iadd, 1) := by decide +kernel
theorem qd_L_law_406 : decode qc_L_law 406 = .ok (.iaload, 1) := by decide +kernel
theorem qd_L_law_407 : decode qc_L_law 407 = .ok (.aload_n 3, 1) := by decide +kernel
theorem qd_L_law_408 : decode qc_L_law 408 = .ok (.invokestatic 82, 3) := by decide +kernel
theorem qd_L_law_411 : decode qc_L_law 411 = .ok (.istore 5, 2) := by decide +kernel
theorem qd_L_law_413 : decode qc_L_law 413 = .ok (.aload_n 2, 1) := by decide +kernel
theorem qd_L_law_414 : decode qc_L_law 414 = .ok (.aload_n 0, 1) := by decide +kernel
theorem qd_L_law_415 : decode qc_L_law 415 = .ok (.iload 4, 2) := by decide +kernel
theorem qd_L_law_417 : decode qc_L_law 417 = .ok (.iconst 1, 1) := by decide +kernel
theorem qd_L_law_418 : decode qc_L_law 418 = .ok (.iadd, 1) := by decide +kernel
theorem qd_L_law_419 : decode qc_L_law 419 = .ok (.iaload, 1) := by decide +kernel
theorem qd_L_law_420 : decode qc_L_law 420 = .ok (.invokevirtual 84, 3) := by decide +kernel
theorem qd_L_law_423 : decode qc_L_law 423 = .ok (.lstore 6, 2) := by decide +kernel
theorem qd_L_law_425 : decode qc_L_law 425 = .ok (.aload_n 2, 1) := by decide +kernel
theorem qd_L_law_426 : decode qc_L_law 426 = .ok (.invokevirtual 70, 3) := by decide +kernel
theorem qd_L_law_429 : decode qc_L_law 429 = .ok (.iload 5, 2) := by decide +kernel
theorem qd_L_law_431 : decode qc_L_law 431 = .ok (.if_icmp .eq 5, 3) := by decide +kernel
theorem qd_L_law_434 : decode qc_L_law 434 = .ok (.iconst 0, 1) := by decide +kernel
theorem qd_L_law_435 : decode qc_L_law 435 = .ok (.ireturn, 1) := by decide +kernel
theorem qd_L_law_436 : decode qc_L_law 436 = .ok (.iload 5, 2) := by decide +kernel
theorem qd_L_law_438 : decode qc_L_law 438 = .ok (.ifCond .ne 14, 3) := by decide +kernel
theorem qd_L_law_441 : decode qc_L_law 441 = .ok (.aload_n 3, 1) := by decide +kernel
theorem qd_L_law_442 : decode qc_L_law 442 = .ok (.iconst 0, 1) := by decide +kernel
theorem qd_L_law_443 : decode qc_L_law 443 = .ok (.laload, 1) := by decide +kernel
theorem qd_L_law_444 : decode qc_L_law 444 = .ok (.lload 6, 2) := by decide +kernel
theorem qd_L_law_446 : decode qc_L_law 446 = .ok (.lcmp, 1) := by decide +kernel
theorem qd_L_law_447 : decode qc_L_law 447 = .ok (.ifCond .eq 5, 3) := by decide +kernel
theorem qd_L_law_450 : decode qc_L_law 450 = .ok (.iconst 0, 1) := by decide +kernel
theorem qd_L_law_451 : decode qc_L_law 451 = .ok (.ireturn, 1) := by decide +kernel
theorem qd_L_law_452 : decode qc_L_law 452 = .ok (.goto 795, 3) := by decide +kernel
theorem qd_L_law_455 : decode qc_L_law 455 = .ok (.aload_n 1, 1) := by decide +kernel
theorem qd_L_law_456 : decode qc_L_law 456 = .ok (.aload_n 0, 1) := by decide +kernel
theorem qd_L_law_457 : decode qc_L_law 457 = .ok (.iload 4, 2) := by decide +kernel
theorem qd_L_law_459 : decode qc_L_law 459 = .ok (.iconst 1, 1) := by decide +kernel
theorem qd_L_law_460 : decode qc_L_law 460 = .ok (.iadd, 1) := by decide +kernel
theorem qd_L_law_461 : decode qc_L_law 461 = .ok (.iaload, 1) := by decide +kernel
theorem qd_L_law_462 : decode qc_L_law 462 = .ok (.aload_n 0, 1) := by decide +kernel
theorem qd_L_law_463 : decode qc_L_law 463 = .ok (.iload 4, 2) := by decide +kernel
theorem qd_L_law_465 : decode qc_L_law 465 = .ok (.iconst 2, 1) := by decide +kernel
theorem qd_L_law_466 : decode qc_L_law 466 = .ok (.iadd, 1) := by decide +kernel
theorem qd_L_law_467 : decode qc_L_law 467 = .ok (.iaload, 1) := by decide +kernel
theorem qd_L_law_468 : decode qc_L_law 468 = .ok (.aload_n 3, 1) := by decide +kernel
theorem qd_L_law_469 : decode qc_L_law 469 = .ok (.invokestatic 85, 3) := by decide +kernel
theorem qd_L_law_472 : decode qc_L_law 472 = .ok (.istore 5, 2) := by decide +kernel
end
section
theorem qd_L_law_474 : decode qc_L_law 474 = .ok (.aload_n 2, 1) := by decide +kernel
theorem qd_L_law_475 : decode qc_L_law 475 = .ok (.aload_n 0, 1) := by decide +kernel
theorem qd_L_law_476 : decode qc_L_law 476 = .ok (.iload 4, 2) := by decide +kernel
theorem qd_L_law_478 : decode qc_L_law 478 = .ok (.iconst 1, 1) := by decide +kernel
theorem qd_L_law_479 : decode qc_L_law 479 = .ok (.iadd, 1) := by decide +kernel
theorem qd_L_law_480 : decode qc_L_law 480 = .ok (.iaload, 1) := by decide +kernel
theorem qd_L_law_481 : decode qc_L_law 481 = .ok (.aload_n 0, 1) := by decide +kernel
theorem qd_L_law_482 : decode qc_L_law 482 = .ok (.iload 4, 2) := by decide +kernel
theorem qd_L_law_484 : decode qc_L_law 484 = .ok (.iconst 2, 1) := by decide +kernel
theorem qd_L_law_485 : decode qc_L_law 485 = .ok (.iadd, 1) := by decide +kernel
theorem qd_L_law_486 : decode qc_L_law 486 = .ok (.iaload, 1) := by decide +kernel
theorem qd_L_law_487 : decode qc_L_law 487 = .ok (.invokevirtual 88, 3) := by decide +kernel
theorem qd_L_law_490 : decode qc_L_law 490 = .ok (.lstore 6, 2) := by decide +kernel
theorem qd_L_law_492 : decode qc_L_law 492 = .ok (.aload_n 2, 1) := by decide +kernel
theorem qd_L_law_493 : decode qc_L_law 493 = .ok (.invokevirtual 70, 3) := by decide +kernel
theorem qd_L_law_496 : decode qc_L_law 496 = .ok (.iload 5, 2) := by decide +kernel
theorem qd_L_law_498 : decode qc_L_law 498 = .ok (.if_icmp .eq 5, 3) := by decide +kernel
theorem qd_L_law_501 : decode qc_L_law 501 = .ok (.iconst 0, 1) := by decide +kernel
theorem qd_L_law_502 : decode qc_L_law 502 = .ok (.ireturn, 1) := by decide +kernel
theorem qd_L_law_503 : decode qc_L_law 503 = .ok (.iload 5, 2) := by decide +kernel
theorem qd_L_law_505 : decode qc_L_law 505 = .ok (.ifCond .ne 14, 3) := by decide +kernel
theorem qd_L_law_508 : decode qc_L_law 508 = .ok (.aload_n 3, 1) := by decide +kernel
theorem qd_L_law_509 : decode qc_L_law 509 = .ok (.iconst 0, 1) := by decide +kernel
theorem qd_L_law_510 : decode qc_L_law 510 = .ok (.laload, 1) := by decide +kernel
theorem qd_L_law_511 : decode qc_L_law 511 = .ok (.lload 6, 2) := by decide +kernel
theorem qd_L_law_513 : decode qc_L_law 513 = .ok (.lcmp, 1) := by decide +kernel
theorem qd_L_law_514 : decode qc_L_law 514 = .ok (.ifCond .eq 5, 3) := by decide +kernel
theorem qd_L_law_517 : decode qc_L_law 517 = .ok (.iconst 0, 1) := by decide +kernel
theorem qd_L_law_518 : decode qc_L_law 518 = .ok (.ireturn, 1) := by decide +kernel
theorem qd_L_law_519 : decode qc_L_law 519 = .ok (.goto 728, 3) := by decide +kernel
theorem qd_L_law_522 : decode qc_L_law 522 = .ok (.aload_n 1, 1) := by decide +kernel
theorem qd_L_law_523 : decode qc_L_law 523 = .ok (.aload_n 0, 1) := by decide +kernel
theorem qd_L_law_524 : decode qc_L_law 524 = .ok (.iload 4, 2) := by decide +kernel
theorem qd_L_law_526 : decode qc_L_law 526 = .ok (.iconst 1, 1) := by decide +kernel
theorem qd_L_law_527 : decode qc_L_law 527 = .ok (.iadd, 1) := by decide +kernel
theorem qd_L_law_528 : decode qc_L_law 528 = .ok (.iaload, 1) := by decide +kernel
theorem qd_L_law_529 : decode qc_L_law 529 = .ok (.aload_n 0, 1) := by decide +kernel
theorem qd_L_law_530 : decode qc_L_law 530 = .ok (.iload 4, 2) := by decide +kernel
theorem qd_L_law_532 : decode qc_L_law 532 = .ok (.iconst 2, 1) := by decide +kernel
theorem qd_L_law_533 : decode qc_L_law 533 = .ok (.iadd, 1) := by decide +kernel
theorem qd_L_law_534 : decode qc_L_law 534 = .ok (.iaload, 1) := by decide +kernel
theorem qd_L_law_535 : decode qc_L_law 535 = .ok (.aload_n 3, 1) := by decide +kernel
theorem qd_L_law_536 : decode qc_L_law 536 = .ok (.invokestatic 89, 3) := by decide +kernel
theorem qd_L_law_539 : decode qc_L_law 539 = .ok (.istore 5, 2) := by decide +kernel
theorem qd_L_law_541 : decode qc_L_law 541 = .ok (.aload_n 2, 1) := by decide +kernel
theorem qd_L_law_542 : decode qc_L_law 542 = .ok (.aload_n 0, 1) := by decide +kernel
theorem qd_L_law_543 : decode qc_L_law 543 = .ok (.iload 4, 2) := by decide +kernel
theorem qd_L_law_545 : decode qc_L_law 545 = .ok (.iconst 1, 1) := by decide +kernel
theorem qd_L_law_546 : decode qc_L_law 546 = .ok (.iadd, 1) := by decide +kernel
theorem qd_L_law_547 : decode qc_L_law 547 = .ok (.iaload, 1) := by decide +kernel
theorem qd_L_law_548 : decode qc_L_law 548 = .ok (.aload_n 0, 1) := by decide +kernel
theorem qd_L_law_549 : decode qc_L_law 549 = .ok (.iload 4, 2) := by decide +kernel
theorem qd_L_law_551 : decode qc_L_law 551 = .ok (.iconst 2, 1) := by decide +kernel
theorem qd_L_law_552 : decode qc_L_law 552 = .ok (.iadd, 1) := by decide +kernel
theorem qd_L_law_553 : decode qc_L_law 553 = .ok (.iaload, 1) := by decide +kernel
theorem qd_L_law_554 : decode qc_L_law 554 = .ok (.invokevirtual 91, 3) := by decide +kernel
theorem qd_L_law_557 : decode qc_L_law 557 = .ok (.istore 6, 2) := by decide +kernel
theorem qd_L_law_559 : decode qc_L_law 559 = .ok (.aload_n 2, 1) := by decide +kernel
theorem qd_L_law_560 : decode qc_L_law 560 = .ok (.invokevirtual 70, 3) := by decide +kernel
theorem qd_L_law_563 : decode qc_L_law 563 = .ok (.iload 5, 2) := by decide +kernel
theorem qd_L_law_565 : decode qc_L_law 565 = .ok (.if_icmp .eq 5, 3) := by decide +kernel
theorem qd_L_law_568 : decode qc_L_law 568 = .ok (.iconst 0, 1) := by decide +kernel
theorem qd_L_law_569 : decode qc_L_law 569 = .ok (.ireturn, 1) := by decide +kernel
theorem qd_L_law_570 : decode qc_L_law 570 = .ok (.iload 5, 2) := by decide +kernel
theorem qd_L_law_572 : decode qc_L_law 572 = .ok (.ifCond .ne 15, 3) := by decide +kernel
theorem qd_L_law_575 : decode qc_L_law 575 = .ok (.aload_n 3, 1) := by decide +kernel
theorem qd_L_law_576 : decode qc_L_law 576 = .ok (.iconst 0, 1) := by decide +kernel
theorem qd_L_law_577 : decode qc_L_law 577 = .ok (.laload, 1) := by decide +kernel
theorem qd_L_law_578 : decode qc_L_law 578 = .ok (.iload 6, 2) := by decide +kernel
theorem qd_L_law_580 : decode qc_L_law 580 = .ok (.i2l, 1) := by decide +kernel
theorem qd_L_law_581 : decode qc_L_law 581 = .ok (.lcmp, 1) := by decide +kernel
theorem qd_L_law_582 : decode qc_L_law 582 = .ok (.ifCond .eq 5, 3) := by decide +kernel
theorem qd_L_law_585 : decode qc_L_law 585 = .ok (.iconst 0, 1) := by decide +kernel
theorem qd_L_law_586 : decode qc_L_law 586 = .ok (.ireturn, 1) := by decide +kernel
theorem qd_L_law_587 : decode qc_L_law 587 = .ok (.goto 660, 3) := by decide +kernel
theorem qd_L_law_590 : decode qc_L_law 590 = .ok (.aload_n 1, 1) := by decide +kernel
theorem qd_L_law_591 : decode qc_L_law 591 = .ok (.aload_n 0, 1) := by decide +kernel
theorem qd_L_law_592 : decode qc_L_law 592 = .ok (.iload 4, 2) := by decide +kernel
theorem qd_L_law_594 : decode qc_L_law 594 = .ok (.iconst 1, 1) := by decide +kernel
theorem qd_L_law_595 : decode qc_L_law 595 = .ok (.iadd, 1) := by decide +kernel
theorem qd_L_law_596 : decode qc_L_law 596 = .ok (.iaload, 1) := by decide +kernel
theorem qd_L_law_597 : decode qc_L_law 597 = .ok (.aload_n 0, 1) := by decide +kernel
theorem qd_L_law_598 : decode qc_L_law 598 = .ok (.iload 4, 2) := by decide +kernel
theorem qd_L_law_600 : decode qc_L_law 600 = .ok (.iconst 2, 1) := by decide +kernel
theorem qd_L_law_601 : decode qc_L_law 601 = .ok (.iadd, 1) := by decide +kernel
theorem qd_L_law_602 : decode qc_L_law 602 = .ok (.iaload, 1) := by decide +kernel
theorem qd_L_law_603 : decode qc_L_law 603 = .ok (.aload_n 3, 1) := by decide +kernel
theorem qd_L_law_604 : decode qc_L_law 604 = .ok (.invokestatic 92, 3) := by decide +kernel
theorem qd_L_law_607 : decode qc_L_law 607 = .ok (.istore 5, 2) := by decide +kernel
theorem qd_L_law_609 : decode qc_L_law 609 = .ok (.aload_n 2, 1) := by decide +kernel
theorem qd_L_law_610 : decode qc_L_law 610 = .ok (.aload_n 0, 1) := by decide +kernel
theorem qd_L_law_611 : decode qc_L_law 611 = .ok (.iload 4, 2) := by decide +kernel
theorem qd_L_law_613 : decode qc_L_law 613 = .ok (.iconst 1, 1) := by decide +kernel
theorem qd_L_law_614 : decode qc_L_law 614 = .ok (.iadd, 1) := by decide +kernel
theorem qd_L_law_615 : decode qc_L_law 615 = .ok (.iaload, 1) := by decide +kernel
theorem qd_L_law_616 : decode qc_L_law 616 = .ok (.aload_n 0, 1) := by decide +kernel
theorem qd_L_law_617 : decode qc_L_law 617 = .ok (.iload 4, 2) := by decide +kernel
theorem qd_L_law_619 : decode qc_L_law 619 = .ok (.iconst 2, 1) := by decide +kernel
theorem qd_L_law_620 : decode qc_L_law 620 = .ok (.iadd, 1) := by decide +kernel
theorem qd_L_law_621 : decode qc_L_law 621 = .ok (.iaload, 1) := by decide +kernel
theorem qd_L_law_622 : decode qc_L_law 622 = .ok (.invokevirtual 94, 3) := by decide +kernel
theorem qd_L_law_625 : decode qc_L_law 625 = .ok (.istore 6, 2) := by decide +kernel
theorem qd_L_law_627 : decode qc_L_law 627 = .ok (.aload_n 2, 1) := by decide +kernel
theorem qd_L_law_628 : decode qc_L_law 628 = .ok (.invokevirtual 70, 3) := by decide +kernel
theorem qd_L_law_631 : decode qc_L_law 631 = .ok (.iload 5, 2) := by decide +kernel
theorem qd_L_law_633 : decode qc_L_law 633 = .ok (.if_icmp .eq 5, 3) := by decide +kernel
theorem qd_L_law_636 : decode qc_L_law 636 = .ok (.iconst 0, 1) := by decide +kernel
theorem qd_L_law_637 : decode qc_L_law 637 = .ok (.ireturn, 1) := by decide +kernel
theorem qd_L_law_638 : decode qc_L_law 638 = .ok (.iload 5, 2) := by decide +kernel
theorem qd_L_law_640 : decode qc_L_law 640 = .ok (.ifCond .ne 15, 3) := by decide +kernel
theorem qd_L_law_643 : decode qc_L_law 643 = .ok (.aload_n 3, 1) := by decide +kernel
theorem qd_L_law_644 : decode qc_L_law 644 = .ok (.iconst 0, 1) := by decide +kernel
theorem qd_L_law_645 : decode qc_L_law 645 = .ok (.laload, 1) := by decide +kernel
theorem qd_L_law_646 : decode qc_L_law 646 = .ok (.iload 6, 2) := by decide +kernel
theorem qd_L_law_648 : decode qc_L_law 648 = .ok (.i2l, 1) := by decide +kernel
theorem qd_L_law_649 : decode qc_L_law 649 = .ok (.lcmp, 1) := by decide +kernel
theorem qd_L_law_650 : decode qc_L_law 650 = .ok (.ifCond .eq 5, 3) := by decide +kernel
theorem qd_L_law_653 : decode qc_L_law 653 = .ok (.iconst 0, 1) := by decide +kernel
theorem qd_L_law_654 : decode qc_L_law 654 = .ok (.ireturn, 1) := by decide +kernel
theorem qd_L_law_655 : decode qc_L_law 655 = .ok (.goto 592, 3) := by decide +kernel
theorem qd_L_law_658 : decode qc_L_law 658 = .ok (.aload_n 1, 1) := by decide +kernel
theorem qd_L_law_659 : decode qc_L_law 659 = .ok (.aload_n 0, 1) := by decide +kernel
theorem qd_L_law_660 : decode qc_L_law 660 = .ok (.iload 4, 2) := by decide +kernel
theorem qd_L_law_662 : decode qc_L_law 662 = .ok (.iconst 1, 1) := by decide +kernel
theorem qd_L_law_663 : decode qc_L_law 663 = .ok (.iadd, 1) := by decide +kernel
theorem qd_L_law_664 : decode qc_L_law 664 = .ok (.iaload, 1) := by decide +kernel
theorem qd_L_law_665 : decode qc_L_law 665 = .ok (.aload_n 3, 1) := by decide +kernel
theorem qd_L_law_666 : decode qc_L_law 666 = .ok (.invokestatic 95, 3) := by decide +kernel
theorem qd_L_law_669 : decode qc_L_law 669 = .ok (.istore 5, 2) := by decide +kernel
theorem qd_L_law_671 : decode qc_L_law 671 = .ok (.aload_n 2, 1) := by decide +kernel
theorem qd_L_law_672 : decode qc_L_law 672 = .ok (.aload_n 0, 1) := by decide +kernel
theorem qd_L_law_673 : decode qc_L_law 673 = .ok (.iload 4, 2) := by decide +kernel
theorem qd_L_law_675 : decode qc_L_law 675 = .ok (.iconst 1, 1) := by decide +kernel
theorem qd_L_law_676 : decode qc_L_law 676 = .ok (.iadd, 1) := by decide +kernel
theorem qd_L_law_677 : decode qc_L_law 677 = .ok (.iaload, 1) := by decide +kernel
theorem qd_L_law_678 : decode qc_L_law 678 = .ok (.invokevirtual 97, 3) := by decide +kernel
theorem qd_L_law_681 : decode qc_L_law 681 = .ok (.lstore 6, 2) := by decide +kernel
theorem qd_L_law_683 : decode qc_L_law 683 = .ok (.aload_n 2, 1) := by decide +kernel
theorem qd_L_law_684 : decode qc_L_law 684 = .ok (.invokevirtual 70, 3) := by decide +kernel
theorem qd_L_law_687 : decode qc_L_law 687 = .ok (.iload 5, 2) := by decide +kernel
theorem qd_L_law_689 : decode qc_L_law 689 = .ok (.if_icmp .eq 5, 3) := by decide +kernel
theorem qd_L_law_692 : decode qc_L_law 692 = .ok (.iconst 0, 1) := by decide +kernel
theorem qd_L_law_693 : decode qc_L_law 693 = .ok (.ireturn, 1) := by decide +kernel
theorem qd_L_law_694 : decode qc_L_law 694 = .ok (.iload 5, 2) := by decide +kernel
theorem qd_L_law_696 : decode qc_L_law 696 = .ok (.ifCond .ne 14, 3) := by decide +kernel
theorem qd_L_law_699 : decode qc_L_law 699 = .ok (.aload_n 3, 1) := by decide +kernel
theorem qd_L_law_700 : decode qc_L_law 700 = .ok (.iconst 0, 1) := by decide +kernel
theorem qd_L_law_701 : decode qc_L_law 701 = .ok (.laload, 1) := by decide +kernel
theorem qd_L_law_702 : decode qc_L_law 702 = .ok (.lload 6, 2) := by decide +kernel
theorem qd_L_law_704 : decode qc_L_law 704 = .ok (.lcmp, 1) := by decide +kernel
theorem qd_L_law_705 : decode qc_L_law 705 = .ok (.ifCond .eq 5, 3) := by decide +kernel
theorem qd_L_law_708 : decode qc_L_law 708 = .ok (.iconst 0, 1) := by decide +kernel
theorem qd_L_law_709 : decode qc_L_law 709 = .ok (.ireturn, 1) := by decide +kernel
theorem qd_L_law_710 : decode qc_L_law 710 = .ok (.goto 537, 3) := by decide +kernel
theorem qd_L_law_713 : decode qc_L_law 713 = .ok (.aload_n 1, 1) := by decide +kernel
theorem qd_L_law_714 : decode qc_L_law 714 = .ok (.aload_n 0, 1) := by decide +kernel
theorem qd_L_law_715 : decode qc_L_law 715 = .ok (.iload 4, 2) := by decide +kernel
theorem qd_L_law_717 : decode qc_L_law 717 = .ok (.iconst 1, 1) := by decide +kernel
theorem qd_L_law_718 : decode qc_L_law 718 = .ok (.iadd, 1) := by decide +kernel
theorem qd_L_law_719 : decode qc_L_law 719 = .ok (.iaload, 1) := by decide +kernel
theorem qd_L_law_720 : decode qc_L_law 720 = .ok (.aload_n 0, 1) := by decide +kernel
theorem qd_L_law_721 : decode qc_L_law 721 = .ok (.iload 4, 2) := by decide +kernel
theorem qd_L_law_723 : decode qc_L_law 723 = .ok (.iconst 2, 1) := by decide +kernel
theorem qd_L_law_724 : decode qc_L_law 724 = .ok (.iadd, 1) := by decide +kernel
theorem qd_L_law_725 : decode qc_L_law 725 = .ok (.iaload, 1) := by decide +kernel
theorem qd_L_law_726 : decode qc_L_law 726 = .ok (.i2l, 1) := by decide +kernel
theorem qd_L_law_727 : decode qc_L_law 727 = .ok (.bipush 32, 2) := by decide +kernel
theorem qd_L_law_729 : decode qc_L_law 729 = .ok (.lshl, 1) := by decide +kernel
theorem qd_L_law_730 : decode qc_L_law 730 = .ok (.aload_n 0, 1) := by decide +kernel
theorem qd_L_law_731 : decode qc_L_law 731 = .ok (.iload 4, 2) := by decide +kernel
theorem qd_L_law_733 : decode qc_L_law 733 = .ok (.iconst 3, 1) := by decide +kernel
theorem qd_L_law_734 : decode qc_L_law 734 = .ok (.iadd, 1) := by decide +kernel
theorem qd_L_law_735 : decode qc_L_law 735 = .ok (.iaload, 1) := by decide +kernel
theorem qd_L_law_736 : decode qc_L_law 736 = .ok (.i2l, 1) := by decide +kernel
theorem qd_L_law_737 : decode qc_L_law 737 = .ok (.ldc2_w 62, 3) := by decide +kernel
theorem qd_L_law_740 : decode qc_L_law 740 = .ok (.land, 1) := by decide +kernel
theorem qd_L_law_741 : decode qc_L_law 741 = .ok (.lor, 1) := by decide +kernel
theorem qd_L_law_742 : decode qc_L_law 742 = .ok (.aload_n 3, 1) := by decide +kernel
theorem qd_L_law_743 : decode qc_L_law 743 = .ok (.invokestatic 98, 3) := by decide +kernel
theorem qd_L_law_746 : decode qc_L_law 746 = .ok (.istore 5, 2) := by decide +kernel
theorem qd_L_law_748 : decode qc_L_law 748 = .ok (.aload_n 2, 1) := by decide +kernel
theorem qd_L_law_749 : decode qc_L_law 749 = .ok (.aload_n 0, 1) := by decide +kernel
theorem qd_L_law_750 : decode qc_L_law 750 = .ok (.iload 4, 2) := by decide +kernel
theorem qd_L_law_752 : decode qc_L_law 752 = .ok (.iconst 1, 1) := by decide +kernel
theorem qd_L_law_753 : decode qc_L_law 753 = .ok (.iadd, 1) := by decide +kernel
theorem qd_L_law_754 : decode qc_L_law 754 = .ok (.iaload, 1) := by decide +kernel
theorem qd_L_law_755 : decode qc_L_law 755 = .ok (.aload_n 0, 1) := by decide +kernel
theorem qd_L_law_756 : decode qc_L_law 756 = .ok (.iload 4, 2) := by decide +kernel
theorem qd_L_law_758 : decode qc_L_law 758 = .ok (.iconst 2, 1) := by decide +kernel
theorem qd_L_law_759 : decode qc_L_law 759 = .ok (.iadd, 1) := by decide +kernel
theorem qd_L_law_760 : decode qc_L_law 760 = .ok (.iaload, 1) := by decide +kernel
theorem qd_L_law_761 : decode qc_L_law 761 = .ok (.i2l, 1) := by decide +kernel
theorem qd_L_law_762 : decode qc_L_law 762 = .ok (.bipush 32, 2) := by decide +kernel
theorem qd_L_law_764 : decode qc_L_law 764 = .ok (.lshl, 1) := by decide +kernel
theorem qd_L_law_765 : decode qc_L_law 765 = .ok (.aload_n 0, 1) := by decide +kernel
theorem qd_L_law_766 : decode qc_L_law 766 = .ok (.iload 4, 2) := by decide +kernel
theorem qd_L_law_768 : decode qc_L_law 768 = .ok (.iconst 3, 1) := by decide +kernel
theorem qd_L_law_769 : decode qc_L_law 769 = .ok (.iadd, 1) := by decide +kernel
theorem qd_L_law_770 : decode qc_L_law 770 = .ok (.iaload, 1) := by decide +kernel
theorem qd_L_law_771 : decode qc_L_law 771 = .ok (.i2l, 1) := by decide +kernel
theorem qd_L_law_772 : decode qc_L_law 772 = .ok (.ldc2_w 62, 3) := by decide +kernel
theorem qd_L_law_775 : decode qc_L_law 775 = .ok (.land, 1) := by decide +kernel
theorem qd_L_law_776 : decode qc_L_law 776 = .ok (.lor, 1) := by decide +kernel
theorem qd_L_law_777 : decode qc_L_law 777 = .ok (.invokevirtual 101, 3) := by decide +kernel
theorem qd_L_law_780 : decode qc_L_law 780 = .ok (.lstore 6, 2) := by decide +kernel
theorem qd_L_law_782 : decode qc_L_law 782 = .ok (.aload_n 2, 1) := by decide +kernel
theorem qd_L_law_783 : decode qc_L_law 783 = .ok (.invokevirtual 70, 3) := by decide +kernel
theorem qd_L_law_786 : decode qc_L_law 786 = .ok (.iload 5, 2) := by decide +kernel
theorem qd_L_law_788 : decode qc_L_law 788 = .ok (.if_icmp .eq 5, 3) := by decide +kernel
theorem qd_L_law_791 : decode qc_L_law 791 = .ok (.iconst 0, 1) := by decide +kernel
theorem qd_L_law_792 : decode qc_L_law 792 = .ok (.ireturn, 1) := by decide +kernel
theorem qd_L_law_793 : decode qc_L_law 793 = .ok (.iload 5, 2) := by decide +kernel
theorem qd_L_law_795 : decode qc_L_law 795 = .ok (.ifCond .ne 14, 3) := by decide +kernel
theorem qd_L_law_798 : decode qc_L_law 798 = .ok (.aload_n 3, 1) := by decide +kernel
theorem qd_L_law_799 : decode qc_L_law 799 = .ok (.iconst 0, 1) := by decide +kernel
theorem qd_L_law_800 : decode qc_L_law 800 = .ok (.laload, 1) := by decide +kernel
theorem qd_L_law_801 : decode qc_L_law 801 = .ok (.lload 6, 2) := by decide +kernel
theorem qd_L_law_803 : decode qc_L_law 803 = .ok (.lcmp, 1) := by decide +kernel
theorem qd_L_law_804 : decode qc_L_law 804 = .ok (.ifCond .eq 5, 3) := by decide +kernel
theorem qd_L_law_807 : decode qc_L_law 807 = .ok (.iconst 0, 1) := by decide +kernel
theorem qd_L_law_808 : decode qc_L_law 808 = .ok (.ireturn, 1) := by decide +kernel
theorem qd_L_law_809 : decode qc_L_law 809 = .ok (.goto 438, 3) := by decide +kernel
theorem qd_L_law_812 : decode qc_L_law 812 = .ok (.aload_n 1, 1) := by decide +kernel
theorem qd_L_law_813 : decode qc_L_law 813 = .ok (.aload_n 0, 1) := by decide +kernel
theorem qd_L_law_814 : decode qc_L_law 814 = .ok (.iload 4, 2) := by decide +kernel
theorem qd_L_law_816 : decode qc_L_law 816 = .ok (.iconst 1, 1) := by decide +kernel
theorem qd_L_law_817 : decode qc_L_law 817 = .ok (.iadd, 1) := by decide +kernel
theorem qd_L_law_818 : decode qc_L_law 818 = .ok (.iaload, 1) := by decide +kernel
theorem qd_L_law_819 : decode qc_L_law 819 = .ok (.aload_n 3, 1) := by decide +kernel
theorem qd_L_law_820 : decode qc_L_law 820 = .ok (.invokestatic 102, 3) := by decide +kernel
theorem qd_L_law_823 : decode qc_L_law 823 = .ok (.istore 5, 2) := by decide +kernel
theorem qd_L_law_825 : decode qc_L_law 825 = .ok (.aload_n 2, 1) := by decide +kernel
theorem qd_L_law_826 : decode qc_L_law 826 = .ok (.aload_n 0, 1) := by decide +kernel
theorem qd_L_law_827 : decode qc_L_law 827 = .ok (.iload 4, 2) := by decide +kernel
theorem qd_L_law_829 : decode qc_L_law 829 = .ok (.iconst 1, 1) := by decide +kernel
theorem qd_L_law_830 : decode qc_L_law 830 = .ok (.iadd, 1) := by decide +kernel
theorem qd_L_law_831 : decode qc_L_law 831 = .ok (.iaload, 1) := by decide +kernel
theorem qd_L_law_832 : decode qc_L_law 832 = .ok (.invokevirtual 104, 3) := by decide +kernel
theorem qd_L_law_835 : decode qc_L_law 835 = .ok (.istore 6, 2) := by decide +kernel
theorem qd_L_law_837 : decode qc_L_law 837 = .ok (.aload_n 2, 1) := by decide +kernel
theorem qd_L_law_838 : decode qc_L_law 838 = .ok (.invokevirtual 70, 3) := by decide +kernel
theorem qd_L_law_841 : decode qc_L_law 841 = .ok (.iload 5, 2) := by decide +kernel
theorem qd_L_law_843 : decode qc_L_law 843 = .ok (.if_icmp .eq 5, 3) := by decide +kernel
theorem qd_L_law_846 : decode qc_L_law 846 = .ok (.iconst 0, 1) := by decide +kernel
theorem qd_L_law_847 : decode qc_L_law 847 = .ok (.ireturn, 1) := by decide +kernel
theorem qd_L_law_848 : decode qc_L_law 848 = .ok (.iload 5, 2) := by decide +kernel
theorem qd_L_law_850 : decode qc_L_law 850 = .ok (.ifCond .ne 15, 3) := by decide +kernel
theorem qd_L_law_853 : decode qc_L_law 853 = .ok (.aload_n 3, 1) := by decide +kernel
theorem qd_L_law_854 : decode qc_L_law 854 = .ok (.iconst 0, 1) := by decide +kernel
theorem qd_L_law_855 : decode qc_L_law 855 = .ok (.laload, 1) := by decide +kernel
theorem qd_L_law_856 : decode qc_L_law 856 = .ok (.iload 6, 2) := by decide +kernel
theorem qd_L_law_858 : decode qc_L_law 858 = .ok (.i2l, 1) := by decide +kernel
theorem qd_L_law_859 : decode qc_L_law 859 = .ok (.lcmp, 1) := by decide +kernel
theorem qd_L_law_860 : decode qc_L_law 860 = .ok (.ifCond .eq 5, 3) := by decide +kernel
theorem qd_L_law_863 : decode qc_L_law 863 = .ok (.iconst 0, 1) := by decide +kernel
theorem qd_L_law_864 : decode qc_L_law 864 = .ok (.ireturn, 1) := by decide +kernel
theorem qd_L_law_865 : decode qc_L_law 865 = .ok (.goto 382, 3) := by decide +kernel
theorem qd_L_law_868 : decode qc_L_law 868 = .ok (.aload_n 1, 1) := by decide +kernel
theorem qd_L_law_869 : decode qc_L_law 869 = .ok (.aload_n 0, 1) := by decide +kernel
theorem qd_L_law_870 : decode qc_L_law 870 = .ok (.iload 4, 2) := by decide +kernel
theorem qd_L_law_872 : decode qc_L_law 872 = .ok (.iconst 1, 1) := by decide +kernel
theorem qd_L_law_873 : decode qc_L_law 873 = .ok (.iadd, 1) := by decide +kernel
theorem qd_L_law_874 : decode qc_L_law 874 = .ok (.iaload, 1) := by decide +kernel
theorem qd_L_law_875 : decode qc_L_law 875 = .ok (.aload_n 0, 1) := by decide +kernel
theorem qd_L_law_876 : decode qc_L_law 876 = .ok (.iload 4, 2) := by decide +kernel
theorem qd_L_law_878 : decode qc_L_law 878 = .ok (.iconst 2, 1) := by decide +kernel
theorem qd_L_law_879 : decode qc_L_law 879 = .ok (.iadd, 1) := by decide +kernel
theorem qd_L_law_880 : decode qc_L_law 880 = .ok (.iaload, 1) := by decide +kernel
theorem qd_L_law_881 : decode qc_L_law 881 = .ok (.aload_n 0, 1) := by decide +kernel
theorem qd_L_law_882 : decode qc_L_law 882 = .ok (.iload 4, 2) := by decide +kernel
end
section
theorem qd_L_law_884 : decode qc_L_law 884 = .ok (.iconst 3, 1) := by decide +kernel
theorem qd_L_law_885 : decode qc_L_law 885 = .ok (.iadd, 1) := by decide +kernel
theorem qd_L_law_886 : decode qc_L_law 886 = .ok (.iaload, 1) := by decide +kernel
theorem qd_L_law_887 : decode qc_L_law 887 = .ok (.i2l, 1) := by decide +kernel
theorem qd_L_law_888 : decode qc_L_law 888 = .ok (.bipush 32, 2) := by decide +kernel
theorem qd_L_law_890 : decode qc_L_law 890 = .ok (.lshl, 1) := by decide +kernel
theorem qd_L_law_891 : decode qc_L_law 891 = .ok (.aload_n 0, 1) := by decide +kernel
theorem qd_L_law_892 : decode qc_L_law 892 = .ok (.iload 4, 2) := by decide +kernel
theorem qd_L_law_894 : decode qc_L_law 894 = .ok (.iconst 4, 1) := by decide +kernel
theorem qd_L_law_895 : decode qc_L_law 895 = .ok (.iadd, 1) := by decide +kernel
theorem qd_L_law_896 : decode qc_L_law 896 = .ok (.iaload, 1) := by decide +kernel
theorem qd_L_law_897 : decode qc_L_law 897 = .ok (.i2l, 1) := by decide +kernel
theorem qd_L_law_898 : decode qc_L_law 898 = .ok (.ldc2_w 62, 3) := by decide +kernel
theorem qd_L_law_901 : decode qc_L_law 901 = .ok (.land, 1) := by decide +kernel
theorem qd_L_law_902 : decode qc_L_law 902 = .ok (.lor, 1) := by decide +kernel
theorem qd_L_law_903 : decode qc_L_law 903 = .ok (.aload_n 0, 1) := by decide +kernel
theorem qd_L_law_904 : decode qc_L_law 904 = .ok (.iload 4, 2) := by decide +kernel
theorem qd_L_law_906 : decode qc_L_law 906 = .ok (.iconst 5, 1) := by decide +kernel
theorem qd_L_law_907 : decode qc_L_law 907 = .ok (.iadd, 1) := by decide +kernel
theorem qd_L_law_908 : decode qc_L_law 908 = .ok (.iaload, 1) := by decide +kernel
theorem qd_L_law_909 : decode qc_L_law 909 = .ok (.i2l, 1) := by decide +kernel
theorem qd_L_law_910 : decode qc_L_law 910 = .ok (.bipush 32, 2) := by decide +kernel
theorem qd_L_law_912 : decode qc_L_law 912 = .ok (.lshl, 1) := by decide +kernel
theorem qd_L_law_913 : decode qc_L_law 913 = .ok (.aload_n 0, 1) := by decide +kernel
theorem qd_L_law_914 : decode qc_L_law 914 = .ok (.iload 4, 2) := by decide +kernel
theorem qd_L_law_916 : decode qc_L_law 916 = .ok (.bipush 6, 2) := by decide +kernel
theorem qd_L_law_918 : decode qc_L_law 918 = .ok (.iadd, 1) := by decide +kernel
theorem qd_L_law_919 : decode qc_L_law 919 = .ok (.iaload, 1) := by decide +kernel
theorem qd_L_law_920 : decode qc_L_law 920 = .ok (.i2l, 1) := by decide +kernel
theorem qd_L_law_921 : decode qc_L_law 921 = .ok (.ldc2_w 62, 3) := by decide +kernel
theorem qd_L_law_924 : decode qc_L_law 924 = .ok (.land, 1) := by decide +kernel
theorem qd_L_law_925 : decode qc_L_law 925 = .ok (.lor, 1) := by decide +kernel
theorem qd_L_law_926 : decode qc_L_law 926 = .ok (.invokevirtual 105, 3) := by decide +kernel
theorem qd_L_law_929 : decode qc_L_law 929 = .ok (.aload_n 2, 1) := by decide +kernel
theorem qd_L_law_930 : decode qc_L_law 930 = .ok (.aload_n 0, 1) := by decide +kernel
theorem qd_L_law_931 : decode qc_L_law 931 = .ok (.iload 4, 2) := by decide +kernel
theorem qd_L_law_933 : decode qc_L_law 933 = .ok (.iconst 1, 1) := by decide +kernel
theorem qd_L_law_934 : decode qc_L_law 934 = .ok (.iadd, 1) := by decide +kernel
theorem qd_L_law_935 : decode qc_L_law 935 = .ok (.iaload, 1) := by decide +kernel
theorem qd_L_law_936 : decode qc_L_law 936 = .ok (.aload_n 0, 1) := by decide +kernel
theorem qd_L_law_937 : decode qc_L_law 937 = .ok (.iload 4, 2) := by decide +kernel
theorem qd_L_law_939 : decode qc_L_law 939 = .ok (.iconst 2, 1) := by decide +kernel
theorem qd_L_law_940 : decode qc_L_law 940 = .ok (.iadd, 1) := by decide +kernel
theorem qd_L_law_941 : decode qc_L_law 941 = .ok (.iaload, 1) := by decide +kernel
theorem qd_L_law_942 : decode qc_L_law 942 = .ok (.aload_n 0, 1) := by decide +kernel
theorem qd_L_law_943 : decode qc_L_law 943 = .ok (.iload 4, 2) := by decide +kernel
theorem qd_L_law_945 : decode qc_L_law 945 = .ok (.iconst 3, 1) := by decide +kernel
theorem qd_L_law_946 : decode qc_L_law 946 = .ok (.iadd, 1) := by decide +kernel
theorem qd_L_law_947 : decode qc_L_law 947 = .ok (.iaload, 1) := by decide +kernel
theorem qd_L_law_948 : decode qc_L_law 948 = .ok (.i2l, 1) := by decide +kernel
theorem qd_L_law_949 : decode qc_L_law 949 = .ok (.bipush 32, 2) := by decide +kernel
theorem qd_L_law_951 : decode qc_L_law 951 = .ok (.lshl, 1) := by decide +kernel
theorem qd_L_law_952 : decode qc_L_law 952 = .ok (.aload_n 0, 1) := by decide +kernel
theorem qd_L_law_953 : decode qc_L_law 953 = .ok (.iload 4, 2) := by decide +kernel
theorem qd_L_law_955 : decode qc_L_law 955 = .ok (.iconst 4, 1) := by decide +kernel
theorem qd_L_law_956 : decode qc_L_law 956 = .ok (.iadd, 1) := by decide +kernel
theorem qd_L_law_957 : decode qc_L_law 957 = .ok (.iaload, 1) := by decide +kernel
theorem qd_L_law_958 : decode qc_L_law 958 = .ok (.i2l, 1) := by decide +kernel
theorem qd_L_law_959 : decode qc_L_law 959 = .ok (.ldc2_w 62, 3) := by decide +kernel
theorem qd_L_law_962 : decode qc_L_law 962 = .ok (.land, 1) := by decide +kernel
theorem qd_L_law_963 : decode qc_L_law 963 = .ok (.lor, 1) := by decide +kernel
theorem qd_L_law_964 : decode qc_L_law 964 = .ok (.aload_n 0, 1) := by decide +kernel
theorem qd_L_law_965 : decode qc_L_law 965 = .ok (.iload 4, 2) := by decide +kernel
theorem qd_L_law_967 : decode qc_L_law 967 = .ok (.iconst 5, 1) := by decide +kernel
theorem qd_L_law_968 : decode qc_L_law 968 = .ok (.iadd, 1) := by decide +kernel
theorem qd_L_law_969 : decode qc_L_law 969 = .ok (.iaload, 1) := by decide +kernel
theorem qd_L_law_970 : decode qc_L_law 970 = .ok (.i2l, 1) := by decide +kernel
theorem qd_L_law_971 : decode qc_L_law 971 = .ok (.bipush 32, 2) := by decide +kernel
theorem qd_L_law_973 : decode qc_L_law 973 = .ok (.lshl, 1) := by decide +kernel
theorem qd_L_law_974 : decode qc_L_law 974 = .ok (.aload_n 0, 1) := by decide +kernel
theorem qd_L_law_975 : decode qc_L_law 975 = .ok (.iload 4, 2) := by decide +kernel
theorem qd_L_law_977 : decode qc_L_law 977 = .ok (.bipush 6, 2) := by decide +kernel
theorem qd_L_law_979 : decode qc_L_law 979 = .ok (.iadd, 1) := by decide +kernel
theorem qd_L_law_980 : decode qc_L_law 980 = .ok (.iaload, 1) := by decide +kernel
theorem qd_L_law_981 : decode qc_L_law 981 = .ok (.i2l, 1) := by decide +kernel
theorem qd_L_law_982 : decode qc_L_law 982 = .ok (.ldc2_w 62, 3) := by decide +kernel
theorem qd_L_law_985 : decode qc_L_law 985 = .ok (.land, 1) := by decide +kernel
theorem qd_L_law_986 : decode qc_L_law 986 = .ok (.lor, 1) := by decide +kernel
theorem qd_L_law_987 : decode qc_L_law 987 = .ok (.invokevirtual 109, 3) := by decide +kernel
theorem qd_L_law_990 : decode qc_L_law 990 = .ok (.if_icmp .eq 257, 3) := by decide +kernel
theorem qd_L_law_993 : decode qc_L_law 993 = .ok (.iconst 0, 1) := by decide +kernel
theorem qd_L_law_994 : decode qc_L_law 994 = .ok (.ireturn, 1) := by decide +kernel
theorem qd_L_law_995 : decode qc_L_law 995 = .ok (.aload_n 1, 1) := by decide +kernel
theorem qd_L_law_996 : decode qc_L_law 996 = .ok (.aload_n 0, 1) := by decide +kernel
theorem qd_L_law_997 : decode qc_L_law 997 = .ok (.iload 4, 2) := by decide +kernel
theorem qd_L_law_999 : decode qc_L_law 999 = .ok (.iconst 1, 1) := by decide +kernel
theorem qd_L_law_1000 : decode qc_L_law 1000 = .ok (.iadd, 1) := by decide +kernel
theorem qd_L_law_1001 : decode qc_L_law 1001 = .ok (.iaload, 1) := by decide +kernel
theorem qd_L_law_1002 : decode qc_L_law 1002 = .ok (.aload_n 0, 1) := by decide +kernel
theorem qd_L_law_1003 : decode qc_L_law 1003 = .ok (.iload 4, 2) := by decide +kernel
theorem qd_L_law_1005 : decode qc_L_law 1005 = .ok (.iconst 2, 1) := by decide +kernel
theorem qd_L_law_1006 : decode qc_L_law 1006 = .ok (.iadd, 1) := by decide +kernel
theorem qd_L_law_1007 : decode qc_L_law 1007 = .ok (.iaload, 1) := by decide +kernel
theorem qd_L_law_1008 : decode qc_L_law 1008 = .ok (.aload_n 0, 1) := by decide +kernel
theorem qd_L_law_1009 : decode qc_L_law 1009 = .ok (.iload 4, 2) := by decide +kernel
theorem qd_L_law_1011 : decode qc_L_law 1011 = .ok (.iconst 3, 1) := by decide +kernel
theorem qd_L_law_1012 : decode qc_L_law 1012 = .ok (.iadd, 1) := by decide +kernel
theorem qd_L_law_1013 : decode qc_L_law 1013 = .ok (.iaload, 1) := by decide +kernel
theorem qd_L_law_1014 : decode qc_L_law 1014 = .ok (.i2l, 1) := by decide +kernel
theorem qd_L_law_1015 : decode qc_L_law 1015 = .ok (.bipush 32, 2) := by decide +kernel
theorem qd_L_law_1017 : decode qc_L_law 1017 = .ok (.lshl, 1) := by decide +kernel
theorem qd_L_law_1018 : decode qc_L_law 1018 = .ok (.aload_n 0, 1) := by decide +kernel
theorem qd_L_law_1019 : decode qc_L_law 1019 = .ok (.iload 4, 2) := by decide +kernel
theorem qd_L_law_1021 : decode qc_L_law 1021 = .ok (.iconst 4, 1) := by decide +kernel
theorem qd_L_law_1022 : decode qc_L_law 1022 = .ok (.iadd, 1) := by decide +kernel
theorem qd_L_law_1023 : decode qc_L_law 1023 = .ok (.iaload, 1) := by decide +kernel
theorem qd_L_law_1024 : decode qc_L_law 1024 = .ok (.i2l, 1) := by decide +kernel
theorem qd_L_law_1025 : decode qc_L_law 1025 = .ok (.ldc2_w 62, 3) := by decide +kernel
theorem qd_L_law_1028 : decode qc_L_law 1028 = .ok (.land, 1) := by decide +kernel
theorem qd_L_law_1029 : decode qc_L_law 1029 = .ok (.lor, 1) := by decide +kernel
theorem qd_L_law_1030 : decode qc_L_law 1030 = .ok (.aload_n 0, 1) := by decide +kernel
theorem qd_L_law_1031 : decode qc_L_law 1031 = .ok (.iload 4, 2) := by decide +kernel
theorem qd_L_law_1033 : decode qc_L_law 1033 = .ok (.iconst 5, 1) := by decide +kernel
theorem qd_L_law_1034 : decode qc_L_law 1034 = .ok (.iadd, 1) := by decide +kernel
theorem qd_L_law_1035 : decode qc_L_law 1035 = .ok (.iaload, 1) := by decide +kernel
theorem qd_L_law_1036 : decode qc_L_law 1036 = .ok (.i2l, 1) := by decide +kernel
theorem qd_L_law_1037 : decode qc_L_law 1037 = .ok (.bipush 32, 2) := by decide +kernel
theorem qd_L_law_1039 : decode qc_L_law 1039 = .ok (.lshl, 1) := by decide +kernel
theorem qd_L_law_1040 : decode qc_L_law 1040 = .ok (.aload_n 0, 1) := by decide +kernel
theorem qd_L_law_1041 : decode qc_L_law 1041 = .ok (.iload 4, 2) := by decide +kernel
theorem qd_L_law_1043 : decode qc_L_law 1043 = .ok (.bipush 6, 2) := by decide +kernel
theorem qd_L_law_1045 : decode qc_L_law 1045 = .ok (.iadd, 1) := by decide +kernel
theorem qd_L_law_1046 : decode qc_L_law 1046 = .ok (.iaload, 1) := by decide +kernel
theorem qd_L_law_1047 : decode qc_L_law 1047 = .ok (.i2l, 1) := by decide +kernel
theorem qd_L_law_1048 : decode qc_L_law 1048 = .ok (.ldc2_w 62, 3) := by decide +kernel
theorem qd_L_law_1051 : decode qc_L_law 1051 = .ok (.land, 1) := by decide +kernel
theorem qd_L_law_1052 : decode qc_L_law 1052 = .ok (.lor, 1) := by decide +kernel
theorem qd_L_law_1053 : decode qc_L_law 1053 = .ok (.invokevirtual 110, 3) := by decide +kernel
theorem qd_L_law_1056 : decode qc_L_law 1056 = .ok (.aload_n 2, 1) := by decide +kernel
theorem qd_L_law_1057 : decode qc_L_law 1057 = .ok (.aload_n 0, 1) := by decide +kernel
theorem qd_L_law_1058 : decode qc_L_law 1058 = .ok (.iload 4, 2) := by decide +kernel
theorem qd_L_law_1060 : decode qc_L_law 1060 = .ok (.iconst 1, 1) := by decide +kernel
theorem qd_L_law_1061 : decode qc_L_law 1061 = .ok (.iadd, 1) := by decide +kernel
theorem qd_L_law_1062 : decode qc_L_law 1062 = .ok (.iaload, 1) := by decide +kernel
theorem qd_L_law_1063 : decode qc_L_law 1063 = .ok (.aload_n 0, 1) := by decide +kernel
theorem qd_L_law_1064 : decode qc_L_law 1064 = .ok (.iload 4, 2) := by decide +kernel
theorem qd_L_law_1066 : decode qc_L_law 1066 = .ok (.iconst 2, 1) := by decide +kernel
theorem qd_L_law_1067 : decode qc_L_law 1067 = .ok (.iadd, 1) := by decide +kernel
theorem qd_L_law_1068 : decode qc_L_law 1068 = .ok (.iaload, 1) := by decide +kernel
theorem qd_L_law_1069 : decode qc_L_law 1069 = .ok (.aload_n 0, 1) := by decide +kernel
theorem qd_L_law_1070 : decode qc_L_law 1070 = .ok (.iload 4, 2) := by decide +kernel
theorem qd_L_law_1072 : decode qc_L_law 1072 = .ok (.iconst 3, 1) := by decide +kernel
theorem qd_L_law_1073 : decode qc_L_law 1073 = .ok (.iadd, 1) := by decide +kernel
theorem qd_L_law_1074 : decode qc_L_law 1074 = .ok (.iaload, 1) := by decide +kernel
theorem qd_L_law_1075 : decode qc_L_law 1075 = .ok (.i2l, 1) := by decide +kernel
theorem qd_L_law_1076 : decode qc_L_law 1076 = .ok (.bipush 32, 2) := by decide +kernel
theorem qd_L_law_1078 : decode qc_L_law 1078 = .ok (.lshl, 1) := by decide +kernel
theorem qd_L_law_1079 : decode qc_L_law 1079 = .ok (.aload_n 0, 1) := by decide +kernel
theorem qd_L_law_1080 : decode qc_L_law 1080 = .ok (.iload 4, 2) := by decide +kernel
theorem qd_L_law_1082 : decode qc_L_law 1082 = .ok (.iconst 4, 1) := by decide +kernel
theorem qd_L_law_1083 : decode qc_L_law 1083 = .ok (.iadd, 1) := by decide +kernel
theorem qd_L_law_1084 : decode qc_L_law 1084 = .ok (.iaload, 1) := by decide +kernel
theorem qd_L_law_1085 : decode qc_L_law 1085 = .ok (.i2l, 1) := by decide +kernel
theorem qd_L_law_1086 : decode qc_L_law 1086 = .ok (.ldc2_w 62, 3) := by decide +kernel
theorem qd_L_law_1089 : decode qc_L_law 1089 = .ok (.land, 1) := by decide +kernel
theorem qd_L_law_1090 : decode qc_L_law 1090 = .ok (.lor, 1) := by decide +kernel
theorem qd_L_law_1091 : decode qc_L_law 1091 = .ok (.aload_n 0, 1) := by decide +kernel
theorem qd_L_law_1092 : decode qc_L_law 1092 = .ok (.iload 4, 2) := by decide +kernel
theorem qd_L_law_1094 : decode qc_L_law 1094 = .ok (.iconst 5, 1) := by decide +kernel
theorem qd_L_law_1095 : decode qc_L_law 1095 = .ok (.iadd, 1) := by decide +kernel
theorem qd_L_law_1096 : decode qc_L_law 1096 = .ok (.iaload, 1) := by decide +kernel
theorem qd_L_law_1097 : decode qc_L_law 1097 = .ok (.i2l, 1) := by decide +kernel
theorem qd_L_law_1098 : decode qc_L_law 1098 = .ok (.bipush 32, 2) := by decide +kernel
theorem qd_L_law_1100 : decode qc_L_law 1100 = .ok (.lshl, 1) := by decide +kernel
theorem qd_L_law_1101 : decode qc_L_law 1101 = .ok (.aload_n 0, 1) := by decide +kernel
theorem qd_L_law_1102 : decode qc_L_law 1102 = .ok (.iload 4, 2) := by decide +kernel
theorem qd_L_law_1104 : decode qc_L_law 1104 = .ok (.bipush 6, 2) := by decide +kernel
theorem qd_L_law_1106 : decode qc_L_law 1106 = .ok (.iadd, 1) := by decide +kernel
theorem qd_L_law_1107 : decode qc_L_law 1107 = .ok (.iaload, 1) := by decide +kernel
theorem qd_L_law_1108 : decode qc_L_law 1108 = .ok (.i2l, 1) := by decide +kernel
theorem qd_L_law_1109 : decode qc_L_law 1109 = .ok (.ldc2_w 62, 3) := by decide +kernel
theorem qd_L_law_1112 : decode qc_L_law 1112 = .ok (.land, 1) := by decide +kernel
theorem qd_L_law_1113 : decode qc_L_law 1113 = .ok (.lor, 1) := by decide +kernel
theorem qd_L_law_1114 : decode qc_L_law 1114 = .ok (.invokevirtual 113, 3) := by decide +kernel
theorem qd_L_law_1117 : decode qc_L_law 1117 = .ok (.if_icmp .eq 130, 3) := by decide +kernel
theorem qd_L_law_1120 : decode qc_L_law 1120 = .ok (.iconst 0, 1) := by decide +kernel
theorem qd_L_law_1121 : decode qc_L_law 1121 = .ok (.ireturn, 1) := by decide +kernel
theorem qd_L_law_1122 : decode qc_L_law 1122 = .ok (.aload_n 1, 1) := by decide +kernel
theorem qd_L_law_1123 : decode qc_L_law 1123 = .ok (.aload_n 0, 1) := by decide +kernel
theorem qd_L_law_1124 : decode qc_L_law 1124 = .ok (.iload 4, 2) := by decide +kernel
theorem qd_L_law_1126 : decode qc_L_law 1126 = .ok (.iconst 1, 1) := by decide +kernel
theorem qd_L_law_1127 : decode qc_L_law 1127 = .ok (.iadd, 1) := by decide +kernel
theorem qd_L_law_1128 : decode qc_L_law 1128 = .ok (.iaload, 1) := by decide +kernel
theorem qd_L_law_1129 : decode qc_L_law 1129 = .ok (.aload_n 0, 1) := by decide +kernel
theorem qd_L_law_1130 : decode qc_L_law 1130 = .ok (.iload 4, 2) := by decide +kernel
theorem qd_L_law_1132 : decode qc_L_law 1132 = .ok (.iconst 2, 1) := by decide +kernel
theorem qd_L_law_1133 : decode qc_L_law 1133 = .ok (.iadd, 1) := by decide +kernel
theorem qd_L_law_1134 : decode qc_L_law 1134 = .ok (.iaload, 1) := by decide +kernel
theorem qd_L_law_1135 : decode qc_L_law 1135 = .ok (.i2l, 1) := by decide +kernel
theorem qd_L_law_1136 : decode qc_L_law 1136 = .ok (.bipush 32, 2) := by decide +kernel
theorem qd_L_law_1138 : decode qc_L_law 1138 = .ok (.lshl, 1) := by decide +kernel
theorem qd_L_law_1139 : decode qc_L_law 1139 = .ok (.aload_n 0, 1) := by decide +kernel
theorem qd_L_law_1140 : decode qc_L_law 1140 = .ok (.iload 4, 2) := by decide +kernel
theorem qd_L_law_1142 : decode qc_L_law 1142 = .ok (.iconst 3, 1) := by decide +kernel
theorem qd_L_law_1143 : decode qc_L_law 1143 = .ok (.iadd, 1) := by decide +kernel
theorem qd_L_law_1144 : decode qc_L_law 1144 = .ok (.iaload, 1) := by decide +kernel
theorem qd_L_law_1145 : decode qc_L_law 1145 = .ok (.i2l, 1) := by decide +kernel
theorem qd_L_law_1146 : decode qc_L_law 1146 = .ok (.ldc2_w 62, 3) := by decide +kernel
theorem qd_L_law_1149 : decode qc_L_law 1149 = .ok (.land, 1) := by decide +kernel
theorem qd_L_law_1150 : decode qc_L_law 1150 = .ok (.lor, 1) := by decide +kernel
theorem qd_L_law_1151 : decode qc_L_law 1151 = .ok (.aload_n 3, 1) := by decide +kernel
theorem qd_L_law_1152 : decode qc_L_law 1152 = .ok (.invokestatic 114, 3) := by decide +kernel
theorem qd_L_law_1155 : decode qc_L_law 1155 = .ok (.istore 5, 2) := by decide +kernel
theorem qd_L_law_1157 : decode qc_L_law 1157 = .ok (.aload_n 2, 1) := by decide +kernel
theorem qd_L_law_1158 : decode qc_L_law 1158 = .ok (.aload_n 0, 1) := by decide +kernel
theorem qd_L_law_1159 : decode qc_L_law 1159 = .ok (.iload 4, 2) := by decide +kernel
theorem qd_L_law_1161 : decode qc_L_law 1161 = .ok (.iconst 1, 1) := by decide +kernel
theorem qd_L_law_1162 : decode qc_L_law 1162 = .ok (.iadd, 1) := by decide +kernel
theorem qd_L_law_1163 : decode qc_L_law 1163 = .ok (.iaload, 1) := by decide +kernel
theorem qd_L_law_1164 : decode qc_L_law 1164 = .ok (.aload_n 0, 1) := by decide +kernel
theorem qd_L_law_1165 : decode qc_L_law 1165 = .ok (.iload 4, 2) := by decide +kernel
theorem qd_L_law_1167 : decode qc_L_law 1167 = .ok (.iconst 2, 1) := by decide +kernel
theorem qd_L_law_1168 : decode qc_L_law 1168 = .ok (.iadd, 1) := by decide +kernel
theorem qd_L_law_1169 : decode qc_L_law 1169 = .ok (.iaload, 1) := by decide +kernel
theorem qd_L_law_1170 : decode qc_L_law 1170 = .ok (.i2l, 1) := by decide +kernel
theorem qd_L_law_1171 : decode qc_L_law 1171 = .ok (.bipush 32, 2) := by decide +kernel
theorem qd_L_law_1173 : decode qc_L_law 1173 = .ok (.lshl, 1) := by decide +kernel
theorem qd_L_law_1174 : decode qc_L_law 1174 = .ok (.aload_n 0, 1) := by decide +kernel
theorem qd_L_law_1175 : decode qc_L_law 1175 = .ok (.iload 4, 2) := by decide +kernel
theorem qd_L_law_1177 : decode qc_L_law 1177 = .ok (.iconst 3, 1) := by decide +kernel
theorem qd_L_law_1178 : decode qc_L_law 1178 = .ok (.iadd, 1) := by decide +kernel
theorem qd_L_law_1179 : decode qc_L_law 1179 = .ok (.iaload, 1) := by decide +kernel
theorem qd_L_law_1180 : decode qc_L_law 1180 = .ok (.i2l, 1) := by decide +kernel
theorem qd_L_law_1181 : decode qc_L_law 1181 = .ok (.ldc2_w 62, 3) := by decide +kernel
theorem qd_L_law_1184 : decode qc_L_law 1184 = .ok (.land, 1) := by decide +kernel
theorem qd_L_law_1185 : decode qc_L_law 1185 = .ok (.lor, 1) := by decide +kernel
theorem qd_L_law_1186 : decode qc_L_law 1186 = .ok (.invokevirtual 116, 3) := by decide +kernel
theorem qd_L_law_1189 : decode qc_L_law 1189 = .ok (.istore 6, 2) := by decide +kernel
theorem qd_L_law_1191 : decode qc_L_law 1191 = .ok (.aload_n 2, 1) := by decide +kernel
theorem qd_L_law_1192 : decode qc_L_law 1192 = .ok (.invokevirtual 70, 3) := by decide +kernel
theorem qd_L_law_1195 : decode qc_L_law 1195 = .ok (.iload 5, 2) := by decide +kernel
theorem qd_L_law_1197 : decode qc_L_law 1197 = .ok (.if_icmp .eq 5, 3) := by decide +kernel
theorem qd_L_law_1200 : decode qc_L_law 1200 = .ok (.iconst 0, 1) := by decide +kernel
theorem qd_L_law_1201 : decode qc_L_law 1201 = .ok (.ireturn, 1) := by decide +kernel
theorem qd_L_law_1202 : decode qc_L_law 1202 = .ok (.iload 5, 2) := by decide +kernel
theorem qd_L_law_1204 : decode qc_L_law 1204 = .ok (.ifCond .ne 15, 3) := by decide +kernel
theorem qd_L_law_1207 : decode qc_L_law 1207 = .ok (.aload_n 3, 1) := by decide +kernel
theorem qd_L_law_1208 : decode qc_L_law 1208 = .ok (.iconst 0, 1) := by decide +kernel
theorem qd_L_law_1209 : decode qc_L_law 1209 = .ok (.laload, 1) := by decide +kernel
theorem qd_L_law_1210 : decode qc_L_law 1210 = .ok (.iload 6, 2) := by decide +kernel
theorem qd_L_law_1212 : decode qc_L_law 1212 = .ok (.i2l, 1) := by decide +kernel
theorem qd_L_law_1213 : decode qc_L_law 1213 = .ok (.lcmp, 1) := by decide +kernel
theorem qd_L_law_1214 : decode qc_L_law 1214 = .ok (.ifCond .eq 5, 3) := by decide +kernel
theorem qd_L_law_1217 : decode qc_L_law 1217 = .ok (.iconst 0, 1) := by decide +kernel
theorem qd_L_law_1218 : decode qc_L_law 1218 = .ok (.ireturn, 1) := by decide +kernel
theorem qd_L_law_1219 : decode qc_L_law 1219 = .ok (.goto 28, 3) := by decide +kernel
theorem qd_L_law_1222 : decode qc_L_law 1222 = .ok (.aload_n 1, 1) := by decide +kernel
theorem qd_L_law_1223 : decode qc_L_law 1223 = .ok (.aload_n 0, 1) := by decide +kernel
theorem qd_L_law_1224 : decode qc_L_law 1224 = .ok (.iload 4, 2) := by decide +kernel
theorem qd_L_law_1226 : decode qc_L_law 1226 = .ok (.iconst 1, 1) := by decide +kernel
theorem qd_L_law_1227 : decode qc_L_law 1227 = .ok (.iadd, 1) := by decide +kernel
theorem qd_L_law_1228 : decode qc_L_law 1228 = .ok (.iaload, 1) := by decide +kernel
theorem qd_L_law_1229 : decode qc_L_law 1229 = .ok (.invokevirtual 117, 3) := by decide +kernel
theorem qd_L_law_1232 : decode qc_L_law 1232 = .ok (.aload_n 2, 1) := by decide +kernel
theorem qd_L_law_1233 : decode qc_L_law 1233 = .ok (.aload_n 0, 1) := by decide +kernel
theorem qd_L_law_1234 : decode qc_L_law 1234 = .ok (.iload 4, 2) := by decide +kernel
theorem qd_L_law_1236 : decode qc_L_law 1236 = .ok (.iconst 1, 1) := by decide +kernel
theorem qd_L_law_1237 : decode qc_L_law 1237 = .ok (.iadd, 1) := by decide +kernel
theorem qd_L_law_1238 : decode qc_L_law 1238 = .ok (.iaload, 1) := by decide +kernel
theorem qd_L_law_1239 : decode qc_L_law 1239 = .ok (.invokevirtual 120, 3) := by decide +kernel
theorem qd_L_law_1242 : decode qc_L_law 1242 = .ok (.if_icmp .eq 5, 3) := by decide +kernel
theorem qd_L_law_1245 : decode qc_L_law 1245 = .ok (.iconst 0, 1) := by decide +kernel
theorem qd_L_law_1246 : decode qc_L_law 1246 = .ok (.ireturn, 1) := by decide +kernel
theorem qd_L_law_1247 : decode qc_L_law 1247 = .ok (.iinc 4 7, 3) := by decide +kernel
theorem qd_L_law_1250 : decode qc_L_law 1250 = .ok (.goto (-1227), 3) := by decide +kernel
theorem qd_L_law_1253 : decode qc_L_law 1253 = .ok (.iconst 1, 1) := by decide +kernel
theorem qd_L_law_1254 : decode qc_L_law 1254 = .ok (.ireturn, 1) := by decide +kernel
end
section
/-! NUMBERS: what the class and the reference both compute, as functions of numbers -/
def tq_sh (x : Int64) (k : Int32) : Int64 := (x.toUInt64 >>> (k.toInt64.toUInt64 &&& Int64.toUInt64 63)).toInt64
def tq_m1 (h x : Int64) : Int64 := (h ^^^ x) * (-7046029254386353131)
def tq_m2 (y : Int64) : Int64 := (y ^^^ tq_sh y 29) * (-4658895280553007687)
def tq_mix (h x : Int64) : Int64 := tq_m2 (tq_m1 h x) ^^^ tq_sh (tq_m2 (tq_m1 h x)) 32
def tq_leaf (v : Int64) : Int64 := tq_mix 1 v
def tq_node (a b : Int64) : Int64 := tq_mix (tq_mix 2 a) b
def tq_pb (n : Nat) : Nat := 2 ^ (n - 1).log2
theorem tq_pb_pos (n : Nat) : 0 < tq_pb n := Nat.two_pow_pos _
theorem tq_pb_lt {n : Nat} (h : 2 ≤ n) : tq_pb n < n := by
  have := Nat.log2_self_le (n := n - 1) (by omega)
  unfold tq_pb; omega
theorem tq_pb_ge (n : Nat) : n ≤ 2 * tq_pb n := by
  have h := Nat.lt_log2_self (n := n - 1)
  rw [Nat.pow_succ] at h
  unfold tq_pb; omega
theorem tq_pb_of {n j : Nat} (h1 : 2 ^ j < n) (h2 : n ≤ 2 * 2 ^ j) : tq_pb n = 2 ^ j := by
  have hp := Nat.two_pow_pos j
  have h : (n - 1).log2 = j := (Nat.log2_eq_iff (by omega)).mpr ⟨by omega, by rw [Nat.pow_succ]; omega⟩
  unfold tq_pb; rw [h]
theorem tq_pb_1 : tq_pb 1 = 1 := by decide +kernel
theorem tq_pb_half {n d : Nat} (h : n ≤ 2 ^ (d + 1)) (h2 : 2 ≤ n) : tq_pb n ≤ 2 ^ d := by
  unfold tq_pb
  apply Nat.pow_le_pow_right (by decide)
  have : (n - 1).log2 < d + 1 := (Nat.log2_lt (by omega)).mpr (by omega)
  omega
theorem tq_pb_rest {n d : Nat} (h : n ≤ 2 ^ (d + 1)) (h2 : 2 ≤ n) : n - tq_pb n ≤ 2 ^ d := by
  have := tq_pb_half h h2
  have := tq_pb_ge n
  omega
def tq_hd (f : Nat → Int64) (i n : Nat) : Int64 :=
  if h : n < 2 then (if n = 0 then 0 else f i)
  else tq_node (tq_hd f i (tq_pb n)) (tq_hd f (i + tq_pb n) (n - tq_pb n))
termination_by n
decreasing_by
  · exact tq_pb_lt (by omega)
  · have := tq_pb_pos n; omega
theorem tq_hd_0 (f : Nat → Int64) (i : Nat) : tq_hd f i 0 = 0 := by rw [tq_hd]; simp
theorem tq_hd_1 (f : Nat → Int64) (i : Nat) : tq_hd f i 1 = f i := by rw [tq_hd]; simp
theorem tq_hd_n {f : Nat → Int64} {i n : Nat} (h : 2 ≤ n) : tq_hd f i n = tq_node (tq_hd f i (tq_pb n)) (tq_hd f (i + tq_pb n) (n - tq_pb n)) := by
  rw [tq_hd, dif_neg (by omega)]
theorem tq_hd_congr {f g : Nat → Int64} (n : Nat) : ∀ i : Nat, (∀ j, i ≤ j → j < i + n → f j = g j) → tq_hd f i n = tq_hd g i n := by
  induction n using Nat.strongRecOn with
  | ind n ih =>
    intro i h
    by_cases h2 : 2 ≤ n
    · have hp := tq_pb_pos n
      have hl := tq_pb_lt h2
      rw [tq_hd_n h2, tq_hd_n h2, ih _ hl i (fun j a b => h j a (by omega)), ih (n - tq_pb n) (by omega) (i + tq_pb n) (fun j a b => h j (by omega) (by omega))]
    · rcases (by omega : n = 0 ∨ n = 1) with rfl | rfl
      · rw [tq_hd_0, tq_hd_0]
      · rw [tq_hd_1, tq_hd_1]; exact h i (Nat.le_refl i) (by omega)
def tq_pl (m n : Nat) : Nat :=
  if h : n < 2 then 0 else if m < tq_pb n then tq_pl m (tq_pb n) + 1 else tq_pl (m - tq_pb n) (n - tq_pb n) + 1
termination_by n
decreasing_by
  · exact tq_pb_lt (by omega)
  · have := tq_pb_pos n; omega
theorem tq_pl_0 {m n : Nat} (h : n < 2) : tq_pl m n = 0 := by rw [tq_pl, dif_pos h]
theorem tq_pl_l {m n : Nat} (h : 2 ≤ n) (hm : m < tq_pb n) : tq_pl m n = tq_pl m (tq_pb n) + 1 := by rw [tq_pl, dif_neg (by omega), if_pos hm]
theorem tq_pl_r {m n : Nat} (h : 2 ≤ n) (hm : tq_pb n ≤ m) : tq_pl m n = tq_pl (m - tq_pb n) (n - tq_pb n) + 1 := by rw [tq_pl, dif_neg (by omega), if_neg (by omega)]
theorem tq_pl_le (d : Nat) : ∀ m n : Nat, n ≤ 2 ^ d → tq_pl m n ≤ d := by
  induction d with
  | zero => intro m n h; rw [tq_pl_0 (by omega)]; exact Nat.le_refl 0
  | succ d ih =>
    intro m n h
    by_cases h2 : 2 ≤ n
    · by_cases hm : m < tq_pb n
      · rw [tq_pl_l h2 hm]; have := ih m _ (tq_pb_half h h2); omega
      · rw [tq_pl_r h2 (by omega)]; have := ih (m - tq_pb n) _ (tq_pb_rest h h2); omega
    · rw [tq_pl_0 (by omega)]; omega
theorem tq_pl_pos {m n : Nat} (h : 2 ≤ n) : 0 < tq_pl m n := by
  by_cases hm : m < tq_pb n
  · rw [tq_pl_l h hm]; omega
  · rw [tq_pl_r h (by omega)]; omega
def tq_pt (f : Nat → Int64) (i m n : Nat) : List Int64 :=
  if h : n < 2 then [] else if m < tq_pb n then tq_pt f i m (tq_pb n) ++ [tq_hd f (i + tq_pb n) (n - tq_pb n)] else tq_pt f (i + tq_pb n) (m - tq_pb n) (n - tq_pb n) ++ [tq_hd f i (tq_pb n)]
termination_by n
decreasing_by
  · exact tq_pb_lt (by omega)
  · have := tq_pb_pos n; omega
theorem tq_pt_0 {f : Nat → Int64} {i m n : Nat} (h : n < 2) : tq_pt f i m n = [] := by rw [tq_pt, dif_pos h]
theorem tq_pt_l {f : Nat → Int64} {i m n : Nat} (h : 2 ≤ n) (hm : m < tq_pb n) : tq_pt f i m n = tq_pt f i m (tq_pb n) ++ [tq_hd f (i + tq_pb n) (n - tq_pb n)] := by rw [tq_pt, dif_neg (by omega), if_pos hm]
theorem tq_pt_r {f : Nat → Int64} {i m n : Nat} (h : 2 ≤ n) (hm : tq_pb n ≤ m) : tq_pt f i m n = tq_pt f (i + tq_pb n) (m - tq_pb n) (n - tq_pb n) ++ [tq_hd f i (tq_pb n)] := by rw [tq_pt, dif_neg (by omega), if_neg (by omega)]
theorem tq_pt_len {f : Nat → Int64} (n : Nat) : ∀ i m : Nat, (tq_pt f i m n).length = tq_pl m n := by
  induction n using Nat.strongRecOn with
  | ind n ih =>
    intro i m
    by_cases h2 : 2 ≤ n
    · have hp := tq_pb_pos n
      have hl := tq_pb_lt h2
      by_cases hm : m < tq_pb n
      · rw [tq_pt_l h2 hm, tq_pl_l h2 hm, List.length_append, ih _ hl]; rfl
      · rw [tq_pt_r h2 (by omega), tq_pl_r h2 (by omega), List.length_append, ih _ (by omega)]; rfl
    · rw [tq_pt_0 (by omega), tq_pl_0 (by omega)]; rfl
theorem tq_pt_congr {f g : Nat → Int64} (n : Nat) : ∀ i m : Nat, (∀ j, i ≤ j → j < i + n → f j = g j) → tq_pt f i m n = tq_pt g i m n := by
  induction n using Nat.strongRecOn with
  | ind n ih =>
    intro i m h
    by_cases h2 : 2 ≤ n
    · have hp := tq_pb_pos n
      have hl := tq_pb_lt h2
      by_cases hm : m < tq_pb n
      · rw [tq_pt_l h2 hm, tq_pt_l h2 hm, ih _ hl i m (fun j a b => h j a (by omega)), tq_hd_congr (n - tq_pb n) (i + tq_pb n) (fun j a b => h j (by omega) (by omega))]
      · rw [tq_pt_r h2 (by omega), tq_pt_r h2 (by omega), ih (n - tq_pb n) (by omega) (i + tq_pb n) (m - tq_pb n) (fun j a b => h j (by omega) (by omega)), tq_hd_congr (tq_pb n) i (fun j a b => h j a (by omega))]
    · rw [tq_pt_0 (by omega), tq_pt_0 (by omega)]
def tq_sl (b : Bool) (m n : Nat) : Nat :=
  if m = n then (if b then 0 else 1) else if h : n < 2 then 0 else if m ≤ tq_pb n then tq_sl b m (tq_pb n) + 1 else tq_sl false (m - tq_pb n) (n - tq_pb n) + 1
termination_by n
decreasing_by
  · exact tq_pb_lt (by omega)
  · have := tq_pb_pos n; omega
theorem tq_sl_e (b : Bool) (n : Nat) : tq_sl b n n = if b then 0 else 1 := by rw [tq_sl, if_pos rfl]
theorem tq_sl_l {b : Bool} {m n : Nat} (h : 2 ≤ n) (hm : m ≤ tq_pb n) : tq_sl b m n = tq_sl b m (tq_pb n) + 1 := by
  have := tq_pb_lt h
  rw [tq_sl, if_neg (by omega), dif_neg (by omega), if_pos hm]
theorem tq_sl_r {b : Bool} {m n : Nat} (h : 2 ≤ n) (hm : tq_pb n < m) (hn : m ≠ n) : tq_sl b m n = tq_sl false (m - tq_pb n) (n - tq_pb n) + 1 := by rw [tq_sl, if_neg hn, dif_neg (by omega), if_neg (by omega)]
theorem tq_sl_le (d : Nat) : ∀ (b : Bool) (m n : Nat), n ≤ 2 ^ d → tq_sl b m n ≤ d + 1 := by
  induction d with
  | zero =>
    intro b m n h
    by_cases hn : m = n
    · subst hn; rw [tq_sl_e]; split <;> omega
    · rw [tq_sl, if_neg hn, dif_pos (by omega)]; omega
  | succ d ih =>
    intro b m n h
    by_cases hn : m = n
    · subst hn; rw [tq_sl_e]; split <;> omega
    · by_cases h2 : 2 ≤ n
      · by_cases hm : m ≤ tq_pb n
        · rw [tq_sl_l h2 hm]; have := ih b m _ (tq_pb_half h h2); omega
        · rw [tq_sl_r h2 (by omega) hn]; have := ih false (m - tq_pb n) _ (tq_pb_rest h h2); omega
      · rw [tq_sl, if_neg hn, dif_pos (by omega)]; omega
def tq_st (f : Nat → Int64) (b : Bool) (i m n : Nat) : List Int64 :=
  if m = n then (if b then [] else [tq_hd f i n]) else if h : n < 2 then [] else if m ≤ tq_pb n then tq_st f b i m (tq_pb n) ++ [tq_hd f (i + tq_pb n) (n - tq_pb n)] else tq_st f false (i + tq_pb n) (m - tq_pb n) (n - tq_pb n) ++ [tq_hd f i (tq_pb n)]
termination_by n
decreasing_by
  · exact tq_pb_lt (by omega)
  · have := tq_pb_pos n; omega
theorem tq_st_e (f : Nat → Int64) (b : Bool) (i n : Nat) : tq_st f b i n n = if b then [] else [tq_hd f i n] := by rw [tq_st, if_pos rfl]
theorem tq_st_l {f : Nat → Int64} {b : Bool} {i m n : Nat} (h : 2 ≤ n) (hm : m ≤ tq_pb n) : tq_st f b i m n = tq_st f b i m (tq_pb n) ++ [tq_hd f (i + tq_pb n) (n - tq_pb n)] := by
  have := tq_pb_lt h
  rw [tq_st, if_neg (by omega), dif_neg (by omega), if_pos hm]
theorem tq_st_r {f : Nat → Int64} {b : Bool} {i m n : Nat} (h : 2 ≤ n) (hm : tq_pb n < m) (hn : m ≠ n) : tq_st f b i m n = tq_st f false (i + tq_pb n) (m - tq_pb n) (n - tq_pb n) ++ [tq_hd f i (tq_pb n)] := by rw [tq_st, if_neg hn, dif_neg (by omega), if_neg (by omega)]
theorem tq_st_j {f : Nat → Int64} {b : Bool} {i m n : Nat} (h : n < 2) (hn : m ≠ n) : tq_st f b i m n = [] := by rw [tq_st, if_neg hn, dif_pos h]
theorem tq_sl_j {b : Bool} {m n : Nat} (h : n < 2) (hn : m ≠ n) : tq_sl b m n = 0 := by rw [tq_sl, if_neg hn, dif_pos h]
theorem tq_st_len {f : Nat → Int64} (n : Nat) : ∀ (b : Bool) (i m : Nat), (tq_st f b i m n).length = tq_sl b m n := by
  induction n using Nat.strongRecOn with
  | ind n ih =>
    intro b i m
    by_cases hn : m = n
    · subst hn; rw [tq_st_e, tq_sl_e]; cases b <;> rfl
    · by_cases h2 : 2 ≤ n
      · have hp := tq_pb_pos n
        have hl := tq_pb_lt h2
        by_cases hm : m ≤ tq_pb n
        · rw [tq_st_l h2 hm, tq_sl_l h2 hm, List.length_append, ih _ hl]; rfl
        · rw [tq_st_r h2 (by omega) hn, tq_sl_r h2 (by omega) hn, List.length_append, ih _ (by omega)]; rfl
      · rw [tq_st_j (by omega) hn, tq_sl_j (by omega) hn]; rfl
theorem tq_st_congr {f g : Nat → Int64} (n : Nat) : ∀ (b : Bool) (i m : Nat), (∀ j, i ≤ j → j < i + n → f j = g j) → tq_st f b i m n = tq_st g b i m n := by
  induction n using Nat.strongRecOn with
  | ind n ih =>
    intro b i m h
    by_cases hn : m = n
    · subst hn; rw [tq_st_e, tq_st_e, tq_hd_congr m i h]
    · by_cases h2 : 2 ≤ n
      · have hp := tq_pb_pos n
        have hl := tq_pb_lt h2
        by_cases hm : m ≤ tq_pb n
        · rw [tq_st_l h2 hm, tq_st_l h2 hm, ih _ hl b i m (fun j a b => h j a (by omega)), tq_hd_congr (n - tq_pb n) (i + tq_pb n) (fun j a b => h j (by omega) (by omega))]
        · rw [tq_st_r h2 (by omega) hn, tq_st_r h2 (by omega) hn, ih (n - tq_pb n) (by omega) false (i + tq_pb n) (m - tq_pb n) (fun j a b => h j (by omega) (by omega)), tq_hd_congr (tq_pb n) i (fun j a b => h j a (by omega))]
      · rw [tq_st_j (by omega) hn, tq_st_j (by omega) hn]
def tq_rt (q : Nat → Int64) (m n : Nat) (v : Int64) : Int64 :=
  if h : n < 2 then v else if m < tq_pb n then tq_node (tq_rt q m (tq_pb n) v) (q (tq_pl m (tq_pb n))) else tq_node (q (tq_pl (m - tq_pb n) (n - tq_pb n))) (tq_rt q (m - tq_pb n) (n - tq_pb n) v)
termination_by n
decreasing_by
  · exact tq_pb_lt (by omega)
  · have := tq_pb_pos n; omega
theorem tq_rt_0 {q : Nat → Int64} {m n : Nat} {v : Int64} (h : n < 2) : tq_rt q m n v = v := by rw [tq_rt, dif_pos h]
theorem tq_rt_l {q : Nat → Int64} {m n : Nat} {v : Int64} (h : 2 ≤ n) (hm : m < tq_pb n) : tq_rt q m n v = tq_node (tq_rt q m (tq_pb n) v) (q (tq_pl m (tq_pb n))) := by rw [tq_rt, dif_neg (by omega), if_pos hm]
theorem tq_rt_r {q : Nat → Int64} {m n : Nat} {v : Int64} (h : 2 ≤ n) (hm : tq_pb n ≤ m) : tq_rt q m n v = tq_node (q (tq_pl (m - tq_pb n) (n - tq_pb n))) (tq_rt q (m - tq_pb n) (n - tq_pb n) v) := by rw [tq_rt, dif_neg (by omega), if_neg (by omega)]
theorem tq_rt_congr {q r : Nat → Int64} {v : Int64} (n : Nat) : ∀ m : Nat, (∀ j, j < tq_pl m n → q j = r j) → tq_rt q m n v = tq_rt r m n v := by
  induction n using Nat.strongRecOn with
  | ind n ih =>
    intro m h
    by_cases h2 : 2 ≤ n
    · have hp := tq_pb_pos n
      have hl := tq_pb_lt h2
      by_cases hm : m < tq_pb n
      · have e := tq_pl_l h2 hm
        rw [tq_rt_l h2 hm, tq_rt_l h2 hm, ih _ hl m (fun j a => h j (by omega)), h _ (by omega)]
      · have e := tq_pl_r (m := m) h2 (by omega)
        rw [tq_rt_r h2 (by omega), tq_rt_r h2 (by omega), ih (n - tq_pb n) (by omega) (m - tq_pb n) (fun j a => h j (by omega)), h _ (by omega)]
    · rw [tq_rt_0 (by omega), tq_rt_0 (by omega)]
def tq_od (q : Nat → Int64) (b : Bool) (m n : Nat) (v : Int64) : Int64 :=
  if m = n then (if b then v else q 0) else if h : n < 2 then v else if m ≤ tq_pb n then tq_od q b m (tq_pb n) v else tq_node (q (tq_sl false (m - tq_pb n) (n - tq_pb n))) (tq_od q false (m - tq_pb n) (n - tq_pb n) v)
termination_by n
decreasing_by
  · exact tq_pb_lt (by omega)
  · have := tq_pb_pos n; omega
def tq_nw (q : Nat → Int64) (b : Bool) (m n : Nat) (v : Int64) : Int64 :=
  if m = n then (if b then v else q 0) else if h : n < 2 then v else if m ≤ tq_pb n then tq_node (tq_nw q b m (tq_pb n) v) (q (tq_sl b m (tq_pb n))) else tq_node (q (tq_sl false (m - tq_pb n) (n - tq_pb n))) (tq_nw q false (m - tq_pb n) (n - tq_pb n) v)
termination_by n
decreasing_by
  · exact tq_pb_lt (by omega)
  · have := tq_pb_pos n; omega
theorem tq_od_e (q : Nat → Int64) (b : Bool) (n : Nat) (v : Int64) : tq_od q b n n v = if b then v else q 0 := by rw [tq_od, if_pos rfl]
theorem tq_od_j {q : Nat → Int64} {b : Bool} {m n : Nat} {v : Int64} (h : n < 2) (hn : m ≠ n) : tq_od q b m n v = v := by rw [tq_od, if_neg hn, dif_pos h]
theorem tq_od_l {q : Nat → Int64} {b : Bool} {m n : Nat} {v : Int64} (h : 2 ≤ n) (hm : m ≤ tq_pb n) : tq_od q b m n v = tq_od q b m (tq_pb n) v := by
  have := tq_pb_lt h
  rw [tq_od, if_neg (by omega), dif_neg (by omega), if_pos hm]
theorem tq_od_r {q : Nat → Int64} {b : Bool} {m n : Nat} {v : Int64} (h : 2 ≤ n) (hm : tq_pb n < m) (hn : m ≠ n) : tq_od q b m n v = tq_node (q (tq_sl false (m - tq_pb n) (n - tq_pb n))) (tq_od q false (m - tq_pb n) (n - tq_pb n) v) := by rw [tq_od, if_neg hn, dif_neg (by omega), if_neg (by omega)]
theorem tq_nw_e (q : Nat → Int64) (b : Bool) (n : Nat) (v : Int64) : tq_nw q b n n v = if b then v else q 0 := by rw [tq_nw, if_pos rfl]
theorem tq_nw_j {q : Nat → Int64} {b : Bool} {m n : Nat} {v : Int64} (h : n < 2) (hn : m ≠ n) : tq_nw q b m n v = v := by rw [tq_nw, if_neg hn, dif_pos h]
theorem tq_nw_l {q : Nat → Int64} {b : Bool} {m n : Nat} {v : Int64} (h : 2 ≤ n) (hm : m ≤ tq_pb n) : tq_nw q b m n v = tq_node (tq_nw q b m (tq_pb n) v) (q (tq_sl b m (tq_pb n))) := by
  have := tq_pb_lt h
  rw [tq_nw, if_neg (by omega), dif_neg (by omega), if_pos hm]
theorem tq_nw_r {q : Nat → Int64} {b : Bool} {m n : Nat} {v : Int64} (h : 2 ≤ n) (hm : tq_pb n < m) (hn : m ≠ n) : tq_nw q b m n v = tq_node (q (tq_sl false (m - tq_pb n) (n - tq_pb n))) (tq_nw q false (m - tq_pb n) (n - tq_pb n) v) := by rw [tq_nw, if_neg hn, dif_neg (by omega), if_neg (by omega)]
theorem tq_on_congr {q r : Nat → Int64} {v : Int64} (n : Nat) : ∀ (b : Bool) (m : Nat), (∀ j, j < tq_sl b m n → q j = r j) → tq_od q b m n v = tq_od r b m n v ∧ tq_nw q b m n v = tq_nw r b m n v := by
  induction n using Nat.strongRecOn with
  | ind n ih =>
    intro b m h
    by_cases hn : m = n
    · subst hn
      rw [tq_od_e, tq_od_e, tq_nw_e, tq_nw_e]
      cases b with
      | true => exact ⟨rfl, rfl⟩
      | false =>
        have := h 0 (by rw [tq_sl_e]; exact Nat.one_pos)
        rw [this]; exact ⟨rfl, rfl⟩
    · by_cases h2 : 2 ≤ n
      · have hp := tq_pb_pos n
        have hl := tq_pb_lt h2
        by_cases hm : m ≤ tq_pb n
        · have e := tq_sl_l (b := b) h2 hm
          obtain ⟨i1, i2⟩ := ih _ hl b m (fun j a => h j (by omega))
          rw [tq_od_l h2 hm, tq_od_l h2 hm, tq_nw_l h2 hm, tq_nw_l h2 hm, i1, i2, h _ (by omega)]
          exact ⟨rfl, rfl⟩
        · have e := tq_sl_r (b := b) h2 (by omega) hn
          obtain ⟨i1, i2⟩ := ih (n - tq_pb n) (by omega) false (m - tq_pb n) (fun j a => h j (by omega))
          rw [tq_od_r h2 (by omega) hn, tq_od_r h2 (by omega) hn, tq_nw_r h2 (by omega) hn, tq_nw_r h2 (by omega) hn, i1, i2, h _ (by omega)]
          exact ⟨rfl, rfl⟩
      · rw [tq_od_j (by omega) hn, tq_od_j (by omega) hn, tq_nw_j (by omega) hn, tq_nw_j (by omega) hn]
        exact ⟨rfl, rfl⟩
def tq_pf : Nat → Nat → Nat
  | 0, _ => 0
  | d + 1, n => n % 2 + tq_pf d (n / 2)
def tq_pop (n : Nat) : Nat := tq_pf 10 n
def tq_wr (g : Nat → Int64) (p : Nat) : List Int64 → (Nat → Int64)
  | [] => g
  | x :: xs => tq_wr (vp_updL g p x) (p + 1) xs
theorem tq_wr_snoc (x : Int64) : ∀ (L : List Int64) (g : Nat → Int64) (p : Nat), tq_wr g p (L ++ [x]) = vp_updL (tq_wr g p L) (p + L.length) x
  | [], g, p => rfl
  | y :: L, g, p => by
    show tq_wr (vp_updL g p y) (p + 1) (L ++ [x]) = vp_updL (tq_wr (vp_updL g p y) (p + 1) L) (p + (L.length + 1)) x
    rw [tq_wr_snoc x L, show p + 1 + L.length = p + (L.length + 1) by omega]
theorem tq_wr_get : ∀ (L : List Int64) (g : Nat → Int64) (p j : Nat), tq_wr g p L j = if p ≤ j ∧ j < p + L.length then L.getD (j - p) 0 else g j
  | [], g, p, j => by rw [if_neg (by simp only [List.length_nil]; omega)]; rfl
  | y :: L, g, p, j => by
    show tq_wr (vp_updL g p y) (p + 1) L j = _
    rw [tq_wr_get L]
    by_cases h1 : j = p
    · subst h1
      rw [if_neg (by omega), if_pos (by simp), Nat.sub_self]
      simp [vp_updL]
    · by_cases h2 : p + 1 ≤ j ∧ j < p + 1 + L.length
      · rw [if_pos h2, if_pos (by simp; omega), show j - p = (j - (p + 1)) + 1 by omega]
        simp
      · rw [if_neg h2, if_neg (by simp; omega)]
        simp [vp_updL, h1]
def tq_fl (f : Nat → Int64) (n c : Nat) (h : Nat → Int64) : Nat → Int64 := fun j => if n ≤ j ∧ j < n + c then h (j - n) else f j
theorem tq_fl_0 (f : Nat → Int64) (n : Nat) (h : Nat → Int64) : tq_fl f n 0 h = f := by
  funext j
  simp only [tq_fl]
  rw [if_neg (by omega)]
theorem tq_fl_s (f : Nat → Int64) (n c : Nat) (h : Nat → Int64) : vp_updL (tq_fl f n c h) (n + c) (h c) = tq_fl f n (c + 1) h := by
  funext j
  simp only [tq_fl, vp_updL]
  by_cases h1 : j = n + c
  · subst h1
    rw [if_pos rfl, if_pos (by omega), Nat.add_sub_cancel_left]
  · rw [if_neg h1]
    by_cases h2 : n ≤ j ∧ j < n + c
    · rw [if_pos h2, if_pos (by omega)]
    · rw [if_neg h2, if_neg (by omega)]
end
section
/-! ROWS of my own over the kit's: numbers by nI, words out of the one list tq_W, the shapes of contracts -/
section TQR
variable {p : Program} {l : Launch} {e : Env} {R : Room} {s : State} {m : MethodId} {args : Array Value} {below : List Frame} {meth : Method} {c : Code} {H : Heap} {locs : List Loc} {cells slots : Nat} {Q : State → Prop} {cc : ByteArray} {pc : Nat} {ls : Array Slot} {rest : List Value} {D : va_G} {cl : List vw_C} {A : Nat → Prop} {a : Nat} {tys : List (ClassId × FieldType)} {ws : va_W} {H0 : Heap}
theorem tq_ti {x y : Int32} (h : x = y) (k : W p l e R s m args below meth c H locs cells slots Q (F0 m pc ls (.int y :: rest))) : W p l e R s m args below meth c H locs cells slots Q (F0 m pc ls (.int x :: rest)) := h ▸ k
theorem tq_tl {x y : Int64} (h : x = y) (k : W p l e R s m args below meth c H locs cells slots Q (F0 m pc ls (.long y :: rest))) : W p l e R s m args below meth c H locs cells slots Q (F0 m pc ls (.long x :: rest)) := h ▸ k
theorem tq_lald (hexec : p.tables.exec = Jvm.exec) (hb : c.code = cc) (hK : va_K D cl tys s) (hP : va_P D cl ws H) (q0 t0 : Nat) {cA : ClassId} {n : Nat} {f : Nat → Int64} (ha : ws[q0]? = some (a, .inl (cA, n, .inr (.inl f)))) (ht : tys[t0]? = some (cA, .long)) {j : Nat} (hj : j < n) (hn : n < 2 ^ 31) (hdg : decode cc pc = .ok (.laload, 1))
    (kk : W p l e R s m args below meth c H locs cells slots Q (F0 m (pc + 1) ls (.long (f j) :: rest))) : W p l e R s m args below meth c H locs cells slots Q (F0 m pc ls (.int (nI j) :: .ref a :: rest)) :=
  va_lald hexec hb hK hP q0 t0 ha ht (vp_in_nI hj hn) hdg (by rw [nI_clamp (Nat.lt_trans hj hn)]; exact kk)
theorem tq_last (hexec : p.tables.exec = Jvm.exec) (hb : c.code = cc) (hK : va_K D cl tys s) (hP : va_P D cl ws H) (hD : va_D A ws) (hS : va_S A H0 H locs) (q0 t0 : Nat) {cA : ClassId} {n : Nat} {f : Nat → Int64} (ha : ws[q0]? = some (a, .inl (cA, n, .inr (.inl f)))) (ht : tys[t0]? = some (cA, .long)) {j : Nat} {x : Int64} (hj : j < n) (hn : n < 2 ^ 31) (hdg : decode cc pc = .ok (.lastore, 1))
    (kk : ∀ (H1 : Heap) (locs1 : List Loc), va_P D cl (ws.set q0 (a, .inl (cA, n, .inr (.inl (vp_updL f j x))))) H1 → va_D A (ws.set q0 (a, .inl (cA, n, .inr (.inl (vp_updL f j x))))) → va_S A H0 H1 locs1 → W p l e R s m args below meth c H1 locs1 cells slots Q (F0 m (pc + 1) ls rest)) : W p l e R s m args below meth c H locs cells slots Q (F0 m pc ls (.long x :: .int (nI j) :: .ref a :: rest)) :=
  va_last hexec hb hK hP hD hS q0 t0 ha ht (vp_in_nI hj hn) hdg (by rw [nI_clamp (Nat.lt_trans hj hn)]; exact kk)
theorem tq_sld (hexec : p.tables.exec = Jvm.exec) (hb : c.code = cc) {b L : Nat} {xs : Nat → Int32} (hX : va_X b L xs s H0) (hbl : b < H0.size) (hbA : ¬ A b) (hS : va_S A H0 H locs) {j : Nat} {v : Int32} (hj : j < L) (hL : L < 2 ^ 31) (hv : xs j = v) (hdg : decode cc pc = .ok (.iaload, 1))
    (kk : W p l e R s m args below meth c H locs cells slots Q (F0 m (pc + 1) ls (.int v :: rest))) : W p l e R s m args below meth c H locs cells slots Q (F0 m pc ls (.int (nI j) :: .ref b :: rest)) :=
  va_sld hexec hb hX hbl hbA hS (vp_in_nI hj hL) hdg (by rw [nI_clamp (Nat.lt_trans hj hL), hv]; exact kk)
theorem tq_icmp_lt (hexec : p.tables.exec = Jvm.exec) (hb : c.code = cc) {x y : Nat} {off : Int} {tgt : Nat} (hdg : decode cc pc = .ok (.if_icmp .lt off, 3)) (ht : (pc : Int) + off = (tgt : Int)) (hx1 : x < 2 ^ 31) (hy1 : y < 2 ^ 31)
    (kt : x < y → W p l e R s m args below meth c H locs cells slots Q (F0 m tgt ls rest)) (kf : y ≤ x → W p l e R s m args below meth c H locs cells slots Q (F0 m (pc + 3) ls rest)) : W p l e R s m args below meth c H locs cells slots Q (F0 m pc ls (.int (nI y) :: .int (nI x) :: rest)) :=
  lv_icmp_lt hexec hb hdg ht (fun c9 => kt ((nI_ltI hx1 hy1).mp c9)) (fun c9 => kf (Nat.le_of_not_lt (fun h9 => c9 ((nI_ltI hx1 hy1).mpr h9))))
theorem tq_icmp_ge (hexec : p.tables.exec = Jvm.exec) (hb : c.code = cc) {x y : Nat} {off : Int} {tgt : Nat} (hdg : decode cc pc = .ok (.if_icmp .ge off, 3)) (ht : (pc : Int) + off = (tgt : Int)) (hx1 : x < 2 ^ 31) (hy1 : y < 2 ^ 31)
    (kt : y ≤ x → W p l e R s m args below meth c H locs cells slots Q (F0 m tgt ls rest)) (kf : x < y → W p l e R s m args below meth c H locs cells slots Q (F0 m (pc + 3) ls rest)) : W p l e R s m args below meth c H locs cells slots Q (F0 m pc ls (.int (nI y) :: .int (nI x) :: rest)) :=
  lv_icmp_ge hexec hb hdg ht (fun c9 => kt ((nI_leI hy1 hx1).mp c9)) (fun c9 => kf (Nat.lt_of_not_le (fun h9 => c9 ((nI_leI hy1 hx1).mpr h9))))
theorem tq_icmp_gt (hexec : p.tables.exec = Jvm.exec) (hb : c.code = cc) {x y : Nat} {off : Int} {tgt : Nat} (hdg : decode cc pc = .ok (.if_icmp .gt off, 3)) (ht : (pc : Int) + off = (tgt : Int)) (hx1 : x < 2 ^ 31) (hy1 : y < 2 ^ 31)
    (kt : y < x → W p l e R s m args below meth c H locs cells slots Q (F0 m tgt ls rest)) (kf : x ≤ y → W p l e R s m args below meth c H locs cells slots Q (F0 m (pc + 3) ls rest)) : W p l e R s m args below meth c H locs cells slots Q (F0 m pc ls (.int (nI y) :: .int (nI x) :: rest)) :=
  lv_icmp_gt hexec hb hdg ht (fun c9 => kt ((nI_ltI hy1 hx1).mp c9)) (fun c9 => kf (Nat.le_of_not_lt (fun h9 => c9 ((nI_ltI hy1 hx1).mpr h9))))
theorem tq_icmp_le (hexec : p.tables.exec = Jvm.exec) (hb : c.code = cc) {x y : Nat} {off : Int} {tgt : Nat} (hdg : decode cc pc = .ok (.if_icmp .le off, 3)) (ht : (pc : Int) + off = (tgt : Int)) (hx1 : x < 2 ^ 31) (hy1 : y < 2 ^ 31)
    (kt : x ≤ y → W p l e R s m args below meth c H locs cells slots Q (F0 m tgt ls rest)) (kf : y < x → W p l e R s m args below meth c H locs cells slots Q (F0 m (pc + 3) ls rest)) : W p l e R s m args below meth c H locs cells slots Q (F0 m pc ls (.int (nI y) :: .int (nI x) :: rest)) :=
  lv_icmp_le hexec hb hdg ht (fun c9 => kt ((nI_leI hx1 hy1).mp c9)) (fun c9 => kf (Nat.lt_of_not_le (fun h9 => c9 ((nI_leI hx1 hy1).mpr h9))))
theorem tq_icmp_eq (hexec : p.tables.exec = Jvm.exec) (hb : c.code = cc) {x y : Nat} {off : Int} {tgt : Nat} (hdg : decode cc pc = .ok (.if_icmp .eq off, 3)) (ht : (pc : Int) + off = (tgt : Int)) (hx1 : x < 2 ^ 31) (hy1 : y < 2 ^ 31)
    (kt : x = y → W p l e R s m args below meth c H locs cells slots Q (F0 m tgt ls rest)) (kf : x ≠ y → W p l e R s m args below meth c H locs cells slots Q (F0 m (pc + 3) ls rest)) : W p l e R s m args below meth c H locs cells slots Q (F0 m pc ls (.int (nI y) :: .int (nI x) :: rest)) :=
  lv_icmp_eq hexec hb hdg ht (fun c9 => kt ((nI_eq hx1 hy1).mp c9)) (fun c9 => kf (fun h9 => c9 ((nI_eq hx1 hy1).mpr h9)))
theorem tq_icmp_ne (hexec : p.tables.exec = Jvm.exec) (hb : c.code = cc) {x y : Nat} {off : Int} {tgt : Nat} (hdg : decode cc pc = .ok (.if_icmp .ne off, 3)) (ht : (pc : Int) + off = (tgt : Int)) (hx1 : x < 2 ^ 31) (hy1 : y < 2 ^ 31)
    (kt : x ≠ y → W p l e R s m args below meth c H locs cells slots Q (F0 m tgt ls rest)) (kf : x = y → W p l e R s m args below meth c H locs cells slots Q (F0 m (pc + 3) ls rest)) : W p l e R s m args below meth c H locs cells slots Q (F0 m pc ls (.int (nI y) :: .int (nI x) :: rest)) :=
  lv_icmp_ne hexec hb hdg ht (fun c9 => kt (fun h9 => c9 ((nI_eq hx1 hy1).mpr h9))) (fun c9 => kf ((nI_eq hx1 hy1).mp c9))
theorem tq_if_lt (hexec : p.tables.exec = Jvm.exec) (hb : c.code = cc) {x : Nat} {off : Int} {tgt : Nat} (hdg : decode cc pc = .ok (.ifCond .lt off, 3)) (ht : (pc : Int) + off = (tgt : Int)) (hx1 : x < 2 ^ 31) (kf : W p l e R s m args below meth c H locs cells slots Q (F0 m (pc + 3) ls rest)) : W p l e R s m args below meth c H locs cells slots Q (F0 m pc ls (.int (nI x) :: rest)) :=
  lv_if_lt hexec hb hdg ht (fun c9 => absurd c9 (nI_pos hx1)) (fun _ => kf)
theorem tq_if_ge (hexec : p.tables.exec = Jvm.exec) (hb : c.code = cc) {x : Nat} {off : Int} {tgt : Nat} (hdg : decode cc pc = .ok (.ifCond .ge off, 3)) (ht : (pc : Int) + off = (tgt : Int)) (hx1 : x < 2 ^ 31) (kt : W p l e R s m args below meth c H locs cells slots Q (F0 m tgt ls rest)) : W p l e R s m args below meth c H locs cells slots Q (F0 m pc ls (.int (nI x) :: rest)) :=
  lv_if_ge hexec hb hdg ht (fun _ => kt) (fun c9 => absurd (nI_pos' hx1) c9)
theorem tq_if_le (hexec : p.tables.exec = Jvm.exec) (hb : c.code = cc) {x : Nat} {off : Int} {tgt : Nat} (hdg : decode cc pc = .ok (.ifCond .le off, 3)) (ht : (pc : Int) + off = (tgt : Int)) (hx1 : x < 2 ^ 31)
    (kt : x = 0 → W p l e R s m args below meth c H locs cells slots Q (F0 m tgt ls rest)) (kf : 0 < x → W p l e R s m args below meth c H locs cells slots Q (F0 m (pc + 3) ls rest)) : W p l e R s m args below meth c H locs cells slots Q (F0 m pc ls (.int (nI x) :: rest)) :=
  lv_if_le hexec hb hdg ht (fun c9 => kt (Nat.eq_zero_of_not_pos (fun h9 => nI_nle h9 hx1 c9))) (fun c9 => kf (Nat.pos_of_ne_zero (fun h9 => c9 (by rw [h9, nI_0]; exact Int32.le_refl 0))))
theorem tq_if_gt (hexec : p.tables.exec = Jvm.exec) (hb : c.code = cc) {x : Nat} {off : Int} {tgt : Nat} (hdg : decode cc pc = .ok (.ifCond .gt off, 3)) (ht : (pc : Int) + off = (tgt : Int)) (hx1 : x < 2 ^ 31)
    (kt : 0 < x → W p l e R s m args below meth c H locs cells slots Q (F0 m tgt ls rest)) (kf : x = 0 → W p l e R s m args below meth c H locs cells slots Q (F0 m (pc + 3) ls rest)) : W p l e R s m args below meth c H locs cells slots Q (F0 m pc ls (.int (nI x) :: rest)) :=
  lv_if_gt hexec hb hdg ht (fun c9 => kt (Nat.pos_of_ne_zero (fun h9 => by rw [h9, nI_0] at c9; exact absurd c9 (by decide)))) (fun c9 => kf (Nat.eq_zero_of_not_pos (fun h9 => c9 (by have := nI_lt h9 hx1; rw [nI_0] at this; exact this))))
theorem tq_if_eq (hexec : p.tables.exec = Jvm.exec) (hb : c.code = cc) {x : Nat} {off : Int} {tgt : Nat} (hdg : decode cc pc = .ok (.ifCond .eq off, 3)) (ht : (pc : Int) + off = (tgt : Int)) (hx1 : x < 2 ^ 31)
    (kt : x = 0 → W p l e R s m args below meth c H locs cells slots Q (F0 m tgt ls rest)) (kf : 0 < x → W p l e R s m args below meth c H locs cells slots Q (F0 m (pc + 3) ls rest)) : W p l e R s m args below meth c H locs cells slots Q (F0 m pc ls (.int (nI x) :: rest)) :=
  lv_if_eq hexec hb hdg ht (fun c9 => kt (Nat.eq_zero_of_not_pos (fun h9 => nI_ne0 h9 hx1 c9))) (fun c9 => kf (Nat.pos_of_ne_zero (fun h9 => c9 (by rw [h9, nI_0]))))
theorem tq_if_ne (hexec : p.tables.exec = Jvm.exec) (hb : c.code = cc) {x : Nat} {off : Int} {tgt : Nat} (hdg : decode cc pc = .ok (.ifCond .ne off, 3)) (ht : (pc : Int) + off = (tgt : Int)) (hx1 : x < 2 ^ 31)
    (kt : 0 < x → W p l e R s m args below meth c H locs cells slots Q (F0 m tgt ls rest)) (kf : x = 0 → W p l e R s m args below meth c H locs cells slots Q (F0 m (pc + 3) ls rest)) : W p l e R s m args below meth c H locs cells slots Q (F0 m pc ls (.int (nI x) :: rest)) :=
  lv_if_ne hexec hb hdg ht (fun c9 => kt (Nat.pos_of_ne_zero (fun h9 => c9 (by rw [h9, nI_0])))) (fun c9 => kf (Nat.eq_zero_of_not_pos (fun h9 => nI_ne0 h9 hx1 c9)))
theorem tq_lc_ne (hexec : p.tables.exec = Jvm.exec) (hb : c.code = cc) {x y : Int64} {off : Int} {tgt : Nat} (hd1 : decode cc pc = .ok (.lcmp, 1)) (hd2 : decode cc (pc + 1) = .ok (.ifCond .ne off, 3)) (ht : ((pc + 1 : Nat) : Int) + off = (tgt : Int))
    (kt : x ≠ y → W p l e R s m args below meth c H locs cells slots Q (F0 m tgt ls rest)) (kf : x = y → W p l e R s m args below meth c H locs cells slots Q (F0 m (pc + 1 + 3) ls rest)) : W p l e R s m args below meth c H locs cells slots Q (F0 m pc ls (.long y :: .long x :: rest)) :=
  W.lcmp hexec hb hd1 (lv_if_ne hexec hb hd2 ht (fun c9 => kt (fun h9 => c9 ((lg_cmp_eq x y).mpr h9))) (fun c9 => kf ((lg_cmp_eq x y).mp c9)))
theorem tq_lc_eq (hexec : p.tables.exec = Jvm.exec) (hb : c.code = cc) {x y : Int64} {off : Int} {tgt : Nat} (hd1 : decode cc pc = .ok (.lcmp, 1)) (hd2 : decode cc (pc + 1) = .ok (.ifCond .eq off, 3)) (ht : ((pc + 1 : Nat) : Int) + off = (tgt : Int))
    (kt : x = y → W p l e R s m args below meth c H locs cells slots Q (F0 m tgt ls rest)) (kf : x ≠ y → W p l e R s m args below meth c H locs cells slots Q (F0 m (pc + 1 + 3) ls rest)) : W p l e R s m args below meth c H locs cells slots Q (F0 m pc ls (.long y :: .long x :: rest)) :=
  W.lcmp hexec hb hd1 (lv_if_eq hexec hb hd2 ht (fun c9 => kt ((lg_cmp_eq x y).mp c9)) (fun c9 => kf (fun h9 => c9 ((lg_cmp_eq x y).mpr h9))))
end TQR
theorem tq_gd {w : Cond} (h : w ∈ tq_W) : w ∈ tq_W ∧ ((w.onTables && w.keeps) = true ∨ ∃ ty, w = .arrayClass ty) := ⟨h, good_of_word (List.mem_filter.mp h).2⟩
theorem tq_gC {cw : Cond} (h : cw ∈ tq_W) : GoodIn tq_W (cw :: tq_W) := fun w hw => (List.mem_cons.mp hw).elim (fun e => by rw [e]; exact tq_gd h) tq_gd
theorem tq_gS {own : String} {idx : Nat} {y : MethodName} {cw : Cond} (h1 : Cond.methodLink own idx y ∈ tq_W) (h2 : Cond.static y ∈ tq_W) (h3 : Cond.initialized own ∈ tq_W) (h4 : cw ∈ tq_W) : GoodIn tq_W (wsS own idx y (cw :: tq_W)) := by
  intro w hw
  simp only [wsS, List.mem_append, List.mem_cons, List.not_mem_nil, or_false] at hw
  rcases hw with (rfl | rfl | rfl) | rfl | h
  · exact tq_gd h1
  · exact tq_gd h2
  · exact tq_gd h3
  · exact tq_gd h4
  · exact tq_gd h
theorem tq_gSa {own : String} {idx : Nat} {y : MethodName} {cw : Cond} (h1 : Cond.methodLink own idx y ∈ tq_W) (h2 : Cond.static y ∈ tq_W) (h3 : Cond.initialized y.cls ∈ tq_W) (h4 : cw ∈ tq_W) : GoodIn tq_W (va_wsS own idx y (cw :: tq_W)) := by
  intro w hw
  simp only [va_wsS, List.mem_append, List.mem_cons, List.not_mem_nil, or_false] at hw
  rcases hw with (rfl | rfl | rfl) | rfl | h
  · exact tq_gd h1
  · exact tq_gd h2
  · exact tq_gd h3
  · exact tq_gd h4
  · exact tq_gd h
theorem tq_gV {own C : String} {idx : Nat} {y : MethodName} {cw : Cond} (h1 : Cond.methodLink own idx y ∈ tq_W) (h2 : Cond.instanceMethod y ∈ tq_W) (h3 : Cond.selects C y y ∈ tq_W) (h4 : Cond.initialized C ∈ tq_W) (h5 : cw ∈ tq_W) : GoodIn tq_W (wsV own idx C y (cw :: tq_W)) := by
  intro w hw
  simp only [wsV, List.mem_append, List.mem_cons, List.not_mem_nil, or_false] at hw
  rcases hw with (rfl | rfl | rfl | rfl) | rfl | h
  · exact tq_gd h1
  · exact tq_gd h2
  · exact tq_gd h3
  · exact tq_gd h4
  · exact tq_gd h5
  · exact tq_gd h
theorem tq_b0 {av : List Value} : FrameBlind (va_Pc av (fun _ => True)) := fun _ _ _ _ q => ⟨q.1, trivial⟩
/-- what of a state is said by its heap and tables alone -/
def tq_ro (D : va_G) (cl : List vw_C) (ws : va_W) (tys : List (ClassId × FieldType)) (U : State) : Prop := va_P D cl ws U.heap ∧ va_K D cl tys U
theorem tq_b1 {av : List Value} {D : va_G} {cl : List vw_C} {ws : va_W} {tys : List (ClassId × FieldType)} : FrameBlind (va_Pc av (tq_ro D cl ws tys)) := fun a U g mk q => ⟨q.1, q.2.1, va_K.moved (u := U) (U := U.calling g mk a) (Vm.Alike.refl U.vm) q.2.2⟩
abbrev tq_cl : List vw_C := [(RX0, TX0, 4), (RX1, TX1, 8)]
def tq_b (b : Bool) : Int32 := if b then 1 else 0
end
section
set_option maxHeartbeats 4000000 in
set_option maxRecDepth 100000 in
/-- X_mix: MIX -/
theorem ct_X_mix (l : Launch) (h x : Int64) : Met l qy_X_mix qw_X_mix ({ frames := 0, cells := 0, slots := 0, locals := 0 }) (va_Pc [.long h, .long x] (fun _ => True)) (vp_Sl (fun r => r = tq_mix h x)) 0 0 (fun _ => False) := by
  refine Met.ofW (cc := qc_X_mix) (maxL := 8) (ret := (some .long)) (by decide) rfl ?_
  intro p e s m args below meth c s₁ B hml hv
  obtain ⟨rfl, -⟩ := hv
  have hx := B.exec
  have hb := B.bytes
  have hr := B.returns
  have hts := atoms_spec (ws := qw_X_mix) B.pre
  have hW : ∀ w ∈ tq_W, w.before ([.long h, .long x] : List Value).toArray s = true := fun w h => hts w (List.mem_cons_of_mem _ h)
  have hown : s.vm.findClass RX0 = some m.cls := findClass_of_methodNamed B.named
  have hlocks := B.notSynchronized
  have hl := lv_entry ([.long h, .long x]) (n := 8) (Nat.le_of_ble_eq_true rfl)
  rw [lg_entry_eq]
  generalize (lg_sl ([.long h, .long x]) ++ List.replicate (8 - (lg_sl ([.long h, .long x])).length) Slot.unset).toArray = ls at hl ⊢
  have hl : lv_has ls 8 [(0, .long h), (2, .long x)] := hl
  refine lv_lload_n hx hb qd_X_mix_0 rfl (lv_at hl 0 rfl) ?_
  refine lv_lload_n hx hb qd_X_mix_1 rfl (lv_at hl 1 rfl) ?_
  refine lv_lxor hx hb qd_X_mix_2 ?_
  refine lv_ldc2 (v := (-7046029254386353131)) hx hb hown (hW _ qm_50) qd_X_mix_3 ?_
  refine lv_lmul hx hb qd_X_mix_6 ?_
  refine tq_tl (y := tq_m1 h x) (rfl) ?_
  refine lv_lstore (lv' := [(4, .long (tq_m1 h x)), (0, .long h), (2, .long x)]) hx hb qd_X_mix_7 hl (by decide) rfl (fun ls hl => ?_)
  refine lv_lload hx hb qd_X_mix_9 (lv_at hl 0 rfl) ?_
  refine lv_lload hx hb qd_X_mix_11 (lv_at hl 0 rfl) ?_
  refine lv_bipush (v := nI 29) hx hb qd_X_mix_13 (by decide +kernel) ?_
  refine lv_lushr (v := tq_sh (tq_m1 h x) (nI 29)) hx hb qd_X_mix_15 rfl ?_
  refine lv_lxor hx hb qd_X_mix_16 ?_
  refine lv_ldc2 (v := (-4658895280553007687)) hx hb hown (hW _ qm_51) qd_X_mix_17 ?_
  refine lv_lmul hx hb qd_X_mix_20 ?_
  refine tq_tl (y := tq_m2 (tq_m1 h x)) (rfl) ?_
  refine lv_lstore (lv' := [(6, .long (tq_m2 (tq_m1 h x))), (4, .long (tq_m1 h x)), (0, .long h), (2, .long x)]) hx hb qd_X_mix_21 hl (by decide) rfl (fun ls hl => ?_)
  refine lv_lload hx hb qd_X_mix_23 (lv_at hl 0 rfl) ?_
  refine lv_lload hx hb qd_X_mix_25 (lv_at hl 0 rfl) ?_
  refine lv_bipush (v := nI 32) hx hb qd_X_mix_27 (by decide +kernel) ?_
  refine lv_lushr (v := tq_sh (tq_m2 (tq_m1 h x)) (nI 32)) hx hb qd_X_mix_29 rfl ?_
  refine lv_lxor hx hb qd_X_mix_30 ?_
  refine tq_tl (y := tq_mix h x) (rfl) ?_
  exact W.lret hx hb hr (fun t ht hW9 => ⟨_, rfl, rfl, ht⟩) (fun _ h => nomatch h) qd_X_mix_31
set_option maxHeartbeats 4000000 in
set_option maxRecDepth 100000 in
/-- M_mix: MIX -/
theorem ct_M_mix (l : Launch) (h x : Int64) : Met l qy_M_mix qw_M_mix ({ frames := 0, cells := 0, slots := 0, locals := 0 }) (va_Pc [.long h, .long x] (fun _ => True)) (vp_Sl (fun r => r = tq_mix h x)) 0 0 (fun _ => False) := by
  refine Met.ofW (cc := qc_M_mix) (maxL := 8) (ret := (some .long)) (by decide) rfl ?_
  intro p e s m args below meth c s₁ B hml hv
  obtain ⟨rfl, -⟩ := hv
  have hx := B.exec
  have hb := B.bytes
  have hr := B.returns
  have hts := atoms_spec (ws := qw_M_mix) B.pre
  have hW : ∀ w ∈ tq_W, w.before ([.long h, .long x] : List Value).toArray s = true := fun w h => hts w (List.mem_cons_of_mem _ h)
  have hown : s.vm.findClass RX1 = some m.cls := findClass_of_methodNamed B.named
  have hlocks := B.notSynchronized
  have hl := lv_entry ([.long h, .long x]) (n := 8) (Nat.le_of_ble_eq_true rfl)
  rw [lg_entry_eq]
  generalize (lg_sl ([.long h, .long x]) ++ List.replicate (8 - (lg_sl ([.long h, .long x])).length) Slot.unset).toArray = ls at hl ⊢
  have hl : lv_has ls 8 [(0, .long h), (2, .long x)] := hl
  refine lv_lload_n hx hb qd_M_mix_0 rfl (lv_at hl 0 rfl) ?_
  refine lv_lload_n hx hb qd_M_mix_1 rfl (lv_at hl 1 rfl) ?_
  refine lv_lxor hx hb qd_M_mix_2 ?_
  refine lv_ldc2 (v := (-7046029254386353131)) hx hb hown (hW _ qm_333) qd_M_mix_3 ?_
  refine lv_lmul hx hb qd_M_mix_6 ?_
  refine tq_tl (y := tq_m1 h x) (rfl) ?_
  refine lv_lstore (lv' := [(4, .long (tq_m1 h x)), (0, .long h), (2, .long x)]) hx hb qd_M_mix_7 hl (by decide) rfl (fun ls hl => ?_)
  refine lv_lload hx hb qd_M_mix_9 (lv_at hl 0 rfl) ?_
  refine lv_lload hx hb qd_M_mix_11 (lv_at hl 0 rfl) ?_
  refine lv_bipush (v := nI 29) hx hb qd_M_mix_13 (by decide +kernel) ?_
  refine lv_lushr (v := tq_sh (tq_m1 h x) (nI 29)) hx hb qd_M_mix_15 rfl ?_
  refine lv_lxor hx hb qd_M_mix_16 ?_
  refine lv_ldc2 (v := (-4658895280553007687)) hx hb hown (hW _ qm_334) qd_M_mix_17 ?_
  refine lv_lmul hx hb qd_M_mix_20 ?_
  refine tq_tl (y := tq_m2 (tq_m1 h x)) (rfl) ?_
  refine lv_lstore (lv' := [(6, .long (tq_m2 (tq_m1 h x))), (4, .long (tq_m1 h x)), (0, .long h), (2, .long x)]) hx hb qd_M_mix_21 hl (by decide) rfl (fun ls hl => ?_)
  refine lv_lload hx hb qd_M_mix_23 (lv_at hl 0 rfl) ?_
  refine lv_lload hx hb qd_M_mix_25 (lv_at hl 0 rfl) ?_
  refine lv_bipush (v := nI 32) hx hb qd_M_mix_27 (by decide +kernel) ?_
  refine lv_lushr (v := tq_sh (tq_m2 (tq_m1 h x)) (nI 32)) hx hb qd_M_mix_29 rfl ?_
  refine lv_lxor hx hb qd_M_mix_30 ?_
  refine tq_tl (y := tq_mix h x) (rfl) ?_
  exact W.lret hx hb hr (fun t ht hW9 => ⟨_, rfl, rfl, ht⟩) (fun _ h => nomatch h) qd_M_mix_31
set_option maxHeartbeats 4000000 in
set_option maxRecDepth 100000 in
theorem ct_X_leafOf (l : Launch) (v : Int64) : Met l qy_X_leafOf qw_X_leafOf ({ frames := 1, cells := 0, slots := 0, locals := 27 }) (va_Pc [.long v] (fun _ => True)) (vp_Sl (fun r => r = tq_leaf v)) 0 0 (fun _ => False) := by
  refine Met.ofW (cc := qc_X_leafOf) (maxL := 2) (ret := (some .long)) (by decide) rfl ?_
  intro p e s m args below meth c s₁ B hml hv
  obtain ⟨rfl, -⟩ := hv
  have hx := B.exec
  have hb := B.bytes
  have hr := B.returns
  have hts := atoms_spec (ws := qw_X_leafOf) B.pre
  have hW : ∀ w ∈ tq_W, w.before ([.long v] : List Value).toArray s = true := fun w h => hts w (List.mem_cons_of_mem _ h)
  have hown : s.vm.findClass RX0 = some m.cls := findClass_of_methodNamed B.named
  have hlocks := B.notSynchronized
  have hl := lv_entry ([.long v]) (n := 2) (Nat.le_of_ble_eq_true rfl)
  rw [lg_entry_eq]
  generalize (lg_sl ([.long v]) ++ List.replicate (2 - (lg_sl ([.long v])).length) Slot.unset).toArray = ls at hl ⊢
  have hl : lv_has ls 2 [(0, .long v)] := hl
  refine lv_lconst (v := 1) hx hb qd_X_leafOf_0 (by decide) ?_
  refine lv_lload_n hx hb qd_X_leafOf_1 rfl (lv_at hl 0 rfl) ?_
  refine vp_callSl (W.runS (As := [.long 1, .long v]) (rest := []) ⟨hx, hb, hml, hown, hW⟩ (ct_X_mix l 1 v) (cwS 2 hW (tq_gS qm_47 qm_48 qm_1 qm_49) rfl rfl rfl (by decide +kernel) ⟨Nat.le_of_ble_eq_true rfl, Nat.le_of_ble_eq_true rfl⟩) ⟨tq_b0, fun U hU hW9 => ⟨rfl, trivial⟩⟩ rfl rfl hl.1 rfl (lv_room (Nat.le_of_ble_eq_true rfl)) qd_X_leafOf_2 ⟨Nat.le_of_ble_eq_true rfl, Nat.le_of_ble_eq_true rfl⟩) (fun r9 e9 => ?_)
  subst e9
  exact W.lret hx hb hr (fun t ht hW9 => ⟨_, rfl, rfl, ht⟩) (fun _ h => nomatch h) qd_X_leafOf_5
set_option maxHeartbeats 4000000 in
set_option maxRecDepth 100000 in
theorem ct_X_nodeOf (l : Launch) (a b : Int64) : Met l qy_X_nodeOf qw_X_nodeOf ({ frames := 1, cells := 0, slots := 0, locals := 27 }) (va_Pc [.long a, .long b] (fun _ => True)) (vp_Sl (fun r => r = tq_node a b)) 0 0 (fun _ => False) := by
  refine Met.ofW (cc := qc_X_nodeOf) (maxL := 4) (ret := (some .long)) (by decide) rfl ?_
  intro p e s m args below meth c s₁ B hml hv
  obtain ⟨rfl, -⟩ := hv
  have hx := B.exec
  have hb := B.bytes
  have hr := B.returns
  have hts := atoms_spec (ws := qw_X_nodeOf) B.pre
  have hW : ∀ w ∈ tq_W, w.before ([.long a, .long b] : List Value).toArray s = true := fun w h => hts w (List.mem_cons_of_mem _ h)
  have hown : s.vm.findClass RX0 = some m.cls := findClass_of_methodNamed B.named
  have hlocks := B.notSynchronized
  have hl := lv_entry ([.long a, .long b]) (n := 4) (Nat.le_of_ble_eq_true rfl)
  rw [lg_entry_eq]
  generalize (lg_sl ([.long a, .long b]) ++ List.replicate (4 - (lg_sl ([.long a, .long b])).length) Slot.unset).toArray = ls at hl ⊢
  have hl : lv_has ls 4 [(0, .long a), (2, .long b)] := hl
  refine lv_ldc2 (v := (2)) hx hb hown (hW _ qm_58) qd_X_nodeOf_0 ?_
  refine lv_lload_n hx hb qd_X_nodeOf_3 rfl (lv_at hl 0 rfl) ?_
  refine vp_callSl (W.runS (As := [.long 2, .long a]) (rest := []) ⟨hx, hb, hml, hown, hW⟩ (ct_X_mix l 2 a) (cwS 2 hW (tq_gS qm_47 qm_48 qm_1 qm_49) rfl rfl rfl (by decide +kernel) ⟨Nat.le_of_ble_eq_true rfl, Nat.le_of_ble_eq_true rfl⟩) ⟨tq_b0, fun U hU hW9 => ⟨rfl, trivial⟩⟩ rfl rfl hl.1 rfl (lv_room (Nat.le_of_ble_eq_true rfl)) qd_X_nodeOf_4 ⟨Nat.le_of_ble_eq_true rfl, Nat.le_of_ble_eq_true rfl⟩) (fun r9 e9 => ?_)
  subst e9
  refine lv_lload_n hx hb qd_X_nodeOf_7 rfl (lv_at hl 1 rfl) ?_
  refine vp_callSl (W.runS (As := [.long (tq_mix 2 a), .long b]) (rest := []) ⟨hx, hb, hml, hown, hW⟩ (ct_X_mix l (tq_mix 2 a) b) (cwS 2 hW (tq_gS qm_47 qm_48 qm_1 qm_49) rfl rfl rfl (by decide +kernel) ⟨Nat.le_of_ble_eq_true rfl, Nat.le_of_ble_eq_true rfl⟩) ⟨tq_b0, fun U hU hW9 => ⟨rfl, trivial⟩⟩ rfl rfl hl.1 rfl (lv_room (Nat.le_of_ble_eq_true rfl)) qd_X_nodeOf_8 ⟨Nat.le_of_ble_eq_true rfl, Nat.le_of_ble_eq_true rfl⟩) (fun r9 e9 => ?_)
  subst e9
  exact W.lret hx hb hr (fun t ht hW9 => ⟨_, rfl, rfl, ht⟩) (fun _ h => nomatch h) qd_X_nodeOf_11
set_option maxHeartbeats 4000000 in
set_option maxRecDepth 100000 in
theorem ct_M_node (l : Launch) (a b : Int64) : Met l qy_M_node qw_M_node ({ frames := 1, cells := 0, slots := 0, locals := 27 }) (va_Pc [.long a, .long b] (fun _ => True)) (vp_Sl (fun r => r = tq_node a b)) 0 0 (fun _ => False) := by
  refine Met.ofW (cc := qc_M_node) (maxL := 4) (ret := (some .long)) (by decide) rfl ?_
  intro p e s m args below meth c s₁ B hml hv
  obtain ⟨rfl, -⟩ := hv
  have hx := B.exec
  have hb := B.bytes
  have hr := B.returns
  have hts := atoms_spec (ws := qw_M_node) B.pre
  have hW : ∀ w ∈ tq_W, w.before ([.long a, .long b] : List Value).toArray s = true := fun w h => hts w (List.mem_cons_of_mem _ h)
  have hown : s.vm.findClass RX1 = some m.cls := findClass_of_methodNamed B.named
  have hlocks := B.notSynchronized
  have hl := lv_entry ([.long a, .long b]) (n := 4) (Nat.le_of_ble_eq_true rfl)
  rw [lg_entry_eq]
  generalize (lg_sl ([.long a, .long b]) ++ List.replicate (4 - (lg_sl ([.long a, .long b])).length) Slot.unset).toArray = ls at hl ⊢
  have hl : lv_has ls 4 [(0, .long a), (2, .long b)] := hl
  refine lv_ldc2 (v := (2)) hx hb hown (hW _ qm_341) qd_M_node_0 ?_
  refine lv_lload_n hx hb qd_M_node_3 rfl (lv_at hl 0 rfl) ?_
  refine vp_callSl (W.runS (As := [.long 2, .long a]) (rest := []) ⟨hx, hb, hml, hown, hW⟩ (ct_M_mix l 2 a) (cwS 2 hW (tq_gS qm_330 qm_331 qm_2 qm_332) rfl rfl rfl (by decide +kernel) ⟨Nat.le_of_ble_eq_true rfl, Nat.le_of_ble_eq_true rfl⟩) ⟨tq_b0, fun U hU hW9 => ⟨rfl, trivial⟩⟩ rfl rfl hl.1 rfl (lv_room (Nat.le_of_ble_eq_true rfl)) qd_M_node_4 ⟨Nat.le_of_ble_eq_true rfl, Nat.le_of_ble_eq_true rfl⟩) (fun r9 e9 => ?_)
  subst e9
  refine lv_lload_n hx hb qd_M_node_7 rfl (lv_at hl 1 rfl) ?_
  refine vp_callSl (W.runS (As := [.long (tq_mix 2 a), .long b]) (rest := []) ⟨hx, hb, hml, hown, hW⟩ (ct_M_mix l (tq_mix 2 a) b) (cwS 2 hW (tq_gS qm_330 qm_331 qm_2 qm_332) rfl rfl rfl (by decide +kernel) ⟨Nat.le_of_ble_eq_true rfl, Nat.le_of_ble_eq_true rfl⟩) ⟨tq_b0, fun U hU hW9 => ⟨rfl, trivial⟩⟩ rfl rfl hl.1 rfl (lv_room (Nat.le_of_ble_eq_true rfl)) qd_M_node_8 ⟨Nat.le_of_ble_eq_true rfl, Nat.le_of_ble_eq_true rfl⟩) (fun r9 e9 => ?_)
  subst e9
  exact W.lret hx hb hr (fun t ht hW9 => ⟨_, rfl, rfl, ht⟩) (fun _ h => nomatch h) qd_M_node_11
set_option maxHeartbeats 4000000 in
set_option maxRecDepth 100000 in
/-- the greatest power of two below n -/
theorem ct_X_powerBelow (l : Launch) (n : Nat) (h1 : 1 ≤ n) (h2 : n ≤ 2 ^ 30) : Met l qy_X_powerBelow qw_X_powerBelow ({ frames := 0, cells := 0, slots := 0, locals := 0 }) (va_Pc [.int (nI n)] (fun _ => True)) (vp_Si (fun r => r = nI (tq_pb n))) 0 0 (fun _ => False) := by
  refine Met.ofW (cc := qc_X_powerBelow) (maxL := 2) (ret := (some .int)) (by decide) rfl ?_
  intro p e s m args below meth c s₁ B hml hv
  obtain ⟨rfl, -⟩ := hv
  have hx := B.exec
  have hb := B.bytes
  have hr := B.returns
  have hts := atoms_spec (ws := qw_X_powerBelow) B.pre
  have hW : ∀ w ∈ tq_W, w.before ([.int (nI n)] : List Value).toArray s = true := fun w h => hts w (List.mem_cons_of_mem _ h)
  have hown : s.vm.findClass RX0 = some m.cls := findClass_of_methodNamed B.named
  have hlocks := B.notSynchronized
  have hl := lv_entry ([.int (nI n)]) (n := 2) (Nat.le_of_ble_eq_true rfl)
  rw [lg_entry_eq]
  generalize (lg_sl ([.int (nI n)]) ++ List.replicate (2 - (lg_sl ([.int (nI n)])).length) Slot.unset).toArray = ls at hl ⊢
  have hl : lv_has ls 2 [(0, .int (nI n))] := hl
  have loop : ∀ (t j : Nat), j + t = 30 → (2 ^ j < n ∨ (n = 1 ∧ j = 0)) → ∀ ls : Array Slot, lv_has ls 2 [(1, .int (nI (2 ^ j))), (0, .int (nI n))] → W p l e (headSpec qw_X_powerBelow ({ frames := 0, cells := 0, slots := 0, locals := 0 })).room s m ([.int (nI n)] : List Value).toArray below meth c s.heap [] 0 0 (MQ below (vp_Si (fun r => r = nI (tq_pb n))) ([.int (nI n)] : List Value).toArray s 0 0 (fun _ => False)) (F0 m 2 ls []) := by
    intro t
    induction t with
    | zero =>
      intro j ht hj ls hl
      obtain rfl : j = 30 := by omega
      rcases hj with h | h <;> omega
    | succ t ih =>
      intro j ht hj ls hl
      have hp0 : 0 < 2 ^ j := Nat.two_pow_pos j
      have hp : 2 ^ j ≤ 2 ^ 29 := Nat.pow_le_pow_right (by decide) (by omega)
      have hle : 2 ^ j ≤ n := by
        rcases hj with h | ⟨h, h9⟩
        · omega
        · rw [h, h9]; decide
      refine lv_iload_n hx hb qd_X_powerBelow_2 rfl (lv_at hl 0 rfl) ?_
      refine lv_ldc (v := (1073741824)) hx hb hown (hW _ qm_37) qd_X_powerBelow_3 ?_
      refine tq_ti (y := nI 1073741824) (by decide +kernel) ?_
      refine tq_icmp_ge (x := (2 ^ j)) (y := 1073741824) (tgt := 22) hx hb qd_X_powerBelow_5 (by decide) (by omega) (by omega) (fun c9 => by omega) (fun c9 => ?_)
      refine lv_iload_n hx hb qd_X_powerBelow_8 rfl (lv_at hl 0 rfl) ?_
      refine lv_iload_n hx hb qd_X_powerBelow_9 rfl (lv_at hl 1 rfl) ?_
      refine lv_iload_n hx hb qd_X_powerBelow_10 rfl (lv_at hl 0 rfl) ?_
      refine lv_isub hx hb qd_X_powerBelow_11 ?_
      refine tq_ti (y := nI (n - 2 ^ j)) (pk_sub hle) ?_
      refine tq_icmp_ge (x := (2 ^ j)) (y := (n - 2 ^ j)) (tgt := 22) hx hb qd_X_powerBelow_12 (by decide) (by omega) (by omega) (fun c9 => ?_) (fun c9 => ?_)
      · have e9 : tq_pb n = 2 ^ j := by
          rcases hj with h | ⟨h, h9⟩
          · exact tq_pb_of h (by omega)
          · rw [h, h9]; exact tq_pb_1
        refine lv_iload_n hx hb qd_X_powerBelow_22 rfl (lv_at hl 0 rfl) ?_
        exact W.iret hx hb hr (fun t ht hW9 => ⟨_, rfl, by rw [e9], ht⟩) (fun _ h => nomatch h) qd_X_powerBelow_23
      · refine lv_iload_n hx hb qd_X_powerBelow_15 rfl (lv_at hl 0 rfl) ?_
        refine lv_iload_n hx hb qd_X_powerBelow_16 rfl (lv_at hl 0 rfl) ?_
        refine lv_iadd hx hb qd_X_powerBelow_17 ?_
        refine tq_ti (y := nI (2 ^ (j + 1))) (by rw [nI_add]; congr 1; rw [Nat.pow_succ]; omega) ?_
        refine lv_istore_n (lv' := [(1, .int (nI (2 ^ (j + 1)))), (0, .int (nI n))]) hx hb qd_X_powerBelow_18 rfl hl (by decide) rfl (fun ls hl => ?_)
        refine lv_goto (tgt := 2) hx hb qd_X_powerBelow_19 (by decide) ?_
        exact ih (j + 1) (by omega) (Or.inl (by rw [Nat.pow_succ]; omega)) ls (lv_sub hl [0, 1] rfl)
  refine lv_iconst (v := nI 1) hx hb qd_X_powerBelow_0 (by decide +kernel) ?_
  refine lv_istore_n (lv' := [(1, .int (nI 1)), (0, .int (nI n))]) hx hb qd_X_powerBelow_1 rfl hl (by decide) rfl (fun ls hl => ?_)
  exact loop 30 0 rfl (by rcases (by omega : n = 1 ∨ 1 < n) with h | h
                          · exact Or.inr ⟨h, rfl⟩
                          · exact Or.inl h) ls (lv_sub hl [0, 1] rfl)
set_option maxHeartbeats 4000000 in
set_option maxRecDepth 100000 in
/-- the greatest power of two below n -/
theorem ct_M_below (l : Launch) (n : Nat) (h1 : 1 ≤ n) (h2 : n ≤ 2 ^ 30) : Met l qy_M_below qw_M_below ({ frames := 0, cells := 0, slots := 0, locals := 0 }) (va_Pc [.int (nI n)] (fun _ => True)) (vp_Si (fun r => r = nI (tq_pb n))) 0 0 (fun _ => False) := by
  refine Met.ofW (cc := qc_M_below) (maxL := 2) (ret := (some .int)) (by decide) rfl ?_
  intro p e s m args below meth c s₁ B hml hv
  obtain ⟨rfl, -⟩ := hv
  have hx := B.exec
  have hb := B.bytes
  have hr := B.returns
  have hts := atoms_spec (ws := qw_M_below) B.pre
  have hW : ∀ w ∈ tq_W, w.before ([.int (nI n)] : List Value).toArray s = true := fun w h => hts w (List.mem_cons_of_mem _ h)
  have hown : s.vm.findClass RX1 = some m.cls := findClass_of_methodNamed B.named
  have hlocks := B.notSynchronized
  have hl := lv_entry ([.int (nI n)]) (n := 2) (Nat.le_of_ble_eq_true rfl)
  rw [lg_entry_eq]
  generalize (lg_sl ([.int (nI n)]) ++ List.replicate (2 - (lg_sl ([.int (nI n)])).length) Slot.unset).toArray = ls at hl ⊢
  have hl : lv_has ls 2 [(0, .int (nI n))] := hl
  have loop : ∀ (t j : Nat), j + t = 30 → (2 ^ j < n ∨ (n = 1 ∧ j = 0)) → ∀ ls : Array Slot, lv_has ls 2 [(1, .int (nI (2 ^ j))), (0, .int (nI n))] → W p l e (headSpec qw_M_below ({ frames := 0, cells := 0, slots := 0, locals := 0 })).room s m ([.int (nI n)] : List Value).toArray below meth c s.heap [] 0 0 (MQ below (vp_Si (fun r => r = nI (tq_pb n))) ([.int (nI n)] : List Value).toArray s 0 0 (fun _ => False)) (F0 m 2 ls []) := by
    intro t
    induction t with
    | zero =>
      intro j ht hj ls hl
      obtain rfl : j = 30 := by omega
      rcases hj with h | h <;> omega
    | succ t ih =>
      intro j ht hj ls hl
      have hp0 : 0 < 2 ^ j := Nat.two_pow_pos j
      have hp : 2 ^ j ≤ 2 ^ 29 := Nat.pow_le_pow_right (by decide) (by omega)
      have hle : 2 ^ j ≤ n := by
        rcases hj with h | ⟨h, h9⟩
        · omega
        · rw [h, h9]; decide
      refine lv_iload_n hx hb qd_M_below_2 rfl (lv_at hl 0 rfl) ?_
      refine lv_iload_n hx hb qd_M_below_3 rfl (lv_at hl 1 rfl) ?_
      refine lv_iload_n hx hb qd_M_below_4 rfl (lv_at hl 0 rfl) ?_
      refine lv_isub hx hb qd_M_below_5 ?_
      refine tq_ti (y := nI (n - 2 ^ j)) (pk_sub hle) ?_
      refine tq_icmp_ge (x := (2 ^ j)) (y := (n - 2 ^ j)) (tgt := 16) hx hb qd_M_below_6 (by decide) (by omega) (by omega) (fun c9 => ?_) (fun c9 => ?_)
      · have e9 : tq_pb n = 2 ^ j := by
          rcases hj with h | ⟨h, h9⟩
          · exact tq_pb_of h (by omega)
          · rw [h, h9]; exact tq_pb_1
        refine lv_iload_n hx hb qd_M_below_16 rfl (lv_at hl 0 rfl) ?_
        exact W.iret hx hb hr (fun t ht hW9 => ⟨_, rfl, by rw [e9], ht⟩) (fun _ h => nomatch h) qd_M_below_17
      · refine lv_iload_n hx hb qd_M_below_9 rfl (lv_at hl 0 rfl) ?_
        refine lv_iload_n hx hb qd_M_below_10 rfl (lv_at hl 0 rfl) ?_
        refine lv_iadd hx hb qd_M_below_11 ?_
        refine tq_ti (y := nI (2 ^ (j + 1))) (by rw [nI_add]; congr 1; rw [Nat.pow_succ]; omega) ?_
        refine lv_istore_n (lv' := [(1, .int (nI (2 ^ (j + 1)))), (0, .int (nI n))]) hx hb qd_M_below_12 rfl hl (by decide) rfl (fun ls hl => ?_)
        refine lv_goto (tgt := 2) hx hb qd_M_below_13 (by decide) ?_
        exact ih (j + 1) (by omega) (Or.inl (by rw [Nat.pow_succ]; omega)) ls (lv_sub hl [0, 1] rfl)
  refine lv_iconst (v := nI 1) hx hb qd_M_below_0 (by decide +kernel) ?_
  refine lv_istore_n (lv' := [(1, .int (nI 1)), (0, .int (nI n))]) hx hb qd_M_below_1 rfl hl (by decide) rfl (fun ls hl => ?_)
  exact loop 30 0 rfl (by rcases (by omega : n = 1 ∨ 1 < n) with h | h
                          · exact Or.inr ⟨h, rfl⟩
                          · exact Or.inl h) ls (lv_sub hl [0, 1] rfl)
set_option maxHeartbeats 4000000 in
set_option maxRecDepth 100000 in
/-- how long a PATH is -/
theorem ct_X_pathLength (l : Launch) (k0 n : Nat) (h1 : k0 < n) (h2 : n ≤ 2 ^ 30) : Met l qy_X_pathLength qw_X_pathLength ({ frames := 1, cells := 0, slots := 0, locals := 21 }) (va_Pc [.int (nI k0), .int (nI n)] (fun _ => True)) (vp_Si (fun r => r = nI (tq_pl k0 n))) 0 0 (fun _ => False) := by
  refine Met.ofW (cc := qc_X_pathLength) (maxL := 6) (ret := (some .int)) (by decide) rfl ?_
  intro p e s m args below meth c s₁ B hml hv
  obtain ⟨rfl, -⟩ := hv
  have hx := B.exec
  have hb := B.bytes
  have hr := B.returns
  have hts := atoms_spec (ws := qw_X_pathLength) B.pre
  have hW : ∀ w ∈ tq_W, w.before ([.int (nI k0), .int (nI n)] : List Value).toArray s = true := fun w h => hts w (List.mem_cons_of_mem _ h)
  have hown : s.vm.findClass RX0 = some m.cls := findClass_of_methodNamed B.named
  have hlocks := B.notSynchronized
  have hl := lv_entry ([.int (nI k0), .int (nI n)]) (n := 6) (Nat.le_of_ble_eq_true rfl)
  rw [lg_entry_eq]
  generalize (lg_sl ([.int (nI k0), .int (nI n)]) ++ List.replicate (6 - (lg_sl ([.int (nI k0), .int (nI n)])).length) Slot.unset).toArray = ls at hl ⊢
  have hl : lv_has ls 6 [(0, .int (nI k0)), (1, .int (nI n))] := hl
  have loop : ∀ (t a b q : Nat), b ≤ 2 ^ t → q + t ≤ 30 → a ≤ 2 ^ 30 → q + tq_pl a b = tq_pl k0 n → ∀ ls : Array Slot, lv_has ls 6 [(4, .int (nI q)), (3, .int (nI b)), (2, .int (nI a))] → W p l e (headSpec qw_X_pathLength ({ frames := 1, cells := 0, slots := 0, locals := 21 })).room s m ([.int (nI k0), .int (nI n)] : List Value).toArray below meth c s.heap [] 0 0 (MQ below (vp_Si (fun r => r = nI (tq_pl k0 n))) ([.int (nI k0), .int (nI n)] : List Value).toArray s 0 0 (fun _ => False)) (F0 m 7 ls []) := by
    intro t
    induction t with
    | zero =>
      intro a b q hb2 ht ha hq ls hl
      refine lv_iload_n hx hb qd_X_pathLength_7 rfl (lv_at hl 1 rfl) ?_
      refine lv_iconst (v := nI 1) hx hb qd_X_pathLength_8 (by decide +kernel) ?_
      refine tq_icmp_le (x := b) (y := 1) (tgt := 53) hx hb qd_X_pathLength_9 (by decide) (by omega) (by omega) (fun c9 => ?_) (fun c9 => by omega)
      refine lv_iload hx hb qd_X_pathLength_53 (lv_at hl 0 rfl) ?_
      exact W.iret hx hb hr (fun t ht hW9 => ⟨_, rfl, by rw [← hq, tq_pl_0 (by omega)]; rfl, ht⟩) (fun _ h => nomatch h) qd_X_pathLength_55
    | succ t ih =>
      intro a b q hb2 ht ha hq ls hl
      have hbb : b ≤ 2 ^ 30 := Nat.le_trans hb2 (Nat.pow_le_pow_right (by decide) (by omega))
      refine lv_iload_n hx hb qd_X_pathLength_7 rfl (lv_at hl 1 rfl) ?_
      refine lv_iconst (v := nI 1) hx hb qd_X_pathLength_8 (by decide +kernel) ?_
      refine tq_icmp_le (x := b) (y := 1) (tgt := 53) hx hb qd_X_pathLength_9 (by decide) (by omega) (by omega) (fun c9 => ?_) (fun c9 => ?_)
      · refine lv_iload hx hb qd_X_pathLength_53 (lv_at hl 0 rfl) ?_
        exact W.iret hx hb hr (fun t ht hW9 => ⟨_, rfl, by rw [← hq, tq_pl_0 (by omega)]; rfl, ht⟩) (fun _ h => nomatch h) qd_X_pathLength_55
      · have hlt := tq_pb_lt (n := b) (by omega)
        have hps := tq_pb_pos b
        have hh := tq_pb_half hb2 (by omega)
        have hrr := tq_pb_rest hb2 (by omega)
        refine lv_iload hx hb qd_X_pathLength_12 (lv_at hl 0 rfl) ?_
        refine lv_bipush (v := nI 40) hx hb qd_X_pathLength_14 (by decide +kernel) ?_
        refine tq_icmp_ge (x := q) (y := 40) (tgt := 53) hx hb qd_X_pathLength_16 (by decide) (by omega) (by omega) (fun c9 => by omega) (fun c9 => ?_)
        refine lv_iload_n hx hb qd_X_pathLength_19 rfl (lv_at hl 1 rfl) ?_
        refine vp_callSi (W.runS (As := [.int (nI b)]) (rest := []) ⟨hx, hb, hml, hown, hW⟩ (ct_X_powerBelow l b (by omega) (by omega)) (cwS 1 hW (tq_gS qm_41 qm_42 qm_1 qm_43) rfl rfl rfl (by decide +kernel) ⟨Nat.le_of_ble_eq_true rfl, Nat.le_of_ble_eq_true rfl⟩) ⟨tq_b0, fun U hU hW9 => ⟨rfl, trivial⟩⟩ rfl rfl hl.1 rfl (lv_room (Nat.le_of_ble_eq_true rfl)) qd_X_pathLength_20 ⟨Nat.le_of_ble_eq_true rfl, Nat.le_of_ble_eq_true rfl⟩) (fun r9 e9 => ?_)
        subst e9
        refine lv_istore (lv' := [(5, .int (nI (tq_pb b))), (4, .int (nI q)), (3, .int (nI b)), (2, .int (nI a))]) hx hb qd_X_pathLength_23 hl (by decide) rfl (fun ls hl => ?_)
        refine lv_iload_n hx hb qd_X_pathLength_25 rfl (lv_at hl 3 rfl) ?_
        refine lv_iload hx hb qd_X_pathLength_26 (lv_at hl 0 rfl) ?_
        refine tq_icmp_ge (x := a) (y := (tq_pb b)) (tgt := 37) hx hb qd_X_pathLength_28 (by decide) (by omega) (by omega) (fun c9 => ?_) (fun c9 => ?_)
        · refine lv_iload_n hx hb qd_X_pathLength_37 rfl (lv_at hl 3 rfl) ?_
          refine lv_iload hx hb qd_X_pathLength_38 (lv_at hl 0 rfl) ?_
          refine lv_isub hx hb qd_X_pathLength_40 ?_
          refine tq_ti (y := nI (a - tq_pb b)) (pk_sub (by omega)) ?_
          refine lv_istore_n (lv' := [(2, .int (nI (a - tq_pb b))), (5, .int (nI (tq_pb b))), (4, .int (nI q)), (3, .int (nI b))]) hx hb qd_X_pathLength_41 rfl hl (by decide) rfl (fun ls hl => ?_)
          refine lv_iload_n hx hb qd_X_pathLength_42 rfl (lv_at hl 3 rfl) ?_
          refine lv_iload hx hb qd_X_pathLength_43 (lv_at hl 1 rfl) ?_
          refine lv_isub hx hb qd_X_pathLength_45 ?_
          refine tq_ti (y := nI (b - tq_pb b)) (pk_sub (by omega)) ?_
          refine lv_istore_n (lv' := [(3, .int (nI (b - tq_pb b))), (2, .int (nI (a - tq_pb b))), (5, .int (nI (tq_pb b))), (4, .int (nI q))]) hx hb qd_X_pathLength_46 rfl hl (by decide) rfl (fun ls hl => ?_)
          refine lv_iinc (v := (nI (q + 1))) (lv' := [(4, .int (nI (q + 1))), (3, .int (nI (b - tq_pb b))), (2, .int (nI (a - tq_pb b))), (5, .int (nI (tq_pb b)))]) hx hb qd_X_pathLength_47 hl (k := 3) rfl (nI_1 q) (by decide) rfl (fun ls hl => ?_)
          refine lv_goto (tgt := 7) hx hb qd_X_pathLength_50 (by decide) ?_
          exact ih (a - tq_pb b) (b - tq_pb b) (q + 1) hrr (by omega) (by omega) (by have := tq_pl_r (m := a) (n := b) (by omega) (by omega); omega) ls (lv_sub hl [0, 1, 2] rfl)
        · refine lv_iload hx hb qd_X_pathLength_31 (lv_at hl 0 rfl) ?_
          refine lv_istore_n (lv' := [(3, .int (nI (tq_pb b))), (5, .int (nI (tq_pb b))), (4, .int (nI q)), (2, .int (nI a))]) hx hb qd_X_pathLength_33 rfl hl (by decide) rfl (fun ls hl => ?_)
          refine lv_goto (tgt := 47) hx hb qd_X_pathLength_34 (by decide) ?_
          refine lv_iinc (v := (nI (q + 1))) (lv' := [(4, .int (nI (q + 1))), (3, .int (nI (tq_pb b))), (5, .int (nI (tq_pb b))), (2, .int (nI a))]) hx hb qd_X_pathLength_47 hl (k := 2) rfl (nI_1 q) (by decide) rfl (fun ls hl => ?_)
          refine lv_goto (tgt := 7) hx hb qd_X_pathLength_50 (by decide) ?_
          exact ih a (tq_pb b) (q + 1) hh (by omega) ha (by have := tq_pl_l (m := a) (n := b) (by omega) (by omega); omega) ls (lv_sub hl [0, 1, 3] rfl)
  refine lv_iload_n hx hb qd_X_pathLength_0 rfl (lv_at hl 0 rfl) ?_
  refine lv_istore_n (lv' := [(2, .int (nI k0)), (0, .int (nI k0)), (1, .int (nI n))]) hx hb qd_X_pathLength_1 rfl hl (by decide) rfl (fun ls hl => ?_)
  refine lv_iload_n hx hb qd_X_pathLength_2 rfl (lv_at hl 2 rfl) ?_
  refine lv_istore_n (lv' := [(3, .int (nI n)), (2, .int (nI k0)), (0, .int (nI k0)), (1, .int (nI n))]) hx hb qd_X_pathLength_3 rfl hl (by decide) rfl (fun ls hl => ?_)
  refine lv_iconst (v := nI 0) hx hb qd_X_pathLength_4 (by decide +kernel) ?_
  refine lv_istore (lv' := [(4, .int (nI 0)), (3, .int (nI n)), (2, .int (nI k0)), (0, .int (nI k0)), (1, .int (nI n))]) hx hb qd_X_pathLength_5 hl (by decide) rfl (fun ls hl => ?_)
  exact loop 30 k0 n 0 h2 (by omega) (by omega) (Nat.zero_add _) ls (lv_sub hl [0, 1, 2] rfl)
set_option maxHeartbeats 4000000 in
set_option maxRecDepth 100000 in
/-- how long STEPS are -/
theorem ct_X_stepsLength (l : Launch) (k0 n : Nat) (h0 : 1 ≤ k0) (h1 : k0 ≤ n) (h2 : n ≤ 2 ^ 30) : Met l qy_X_stepsLength qw_X_stepsLength ({ frames := 1, cells := 0, slots := 0, locals := 21 }) (va_Pc [.int (nI k0), .int (nI n)] (fun _ => True)) (vp_Si (fun r => r = nI (tq_sl true k0 n))) 0 0 (fun _ => False) := by
  refine Met.ofW (cc := qc_X_stepsLength) (maxL := 7) (ret := (some .int)) (by decide) rfl ?_
  intro p e s m args below meth c s₁ B hml hv
  obtain ⟨rfl, -⟩ := hv
  have hx := B.exec
  have hb := B.bytes
  have hr := B.returns
  have hts := atoms_spec (ws := qw_X_stepsLength) B.pre
  have hW : ∀ w ∈ tq_W, w.before ([.int (nI k0), .int (nI n)] : List Value).toArray s = true := fun w h => hts w (List.mem_cons_of_mem _ h)
  have hown : s.vm.findClass RX0 = some m.cls := findClass_of_methodNamed B.named
  have hlocks := B.notSynchronized
  have hl := lv_entry ([.int (nI k0), .int (nI n)]) (n := 7) (Nat.le_of_ble_eq_true rfl)
  rw [lg_entry_eq]
  generalize (lg_sl ([.int (nI k0), .int (nI n)]) ++ List.replicate (7 - (lg_sl ([.int (nI k0), .int (nI n)])).length) Slot.unset).toArray = ls at hl ⊢
  have hl : lv_has ls 7 [(0, .int (nI k0)), (1, .int (nI n))] := hl
  have loop : ∀ (t a b q : Nat) (kn : Bool), 1 ≤ a → a ≤ b → b ≤ 2 ^ t → q + t ≤ 30 → q + tq_sl kn a b = tq_sl true k0 n → ∀ ls : Array Slot, lv_has ls 7 [(5, .int (nI q)), (4, .int (tq_b kn)), (3, .int (nI b)), (2, .int (nI a))] → W p l e (headSpec qw_X_stepsLength ({ frames := 1, cells := 0, slots := 0, locals := 21 })).room s m ([.int (nI k0), .int (nI n)] : List Value).toArray below meth c s.heap [] 0 0 (MQ below (vp_Si (fun r => r = nI (tq_sl true k0 n))) ([.int (nI k0), .int (nI n)] : List Value).toArray s 0 0 (fun _ => False)) (F0 m 10 ls []) := by
    intro t
    induction t with
    | zero =>
      intro a b q kn ha1 hab hb2 ht hq ls hl
      refine lv_iload_n hx hb qd_X_stepsLength_10 rfl (lv_at hl 3 rfl) ?_
      refine lv_iload_n hx hb qd_X_stepsLength_11 rfl (lv_at hl 2 rfl) ?_
      refine tq_icmp_eq (x := a) (y := b) (tgt := 59) hx hb qd_X_stepsLength_12 (by decide) (by omega) (by omega) (fun c9 => ?_) (fun c9 => by omega)
      subst c9
      rw [tq_sl_e] at hq
      refine lv_iload hx hb qd_X_stepsLength_59 (lv_at hl 1 rfl) ?_
      refine lv_if_eq (tgt := 69) hx hb qd_X_stepsLength_61 (by decide) (fun c9 => ?_) (fun c9 => ?_)
      · have e9 : kn = false := by cases kn with | false => rfl | true => exact absurd c9 (by decide)
        subst e9
        refine lv_iload hx hb qd_X_stepsLength_69 (lv_at hl 0 rfl) ?_
        refine lv_iconst (v := nI 1) hx hb qd_X_stepsLength_71 (by decide +kernel) ?_
        refine lv_iadd hx hb qd_X_stepsLength_72 ?_
        refine tq_ti (y := nI (q + 1)) (nI_1 q) ?_
        exact W.iret hx hb hr (fun t ht hW9 => ⟨_, rfl, by rw [← hq]; rfl, ht⟩) (fun _ h => nomatch h) qd_X_stepsLength_73
      · have e9 : kn = true := by cases kn with | true => rfl | false => exact absurd rfl c9
        subst e9
        refine lv_iload hx hb qd_X_stepsLength_64 (lv_at hl 0 rfl) ?_
        refine lv_goto (tgt := 73) hx hb qd_X_stepsLength_66 (by decide) ?_
        exact W.iret hx hb hr (fun t ht hW9 => ⟨_, rfl, by rw [← hq]; rfl, ht⟩) (fun _ h => nomatch h) qd_X_stepsLength_73
    | succ t ih =>
      intro a b q kn ha1 hab hb2 ht hq ls hl
      have hbb : b ≤ 2 ^ 30 := Nat.le_trans hb2 (Nat.pow_le_pow_right (by decide) (by omega))
      refine lv_iload_n hx hb qd_X_stepsLength_10 rfl (lv_at hl 3 rfl) ?_
      refine lv_iload_n hx hb qd_X_stepsLength_11 rfl (lv_at hl 2 rfl) ?_
      refine tq_icmp_eq (x := a) (y := b) (tgt := 59) hx hb qd_X_stepsLength_12 (by decide) (by omega) (by omega) (fun c9 => ?_) (fun c9 => ?_)
      · subst c9
        rw [tq_sl_e] at hq
        refine lv_iload hx hb qd_X_stepsLength_59 (lv_at hl 1 rfl) ?_
        refine lv_if_eq (tgt := 69) hx hb qd_X_stepsLength_61 (by decide) (fun c9 => ?_) (fun c9 => ?_)
        · have e9 : kn = false := by cases kn with | false => rfl | true => exact absurd c9 (by decide)
          subst e9
          refine lv_iload hx hb qd_X_stepsLength_69 (lv_at hl 0 rfl) ?_
          refine lv_iconst (v := nI 1) hx hb qd_X_stepsLength_71 (by decide +kernel) ?_
          refine lv_iadd hx hb qd_X_stepsLength_72 ?_
          refine tq_ti (y := nI (q + 1)) (nI_1 q) ?_
          exact W.iret hx hb hr (fun t ht hW9 => ⟨_, rfl, by rw [← hq]; rfl, ht⟩) (fun _ h => nomatch h) qd_X_stepsLength_73
        · have e9 : kn = true := by cases kn with | true => rfl | false => exact absurd rfl c9
          subst e9
          refine lv_iload hx hb qd_X_stepsLength_64 (lv_at hl 0 rfl) ?_
          refine lv_goto (tgt := 73) hx hb qd_X_stepsLength_66 (by decide) ?_
          exact W.iret hx hb hr (fun t ht hW9 => ⟨_, rfl, by rw [← hq]; rfl, ht⟩) (fun _ h => nomatch h) qd_X_stepsLength_73
      · have hlt := tq_pb_lt (n := b) (by omega)
        have hps := tq_pb_pos b
        have hh := tq_pb_half hb2 (by omega)
        have hrr := tq_pb_rest hb2 (by omega)
        refine lv_iload hx hb qd_X_stepsLength_15 (lv_at hl 0 rfl) ?_
        refine lv_bipush (v := nI 39) hx hb qd_X_stepsLength_17 (by decide +kernel) ?_
        refine tq_icmp_ge (x := q) (y := 39) (tgt := 59) hx hb qd_X_stepsLength_19 (by decide) (by omega) (by omega) (fun c9 => by omega) (fun c9 => ?_)
        refine lv_iload_n hx hb qd_X_stepsLength_22 rfl (lv_at hl 2 rfl) ?_
        refine vp_callSi (W.runS (As := [.int (nI b)]) (rest := []) ⟨hx, hb, hml, hown, hW⟩ (ct_X_powerBelow l b (by omega) (by omega)) (cwS 1 hW (tq_gS qm_41 qm_42 qm_1 qm_43) rfl rfl rfl (by decide +kernel) ⟨Nat.le_of_ble_eq_true rfl, Nat.le_of_ble_eq_true rfl⟩) ⟨tq_b0, fun U hU hW9 => ⟨rfl, trivial⟩⟩ rfl rfl hl.1 rfl (lv_room (Nat.le_of_ble_eq_true rfl)) qd_X_stepsLength_23 ⟨Nat.le_of_ble_eq_true rfl, Nat.le_of_ble_eq_true rfl⟩) (fun r9 e9 => ?_)
        subst e9
        refine lv_istore (lv' := [(6, .int (nI (tq_pb b))), (5, .int (nI q)), (4, .int (tq_b kn)), (3, .int (nI b)), (2, .int (nI a))]) hx hb qd_X_stepsLength_26 hl (by decide) rfl (fun ls hl => ?_)
        refine lv_iload_n hx hb qd_X_stepsLength_28 rfl (lv_at hl 4 rfl) ?_
        refine lv_iload hx hb qd_X_stepsLength_29 (lv_at hl 0 rfl) ?_
        refine tq_icmp_gt (x := a) (y := (tq_pb b)) (tgt := 40) hx hb qd_X_stepsLength_31 (by decide) (by omega) (by omega) (fun c9 => ?_) (fun c9 => ?_)
        · refine lv_iload_n hx hb qd_X_stepsLength_40 rfl (lv_at hl 4 rfl) ?_
          refine lv_iload hx hb qd_X_stepsLength_41 (lv_at hl 0 rfl) ?_
          refine lv_isub hx hb qd_X_stepsLength_43 ?_
          refine tq_ti (y := nI (a - tq_pb b)) (pk_sub (by omega)) ?_
          refine lv_istore_n (lv' := [(2, .int (nI (a - tq_pb b))), (6, .int (nI (tq_pb b))), (5, .int (nI q)), (4, .int (tq_b kn)), (3, .int (nI b))]) hx hb qd_X_stepsLength_44 rfl hl (by decide) rfl (fun ls hl => ?_)
          refine lv_iload_n hx hb qd_X_stepsLength_45 rfl (lv_at hl 4 rfl) ?_
          refine lv_iload hx hb qd_X_stepsLength_46 (lv_at hl 1 rfl) ?_
          refine lv_isub hx hb qd_X_stepsLength_48 ?_
          refine tq_ti (y := nI (b - tq_pb b)) (pk_sub (by omega)) ?_
          refine lv_istore_n (lv' := [(3, .int (nI (b - tq_pb b))), (2, .int (nI (a - tq_pb b))), (6, .int (nI (tq_pb b))), (5, .int (nI q)), (4, .int (tq_b kn))]) hx hb qd_X_stepsLength_49 rfl hl (by decide) rfl (fun ls hl => ?_)
          refine lv_iconst (v := nI 0) hx hb qd_X_stepsLength_50 (by decide +kernel) ?_
          refine tq_ti (y := tq_b false) (rfl) ?_
          refine lv_istore (lv' := [(4, .int (tq_b false)), (3, .int (nI (b - tq_pb b))), (2, .int (nI (a - tq_pb b))), (6, .int (nI (tq_pb b))), (5, .int (nI q))]) hx hb qd_X_stepsLength_51 hl (by decide) rfl (fun ls hl => ?_)
          refine lv_iinc (v := (nI (q + 1))) (lv' := [(5, .int (nI (q + 1))), (4, .int (tq_b false)), (3, .int (nI (b - tq_pb b))), (2, .int (nI (a - tq_pb b))), (6, .int (nI (tq_pb b)))]) hx hb qd_X_stepsLength_53 hl (k := 4) rfl (nI_1 q) (by decide) rfl (fun ls hl => ?_)
          refine lv_goto (tgt := 10) hx hb qd_X_stepsLength_56 (by decide) ?_
          exact ih (a - tq_pb b) (b - tq_pb b) (q + 1) false (by omega) (by omega) hrr (by omega) (by have := tq_sl_r (b := kn) (m := a) (n := b) (by omega) (by omega) (by omega); omega) ls (lv_sub hl [0, 1, 2, 3] rfl)
        · refine lv_iload hx hb qd_X_stepsLength_34 (lv_at hl 0 rfl) ?_
          refine lv_istore_n (lv' := [(3, .int (nI (tq_pb b))), (6, .int (nI (tq_pb b))), (5, .int (nI q)), (4, .int (tq_b kn)), (2, .int (nI a))]) hx hb qd_X_stepsLength_36 rfl hl (by decide) rfl (fun ls hl => ?_)
          refine lv_goto (tgt := 53) hx hb qd_X_stepsLength_37 (by decide) ?_
          refine lv_iinc (v := (nI (q + 1))) (lv' := [(5, .int (nI (q + 1))), (3, .int (nI (tq_pb b))), (6, .int (nI (tq_pb b))), (4, .int (tq_b kn)), (2, .int (nI a))]) hx hb qd_X_stepsLength_53 hl (k := 2) rfl (nI_1 q) (by decide) rfl (fun ls hl => ?_)
          refine lv_goto (tgt := 10) hx hb qd_X_stepsLength_56 (by decide) ?_
          exact ih a (tq_pb b) (q + 1) kn ha1 (by omega) hh (by omega) (by have := tq_sl_l (b := kn) (m := a) (n := b) (by omega) (by omega); omega) ls (lv_sub hl [0, 3, 1, 4] rfl)
  refine lv_iload_n hx hb qd_X_stepsLength_0 rfl (lv_at hl 0 rfl) ?_
  refine lv_istore_n (lv' := [(2, .int (nI k0)), (0, .int (nI k0)), (1, .int (nI n))]) hx hb qd_X_stepsLength_1 rfl hl (by decide) rfl (fun ls hl => ?_)
  refine lv_iload_n hx hb qd_X_stepsLength_2 rfl (lv_at hl 2 rfl) ?_
  refine lv_istore_n (lv' := [(3, .int (nI n)), (2, .int (nI k0)), (0, .int (nI k0)), (1, .int (nI n))]) hx hb qd_X_stepsLength_3 rfl hl (by decide) rfl (fun ls hl => ?_)
  refine lv_iconst (v := nI 1) hx hb qd_X_stepsLength_4 (by decide +kernel) ?_
  refine tq_ti (y := tq_b true) (rfl) ?_
  refine lv_istore (lv' := [(4, .int (tq_b true)), (3, .int (nI n)), (2, .int (nI k0)), (0, .int (nI k0)), (1, .int (nI n))]) hx hb qd_X_stepsLength_5 hl (by decide) rfl (fun ls hl => ?_)
  refine lv_iconst (v := nI 0) hx hb qd_X_stepsLength_7 (by decide +kernel) ?_
  refine lv_istore (lv' := [(5, .int (nI 0)), (4, .int (tq_b true)), (3, .int (nI n)), (2, .int (nI k0)), (0, .int (nI k0)), (1, .int (nI n))]) hx hb qd_X_stepsLength_8 hl (by decide) rfl (fun ls hl => ?_)
  exact loop 30 k0 n 0 true h0 h1 h2 (by omega) (Nat.zero_add _) ls (lv_sub hl [0, 1, 2, 3] rfl)
end
section
def tq_HX (l : Launch) (dC : Nat → ClassId) (dI : Nat → Nat → Nat) (a : Nat) (cA : ClassId) (f : Nat → Int64) (d i n : Nat) : Prop := Met l qy_X_headOf qw_X_headOf ({ frames := d + 2, cells := 0, slots := 0, locals := 24 * d + 50 }) (va_Pc [.ref a, .int (nI i), .int (nI (i + n))] (tq_ro (dC, dI) tq_cl [(a, .inl (cA, (600, .inr (.inl f))))] [(cA, .long)])) (vp_Sl (fun r => r = tq_hd f i n)) 0 0 (fun _ => False)
set_option maxHeartbeats 4000000 in
set_option maxRecDepth 100000 in
/-- headOf: the HEAD of n LEAVES from i on -/
theorem ct_X_headOf_s (l : Launch) (dC : Nat → ClassId) (dI : Nat → Nat → Nat) (a : Nat) (cA : ClassId) (f : Nat → Int64) (d i n : Nat) (ih : ∀ d1, d = d1 + 1 → ∀ i n, i + n ≤ 600 → n ≤ 2 ^ d1 → tq_HX l dC dI a cA f d1 i n) (h1 : i + n ≤ 600) (h2 : n ≤ 2 ^ d) : tq_HX l dC dI a cA f d i n := by
  refine Met.ofW (cc := qc_X_headOf) (maxL := 5) (ret := (some .long)) (by decide) rfl ?_
  intro p e s m args below meth c s₁ B hml hv
  obtain ⟨rfl, hP, hK⟩ := hv
  have hx := B.exec
  have hb := B.bytes
  have hr := B.returns
  have hts := atoms_spec (ws := qw_X_headOf) B.pre
  have hW : ∀ w ∈ tq_W, w.before ([.ref a, .int (nI i), .int (nI (i + n))] : List Value).toArray s = true := fun w h => hts w (List.mem_cons_of_mem _ h)
  have hown : s.vm.findClass RX0 = some m.cls := findClass_of_methodNamed B.named
  have hlocks := B.notSynchronized
  have hl := lv_entry ([.ref a, .int (nI i), .int (nI (i + n))]) (n := 5) (Nat.le_of_ble_eq_true rfl)
  rw [lg_entry_eq]
  generalize (lg_sl ([.ref a, .int (nI i), .int (nI (i + n))]) ++ List.replicate (5 - (lg_sl ([.ref a, .int (nI i), .int (nI (i + n))])).length) Slot.unset).toArray = ls at hl ⊢
  have hl : lv_has ls 5 [(0, .ref a), (1, .int (nI i)), (2, .int (nI (i + n)))] := hl
  refine lv_iload_n hx hb qd_X_headOf_0 rfl (lv_at hl 2 rfl) ?_
  refine lv_iload_n hx hb qd_X_headOf_1 rfl (lv_at hl 1 rfl) ?_
  refine lv_isub hx hb qd_X_headOf_2 ?_
  refine tq_ti (y := nI n) (by rw [pk_sub (by omega)]; congr 1; omega) ?_
  refine lv_istore_n (lv' := [(3, .int (nI n)), (0, .ref a), (1, .int (nI i)), (2, .int (nI (i + n)))]) hx hb qd_X_headOf_3 rfl hl (by decide) rfl (fun ls hl => ?_)
  refine lv_iload_n hx hb qd_X_headOf_4 rfl (lv_at hl 0 rfl) ?_
  refine tq_if_gt (x := n) (tgt := 10) hx hb qd_X_headOf_5 (by decide) (by omega) (fun c9 => ?_) (fun c9 => ?_)
  · refine lv_iload_n hx hb qd_X_headOf_10 rfl (lv_at hl 0 rfl) ?_
    refine lv_iconst (v := nI 1) hx hb qd_X_headOf_11 (by decide +kernel) ?_
    refine tq_icmp_ne (x := n) (y := 1) (tgt := 19) hx hb qd_X_headOf_12 (by decide) (by omega) (by omega) (fun c10 => ?_) (fun c10 => ?_)
    · obtain ⟨d1, rfl⟩ : ∃ d1, d = d1 + 1 := by
        cases d with
        | zero => omega
        | succ d1 => exact ⟨d1, rfl⟩
      have hlt := tq_pb_lt (n := n) (by omega)
      have hps := tq_pb_pos n
      have hh := tq_pb_half h2 (by omega)
      have hrr := tq_pb_rest h2 (by omega)
      refine lv_iload_n hx hb qd_X_headOf_19 rfl (lv_at hl 2 rfl) ?_
      refine lv_iload_n hx hb qd_X_headOf_20 rfl (lv_at hl 0 rfl) ?_
      refine vp_callSi (W.runS (As := [.int (nI n)]) (rest := [.int (nI i)]) ⟨hx, hb, hml, hown, hW⟩ (ct_X_powerBelow l n (by omega) (by omega)) (cwS 1 hW (tq_gS qm_41 qm_42 qm_1 qm_43) rfl rfl rfl (by decide +kernel) ⟨(show 0 + 1 ≤ d1 + 1 + 2 from by omega), (show 8 + (2 + 11) + (0) ≤ 24 * (d1 + 1) + 50 from by omega)⟩) ⟨tq_b0, fun U hU hW9 => ⟨rfl, trivial⟩⟩ rfl rfl hl.1 rfl (lv_room (Nat.le_of_ble_eq_true rfl)) qd_X_headOf_21 ⟨Nat.le_of_ble_eq_true rfl, Nat.le_of_ble_eq_true rfl⟩) (fun r9 e9 => ?_)
      subst e9
      refine lv_iadd hx hb qd_X_headOf_24 ?_
      refine tq_ti (y := nI (i + tq_pb n)) (nI_add _ _) ?_
      refine lv_istore (lv' := [(4, .int (nI (i + tq_pb n))), (3, .int (nI n)), (0, .ref a), (1, .int (nI i)), (2, .int (nI (i + n)))]) hx hb qd_X_headOf_25 hl (by decide) rfl (fun ls hl => ?_)
      refine lv_aload_n hx hb qd_X_headOf_27 rfl (lv_at hl 2 rfl) ?_
      refine lv_iload_n hx hb qd_X_headOf_28 rfl (lv_at hl 3 rfl) ?_
      refine lv_iload hx hb qd_X_headOf_29 (lv_at hl 0 rfl) ?_
      refine vp_callSl (W.runS (As := [.ref a, .int (nI i), .int (nI (i + tq_pb n))]) (rest := []) ⟨hx, hb, hml, hown, hW⟩ (ih d1 rfl i (tq_pb n) (by omega) hh) (cwS 3 hW (tq_gS qm_207 qm_208 qm_1 qm_209) rfl rfl rfl (by decide +kernel) ⟨(show d1 + 2 + 1 ≤ d1 + 1 + 2 from by omega), (show 8 + (5 + 11) + (24 * d1 + 50) ≤ 24 * (d1 + 1) + 50 from by omega)⟩) ⟨tq_b1, fun U hU hW9 => ⟨rfl, by rw [hU]; exact hP.sub [0] rfl, va_K.moved hW9.alike (hK.sub [0] rfl)⟩⟩ rfl rfl hl.1 rfl (lv_room (Nat.le_of_ble_eq_true rfl)) qd_X_headOf_31 ⟨Nat.le_of_ble_eq_true rfl, Nat.le_of_ble_eq_true rfl⟩) (fun r9 e9 => ?_)
      subst e9
      refine lv_aload_n hx hb qd_X_headOf_34 rfl (lv_at hl 2 rfl) ?_
      refine lv_iload hx hb qd_X_headOf_35 (lv_at hl 0 rfl) ?_
      refine lv_iload_n hx hb qd_X_headOf_37 rfl (lv_at hl 4 rfl) ?_
      refine tq_ti (y := nI (i + tq_pb n + (n - tq_pb n))) (by congr 1; omega) ?_
      refine vp_callSl (W.runS (As := [.ref a, .int (nI (i + tq_pb n)), .int (nI (i + tq_pb n + (n - tq_pb n)))]) (rest := [.long (tq_hd f i (tq_pb n))]) ⟨hx, hb, hml, hown, hW⟩ (ih d1 rfl (i + tq_pb n) (n - tq_pb n) (by omega) hrr) (cwS 3 hW (tq_gS qm_207 qm_208 qm_1 qm_209) rfl rfl rfl (by decide +kernel) ⟨(show d1 + 2 + 1 ≤ d1 + 1 + 2 from by omega), (show 8 + (5 + 11) + (24 * d1 + 50) ≤ 24 * (d1 + 1) + 50 from by omega)⟩) ⟨tq_b1, fun U hU hW9 => ⟨rfl, by rw [hU]; exact hP.sub [0] rfl, va_K.moved hW9.alike (hK.sub [0] rfl)⟩⟩ rfl rfl hl.1 rfl (lv_room (Nat.le_of_ble_eq_true rfl)) qd_X_headOf_38 ⟨Nat.le_of_ble_eq_true rfl, Nat.le_of_ble_eq_true rfl⟩) (fun r9 e9 => ?_)
      subst e9
      refine vp_callSl (W.runS (As := [.long (tq_hd f i (tq_pb n)), .long (tq_hd f (i + tq_pb n) (n - tq_pb n))]) (rest := []) ⟨hx, hb, hml, hown, hW⟩ (ct_X_nodeOf l (tq_hd f i (tq_pb n)) (tq_hd f (i + tq_pb n) (n - tq_pb n))) (cwS 2 hW (tq_gS qm_55 qm_56 qm_1 qm_57) rfl rfl rfl (by decide +kernel) ⟨(show 1 + 1 ≤ d1 + 1 + 2 from by omega), (show 8 + (4 + 11) + (27) ≤ 24 * (d1 + 1) + 50 from by omega)⟩) ⟨tq_b0, fun U hU hW9 => ⟨rfl, trivial⟩⟩ rfl rfl hl.1 rfl (lv_room (Nat.le_of_ble_eq_true rfl)) qd_X_headOf_41 ⟨Nat.le_of_ble_eq_true rfl, Nat.le_of_ble_eq_true rfl⟩) (fun r9 e9 => ?_)
      subst e9
      exact W.lret hx hb hr (fun t ht hW9 => ⟨_, rfl, (tq_hd_n (by omega)).symm, ht⟩) (fun _ h => nomatch h) qd_X_headOf_44
    · refine lv_aload_n hx hb qd_X_headOf_15 rfl (lv_at hl 1 rfl) ?_
      refine lv_iload_n hx hb qd_X_headOf_16 rfl (lv_at hl 2 rfl) ?_
      refine tq_lald hx hb hK hP 0 0 rfl rfl (j := i) (by omega) (by decide) qd_X_headOf_17 ?_
      exact W.lret hx hb hr (fun t ht hW9 => ⟨_, rfl, by rw [c10, tq_hd_1], ht⟩) (fun _ h => nomatch h) qd_X_headOf_18
  · subst c9
    refine lv_lconst (v := 0) hx hb qd_X_headOf_8 (by decide) ?_
    exact W.lret hx hb hr (fun t ht hW9 => ⟨_, rfl, (tq_hd_0 f i).symm, ht⟩) (fun _ h => nomatch h) qd_X_headOf_9
theorem ct_X_headOf (l : Launch) (dC : Nat → ClassId) (dI : Nat → Nat → Nat) (a : Nat) (cA : ClassId) (f : Nat → Int64) : ∀ (d i n : Nat), i + n ≤ 600 → n ≤ 2 ^ d → tq_HX l dC dI a cA f d i n
  | 0, i, n, h1, h2 => ct_X_headOf_s l dC dI a cA f 0 i n (fun d1 h => by omega) h1 h2
  | d + 1, i, n, h1, h2 => ct_X_headOf_s l dC dI a cA f (d + 1) i n (fun d1 h i n h3 h4 => by cases h; exact ct_X_headOf l dC dI a cA f d i n h3 h4) h1 h2
def tq_HP (l : Launch) (dC : Nat → ClassId) (dI : Nat → Nat → Nat) (a : Nat) (cA : ClassId) (g : Nat → Int64) (v : Int64) (d k n : Nat) : Prop := Met l qy_X_headByPath qw_X_headByPath ({ frames := d + 2, cells := 0, slots := 0, locals := 28 * d + 50 }) (va_Pc [.ref a, .int (nI (tq_pl k n)), .int (nI k), .int (nI n), .long v] (tq_ro (dC, dI) tq_cl [(a, .inl (cA, (40, .inr (.inl g))))] [(cA, .long)])) (vp_Sl (fun r => r = tq_rt g k n v)) 0 0 (fun _ => False)
set_option maxHeartbeats 4000000 in
set_option maxRecDepth 100000 in
/-- headByPath: what a PROOF makes in the place of a PATH -/
theorem ct_X_headByPath_s (l : Launch) (dC : Nat → ClassId) (dI : Nat → Nat → Nat) (a : Nat) (cA : ClassId) (g : Nat → Int64) (v : Int64) (d k n : Nat) (ih : ∀ d1, d = d1 + 1 → ∀ k n, k < n → n ≤ 2 ^ d1 → d1 ≤ 30 → tq_HP l dC dI a cA g v d1 k n) (h1 : k < n) (h2 : n ≤ 2 ^ d) (h3 : d ≤ 30) : tq_HP l dC dI a cA g v d k n := by
  refine Met.ofW (cc := qc_X_headByPath) (maxL := 9) (ret := (some .long)) (by decide) rfl ?_
  intro p e s m args below meth c s₁ B hml hv
  obtain ⟨rfl, hP, hK⟩ := hv
  have hx := B.exec
  have hb := B.bytes
  have hr := B.returns
  have hts := atoms_spec (ws := qw_X_headByPath) B.pre
  have hW : ∀ w ∈ tq_W, w.before ([.ref a, .int (nI (tq_pl k n)), .int (nI k), .int (nI n), .long v] : List Value).toArray s = true := fun w h => hts w (List.mem_cons_of_mem _ h)
  have hown : s.vm.findClass RX0 = some m.cls := findClass_of_methodNamed B.named
  have hlocks := B.notSynchronized
  have hl := lv_entry ([.ref a, .int (nI (tq_pl k n)), .int (nI k), .int (nI n), .long v]) (n := 9) (Nat.le_of_ble_eq_true rfl)
  rw [lg_entry_eq]
  generalize (lg_sl ([.ref a, .int (nI (tq_pl k n)), .int (nI k), .int (nI n), .long v]) ++ List.replicate (9 - (lg_sl ([.ref a, .int (nI (tq_pl k n)), .int (nI k), .int (nI n), .long v])).length) Slot.unset).toArray = ls at hl ⊢
  have hl : lv_has ls 9 [(0, .ref a), (1, .int (nI (tq_pl k n))), (2, .int (nI k)), (3, .int (nI n)), (4, .long v)] := hl
  have hpl := tq_pl_le d k n h2
  have hn30 : n ≤ 2 ^ 30 := Nat.le_trans h2 (Nat.pow_le_pow_right (by decide) h3)
  by_cases hn : n < 2
  · have e0 := tq_pl_0 (m := k) hn
    refine lv_iload_n hx hb qd_X_headByPath_0 rfl (lv_at hl 1 rfl) ?_
    refine tq_if_le (x := (tq_pl k n)) (tgt := 9) hx hb qd_X_headByPath_1 (by decide) (by omega) (fun c9 => ?_) (fun c9 => by omega)
    refine lv_lload hx hb qd_X_headByPath_9 (lv_at hl 4 rfl) ?_
    exact W.lret hx hb hr (fun t ht hW9 => ⟨_, rfl, (tq_rt_0 hn).symm, ht⟩) (fun _ h => nomatch h) qd_X_headByPath_11
  · obtain ⟨d1, rfl⟩ : ∃ d1, d = d1 + 1 := by
      cases d with
      | zero => omega
      | succ d1 => exact ⟨d1, rfl⟩
    have hlt := tq_pb_lt (n := n) (by omega)
    have hps := tq_pb_pos n
    have hh := tq_pb_half h2 (by omega)
    have hrr := tq_pb_rest h2 (by omega)
    have hpp := tq_pl_pos (m := k) (n := n) (by omega)
    refine lv_iload_n hx hb qd_X_headByPath_0 rfl (lv_at hl 1 rfl) ?_
    refine tq_if_le (x := (tq_pl k n)) (tgt := 9) hx hb qd_X_headByPath_1 (by decide) (by omega) (fun c9 => by omega) (fun c9 => ?_)
    refine lv_iload_n hx hb qd_X_headByPath_4 rfl (lv_at hl 3 rfl) ?_
    refine lv_iconst (v := nI 1) hx hb qd_X_headByPath_5 (by decide +kernel) ?_
    refine tq_icmp_gt (x := n) (y := 1) (tgt := 12) hx hb qd_X_headByPath_6 (by decide) (by omega) (by omega) (fun c1 => ?_) (fun c9 => by omega)
    refine lv_aload_n hx hb qd_X_headByPath_12 rfl (lv_at hl 0 rfl) ?_
    refine lv_iload_n hx hb qd_X_headByPath_13 rfl (lv_at hl 1 rfl) ?_
    refine lv_iconst (v := nI 1) hx hb qd_X_headByPath_14 (by decide +kernel) ?_
    refine lv_isub hx hb qd_X_headByPath_15 ?_
    refine tq_ti (y := nI (tq_pl k n - 1)) (pk_sub (by omega)) ?_
    refine tq_lald hx hb hK hP 0 0 rfl rfl (j := ((tq_pl k n - 1))) (by omega) (by decide) qd_X_headByPath_16 ?_
    refine lv_lstore (lv' := [(6, .long (g ((tq_pl k n - 1)))), (0, .ref a), (1, .int (nI (tq_pl k n))), (2, .int (nI k)), (3, .int (nI n)), (4, .long v)]) hx hb qd_X_headByPath_17 hl (by decide) rfl (fun ls hl => ?_)
    refine lv_iload_n hx hb qd_X_headByPath_19 rfl (lv_at hl 4 rfl) ?_
    refine vp_callSi (W.runS (As := [.int (nI n)]) (rest := []) ⟨hx, hb, hml, hown, hW⟩ (ct_X_powerBelow l n (by omega) (by omega)) (cwS 1 hW (tq_gS qm_41 qm_42 qm_1 qm_43) rfl rfl rfl (by decide +kernel) ⟨(show 0 + 1 ≤ d1 + 1 + 2 from by omega), (show 8 + (2 + 11) + (0) ≤ 28 * (d1 + 1) + 50 from by omega)⟩) ⟨tq_b0, fun U hU hW9 => ⟨rfl, trivial⟩⟩ rfl rfl hl.1 rfl (lv_room (Nat.le_of_ble_eq_true rfl)) qd_X_headByPath_20 ⟨Nat.le_of_ble_eq_true rfl, Nat.le_of_ble_eq_true rfl⟩) (fun r9 e9 => ?_)
    subst e9
    refine lv_istore (lv' := [(8, .int (nI (tq_pb n))), (6, .long (g ((tq_pl k n - 1)))), (0, .ref a), (1, .int (nI (tq_pl k n))), (2, .int (nI k)), (3, .int (nI n)), (4, .long v)]) hx hb qd_X_headByPath_23 hl (by decide) rfl (fun ls hl => ?_)
    refine lv_iload_n hx hb qd_X_headByPath_25 rfl (lv_at hl 4 rfl) ?_
    refine lv_iload hx hb qd_X_headByPath_26 (lv_at hl 0 rfl) ?_
    refine tq_icmp_ge (x := k) (y := (tq_pb n)) (tgt := 49) hx hb qd_X_headByPath_28 (by decide) (by omega) (by omega) (fun c9 => ?_) (fun c9 => ?_)
    · have e1 : tq_pl k n - 1 = tq_pl (k - tq_pb n) (n - tq_pb n) := by have := tq_pl_r (m := k) (n := n) (by omega) c9; omega
      refine lv_lload hx hb qd_X_headByPath_49 (lv_at hl 1 rfl) ?_
      refine lv_aload_n hx hb qd_X_headByPath_51 rfl (lv_at hl 2 rfl) ?_
      refine lv_iload_n hx hb qd_X_headByPath_52 rfl (lv_at hl 3 rfl) ?_
      refine lv_iconst (v := nI 1) hx hb qd_X_headByPath_53 (by decide +kernel) ?_
      refine lv_isub hx hb qd_X_headByPath_54 ?_
      refine tq_ti (y := nI (tq_pl (k - tq_pb n) (n - tq_pb n))) (by rw [pk_sub (by omega)]; congr 1) ?_
      refine lv_iload_n hx hb qd_X_headByPath_55 rfl (lv_at hl 4 rfl) ?_
      refine lv_iload hx hb qd_X_headByPath_56 (lv_at hl 0 rfl) ?_
      refine lv_isub hx hb qd_X_headByPath_58 ?_
      refine tq_ti (y := nI (k - tq_pb n)) (pk_sub (by omega)) ?_
      refine lv_iload_n hx hb qd_X_headByPath_59 rfl (lv_at hl 5 rfl) ?_
      refine lv_iload hx hb qd_X_headByPath_60 (lv_at hl 0 rfl) ?_
      refine lv_isub hx hb qd_X_headByPath_62 ?_
      refine tq_ti (y := nI (n - tq_pb n)) (pk_sub (by omega)) ?_
      refine lv_lload hx hb qd_X_headByPath_63 (lv_at hl 6 rfl) ?_
      refine vp_callSl (W.runS (As := [.ref a, .int (nI (tq_pl (k - tq_pb n) (n - tq_pb n))), .int (nI (k - tq_pb n)), .int (nI (n - tq_pb n)), .long v]) (rest := [.long (g ((tq_pl k n - 1)))]) ⟨hx, hb, hml, hown, hW⟩ (ih d1 rfl (k - tq_pb n) (n - tq_pb n) (by omega) hrr (by omega)) (cwS 5 hW (tq_gS qm_52 qm_53 qm_1 qm_54) rfl rfl rfl (by decide +kernel) ⟨(show d1 + 2 + 1 ≤ d1 + 1 + 2 from by omega), (show 8 + (9 + 11) + (28 * d1 + 50) ≤ 28 * (d1 + 1) + 50 from by omega)⟩) ⟨tq_b1, fun U hU hW9 => ⟨rfl, by rw [hU]; exact hP.sub [0] rfl, va_K.moved hW9.alike (hK.sub [0] rfl)⟩⟩ rfl rfl hl.1 rfl (lv_room (Nat.le_of_ble_eq_true rfl)) qd_X_headByPath_65 ⟨Nat.le_of_ble_eq_true rfl, Nat.le_of_ble_eq_true rfl⟩) (fun r9 e9 => ?_)
      subst e9
      refine vp_callSl (W.runS (As := [.long (g ((tq_pl k n - 1))), .long (tq_rt g (k - tq_pb n) (n - tq_pb n) v)]) (rest := []) ⟨hx, hb, hml, hown, hW⟩ (ct_X_nodeOf l (g ((tq_pl k n - 1))) (tq_rt g (k - tq_pb n) (n - tq_pb n) v)) (cwS 2 hW (tq_gS qm_55 qm_56 qm_1 qm_57) rfl rfl rfl (by decide +kernel) ⟨(show 1 + 1 ≤ d1 + 1 + 2 from by omega), (show 8 + (4 + 11) + (27) ≤ 28 * (d1 + 1) + 50 from by omega)⟩) ⟨tq_b0, fun U hU hW9 => ⟨rfl, trivial⟩⟩ rfl rfl hl.1 rfl (lv_room (Nat.le_of_ble_eq_true rfl)) qd_X_headByPath_68 ⟨Nat.le_of_ble_eq_true rfl, Nat.le_of_ble_eq_true rfl⟩) (fun r9 e9 => ?_)
      subst e9
      exact W.lret hx hb hr (fun t ht hW9 => ⟨_, rfl, by rw [tq_rt_r (by omega) c9, e1], ht⟩) (fun _ h => nomatch h) qd_X_headByPath_71
    · have e1 : tq_pl k n - 1 = tq_pl k (tq_pb n) := by have := tq_pl_l (m := k) (n := n) (by omega) c9; omega
      refine lv_aload_n hx hb qd_X_headByPath_31 rfl (lv_at hl 2 rfl) ?_
      refine lv_iload_n hx hb qd_X_headByPath_32 rfl (lv_at hl 3 rfl) ?_
      refine lv_iconst (v := nI 1) hx hb qd_X_headByPath_33 (by decide +kernel) ?_
      refine lv_isub hx hb qd_X_headByPath_34 ?_
      refine tq_ti (y := nI (tq_pl k (tq_pb n))) (by rw [pk_sub (by omega)]; congr 1) ?_
      refine lv_iload_n hx hb qd_X_headByPath_35 rfl (lv_at hl 4 rfl) ?_
      refine lv_iload hx hb qd_X_headByPath_36 (lv_at hl 0 rfl) ?_
      refine lv_lload hx hb qd_X_headByPath_38 (lv_at hl 6 rfl) ?_
      refine vp_callSl (W.runS (As := [.ref a, .int (nI (tq_pl k (tq_pb n))), .int (nI k), .int (nI (tq_pb n)), .long v]) (rest := []) ⟨hx, hb, hml, hown, hW⟩ (ih d1 rfl k (tq_pb n) c9 hh (by omega)) (cwS 5 hW (tq_gS qm_52 qm_53 qm_1 qm_54) rfl rfl rfl (by decide +kernel) ⟨(show d1 + 2 + 1 ≤ d1 + 1 + 2 from by omega), (show 8 + (9 + 11) + (28 * d1 + 50) ≤ 28 * (d1 + 1) + 50 from by omega)⟩) ⟨tq_b1, fun U hU hW9 => ⟨rfl, by rw [hU]; exact hP.sub [0] rfl, va_K.moved hW9.alike (hK.sub [0] rfl)⟩⟩ rfl rfl hl.1 rfl (lv_room (Nat.le_of_ble_eq_true rfl)) qd_X_headByPath_40 ⟨Nat.le_of_ble_eq_true rfl, Nat.le_of_ble_eq_true rfl⟩) (fun r9 e9 => ?_)
      subst e9
      refine lv_lload hx hb qd_X_headByPath_43 (lv_at hl 1 rfl) ?_
      refine vp_callSl (W.runS (As := [.long (tq_rt g k (tq_pb n) v), .long (g ((tq_pl k n - 1)))]) (rest := []) ⟨hx, hb, hml, hown, hW⟩ (ct_X_nodeOf l (tq_rt g k (tq_pb n) v) (g ((tq_pl k n - 1)))) (cwS 2 hW (tq_gS qm_55 qm_56 qm_1 qm_57) rfl rfl rfl (by decide +kernel) ⟨(show 1 + 1 ≤ d1 + 1 + 2 from by omega), (show 8 + (4 + 11) + (27) ≤ 28 * (d1 + 1) + 50 from by omega)⟩) ⟨tq_b0, fun U hU hW9 => ⟨rfl, trivial⟩⟩ rfl rfl hl.1 rfl (lv_room (Nat.le_of_ble_eq_true rfl)) qd_X_headByPath_45 ⟨Nat.le_of_ble_eq_true rfl, Nat.le_of_ble_eq_true rfl⟩) (fun r9 e9 => ?_)
      subst e9
      exact W.lret hx hb hr (fun t ht hW9 => ⟨_, rfl, by rw [tq_rt_l (by omega) c9, e1], ht⟩) (fun _ h => nomatch h) qd_X_headByPath_48
theorem ct_X_headByPath (l : Launch) (dC : Nat → ClassId) (dI : Nat → Nat → Nat) (a : Nat) (cA : ClassId) (g : Nat → Int64) (v : Int64) : ∀ (d k n : Nat), k < n → n ≤ 2 ^ d → d ≤ 30 → tq_HP l dC dI a cA g v d k n
  | 0, k, n, h1, h2, h3 => ct_X_headByPath_s l dC dI a cA g v 0 k n (fun d1 h => by omega) h1 h2 h3
  | d + 1, k, n, h1, h2, h3 => ct_X_headByPath_s l dC dI a cA g v (d + 1) k n (fun d1 h k n h4 h5 h6 => by cases h; exact ct_X_headByPath l dC dI a cA g v d k n h4 h5 h6) h1 h2 h3
def tq_HO (l : Launch) (dC : Nat → ClassId) (dI : Nat → Nat → Nat) (a : Nat) (cA : ClassId) (g : Nat → Int64) (v : Int64) (d : Nat) (kn : Bool) (k n : Nat) : Prop := Met l qy_X_oldHeadBySteps qw_X_oldHeadBySteps ({ frames := d + 2, cells := 0, slots := 0, locals := 28 * d + 50 }) (va_Pc [.ref a, .int (nI (tq_sl kn k n)), .int (nI k), .int (nI n), .long v] (tq_ro (dC, dI) tq_cl [(a, .inl (cA, (40, .inr (.inl g))))] [(cA, .long)])) (vp_Sl (fun r => r = tq_od g kn k n v)) 0 0 (fun _ => False)
set_option maxHeartbeats 4000000 in
set_option maxRecDepth 100000 in
/-- X_oldHeadBySteps -/
theorem ct_X_oldHeadBySteps_s (l : Launch) (dC : Nat → ClassId) (dI : Nat → Nat → Nat) (a : Nat) (cA : ClassId) (g : Nat → Int64) (v : Int64) (d : Nat) (kn : Bool) (k n : Nat) (ih : ∀ d1, d = d1 + 1 → ∀ (kn : Bool) (k n : Nat), 1 ≤ k → k ≤ n → n ≤ 2 ^ d1 → d1 ≤ 30 → tq_HO l dC dI a cA g v d1 kn k n) (h0 : 1 ≤ k) (h1 : k ≤ n) (h2 : n ≤ 2 ^ d) (h3 : d ≤ 30) : tq_HO l dC dI a cA g v d kn k n := by
  refine Met.ofW (cc := qc_X_oldHeadBySteps) (maxL := 9) (ret := (some .long)) (by decide) rfl ?_
  intro p e s m args below meth c s₁ B hml hv
  obtain ⟨rfl, hP, hK⟩ := hv
  have hx := B.exec
  have hb := B.bytes
  have hr := B.returns
  have hts := atoms_spec (ws := qw_X_oldHeadBySteps) B.pre
  have hW : ∀ w ∈ tq_W, w.before ([.ref a, .int (nI (tq_sl kn k n)), .int (nI k), .int (nI n), .long v] : List Value).toArray s = true := fun w h => hts w (List.mem_cons_of_mem _ h)
  have hown : s.vm.findClass RX0 = some m.cls := findClass_of_methodNamed B.named
  have hlocks := B.notSynchronized
  have hl := lv_entry ([.ref a, .int (nI (tq_sl kn k n)), .int (nI k), .int (nI n), .long v]) (n := 9) (Nat.le_of_ble_eq_true rfl)
  rw [lg_entry_eq]
  generalize (lg_sl ([.ref a, .int (nI (tq_sl kn k n)), .int (nI k), .int (nI n), .long v]) ++ List.replicate (9 - (lg_sl ([.ref a, .int (nI (tq_sl kn k n)), .int (nI k), .int (nI n), .long v])).length) Slot.unset).toArray = ls at hl ⊢
  have hl : lv_has ls 9 [(0, .ref a), (1, .int (nI (tq_sl kn k n))), (2, .int (nI k)), (3, .int (nI n)), (4, .long v)] := hl
  have hsl := tq_sl_le d kn k n h2
  have hn30 : n ≤ 2 ^ 30 := Nat.le_trans h2 (Nat.pow_le_pow_right (by decide) h3)
  by_cases hkn : k = n
  · subst hkn
    cases kn with
    | true =>
      refine lv_iload_n hx hb qd_X_oldHeadBySteps_0 rfl (lv_at hl 1 rfl) ?_
      refine tq_ti (y := nI 0) (by rw [tq_sl_e]; rfl) ?_
      refine tq_if_gt (x := 0) (tgt := 7) hx hb qd_X_oldHeadBySteps_1 (by decide) (by omega) (fun c9 => by omega) (fun c9 => ?_)
      refine lv_lload hx hb qd_X_oldHeadBySteps_4 (lv_at hl 4 rfl) ?_
      exact W.lret hx hb hr (fun t ht hW9 => ⟨_, rfl, by rw [tq_od_e]; rfl, ht⟩) (fun _ h => nomatch h) qd_X_oldHeadBySteps_6
    | false =>
      refine lv_iload_n hx hb qd_X_oldHeadBySteps_0 rfl (lv_at hl 1 rfl) ?_
      refine tq_ti (y := nI 1) (by rw [tq_sl_e]; rfl) ?_
      refine tq_if_gt (x := 1) (tgt := 7) hx hb qd_X_oldHeadBySteps_1 (by decide) (by omega) (fun c9 => ?_) (fun c9 => by omega)
      refine lv_aload_n hx hb qd_X_oldHeadBySteps_7 rfl (lv_at hl 0 rfl) ?_
      refine lv_iload_n hx hb qd_X_oldHeadBySteps_8 rfl (lv_at hl 1 rfl) ?_
      refine lv_iconst (v := nI 1) hx hb qd_X_oldHeadBySteps_9 (by decide +kernel) ?_
      refine lv_isub hx hb qd_X_oldHeadBySteps_10 ?_
      refine tq_ti (y := nI 0) (by rw [tq_sl_e]; decide +kernel) ?_
      refine tq_lald hx hb hK hP 0 0 rfl rfl (j := 0) (by omega) (by decide) qd_X_oldHeadBySteps_11 ?_
      refine lv_lstore (lv' := [(6, .long (g 0)), (0, .ref a), (1, .int (nI (tq_sl false k k))), (2, .int (nI k)), (3, .int (nI k)), (4, .long v)]) hx hb qd_X_oldHeadBySteps_12 hl (by decide) rfl (fun ls hl => ?_)
      refine lv_iload_n hx hb qd_X_oldHeadBySteps_14 rfl (lv_at hl 3 rfl) ?_
      refine lv_iload_n hx hb qd_X_oldHeadBySteps_15 rfl (lv_at hl 4 rfl) ?_
      refine tq_icmp_lt (x := k) (y := k) (tgt := 22) hx hb qd_X_oldHeadBySteps_16 (by decide) (by omega) (by omega) (fun c9 => by omega) (fun c9 => ?_)
      refine lv_lload hx hb qd_X_oldHeadBySteps_19 (lv_at hl 0 rfl) ?_
      exact W.lret hx hb hr (fun t ht hW9 => ⟨_, rfl, by rw [tq_od_e]; rfl, ht⟩) (fun _ h => nomatch h) qd_X_oldHeadBySteps_21
  · obtain ⟨d1, rfl⟩ : ∃ d1, d = d1 + 1 := by
      cases d with
      | zero => omega
      | succ d1 => exact ⟨d1, rfl⟩
    have hlt := tq_pb_lt (n := n) (by omega)
    have hps := tq_pb_pos n
    have hh := tq_pb_half h2 (by omega)
    have hrr := tq_pb_rest h2 (by omega)
    have hpp : 0 < tq_sl kn k n := by
      by_cases q9 : k ≤ tq_pb n
      · rw [tq_sl_l (by omega) q9]; omega
      · rw [tq_sl_r (by omega) (by omega) hkn]; omega
    refine lv_iload_n hx hb qd_X_oldHeadBySteps_0 rfl (lv_at hl 1 rfl) ?_
    refine tq_if_gt (x := (tq_sl kn k n)) (tgt := 7) hx hb qd_X_oldHeadBySteps_1 (by decide) (by omega) (fun c9 => ?_) (fun c9 => by omega)
    refine lv_aload_n hx hb qd_X_oldHeadBySteps_7 rfl (lv_at hl 0 rfl) ?_
    refine lv_iload_n hx hb qd_X_oldHeadBySteps_8 rfl (lv_at hl 1 rfl) ?_
    refine lv_iconst (v := nI 1) hx hb qd_X_oldHeadBySteps_9 (by decide +kernel) ?_
    refine lv_isub hx hb qd_X_oldHeadBySteps_10 ?_
    refine tq_ti (y := nI (tq_sl kn k n - 1)) (pk_sub (by omega)) ?_
    refine tq_lald hx hb hK hP 0 0 rfl rfl (j := ((tq_sl kn k n - 1))) (by omega) (by decide) qd_X_oldHeadBySteps_11 ?_
    refine lv_lstore (lv' := [(6, .long (g ((tq_sl kn k n - 1)))), (0, .ref a), (1, .int (nI (tq_sl kn k n))), (2, .int (nI k)), (3, .int (nI n)), (4, .long v)]) hx hb qd_X_oldHeadBySteps_12 hl (by decide) rfl (fun ls hl => ?_)
    refine lv_iload_n hx hb qd_X_oldHeadBySteps_14 rfl (lv_at hl 3 rfl) ?_
    refine lv_iload_n hx hb qd_X_oldHeadBySteps_15 rfl (lv_at hl 4 rfl) ?_
    refine tq_icmp_lt (x := k) (y := n) (tgt := 22) hx hb qd_X_oldHeadBySteps_16 (by decide) (by omega) (by omega) (fun c1 => ?_) (fun c9 => by omega)
    refine lv_iload_n hx hb qd_X_oldHeadBySteps_22 rfl (lv_at hl 4 rfl) ?_
    refine vp_callSi (W.runS (As := [.int (nI n)]) (rest := []) ⟨hx, hb, hml, hown, hW⟩ (ct_X_powerBelow l n (by omega) (by omega)) (cwS 1 hW (tq_gS qm_41 qm_42 qm_1 qm_43) rfl rfl rfl (by decide +kernel) ⟨(show 0 + 1 ≤ d1 + 1 + 2 from by omega), (show 8 + (2 + 11) + (0) ≤ 28 * (d1 + 1) + 50 from by omega)⟩) ⟨tq_b0, fun U hU hW9 => ⟨rfl, trivial⟩⟩ rfl rfl hl.1 rfl (lv_room (Nat.le_of_ble_eq_true rfl)) qd_X_oldHeadBySteps_23 ⟨Nat.le_of_ble_eq_true rfl, Nat.le_of_ble_eq_true rfl⟩) (fun r9 e9 => ?_)
    subst e9
    refine lv_istore (lv' := [(8, .int (nI (tq_pb n))), (6, .long (g ((tq_sl kn k n - 1)))), (0, .ref a), (1, .int (nI (tq_sl kn k n))), (2, .int (nI k)), (3, .int (nI n)), (4, .long v)]) hx hb qd_X_oldHeadBySteps_26 hl (by decide) rfl (fun ls hl => ?_)
    refine lv_iload_n hx hb qd_X_oldHeadBySteps_28 rfl (lv_at hl 4 rfl) ?_
    refine lv_iload hx hb qd_X_oldHeadBySteps_29 (lv_at hl 0 rfl) ?_
    refine tq_icmp_gt (x := k) (y := (tq_pb n)) (tgt := 47) hx hb qd_X_oldHeadBySteps_31 (by decide) (by omega) (by omega) (fun c9 => ?_) (fun c9 => ?_)
    · have e1 : tq_sl kn k n - 1 = tq_sl false (k - tq_pb n) (n - tq_pb n) := by have := tq_sl_r (b := kn) (m := k) (n := n) (by omega) c9 hkn; omega
      refine lv_lload hx hb qd_X_oldHeadBySteps_47 (lv_at hl 1 rfl) ?_
      refine lv_aload_n hx hb qd_X_oldHeadBySteps_49 rfl (lv_at hl 2 rfl) ?_
      refine lv_iload_n hx hb qd_X_oldHeadBySteps_50 rfl (lv_at hl 3 rfl) ?_
      refine lv_iconst (v := nI 1) hx hb qd_X_oldHeadBySteps_51 (by decide +kernel) ?_
      refine lv_isub hx hb qd_X_oldHeadBySteps_52 ?_
      refine tq_ti (y := nI (tq_sl false (k - tq_pb n) (n - tq_pb n))) (by rw [pk_sub (by omega)]; congr 1) ?_
      refine lv_iload_n hx hb qd_X_oldHeadBySteps_53 rfl (lv_at hl 4 rfl) ?_
      refine lv_iload hx hb qd_X_oldHeadBySteps_54 (lv_at hl 0 rfl) ?_
      refine lv_isub hx hb qd_X_oldHeadBySteps_56 ?_
      refine tq_ti (y := nI (k - tq_pb n)) (pk_sub (by omega)) ?_
      refine lv_iload_n hx hb qd_X_oldHeadBySteps_57 rfl (lv_at hl 5 rfl) ?_
      refine lv_iload hx hb qd_X_oldHeadBySteps_58 (lv_at hl 0 rfl) ?_
      refine lv_isub hx hb qd_X_oldHeadBySteps_60 ?_
      refine tq_ti (y := nI (n - tq_pb n)) (pk_sub (by omega)) ?_
      refine lv_lload hx hb qd_X_oldHeadBySteps_61 (lv_at hl 6 rfl) ?_
      refine vp_callSl (W.runS (As := [.ref a, .int (nI (tq_sl false (k - tq_pb n) (n - tq_pb n))), .int (nI (k - tq_pb n)), .int (nI (n - tq_pb n)), .long v]) (rest := [.long (g ((tq_sl kn k n - 1)))]) ⟨hx, hb, hml, hown, hW⟩ (ih d1 rfl false (k - tq_pb n) (n - tq_pb n) (by omega) (by omega) hrr (by omega)) (cwS 5 hW (tq_gS qm_66 qm_67 qm_1 qm_68) rfl rfl rfl (by decide +kernel) ⟨(show d1 + 2 + 1 ≤ d1 + 1 + 2 from by omega), (show 8 + (9 + 11) + (28 * d1 + 50) ≤ 28 * (d1 + 1) + 50 from by omega)⟩) ⟨tq_b1, fun U hU hW9 => ⟨rfl, by rw [hU]; exact hP.sub [0] rfl, va_K.moved hW9.alike (hK.sub [0] rfl)⟩⟩ rfl rfl hl.1 rfl (lv_room (Nat.le_of_ble_eq_true rfl)) qd_X_oldHeadBySteps_63 ⟨Nat.le_of_ble_eq_true rfl, Nat.le_of_ble_eq_true rfl⟩) (fun r9 e9 => ?_)
      subst e9
      refine vp_callSl (W.runS (As := [.long (g ((tq_sl kn k n - 1))), .long (tq_od g false (k - tq_pb n) (n - tq_pb n) v)]) (rest := []) ⟨hx, hb, hml, hown, hW⟩ (ct_X_nodeOf l (g ((tq_sl kn k n - 1))) (tq_od g false (k - tq_pb n) (n - tq_pb n) v)) (cwS 2 hW (tq_gS qm_55 qm_56 qm_1 qm_57) rfl rfl rfl (by decide +kernel) ⟨(show 1 + 1 ≤ d1 + 1 + 2 from by omega), (show 8 + (4 + 11) + (27) ≤ 28 * (d1 + 1) + 50 from by omega)⟩) ⟨tq_b0, fun U hU hW9 => ⟨rfl, trivial⟩⟩ rfl rfl hl.1 rfl (lv_room (Nat.le_of_ble_eq_true rfl)) qd_X_oldHeadBySteps_66 ⟨Nat.le_of_ble_eq_true rfl, Nat.le_of_ble_eq_true rfl⟩) (fun r9 e9 => ?_)
      subst e9
      exact W.lret hx hb hr (fun t ht hW9 => ⟨_, rfl, by rw [tq_od_r (by omega) c9 hkn, e1], ht⟩) (fun _ h => nomatch h) qd_X_oldHeadBySteps_69
    · have e1 : tq_sl kn k n - 1 = tq_sl kn k (tq_pb n) := by have := tq_sl_l (b := kn) (m := k) (n := n) (by omega) c9; omega
      refine lv_aload_n hx hb qd_X_oldHeadBySteps_34 rfl (lv_at hl 2 rfl) ?_
      refine lv_iload_n hx hb qd_X_oldHeadBySteps_35 rfl (lv_at hl 3 rfl) ?_
      refine lv_iconst (v := nI 1) hx hb qd_X_oldHeadBySteps_36 (by decide +kernel) ?_
      refine lv_isub hx hb qd_X_oldHeadBySteps_37 ?_
      refine tq_ti (y := nI (tq_sl kn k (tq_pb n))) (by rw [pk_sub (by omega)]; congr 1) ?_
      refine lv_iload_n hx hb qd_X_oldHeadBySteps_38 rfl (lv_at hl 4 rfl) ?_
      refine lv_iload hx hb qd_X_oldHeadBySteps_39 (lv_at hl 0 rfl) ?_
      refine lv_lload hx hb qd_X_oldHeadBySteps_41 (lv_at hl 6 rfl) ?_
      refine vp_callSl (W.runS (As := [.ref a, .int (nI (tq_sl kn k (tq_pb n))), .int (nI k), .int (nI (tq_pb n)), .long v]) (rest := []) ⟨hx, hb, hml, hown, hW⟩ (ih d1 rfl kn k (tq_pb n) h0 c9 hh (by omega)) (cwS 5 hW (tq_gS qm_66 qm_67 qm_1 qm_68) rfl rfl rfl (by decide +kernel) ⟨(show d1 + 2 + 1 ≤ d1 + 1 + 2 from by omega), (show 8 + (9 + 11) + (28 * d1 + 50) ≤ 28 * (d1 + 1) + 50 from by omega)⟩) ⟨tq_b1, fun U hU hW9 => ⟨rfl, by rw [hU]; exact hP.sub [0] rfl, va_K.moved hW9.alike (hK.sub [0] rfl)⟩⟩ rfl rfl hl.1 rfl (lv_room (Nat.le_of_ble_eq_true rfl)) qd_X_oldHeadBySteps_43 ⟨Nat.le_of_ble_eq_true rfl, Nat.le_of_ble_eq_true rfl⟩) (fun r9 e9 => ?_)
      subst e9
      exact W.lret hx hb hr (fun t ht hW9 => ⟨_, rfl, by rw [tq_od_l (by omega) c9], ht⟩) (fun _ h => nomatch h) qd_X_oldHeadBySteps_46
theorem ct_X_oldHeadBySteps (l : Launch) (dC : Nat → ClassId) (dI : Nat → Nat → Nat) (a : Nat) (cA : ClassId) (g : Nat → Int64) (v : Int64) : ∀ (d : Nat) (kn : Bool) (k n : Nat), 1 ≤ k → k ≤ n → n ≤ 2 ^ d → d ≤ 30 → tq_HO l dC dI a cA g v d kn k n
  | 0, kn, k, n, h0, h1, h2, h3 => ct_X_oldHeadBySteps_s l dC dI a cA g v 0 kn k n (fun d1 h => by omega) h0 h1 h2 h3
  | d + 1, kn, k, n, h0, h1, h2, h3 => ct_X_oldHeadBySteps_s l dC dI a cA g v (d + 1) kn k n (fun d1 h kn k n h4 h5 h6 h7 => by cases h; exact ct_X_oldHeadBySteps l dC dI a cA g v d kn k n h4 h5 h6 h7) h0 h1 h2 h3
def tq_HN (l : Launch) (dC : Nat → ClassId) (dI : Nat → Nat → Nat) (a : Nat) (cA : ClassId) (g : Nat → Int64) (v : Int64) (d : Nat) (kn : Bool) (k n : Nat) : Prop := Met l qy_X_newHeadBySteps qw_X_newHeadBySteps ({ frames := d + 2, cells := 0, slots := 0, locals := 28 * d + 50 }) (va_Pc [.ref a, .int (nI (tq_sl kn k n)), .int (nI k), .int (nI n), .long v] (tq_ro (dC, dI) tq_cl [(a, .inl (cA, (40, .inr (.inl g))))] [(cA, .long)])) (vp_Sl (fun r => r = tq_nw g kn k n v)) 0 0 (fun _ => False)
set_option maxHeartbeats 4000000 in
set_option maxRecDepth 100000 in
/-- X_newHeadBySteps -/
theorem ct_X_newHeadBySteps_s (l : Launch) (dC : Nat → ClassId) (dI : Nat → Nat → Nat) (a : Nat) (cA : ClassId) (g : Nat → Int64) (v : Int64) (d : Nat) (kn : Bool) (k n : Nat) (ih : ∀ d1, d = d1 + 1 → ∀ (kn : Bool) (k n : Nat), 1 ≤ k → k ≤ n → n ≤ 2 ^ d1 → d1 ≤ 30 → tq_HN l dC dI a cA g v d1 kn k n) (h0 : 1 ≤ k) (h1 : k ≤ n) (h2 : n ≤ 2 ^ d) (h3 : d ≤ 30) : tq_HN l dC dI a cA g v d kn k n := by
  refine Met.ofW (cc := qc_X_newHeadBySteps) (maxL := 9) (ret := (some .long)) (by decide) rfl ?_
  intro p e s m args below meth c s₁ B hml hv
  obtain ⟨rfl, hP, hK⟩ := hv
  have hx := B.exec
  have hb := B.bytes
  have hr := B.returns
  have hts := atoms_spec (ws := qw_X_newHeadBySteps) B.pre
  have hW : ∀ w ∈ tq_W, w.before ([.ref a, .int (nI (tq_sl kn k n)), .int (nI k), .int (nI n), .long v] : List Value).toArray s = true := fun w h => hts w (List.mem_cons_of_mem _ h)
  have hown : s.vm.findClass RX0 = some m.cls := findClass_of_methodNamed B.named
  have hlocks := B.notSynchronized
  have hl := lv_entry ([.ref a, .int (nI (tq_sl kn k n)), .int (nI k), .int (nI n), .long v]) (n := 9) (Nat.le_of_ble_eq_true rfl)
  rw [lg_entry_eq]
  generalize (lg_sl ([.ref a, .int (nI (tq_sl kn k n)), .int (nI k), .int (nI n), .long v]) ++ List.replicate (9 - (lg_sl ([.ref a, .int (nI (tq_sl kn k n)), .int (nI k), .int (nI n), .long v])).length) Slot.unset).toArray = ls at hl ⊢
  have hl : lv_has ls 9 [(0, .ref a), (1, .int (nI (tq_sl kn k n))), (2, .int (nI k)), (3, .int (nI n)), (4, .long v)] := hl
  have hsl := tq_sl_le d kn k n h2
  have hn30 : n ≤ 2 ^ 30 := Nat.le_trans h2 (Nat.pow_le_pow_right (by decide) h3)
  by_cases hkn : k = n
  · subst hkn
    cases kn with
    | true =>
      refine lv_iload_n hx hb qd_X_newHeadBySteps_0 rfl (lv_at hl 1 rfl) ?_
      refine tq_ti (y := nI 0) (by rw [tq_sl_e]; rfl) ?_
      refine tq_if_gt (x := 0) (tgt := 7) hx hb qd_X_newHeadBySteps_1 (by decide) (by omega) (fun c9 => by omega) (fun c9 => ?_)
      refine lv_lload hx hb qd_X_newHeadBySteps_4 (lv_at hl 4 rfl) ?_
      exact W.lret hx hb hr (fun t ht hW9 => ⟨_, rfl, by rw [tq_nw_e]; rfl, ht⟩) (fun _ h => nomatch h) qd_X_newHeadBySteps_6
    | false =>
      refine lv_iload_n hx hb qd_X_newHeadBySteps_0 rfl (lv_at hl 1 rfl) ?_
      refine tq_ti (y := nI 1) (by rw [tq_sl_e]; rfl) ?_
      refine tq_if_gt (x := 1) (tgt := 7) hx hb qd_X_newHeadBySteps_1 (by decide) (by omega) (fun c9 => ?_) (fun c9 => by omega)
      refine lv_aload_n hx hb qd_X_newHeadBySteps_7 rfl (lv_at hl 0 rfl) ?_
      refine lv_iload_n hx hb qd_X_newHeadBySteps_8 rfl (lv_at hl 1 rfl) ?_
      refine lv_iconst (v := nI 1) hx hb qd_X_newHeadBySteps_9 (by decide +kernel) ?_
      refine lv_isub hx hb qd_X_newHeadBySteps_10 ?_
      refine tq_ti (y := nI 0) (by rw [tq_sl_e]; decide +kernel) ?_
      refine tq_lald hx hb hK hP 0 0 rfl rfl (j := 0) (by omega) (by decide) qd_X_newHeadBySteps_11 ?_
      refine lv_lstore (lv' := [(6, .long (g 0)), (0, .ref a), (1, .int (nI (tq_sl false k k))), (2, .int (nI k)), (3, .int (nI k)), (4, .long v)]) hx hb qd_X_newHeadBySteps_12 hl (by decide) rfl (fun ls hl => ?_)
      refine lv_iload_n hx hb qd_X_newHeadBySteps_14 rfl (lv_at hl 3 rfl) ?_
      refine lv_iload_n hx hb qd_X_newHeadBySteps_15 rfl (lv_at hl 4 rfl) ?_
      refine tq_icmp_lt (x := k) (y := k) (tgt := 22) hx hb qd_X_newHeadBySteps_16 (by decide) (by omega) (by omega) (fun c9 => by omega) (fun c9 => ?_)
      refine lv_lload hx hb qd_X_newHeadBySteps_19 (lv_at hl 0 rfl) ?_
      exact W.lret hx hb hr (fun t ht hW9 => ⟨_, rfl, by rw [tq_nw_e]; rfl, ht⟩) (fun _ h => nomatch h) qd_X_newHeadBySteps_21
  · obtain ⟨d1, rfl⟩ : ∃ d1, d = d1 + 1 := by
      cases d with
      | zero => omega
      | succ d1 => exact ⟨d1, rfl⟩
    have hlt := tq_pb_lt (n := n) (by omega)
    have hps := tq_pb_pos n
    have hh := tq_pb_half h2 (by omega)
    have hrr := tq_pb_rest h2 (by omega)
    have hpp : 0 < tq_sl kn k n := by
      by_cases q9 : k ≤ tq_pb n
      · rw [tq_sl_l (by omega) q9]; omega
      · rw [tq_sl_r (by omega) (by omega) hkn]; omega
    refine lv_iload_n hx hb qd_X_newHeadBySteps_0 rfl (lv_at hl 1 rfl) ?_
    refine tq_if_gt (x := (tq_sl kn k n)) (tgt := 7) hx hb qd_X_newHeadBySteps_1 (by decide) (by omega) (fun c9 => ?_) (fun c9 => by omega)
    refine lv_aload_n hx hb qd_X_newHeadBySteps_7 rfl (lv_at hl 0 rfl) ?_
    refine lv_iload_n hx hb qd_X_newHeadBySteps_8 rfl (lv_at hl 1 rfl) ?_
    refine lv_iconst (v := nI 1) hx hb qd_X_newHeadBySteps_9 (by decide +kernel) ?_
    refine lv_isub hx hb qd_X_newHeadBySteps_10 ?_
    refine tq_ti (y := nI (tq_sl kn k n - 1)) (pk_sub (by omega)) ?_
    refine tq_lald hx hb hK hP 0 0 rfl rfl (j := ((tq_sl kn k n - 1))) (by omega) (by decide) qd_X_newHeadBySteps_11 ?_
    refine lv_lstore (lv' := [(6, .long (g ((tq_sl kn k n - 1)))), (0, .ref a), (1, .int (nI (tq_sl kn k n))), (2, .int (nI k)), (3, .int (nI n)), (4, .long v)]) hx hb qd_X_newHeadBySteps_12 hl (by decide) rfl (fun ls hl => ?_)
    refine lv_iload_n hx hb qd_X_newHeadBySteps_14 rfl (lv_at hl 3 rfl) ?_
    refine lv_iload_n hx hb qd_X_newHeadBySteps_15 rfl (lv_at hl 4 rfl) ?_
    refine tq_icmp_lt (x := k) (y := n) (tgt := 22) hx hb qd_X_newHeadBySteps_16 (by decide) (by omega) (by omega) (fun c1 => ?_) (fun c9 => by omega)
    refine lv_iload_n hx hb qd_X_newHeadBySteps_22 rfl (lv_at hl 4 rfl) ?_
    refine vp_callSi (W.runS (As := [.int (nI n)]) (rest := []) ⟨hx, hb, hml, hown, hW⟩ (ct_X_powerBelow l n (by omega) (by omega)) (cwS 1 hW (tq_gS qm_41 qm_42 qm_1 qm_43) rfl rfl rfl (by decide +kernel) ⟨(show 0 + 1 ≤ d1 + 1 + 2 from by omega), (show 8 + (2 + 11) + (0) ≤ 28 * (d1 + 1) + 50 from by omega)⟩) ⟨tq_b0, fun U hU hW9 => ⟨rfl, trivial⟩⟩ rfl rfl hl.1 rfl (lv_room (Nat.le_of_ble_eq_true rfl)) qd_X_newHeadBySteps_23 ⟨Nat.le_of_ble_eq_true rfl, Nat.le_of_ble_eq_true rfl⟩) (fun r9 e9 => ?_)
    subst e9
    refine lv_istore (lv' := [(8, .int (nI (tq_pb n))), (6, .long (g ((tq_sl kn k n - 1)))), (0, .ref a), (1, .int (nI (tq_sl kn k n))), (2, .int (nI k)), (3, .int (nI n)), (4, .long v)]) hx hb qd_X_newHeadBySteps_26 hl (by decide) rfl (fun ls hl => ?_)
    refine lv_iload_n hx hb qd_X_newHeadBySteps_28 rfl (lv_at hl 4 rfl) ?_
    refine lv_iload hx hb qd_X_newHeadBySteps_29 (lv_at hl 0 rfl) ?_
    refine tq_icmp_gt (x := k) (y := (tq_pb n)) (tgt := 52) hx hb qd_X_newHeadBySteps_31 (by decide) (by omega) (by omega) (fun c9 => ?_) (fun c9 => ?_)
    · have e1 : tq_sl kn k n - 1 = tq_sl false (k - tq_pb n) (n - tq_pb n) := by have := tq_sl_r (b := kn) (m := k) (n := n) (by omega) c9 hkn; omega
      refine lv_lload hx hb qd_X_newHeadBySteps_52 (lv_at hl 1 rfl) ?_
      refine lv_aload_n hx hb qd_X_newHeadBySteps_54 rfl (lv_at hl 2 rfl) ?_
      refine lv_iload_n hx hb qd_X_newHeadBySteps_55 rfl (lv_at hl 3 rfl) ?_
      refine lv_iconst (v := nI 1) hx hb qd_X_newHeadBySteps_56 (by decide +kernel) ?_
      refine lv_isub hx hb qd_X_newHeadBySteps_57 ?_
      refine tq_ti (y := nI (tq_sl false (k - tq_pb n) (n - tq_pb n))) (by rw [pk_sub (by omega)]; congr 1) ?_
      refine lv_iload_n hx hb qd_X_newHeadBySteps_58 rfl (lv_at hl 4 rfl) ?_
      refine lv_iload hx hb qd_X_newHeadBySteps_59 (lv_at hl 0 rfl) ?_
      refine lv_isub hx hb qd_X_newHeadBySteps_61 ?_
      refine tq_ti (y := nI (k - tq_pb n)) (pk_sub (by omega)) ?_
      refine lv_iload_n hx hb qd_X_newHeadBySteps_62 rfl (lv_at hl 5 rfl) ?_
      refine lv_iload hx hb qd_X_newHeadBySteps_63 (lv_at hl 0 rfl) ?_
      refine lv_isub hx hb qd_X_newHeadBySteps_65 ?_
      refine tq_ti (y := nI (n - tq_pb n)) (pk_sub (by omega)) ?_
      refine lv_lload hx hb qd_X_newHeadBySteps_66 (lv_at hl 6 rfl) ?_
      refine vp_callSl (W.runS (As := [.ref a, .int (nI (tq_sl false (k - tq_pb n) (n - tq_pb n))), .int (nI (k - tq_pb n)), .int (nI (n - tq_pb n)), .long v]) (rest := [.long (g ((tq_sl kn k n - 1)))]) ⟨hx, hb, hml, hown, hW⟩ (ih d1 rfl false (k - tq_pb n) (n - tq_pb n) (by omega) (by omega) hrr (by omega)) (cwS 5 hW (tq_gS qm_69 qm_70 qm_1 qm_71) rfl rfl rfl (by decide +kernel) ⟨(show d1 + 2 + 1 ≤ d1 + 1 + 2 from by omega), (show 8 + (9 + 11) + (28 * d1 + 50) ≤ 28 * (d1 + 1) + 50 from by omega)⟩) ⟨tq_b1, fun U hU hW9 => ⟨rfl, by rw [hU]; exact hP.sub [0] rfl, va_K.moved hW9.alike (hK.sub [0] rfl)⟩⟩ rfl rfl hl.1 rfl (lv_room (Nat.le_of_ble_eq_true rfl)) qd_X_newHeadBySteps_68 ⟨Nat.le_of_ble_eq_true rfl, Nat.le_of_ble_eq_true rfl⟩) (fun r9 e9 => ?_)
      subst e9
      refine vp_callSl (W.runS (As := [.long (g ((tq_sl kn k n - 1))), .long (tq_nw g false (k - tq_pb n) (n - tq_pb n) v)]) (rest := []) ⟨hx, hb, hml, hown, hW⟩ (ct_X_nodeOf l (g ((tq_sl kn k n - 1))) (tq_nw g false (k - tq_pb n) (n - tq_pb n) v)) (cwS 2 hW (tq_gS qm_55 qm_56 qm_1 qm_57) rfl rfl rfl (by decide +kernel) ⟨(show 1 + 1 ≤ d1 + 1 + 2 from by omega), (show 8 + (4 + 11) + (27) ≤ 28 * (d1 + 1) + 50 from by omega)⟩) ⟨tq_b0, fun U hU hW9 => ⟨rfl, trivial⟩⟩ rfl rfl hl.1 rfl (lv_room (Nat.le_of_ble_eq_true rfl)) qd_X_newHeadBySteps_71 ⟨Nat.le_of_ble_eq_true rfl, Nat.le_of_ble_eq_true rfl⟩) (fun r9 e9 => ?_)
      subst e9
      exact W.lret hx hb hr (fun t ht hW9 => ⟨_, rfl, by rw [tq_nw_r (by omega) c9 hkn, e1], ht⟩) (fun _ h => nomatch h) qd_X_newHeadBySteps_74
    · have e1 : tq_sl kn k n - 1 = tq_sl kn k (tq_pb n) := by have := tq_sl_l (b := kn) (m := k) (n := n) (by omega) c9; omega
      refine lv_aload_n hx hb qd_X_newHeadBySteps_34 rfl (lv_at hl 2 rfl) ?_
      refine lv_iload_n hx hb qd_X_newHeadBySteps_35 rfl (lv_at hl 3 rfl) ?_
      refine lv_iconst (v := nI 1) hx hb qd_X_newHeadBySteps_36 (by decide +kernel) ?_
      refine lv_isub hx hb qd_X_newHeadBySteps_37 ?_
      refine tq_ti (y := nI (tq_sl kn k (tq_pb n))) (by rw [pk_sub (by omega)]; congr 1) ?_
      refine lv_iload_n hx hb qd_X_newHeadBySteps_38 rfl (lv_at hl 4 rfl) ?_
      refine lv_iload hx hb qd_X_newHeadBySteps_39 (lv_at hl 0 rfl) ?_
      refine lv_lload hx hb qd_X_newHeadBySteps_41 (lv_at hl 6 rfl) ?_
      refine vp_callSl (W.runS (As := [.ref a, .int (nI (tq_sl kn k (tq_pb n))), .int (nI k), .int (nI (tq_pb n)), .long v]) (rest := []) ⟨hx, hb, hml, hown, hW⟩ (ih d1 rfl kn k (tq_pb n) h0 c9 hh (by omega)) (cwS 5 hW (tq_gS qm_69 qm_70 qm_1 qm_71) rfl rfl rfl (by decide +kernel) ⟨(show d1 + 2 + 1 ≤ d1 + 1 + 2 from by omega), (show 8 + (9 + 11) + (28 * d1 + 50) ≤ 28 * (d1 + 1) + 50 from by omega)⟩) ⟨tq_b1, fun U hU hW9 => ⟨rfl, by rw [hU]; exact hP.sub [0] rfl, va_K.moved hW9.alike (hK.sub [0] rfl)⟩⟩ rfl rfl hl.1 rfl (lv_room (Nat.le_of_ble_eq_true rfl)) qd_X_newHeadBySteps_43 ⟨Nat.le_of_ble_eq_true rfl, Nat.le_of_ble_eq_true rfl⟩) (fun r9 e9 => ?_)
      subst e9
      refine lv_lload hx hb qd_X_newHeadBySteps_46 (lv_at hl 1 rfl) ?_
      refine vp_callSl (W.runS (As := [.long (tq_nw g kn k (tq_pb n) v), .long (g ((tq_sl kn k n - 1)))]) (rest := []) ⟨hx, hb, hml, hown, hW⟩ (ct_X_nodeOf l (tq_nw g kn k (tq_pb n) v) (g ((tq_sl kn k n - 1)))) (cwS 2 hW (tq_gS qm_55 qm_56 qm_1 qm_57) rfl rfl rfl (by decide +kernel) ⟨(show 1 + 1 ≤ d1 + 1 + 2 from by omega), (show 8 + (4 + 11) + (27) ≤ 28 * (d1 + 1) + 50 from by omega)⟩) ⟨tq_b0, fun U hU hW9 => ⟨rfl, trivial⟩⟩ rfl rfl hl.1 rfl (lv_room (Nat.le_of_ble_eq_true rfl)) qd_X_newHeadBySteps_48 ⟨Nat.le_of_ble_eq_true rfl, Nat.le_of_ble_eq_true rfl⟩) (fun r9 e9 => ?_)
      subst e9
      exact W.lret hx hb hr (fun t ht hW9 => ⟨_, rfl, by rw [tq_nw_l (by omega) c9, e1], ht⟩) (fun _ h => nomatch h) qd_X_newHeadBySteps_51
theorem ct_X_newHeadBySteps (l : Launch) (dC : Nat → ClassId) (dI : Nat → Nat → Nat) (a : Nat) (cA : ClassId) (g : Nat → Int64) (v : Int64) : ∀ (d : Nat) (kn : Bool) (k n : Nat), 1 ≤ k → k ≤ n → n ≤ 2 ^ d → d ≤ 30 → tq_HN l dC dI a cA g v d kn k n
  | 0, kn, k, n, h0, h1, h2, h3 => ct_X_newHeadBySteps_s l dC dI a cA g v 0 kn k n (fun d1 h => by omega) h0 h1 h2 h3
  | d + 1, kn, k, n, h0, h1, h2, h3 => ct_X_newHeadBySteps_s l dC dI a cA g v (d + 1) kn k n (fun d1 h kn k n h4 h5 h6 h7 => by cases h; exact ct_X_newHeadBySteps l dC dI a cA g v d kn k n h4 h5 h6 h7) h0 h1 h2 h3
def tq_HM (l : Launch) (dC : Nat → ClassId) (dI : Nat → Nat → Nat) (o ca cb : Nat) (cA : ClassId) (w1 w2 w3 w4 : Int32) (z1 z2 : Int64) (f : Nat → Int64) (d i n : Nat) : Prop := Met l qy_M_headOf qw_M_headOf ({ frames := d + 2, cells := 0, slots := 0, locals := 25 * d + 50 }) (va_Pc [.ref o, .int (nI i), .int (nI n)] (tq_ro (dC, dI) tq_cl [(o, .inr (1, [.int w1, .int w2, .int w3, .int w4, .ref ca, .ref cb, .long z1, .long z2])), (ca, .inl (cA, (600, .inr (.inl f))))] [(cA, .long)])) (vp_Sl (fun r => r = tq_hd (fun j => tq_leaf (f j)) i n)) 0 0 (fun _ => False)
set_option maxHeartbeats 4000000 in
set_option maxRecDepth 100000 in
/-- headOf of the reference -/
theorem ct_M_headOf_s (l : Launch) (dC : Nat → ClassId) (dI : Nat → Nat → Nat) (o ca cb : Nat) (cA : ClassId) (w1 w2 w3 w4 : Int32) (z1 z2 : Int64) (f : Nat → Int64) (d i n : Nat) (ih : ∀ d1, d = d1 + 1 → ∀ i n, i + n ≤ 600 → n ≤ 2 ^ d1 → tq_HM l dC dI o ca cb cA w1 w2 w3 w4 z1 z2 f d1 i n) (h1 : i + n ≤ 600) (h2 : n ≤ 2 ^ d) : tq_HM l dC dI o ca cb cA w1 w2 w3 w4 z1 z2 f d i n := by
  refine Met.ofW (cc := qc_M_headOf) (maxL := 6) (ret := (some .long)) (by decide) rfl ?_
  intro p e s m args below meth c s₁ B hml hv
  obtain ⟨rfl, hP, hK⟩ := hv
  have hx := B.exec
  have hb := B.bytes
  have hr := B.returns
  have hts := atoms_spec (ws := qw_M_headOf) B.pre
  have hW : ∀ w ∈ tq_W, w.before ([.ref o, .int (nI i), .int (nI n)] : List Value).toArray s = true := fun w h => hts w (List.mem_cons_of_mem _ h)
  have hown : s.vm.findClass RX1 = some m.cls := findClass_of_methodNamed B.named
  have hlocks := B.notSynchronized
  have hl := lv_entry ([.ref o, .int (nI i), .int (nI n)]) (n := 6) (Nat.le_of_ble_eq_true rfl)
  rw [lg_entry_eq]
  generalize (lg_sl ([.ref o, .int (nI i), .int (nI n)]) ++ List.replicate (6 - (lg_sl ([.ref o, .int (nI i), .int (nI n)])).length) Slot.unset).toArray = ls at hl ⊢
  have hl : lv_has ls 6 [(0, .ref o), (1, .int (nI i)), (2, .int (nI n))] := hl
  refine lv_iload_n hx hb qd_M_headOf_0 rfl (lv_at hl 2 rfl) ?_
  refine tq_if_ne (x := n) (tgt := 6) hx hb qd_M_headOf_1 (by decide) (by omega) (fun c9 => ?_) (fun c9 => ?_)
  · refine lv_iload_n hx hb qd_M_headOf_6 rfl (lv_at hl 2 rfl) ?_
    refine lv_iconst (v := nI 1) hx hb qd_M_headOf_7 (by decide +kernel) ?_
    refine tq_icmp_ne (x := n) (y := 1) (tgt := 22) hx hb qd_M_headOf_8 (by decide) (by omega) (by omega) (fun c10 => ?_) (fun c10 => ?_)
    · obtain ⟨d1, rfl⟩ : ∃ d1, d = d1 + 1 := by
        cases d with
        | zero => omega
        | succ d1 => exact ⟨d1, rfl⟩
      have hlt := tq_pb_lt (n := n) (by omega)
      have hps := tq_pb_pos n
      have hh := tq_pb_half h2 (by omega)
      have hrr := tq_pb_rest h2 (by omega)
      refine lv_iload_n hx hb qd_M_headOf_22 rfl (lv_at hl 2 rfl) ?_
      refine vp_callSi (W.runS (As := [.int (nI n)]) (rest := []) ⟨hx, hb, hml, hown, hW⟩ (ct_M_below l n (by omega) (by omega)) (cwS 1 hW (tq_gS qm_335 qm_336 qm_2 qm_337) rfl rfl rfl (by decide +kernel) ⟨(show 0 + 1 ≤ d1 + 1 + 2 from by omega), (show 8 + (2 + 11) + (0) ≤ 25 * (d1 + 1) + 50 from by omega)⟩) ⟨tq_b0, fun U hU hW9 => ⟨rfl, trivial⟩⟩ rfl rfl hl.1 rfl (lv_room (Nat.le_of_ble_eq_true rfl)) qd_M_headOf_23 ⟨Nat.le_of_ble_eq_true rfl, Nat.le_of_ble_eq_true rfl⟩) (fun r9 e9 => ?_)
      subst e9
      refine lv_istore_n (lv' := [(3, .int (nI (tq_pb n))), (0, .ref o), (1, .int (nI i)), (2, .int (nI n))]) hx hb qd_M_headOf_26 rfl hl (by decide) rfl (fun ls hl => ?_)
      refine lv_aload_n hx hb qd_M_headOf_27 rfl (lv_at hl 1 rfl) ?_
      refine lv_iload_n hx hb qd_M_headOf_28 rfl (lv_at hl 2 rfl) ?_
      refine lv_iload_n hx hb qd_M_headOf_29 rfl (lv_at hl 0 rfl) ?_
      refine vp_callSl (W.runV (As := [.int (nI i), .int (nI (tq_pb n))]) (rest := []) ⟨hx, hb, hml, hown, hW⟩ (ih d1 rfl i (tq_pb n) (by omega) hh) (cwV 2 hW (tq_gV qm_326 qm_328 qs_M_headOf qm_2 qm_329) rfl rfl rfl (by decide +kernel) ⟨(show d1 + 2 + 1 ≤ d1 + 1 + 2 from by omega), (show 8 + (6 + 11) + (25 * d1 + 50) ≤ 25 * (d1 + 1) + 50 from by omega)⟩) ⟨tq_b1, va_recv hK hP (ci := 1) (q0 := 0) rfl rfl, fun U hU hW9 => ⟨rfl, by rw [hU]; exact hP.sub [0, 1] rfl, va_K.moved hW9.alike (hK.sub [0] rfl)⟩⟩ rfl rfl hl.1 rfl (lv_room (Nat.le_of_ble_eq_true rfl)) qd_M_headOf_30 ⟨Nat.le_of_ble_eq_true rfl, Nat.le_of_ble_eq_true rfl⟩) (fun r9 e9 => ?_)
      subst e9
      refine lv_lstore (lv' := [(4, .long (tq_hd (fun j => tq_leaf (f j)) i (tq_pb n))), (3, .int (nI (tq_pb n))), (0, .ref o), (1, .int (nI i)), (2, .int (nI n))]) hx hb qd_M_headOf_33 hl (by decide) rfl (fun ls hl => ?_)
      refine lv_lload hx hb qd_M_headOf_35 (lv_at hl 0 rfl) ?_
      refine lv_aload_n hx hb qd_M_headOf_37 rfl (lv_at hl 2 rfl) ?_
      refine lv_iload_n hx hb qd_M_headOf_38 rfl (lv_at hl 3 rfl) ?_
      refine lv_iload_n hx hb qd_M_headOf_39 rfl (lv_at hl 1 rfl) ?_
      refine lv_iadd hx hb qd_M_headOf_40 ?_
      refine tq_ti (y := nI (i + tq_pb n)) (nI_add _ _) ?_
      refine lv_iload_n hx hb qd_M_headOf_41 rfl (lv_at hl 4 rfl) ?_
      refine lv_iload_n hx hb qd_M_headOf_42 rfl (lv_at hl 1 rfl) ?_
      refine lv_isub hx hb qd_M_headOf_43 ?_
      refine tq_ti (y := nI (n - tq_pb n)) (pk_sub (by omega)) ?_
      refine vp_callSl (W.runV (As := [.int (nI (i + tq_pb n)), .int (nI (n - tq_pb n))]) (rest := [.long (tq_hd (fun j => tq_leaf (f j)) i (tq_pb n))]) ⟨hx, hb, hml, hown, hW⟩ (ih d1 rfl (i + tq_pb n) (n - tq_pb n) (by omega) hrr) (cwV 2 hW (tq_gV qm_326 qm_328 qs_M_headOf qm_2 qm_329) rfl rfl rfl (by decide +kernel) ⟨(show d1 + 2 + 1 ≤ d1 + 1 + 2 from by omega), (show 8 + (6 + 11) + (25 * d1 + 50) ≤ 25 * (d1 + 1) + 50 from by omega)⟩) ⟨tq_b1, va_recv hK hP (ci := 1) (q0 := 0) rfl rfl, fun U hU hW9 => ⟨rfl, by rw [hU]; exact hP.sub [0, 1] rfl, va_K.moved hW9.alike (hK.sub [0] rfl)⟩⟩ rfl rfl hl.1 rfl (lv_room (Nat.le_of_ble_eq_true rfl)) qd_M_headOf_44 ⟨Nat.le_of_ble_eq_true rfl, Nat.le_of_ble_eq_true rfl⟩) (fun r9 e9 => ?_)
      subst e9
      refine vp_callSl (W.runS (As := [.long (tq_hd (fun j => tq_leaf (f j)) i (tq_pb n)), .long (tq_hd (fun j => tq_leaf (f j)) (i + tq_pb n) (n - tq_pb n))]) (rest := []) ⟨hx, hb, hml, hown, hW⟩ (ct_M_node l (tq_hd (fun j => tq_leaf (f j)) i (tq_pb n)) (tq_hd (fun j => tq_leaf (f j)) (i + tq_pb n) (n - tq_pb n))) (cwS 2 hW (tq_gS qm_338 qm_339 qm_2 qm_340) rfl rfl rfl (by decide +kernel) ⟨(show 1 + 1 ≤ d1 + 1 + 2 from by omega), (show 8 + (4 + 11) + (27) ≤ 25 * (d1 + 1) + 50 from by omega)⟩) ⟨tq_b0, fun U hU hW9 => ⟨rfl, trivial⟩⟩ rfl rfl hl.1 rfl (lv_room (Nat.le_of_ble_eq_true rfl)) qd_M_headOf_47 ⟨Nat.le_of_ble_eq_true rfl, Nat.le_of_ble_eq_true rfl⟩) (fun r9 e9 => ?_)
      subst e9
      exact W.lret hx hb hr (fun t ht hW9 => ⟨_, rfl, (tq_hd_n (by omega)).symm, ht⟩) (fun _ h => nomatch h) qd_M_headOf_50
    · refine lv_lconst (v := 1) hx hb qd_M_headOf_11 (by decide) ?_
      refine lv_aload_n hx hb qd_M_headOf_12 rfl (lv_at hl 0 rfl) ?_
      refine va_get (D := (dC, dI)) (ci := 1) (v := .ref ca) (C := RX1) (T := TX1) (N := 8) hx hb hW inX1 hown hK hP 0 rfl rfl 4 (by decide) (hW _ qm_285) (fun _ h9 => h9) rfl qd_M_headOf_13 ?_
      refine lv_iload_n hx hb qd_M_headOf_16 rfl (lv_at hl 1 rfl) ?_
      refine tq_lald hx hb hK hP 1 0 rfl rfl (j := i) (by omega) (by decide) qd_M_headOf_17 ?_
      refine vp_callSl (W.runS (As := [.long 1, .long (f i)]) (rest := []) ⟨hx, hb, hml, hown, hW⟩ (ct_M_mix l 1 (f i)) (cwS 2 hW (tq_gS qm_330 qm_331 qm_2 qm_332) rfl rfl rfl (by decide +kernel) ⟨(show 0 + 1 ≤ d + 2 from by omega), (show 8 + (8 + 11) + (0) ≤ 25 * d + 50 from by omega)⟩) ⟨tq_b0, fun U hU hW9 => ⟨rfl, trivial⟩⟩ rfl rfl hl.1 rfl (lv_room (Nat.le_of_ble_eq_true rfl)) qd_M_headOf_18 ⟨Nat.le_of_ble_eq_true rfl, Nat.le_of_ble_eq_true rfl⟩) (fun r9 e9 => ?_)
      subst e9
      exact W.lret hx hb hr (fun t ht hW9 => ⟨_, rfl, by rw [c10, tq_hd_1]; rfl, ht⟩) (fun _ h => nomatch h) qd_M_headOf_21
  · subst c9
    refine lv_lconst (v := 0) hx hb qd_M_headOf_4 (by decide) ?_
    exact W.lret hx hb hr (fun t ht hW9 => ⟨_, rfl, (tq_hd_0 _ i).symm, ht⟩) (fun _ h => nomatch h) qd_M_headOf_5
theorem ct_M_headOf (l : Launch) (dC : Nat → ClassId) (dI : Nat → Nat → Nat) (o ca cb : Nat) (cA : ClassId) (w1 w2 w3 w4 : Int32) (z1 z2 : Int64) (f : Nat → Int64) : ∀ (d i n : Nat), i + n ≤ 600 → n ≤ 2 ^ d → tq_HM l dC dI o ca cb cA w1 w2 w3 w4 z1 z2 f d i n
  | 0, i, n, h1, h2 => ct_M_headOf_s l dC dI o ca cb cA w1 w2 w3 w4 z1 z2 f 0 i n (fun d1 h => by omega) h1 h2
  | d + 1, i, n, h1, h2 => ct_M_headOf_s l dC dI o ca cb cA w1 w2 w3 w4 z1 z2 f (d + 1) i n (fun d1 h i n h3 h4 => by cases h; exact ct_M_headOf l dC dI o ca cb cA w1 w2 w3 w4 z1 z2 f d i n h3 h4) h1 h2
end
section
theorem tq_nle {x y : Int32} (h : y < x) : ¬ x ≤ y := fun h8 => by rw [Int32.lt_iff_toInt_lt] at h; rw [Int32.le_iff_toInt_le] at h8; omega
set_option maxHeartbeats 4000000 in
set_option maxRecDepth 100000 in
/-- head -/
theorem ct_X_head (l : Launch) (dC : Nat → ClassId) (dI : Nat → Nat → Nat) (x a b : Nat) (cA : ClassId) (n k : Nat) (f g : Nat → Int64) (j : Nat) (hj : j ≤ n) (hn : n ≤ 600) : Met l qy_X_head qw_X_head ({ frames := 13, cells := 0, slots := 0, locals := 320 }) (va_Pc [.ref x, .int (nI j)] (tq_ro (dC, dI) tq_cl [(x, .inr (0, [.ref a, .int (nI n), .ref b, .int (nI k)])), (a, .inl (cA, (600, .inr (.inl f)))), (b, .inl (cA, (40, .inr (.inl g))))] [(cA, .long)])) (vp_Sl (fun r => r = tq_hd f 0 j)) 0 0 (fun _ => False) := by
  refine Met.ofW (cc := qc_X_head) (maxL := 2) (ret := (some .long)) (by decide) rfl ?_
  intro p e s m args below meth c s₁ B hml hv
  obtain ⟨rfl, hP, hK⟩ := hv
  have hx := B.exec
  have hb := B.bytes
  have hr := B.returns
  have hts := atoms_spec (ws := qw_X_head) B.pre
  have hW : ∀ w ∈ tq_W, w.before ([.ref x, .int (nI j)] : List Value).toArray s = true := fun w h => hts w (List.mem_cons_of_mem _ h)
  have hown : s.vm.findClass RX0 = some m.cls := findClass_of_methodNamed B.named
  have hlocks := B.notSynchronized
  have hl := lv_entry ([.ref x, .int (nI j)]) (n := 2) (Nat.le_of_ble_eq_true rfl)
  rw [lg_entry_eq]
  generalize (lg_sl ([.ref x, .int (nI j)]) ++ List.replicate (2 - (lg_sl ([.ref x, .int (nI j)])).length) Slot.unset).toArray = ls at hl ⊢
  have hl : lv_has ls 2 [(0, .ref x), (1, .int (nI j))] := hl
  refine lv_iload_n hx hb qd_X_head_0 rfl (lv_at hl 1 rfl) ?_
  refine tq_if_lt (x := j) (tgt := 12) hx hb qd_X_head_1 (by decide) (by omega) ?_
  refine lv_iload_n hx hb qd_X_head_4 rfl (lv_at hl 1 rfl) ?_
  refine lv_aload_n hx hb qd_X_head_5 rfl (lv_at hl 0 rfl) ?_
  refine va_get (D := (dC, dI)) (ci := 0) (v := .int (nI n)) (C := RX0) (T := TX0) (N := 4) hx hb hW inX0 hown hK hP 0 rfl rfl 1 (by decide) (hW _ qm_20) (fun _ h9 => h9) rfl qd_X_head_6 ?_
  refine tq_icmp_le (x := j) (y := n) (tgt := 20) hx hb qd_X_head_9 (by decide) (by omega) (by omega) (fun c9 => ?_) (fun c9 => by omega)
  refine lv_aload_n hx hb qd_X_head_20 rfl (lv_at hl 0 rfl) ?_
  refine va_get (D := (dC, dI)) (ci := 0) (v := .ref a) (C := RX0) (T := TX0) (N := 4) hx hb hW inX0 hown hK hP 0 rfl rfl 0 (by decide) (hW _ qm_19) (fun _ h9 => h9) rfl qd_X_head_21 ?_
  refine lv_iconst (v := nI 0) hx hb qd_X_head_24 (by decide +kernel) ?_
  refine lv_iload_n hx hb qd_X_head_25 rfl (lv_at hl 1 rfl) ?_
  refine tq_ti (y := nI (0 + j)) (by rw [Nat.zero_add]) ?_
  refine vp_callSl (W.runS (As := [.ref a, .int (nI 0), .int (nI (0 + j))]) (rest := []) ⟨hx, hb, hml, hown, hW⟩ (ct_X_headOf l dC dI a cA f 10 0 j (by omega) (by omega)) (cwS 3 hW (tq_gS qm_207 qm_208 qm_1 qm_209) rfl rfl rfl (by decide +kernel) ⟨Nat.le_of_ble_eq_true rfl, Nat.le_of_ble_eq_true rfl⟩) ⟨tq_b1, fun U hU hW9 => ⟨rfl, by rw [hU]; exact hP.sub [1] rfl, va_K.moved hW9.alike (hK.sub [0] rfl)⟩⟩ rfl rfl hl.1 rfl (lv_room (Nat.le_of_ble_eq_true rfl)) qd_X_head_26 ⟨Nat.le_of_ble_eq_true rfl, Nat.le_of_ble_eq_true rfl⟩) (fun r9 e9 => ?_)
  subst e9
  exact W.lret hx hb hr (fun t ht hW9 => ⟨_, rfl, rfl, ht⟩) (fun _ h => nomatch h) qd_X_head_29
set_option maxHeartbeats 4000000 in
set_option maxRecDepth 100000 in
/-- part -/
theorem ct_X_part (l : Launch) (dC : Nat → ClassId) (dI : Nat → Nat → Nat) (x a b : Nat) (cA : ClassId) (n k : Nat) (f g : Nat → Int64) (i j : Nat) (hi : i ≤ j) (hj : j ≤ n) (hn : n ≤ 600) : Met l qy_X_part qw_X_part ({ frames := 13, cells := 0, slots := 0, locals := 320 }) (va_Pc [.ref x, .int (nI i), .int (nI j)] (tq_ro (dC, dI) tq_cl [(x, .inr (0, [.ref a, .int (nI n), .ref b, .int (nI k)])), (a, .inl (cA, (600, .inr (.inl f)))), (b, .inl (cA, (40, .inr (.inl g))))] [(cA, .long)])) (vp_Sl (fun r => r = tq_hd f i (j - i))) 0 0 (fun _ => False) := by
  refine Met.ofW (cc := qc_X_part) (maxL := 3) (ret := (some .long)) (by decide) rfl ?_
  intro p e s m args below meth c s₁ B hml hv
  obtain ⟨rfl, hP, hK⟩ := hv
  have hx := B.exec
  have hb := B.bytes
  have hr := B.returns
  have hts := atoms_spec (ws := qw_X_part) B.pre
  have hW : ∀ w ∈ tq_W, w.before ([.ref x, .int (nI i), .int (nI j)] : List Value).toArray s = true := fun w h => hts w (List.mem_cons_of_mem _ h)
  have hown : s.vm.findClass RX0 = some m.cls := findClass_of_methodNamed B.named
  have hlocks := B.notSynchronized
  have hl := lv_entry ([.ref x, .int (nI i), .int (nI j)]) (n := 3) (Nat.le_of_ble_eq_true rfl)
  rw [lg_entry_eq]
  generalize (lg_sl ([.ref x, .int (nI i), .int (nI j)]) ++ List.replicate (3 - (lg_sl ([.ref x, .int (nI i), .int (nI j)])).length) Slot.unset).toArray = ls at hl ⊢
  have hl : lv_has ls 3 [(0, .ref x), (1, .int (nI i)), (2, .int (nI j))] := hl
  refine lv_iload_n hx hb qd_X_part_0 rfl (lv_at hl 1 rfl) ?_
  refine tq_if_lt (x := i) (tgt := 17) hx hb qd_X_part_1 (by decide) (by omega) ?_
  refine lv_iload_n hx hb qd_X_part_4 rfl (lv_at hl 1 rfl) ?_
  refine lv_iload_n hx hb qd_X_part_5 rfl (lv_at hl 2 rfl) ?_
  refine tq_icmp_gt (x := i) (y := j) (tgt := 17) hx hb qd_X_part_6 (by decide) (by omega) (by omega) (fun c9 => by omega) (fun c9 => ?_)
  refine lv_iload_n hx hb qd_X_part_9 rfl (lv_at hl 2 rfl) ?_
  refine lv_aload_n hx hb qd_X_part_10 rfl (lv_at hl 0 rfl) ?_
  refine va_get (D := (dC, dI)) (ci := 0) (v := .int (nI n)) (C := RX0) (T := TX0) (N := 4) hx hb hW inX0 hown hK hP 0 rfl rfl 1 (by decide) (hW _ qm_20) (fun _ h9 => h9) rfl qd_X_part_11 ?_
  refine tq_icmp_le (x := j) (y := n) (tgt := 25) hx hb qd_X_part_14 (by decide) (by omega) (by omega) (fun c9 => ?_) (fun c9 => by omega)
  refine lv_aload_n hx hb qd_X_part_25 rfl (lv_at hl 0 rfl) ?_
  refine va_get (D := (dC, dI)) (ci := 0) (v := .ref a) (C := RX0) (T := TX0) (N := 4) hx hb hW inX0 hown hK hP 0 rfl rfl 0 (by decide) (hW _ qm_19) (fun _ h9 => h9) rfl qd_X_part_26 ?_
  refine lv_iload_n hx hb qd_X_part_29 rfl (lv_at hl 1 rfl) ?_
  refine lv_iload_n hx hb qd_X_part_30 rfl (lv_at hl 2 rfl) ?_
  refine tq_ti (y := nI (i + (j - i))) (by congr 1; omega) ?_
  refine vp_callSl (W.runS (As := [.ref a, .int (nI i), .int (nI (i + (j - i)))]) (rest := []) ⟨hx, hb, hml, hown, hW⟩ (ct_X_headOf l dC dI a cA f 10 i (j - i) (by omega) (by omega)) (cwS 3 hW (tq_gS qm_207 qm_208 qm_1 qm_209) rfl rfl rfl (by decide +kernel) ⟨Nat.le_of_ble_eq_true rfl, Nat.le_of_ble_eq_true rfl⟩) ⟨tq_b1, fun U hU hW9 => ⟨rfl, by rw [hU]; exact hP.sub [1] rfl, va_K.moved hW9.alike (hK.sub [0] rfl)⟩⟩ rfl rfl hl.1 rfl (lv_room (Nat.le_of_ble_eq_true rfl)) qd_X_part_31 ⟨Nat.le_of_ble_eq_true rfl, Nat.le_of_ble_eq_true rfl⟩) (fun r9 e9 => ?_)
  subst e9
  exact W.lret hx hb hr (fun t ht hW9 => ⟨_, rfl, rfl, ht⟩) (fun _ h => nomatch h) qd_X_part_34
set_option maxHeartbeats 4000000 in
set_option maxRecDepth 100000 in
/-- proof -/
theorem ct_X_proof (l : Launch) (dC : Nat → ClassId) (dI : Nat → Nat → Nat) (x a b : Nat) (cA : ClassId) (n k : Nat) (f g : Nat → Int64) (j : Nat) (hj : j < k) (hk : k ≤ 40) : Met l qy_X_proof qw_X_proof ({ frames := 0, cells := 0, slots := 0, locals := 0 }) (va_Pc [.ref x, .int (nI j)] (tq_ro (dC, dI) tq_cl [(x, .inr (0, [.ref a, .int (nI n), .ref b, .int (nI k)])), (a, .inl (cA, (600, .inr (.inl f)))), (b, .inl (cA, (40, .inr (.inl g))))] [(cA, .long)])) (vp_Sl (fun r => r = g j)) 0 0 (fun _ => False) := by
  refine Met.ofW (cc := qc_X_proof) (maxL := 2) (ret := (some .long)) (by decide) rfl ?_
  intro p e s m args below meth c s₁ B hml hv
  obtain ⟨rfl, hP, hK⟩ := hv
  have hx := B.exec
  have hb := B.bytes
  have hr := B.returns
  have hts := atoms_spec (ws := qw_X_proof) B.pre
  have hW : ∀ w ∈ tq_W, w.before ([.ref x, .int (nI j)] : List Value).toArray s = true := fun w h => hts w (List.mem_cons_of_mem _ h)
  have hown : s.vm.findClass RX0 = some m.cls := findClass_of_methodNamed B.named
  have hlocks := B.notSynchronized
  have hl := lv_entry ([.ref x, .int (nI j)]) (n := 2) (Nat.le_of_ble_eq_true rfl)
  rw [lg_entry_eq]
  generalize (lg_sl ([.ref x, .int (nI j)]) ++ List.replicate (2 - (lg_sl ([.ref x, .int (nI j)])).length) Slot.unset).toArray = ls at hl ⊢
  have hl : lv_has ls 2 [(0, .ref x), (1, .int (nI j))] := hl
  refine lv_iload_n hx hb qd_X_proof_0 rfl (lv_at hl 1 rfl) ?_
  refine tq_if_lt (x := j) (tgt := 12) hx hb qd_X_proof_1 (by decide) (by omega) ?_
  refine lv_iload_n hx hb qd_X_proof_4 rfl (lv_at hl 1 rfl) ?_
  refine lv_aload_n hx hb qd_X_proof_5 rfl (lv_at hl 0 rfl) ?_
  refine va_get (D := (dC, dI)) (ci := 0) (v := .int (nI k)) (C := RX0) (T := TX0) (N := 4) hx hb hW inX0 hown hK hP 0 rfl rfl 3 (by decide) (hW _ qm_22) (fun _ h9 => h9) rfl qd_X_proof_6 ?_
  refine tq_icmp_lt (x := j) (y := k) (tgt := 20) hx hb qd_X_proof_9 (by decide) (by omega) (by omega) (fun c9 => ?_) (fun c9 => by omega)
  refine lv_aload_n hx hb qd_X_proof_20 rfl (lv_at hl 0 rfl) ?_
  refine va_get (D := (dC, dI)) (ci := 0) (v := .ref b) (C := RX0) (T := TX0) (N := 4) hx hb hW inX0 hown hK hP 0 rfl rfl 2 (by decide) (hW _ qm_21) (fun _ h9 => h9) rfl qd_X_proof_21 ?_
  refine lv_iload_n hx hb qd_X_proof_24 rfl (lv_at hl 1 rfl) ?_
  refine tq_lald hx hb hK hP 2 0 rfl rfl (j := j) (by omega) (by decide) qd_X_proof_25 ?_
  exact W.lret hx hb hr (fun t ht hW9 => ⟨_, rfl, rfl, ht⟩) (fun _ h => nomatch h) qd_X_proof_26
def tq_fd (f : Nat → Int64) (v : Int64) : Nat → Nat → Int32
  | 0, _ => -1
  | t + 1, i => if f i = v then nI i else tq_fd f v t (i + 1)
set_option maxHeartbeats 4000000 in
set_option maxRecDepth 100000 in
/-- find -/
theorem ct_X_find (l : Launch) (dC : Nat → ClassId) (dI : Nat → Nat → Nat) (x a b : Nat) (cA : ClassId) (n k : Nat) (f g : Nat → Int64) (j : Nat) (v : Int64) (hj : j ≤ n) (hn : n ≤ 600) : Met l qy_X_find qw_X_find ({ frames := 2, cells := 0, slots := 0, locals := 60 }) (va_Pc [.ref x, .int (nI j), .long v] (tq_ro (dC, dI) tq_cl [(x, .inr (0, [.ref a, .int (nI n), .ref b, .int (nI k)])), (a, .inl (cA, (600, .inr (.inl f)))), (b, .inl (cA, (40, .inr (.inl g))))] [(cA, .long)])) (vp_Si (fun r => r = tq_fd f (tq_leaf v) j 0)) 0 0 (fun _ => False) := by
  refine Met.ofW (cc := qc_X_find) (maxL := 7) (ret := (some .int)) (by decide) rfl ?_
  intro p e s m args below meth c s₁ B hml hv
  obtain ⟨rfl, hP, hK⟩ := hv
  have hx := B.exec
  have hb := B.bytes
  have hr := B.returns
  have hts := atoms_spec (ws := qw_X_find) B.pre
  have hW : ∀ w ∈ tq_W, w.before ([.ref x, .int (nI j), .long v] : List Value).toArray s = true := fun w h => hts w (List.mem_cons_of_mem _ h)
  have hown : s.vm.findClass RX0 = some m.cls := findClass_of_methodNamed B.named
  have hlocks := B.notSynchronized
  have hl := lv_entry ([.ref x, .int (nI j), .long v]) (n := 7) (Nat.le_of_ble_eq_true rfl)
  rw [lg_entry_eq]
  generalize (lg_sl ([.ref x, .int (nI j), .long v]) ++ List.replicate (7 - (lg_sl ([.ref x, .int (nI j), .long v])).length) Slot.unset).toArray = ls at hl ⊢
  have hl : lv_has ls 7 [(0, .ref x), (1, .int (nI j)), (2, .long v)] := hl
  have loop : ∀ (t i : Nat), i + t = j → tq_fd f (tq_leaf v) t i = tq_fd f (tq_leaf v) j 0 → ∀ ls : Array Slot, lv_has ls 7 [(6, .int (nI i)), (4, .long (tq_leaf v)), (0, .ref x), (1, .int (nI j))] → W p l e (headSpec qw_X_find ({ frames := 2, cells := 0, slots := 0, locals := 60 })).room s m ([.ref x, .int (nI j), .long v] : List Value).toArray below meth c s.heap [] 0 0 (MQ below (vp_Si (fun r => r = tq_fd f (tq_leaf v) j 0)) ([.ref x, .int (nI j), .long v] : List Value).toArray s 0 0 (fun _ => False)) (F0 m 29 ls []) := by
    intro t
    induction t with
    | zero =>
      intro i hi hq ls hl
      refine lv_iload hx hb qd_X_find_29 (lv_at hl 0 rfl) ?_
      refine lv_iload_n hx hb qd_X_find_31 rfl (lv_at hl 3 rfl) ?_
      refine tq_icmp_ge (x := i) (y := j) (tgt := 57) hx hb qd_X_find_32 (by decide) (by omega) (by omega) (fun c9 => ?_) (fun c9 => by omega)
      refine lv_iconst (v := (-1)) hx hb qd_X_find_57 (by decide +kernel) ?_
      exact W.iret hx hb hr (fun t ht hW9 => ⟨_, rfl, hq, ht⟩) (fun _ h => nomatch h) qd_X_find_58
    | succ t ih =>
      intro i hi hq ls hl
      refine lv_iload hx hb qd_X_find_29 (lv_at hl 0 rfl) ?_
      refine lv_iload_n hx hb qd_X_find_31 rfl (lv_at hl 3 rfl) ?_
      refine tq_icmp_ge (x := i) (y := j) (tgt := 57) hx hb qd_X_find_32 (by decide) (by omega) (by omega) (fun c9 => by omega) (fun c9 => ?_)
      refine lv_aload_n hx hb qd_X_find_35 rfl (lv_at hl 2 rfl) ?_
      refine va_get (D := (dC, dI)) (ci := 0) (v := .ref a) (C := RX0) (T := TX0) (N := 4) hx hb hW inX0 hown hK hP 0 rfl rfl 0 (by decide) (hW _ qm_19) (fun _ h9 => h9) rfl qd_X_find_36 ?_
      refine lv_iload hx hb qd_X_find_39 (lv_at hl 0 rfl) ?_
      refine tq_lald hx hb hK hP 1 0 rfl rfl (j := i) (by omega) (by decide) qd_X_find_41 ?_
      refine lv_lload hx hb qd_X_find_42 (lv_at hl 1 rfl) ?_
      refine tq_lc_ne (tgt := 51) hx hb qd_X_find_44 qd_X_find_45 (by decide) (fun c9 => ?_) (fun c9 => ?_)
      · refine lv_iinc (v := (nI (i + 1))) (lv' := [(6, .int (nI (i + 1))), (4, .long (tq_leaf v)), (0, .ref x), (1, .int (nI j))]) hx hb qd_X_find_51 hl (k := 0) rfl (nI_1 i) (by decide) rfl (fun ls hl => ?_)
        refine lv_goto (tgt := 29) hx hb qd_X_find_54 (by decide) ?_
        exact ih (i + 1) (by omega) (by rw [← hq]; show _ = (if f i = tq_leaf v then nI i else _); rw [if_neg c9]) ls (lv_sub hl [0, 1, 2, 3] rfl)
      · refine lv_iload hx hb qd_X_find_48 (lv_at hl 0 rfl) ?_
        exact W.iret hx hb hr (fun t ht hW9 => ⟨_, rfl, by rw [← hq]; show _ = (if f i = tq_leaf v then nI i else _); rw [if_pos c9], ht⟩) (fun _ h => nomatch h) qd_X_find_50
  refine lv_iload_n hx hb qd_X_find_0 rfl (lv_at hl 1 rfl) ?_
  refine tq_if_lt (x := j) (tgt := 12) hx hb qd_X_find_1 (by decide) (by omega) ?_
  refine lv_iload_n hx hb qd_X_find_4 rfl (lv_at hl 1 rfl) ?_
  refine lv_aload_n hx hb qd_X_find_5 rfl (lv_at hl 0 rfl) ?_
  refine va_get (D := (dC, dI)) (ci := 0) (v := .int (nI n)) (C := RX0) (T := TX0) (N := 4) hx hb hW inX0 hown hK hP 0 rfl rfl 1 (by decide) (hW _ qm_20) (fun _ h9 => h9) rfl qd_X_find_6 ?_
  refine tq_icmp_le (x := j) (y := n) (tgt := 20) hx hb qd_X_find_9 (by decide) (by omega) (by omega) (fun c9 => ?_) (fun c9 => by omega)
  refine lv_lload_n hx hb qd_X_find_20 rfl (lv_at hl 2 rfl) ?_
  refine vp_callSl (W.runS (As := [.long v]) (rest := []) ⟨hx, hb, hml, hown, hW⟩ (ct_X_leafOf l v) (cwS 1 hW (tq_gS qm_44 qm_45 qm_1 qm_46) rfl rfl rfl (by decide +kernel) ⟨Nat.le_of_ble_eq_true rfl, Nat.le_of_ble_eq_true rfl⟩) ⟨tq_b0, fun U hU hW9 => ⟨rfl, trivial⟩⟩ rfl rfl hl.1 rfl (lv_room (Nat.le_of_ble_eq_true rfl)) qd_X_find_21 ⟨Nat.le_of_ble_eq_true rfl, Nat.le_of_ble_eq_true rfl⟩) (fun r9 e9 => ?_)
  subst e9
  refine lv_lstore (lv' := [(4, .long (tq_leaf v)), (0, .ref x), (1, .int (nI j)), (2, .long v)]) hx hb qd_X_find_24 hl (by decide) rfl (fun ls hl => ?_)
  refine lv_iconst (v := nI 0) hx hb qd_X_find_26 (by decide +kernel) ?_
  refine lv_istore (lv' := [(6, .int (nI 0)), (4, .long (tq_leaf v)), (0, .ref x), (1, .int (nI j)), (2, .long v)]) hx hb qd_X_find_27 hl (by decide) rfl (fun ls hl => ?_)
  exact loop j 0 (Nat.zero_add j) rfl ls (lv_sub hl [0, 1, 2, 3] rfl)
set_option maxHeartbeats 4000000 in
set_option maxRecDepth 100000 in
/-- shows, refused -/
theorem ct_X_shows_no (l : Launch) (dC : Nat → ClassId) (dI : Nat → Nat → Nat) (x a b : Nat) (cA : ClassId) (n k : Nat) (f g : Nat → Int64) (pm pn : Int32) (v hd : Int64) (hbad : pm < 0 ∨ pn ≤ pm ∨ nI 1073741824 < pn) : Met l qy_X_shows qw_X_shows ({ frames := 33, cells := 0, slots := 0, locals := 940 }) (va_Pc [.ref x, .int pm, .int pn, .long v, .long hd] (tq_ro (dC, dI) tq_cl [(x, .inr (0, [.ref a, .int (nI n), .ref b, .int (nI k)])), (a, .inl (cA, (600, .inr (.inl f)))), (b, .inl (cA, (40, .inr (.inl g))))] [(cA, .long)])) (vp_Si (fun r => r = nI 0)) 0 0 (fun _ => False) := by
  refine Met.ofW (cc := qc_X_shows) (maxL := 7) (ret := (some .boolean)) (by decide) rfl ?_
  intro p e s m args below meth c s₁ B hml hv
  obtain ⟨rfl, hP, hK⟩ := hv
  have hx := B.exec
  have hb := B.bytes
  have hr := B.returns
  have hts := atoms_spec (ws := qw_X_shows) B.pre
  have hW : ∀ w ∈ tq_W, w.before ([.ref x, .int pm, .int pn, .long v, .long hd] : List Value).toArray s = true := fun w h => hts w (List.mem_cons_of_mem _ h)
  have hown : s.vm.findClass RX0 = some m.cls := findClass_of_methodNamed B.named
  have hlocks := B.notSynchronized
  have hl := lv_entry ([.ref x, .int pm, .int pn, .long v, .long hd]) (n := 7) (Nat.le_of_ble_eq_true rfl)
  rw [lg_entry_eq]
  generalize (lg_sl ([.ref x, .int pm, .int pn, .long v, .long hd]) ++ List.replicate (7 - (lg_sl ([.ref x, .int pm, .int pn, .long v, .long hd])).length) Slot.unset).toArray = ls at hl ⊢
  have hl : lv_has ls 7 [(0, .ref x), (1, .int pm), (2, .int pn), (3, .long v), (5, .long hd)] := hl
  refine lv_iload_n hx hb qd_X_shows_0 rfl (lv_at hl 1 rfl) ?_
  refine lv_if_lt (tgt := 15) hx hb qd_X_shows_1 (by decide) (fun c1 => ?_) (fun c1 => ?_)
  · refine lv_iconst (v := nI 0) hx hb qd_X_shows_15 (by decide +kernel) ?_
    exact W.zret hx hb hr (by decide) (fun t ht hW9 => ⟨_, rfl, rfl, ht⟩) (fun _ h => nomatch h) qd_X_shows_16
  · refine lv_iload_n hx hb qd_X_shows_4 rfl (lv_at hl 1 rfl) ?_
    refine lv_iload_n hx hb qd_X_shows_5 rfl (lv_at hl 2 rfl) ?_
    refine lv_icmp_ge (tgt := 15) hx hb qd_X_shows_6 (by decide) (fun c2 => ?_) (fun c2 => ?_)
    · refine lv_iconst (v := nI 0) hx hb qd_X_shows_15 (by decide +kernel) ?_
      exact W.zret hx hb hr (by decide) (fun t ht hW9 => ⟨_, rfl, rfl, ht⟩) (fun _ h => nomatch h) qd_X_shows_16
    · have h9 : ¬ pn ≤ nI 1073741824 := tq_nle (hbad.elim (fun h => absurd h c1) (fun h => h.elim (fun h => absurd h c2) id))
      refine lv_iload_n hx hb qd_X_shows_9 rfl (lv_at hl 2 rfl) ?_
      refine lv_ldc (v := (1073741824)) hx hb hown (hW _ qm_37) qd_X_shows_10 ?_
      refine tq_ti (y := nI 1073741824) (by decide +kernel) ?_
      refine lv_icmp_le (tgt := 17) hx hb qd_X_shows_12 (by decide) (fun c9 => absurd c9 (h9)) (fun c3 => ?_)
      refine lv_iconst (v := nI 0) hx hb qd_X_shows_15 (by decide +kernel) ?_
      exact W.zret hx hb hr (by decide) (fun t ht hW9 => ⟨_, rfl, rfl, ht⟩) (fun _ h => nomatch h) qd_X_shows_16
set_option maxHeartbeats 4000000 in
set_option maxRecDepth 100000 in
/-- shows -/
theorem ct_X_shows (l : Launch) (dC : Nat → ClassId) (dI : Nat → Nat → Nat) (x a b : Nat) (cA : ClassId) (n k : Nat) (f g : Nat → Int64) (i j : Nat) (v hd : Int64) (h1 : i < j) (h2 : j ≤ 2 ^ 30) (hk : k ≤ 40) : Met l qy_X_shows qw_X_shows ({ frames := 33, cells := 0, slots := 0, locals := 940 }) (va_Pc [.ref x, .int (nI i), .int (nI j), .long v, .long hd] (tq_ro (dC, dI) tq_cl [(x, .inr (0, [.ref a, .int (nI n), .ref b, .int (nI k)])), (a, .inl (cA, (600, .inr (.inl f)))), (b, .inl (cA, (40, .inr (.inl g))))] [(cA, .long)])) (vp_Si (fun r => r = tq_b (decide (k = tq_pl i j) && decide (tq_rt g i j (tq_leaf v) = hd)))) 0 0 (fun _ => False) := by
  refine Met.ofW (cc := qc_X_shows) (maxL := 7) (ret := (some .boolean)) (by decide) rfl ?_
  intro p e s m args below meth c s₁ B hml hv
  obtain ⟨rfl, hP, hK⟩ := hv
  have hx := B.exec
  have hb := B.bytes
  have hr := B.returns
  have hts := atoms_spec (ws := qw_X_shows) B.pre
  have hW : ∀ w ∈ tq_W, w.before ([.ref x, .int (nI i), .int (nI j), .long v, .long hd] : List Value).toArray s = true := fun w h => hts w (List.mem_cons_of_mem _ h)
  have hown : s.vm.findClass RX0 = some m.cls := findClass_of_methodNamed B.named
  have hlocks := B.notSynchronized
  have hl := lv_entry ([.ref x, .int (nI i), .int (nI j), .long v, .long hd]) (n := 7) (Nat.le_of_ble_eq_true rfl)
  rw [lg_entry_eq]
  generalize (lg_sl ([.ref x, .int (nI i), .int (nI j), .long v, .long hd]) ++ List.replicate (7 - (lg_sl ([.ref x, .int (nI i), .int (nI j), .long v, .long hd])).length) Slot.unset).toArray = ls at hl ⊢
  have hl : lv_has ls 7 [(0, .ref x), (1, .int (nI i)), (2, .int (nI j)), (3, .long v), (5, .long hd)] := hl
  have hpl := tq_pl_le 30 i j h2
  refine lv_iload_n hx hb qd_X_shows_0 rfl (lv_at hl 1 rfl) ?_
  refine tq_if_lt (x := i) (tgt := 15) hx hb qd_X_shows_1 (by decide) (by omega) ?_
  refine lv_iload_n hx hb qd_X_shows_4 rfl (lv_at hl 1 rfl) ?_
  refine lv_iload_n hx hb qd_X_shows_5 rfl (lv_at hl 2 rfl) ?_
  refine tq_icmp_ge (x := i) (y := j) (tgt := 15) hx hb qd_X_shows_6 (by decide) (by omega) (by omega) (fun c9 => by omega) (fun c9 => ?_)
  refine lv_iload_n hx hb qd_X_shows_9 rfl (lv_at hl 2 rfl) ?_
  refine lv_ldc (v := (1073741824)) hx hb hown (hW _ qm_37) qd_X_shows_10 ?_
  refine tq_ti (y := nI 1073741824) (by decide +kernel) ?_
  refine tq_icmp_le (x := j) (y := 1073741824) (tgt := 17) hx hb qd_X_shows_12 (by decide) (by omega) (by omega) (fun c9 => ?_) (fun c9 => by omega)
  refine lv_aload_n hx hb qd_X_shows_17 rfl (lv_at hl 0 rfl) ?_
  refine va_get (D := (dC, dI)) (ci := 0) (v := .int (nI k)) (C := RX0) (T := TX0) (N := 4) hx hb hW inX0 hown hK hP 0 rfl rfl 3 (by decide) (hW _ qm_22) (fun _ h9 => h9) rfl qd_X_shows_18 ?_
  refine lv_iload_n hx hb qd_X_shows_21 rfl (lv_at hl 1 rfl) ?_
  refine lv_iload_n hx hb qd_X_shows_22 rfl (lv_at hl 2 rfl) ?_
  refine vp_callSi (W.runS (As := [.int (nI i), .int (nI j)]) (rest := [.int (nI k)]) ⟨hx, hb, hml, hown, hW⟩ (ct_X_pathLength l i j (by omega) (by omega)) (cwS 2 hW (tq_gS qm_38 qm_39 qm_1 qm_40) rfl rfl rfl (by decide +kernel) ⟨Nat.le_of_ble_eq_true rfl, Nat.le_of_ble_eq_true rfl⟩) ⟨tq_b0, fun U hU hW9 => ⟨rfl, trivial⟩⟩ rfl rfl hl.1 rfl (lv_room (Nat.le_of_ble_eq_true rfl)) qd_X_shows_23 ⟨Nat.le_of_ble_eq_true rfl, Nat.le_of_ble_eq_true rfl⟩) (fun r9 e9 => ?_)
  subst e9
  refine tq_icmp_eq (x := k) (y := (tq_pl i j)) (tgt := 31) hx hb qd_X_shows_26 (by decide) (by omega) (by omega) (fun c9 => ?_) (fun c9 => ?_)
  · refine lv_aload_n hx hb qd_X_shows_31 rfl (lv_at hl 0 rfl) ?_
    refine va_get (D := (dC, dI)) (ci := 0) (v := .ref b) (C := RX0) (T := TX0) (N := 4) hx hb hW inX0 hown hK hP 0 rfl rfl 2 (by decide) (hW _ qm_21) (fun _ h9 => h9) rfl qd_X_shows_32 ?_
    refine lv_aload_n hx hb qd_X_shows_35 rfl (lv_at hl 0 rfl) ?_
    refine va_get (D := (dC, dI)) (ci := 0) (v := .int (nI k)) (C := RX0) (T := TX0) (N := 4) hx hb hW inX0 hown hK hP 0 rfl rfl 3 (by decide) (hW _ qm_22) (fun _ h9 => h9) rfl qd_X_shows_36 ?_
    refine tq_ti (y := nI (tq_pl i j)) (by rw [c9]) ?_
    refine lv_iload_n hx hb qd_X_shows_39 rfl (lv_at hl 1 rfl) ?_
    refine lv_iload_n hx hb qd_X_shows_40 rfl (lv_at hl 2 rfl) ?_
    refine lv_lload_n hx hb qd_X_shows_41 rfl (lv_at hl 3 rfl) ?_
    refine vp_callSl (W.runS (As := [.long v]) (rest := [.int (nI j), .int (nI i), .int (nI (tq_pl i j)), .ref b]) ⟨hx, hb, hml, hown, hW⟩ (ct_X_leafOf l v) (cwS 1 hW (tq_gS qm_44 qm_45 qm_1 qm_46) rfl rfl rfl (by decide +kernel) ⟨Nat.le_of_ble_eq_true rfl, Nat.le_of_ble_eq_true rfl⟩) ⟨tq_b0, fun U hU hW9 => ⟨rfl, trivial⟩⟩ rfl rfl hl.1 rfl (lv_room (Nat.le_of_ble_eq_true rfl)) qd_X_shows_42 ⟨Nat.le_of_ble_eq_true rfl, Nat.le_of_ble_eq_true rfl⟩) (fun r9 e9 => ?_)
    subst e9
    refine vp_callSl (W.runS (As := [.ref b, .int (nI (tq_pl i j)), .int (nI i), .int (nI j), .long (tq_leaf v)]) (rest := []) ⟨hx, hb, hml, hown, hW⟩ (ct_X_headByPath l dC dI b cA g (tq_leaf v) 30 i j h1 h2 (by omega)) (cwS 5 hW (tq_gS qm_52 qm_53 qm_1 qm_54) rfl rfl rfl (by decide +kernel) ⟨Nat.le_of_ble_eq_true rfl, Nat.le_of_ble_eq_true rfl⟩) ⟨tq_b1, fun U hU hW9 => ⟨rfl, by rw [hU]; exact hP.sub [2] rfl, va_K.moved hW9.alike (hK.sub [0] rfl)⟩⟩ rfl rfl hl.1 rfl (lv_room (Nat.le_of_ble_eq_true rfl)) qd_X_shows_45 ⟨Nat.le_of_ble_eq_true rfl, Nat.le_of_ble_eq_true rfl⟩) (fun r9 e9 => ?_)
    subst e9
    refine lv_lload hx hb qd_X_shows_48 (lv_at hl 4 rfl) ?_
    refine tq_lc_ne (tgt := 58) hx hb qd_X_shows_50 qd_X_shows_51 (by decide) (fun c1 => ?_) (fun c1 => ?_)
    · refine lv_iconst (v := nI 0) hx hb qd_X_shows_58 (by decide +kernel) ?_
      exact W.zret hx hb hr (by decide) (fun t ht hW9 => ⟨_, rfl, by rw [decide_eq_false c1, Bool.and_false]; rfl, ht⟩) (fun _ h => nomatch h) qd_X_shows_59
    · refine lv_iconst (v := nI 1) hx hb qd_X_shows_54 (by decide +kernel) ?_
      refine lv_goto (tgt := 59) hx hb qd_X_shows_55 (by decide) ?_
      exact W.zret hx hb hr (by decide) (fun t ht hW9 => ⟨_, rfl, by rw [decide_eq_true c1, decide_eq_true c9]; rfl, ht⟩) (fun _ h => nomatch h) qd_X_shows_59
  · refine lv_iconst (v := nI 0) hx hb qd_X_shows_29 (by decide +kernel) ?_
    exact W.zret hx hb hr (by decide) (fun t ht hW9 => ⟨_, rfl, by rw [decide_eq_false c9]; rfl, ht⟩) (fun _ h => nomatch h) qd_X_shows_30
set_option maxHeartbeats 4000000 in
set_option maxRecDepth 100000 in
/-- grew, refused -/
theorem ct_X_grew_no (l : Launch) (dC : Nat → ClassId) (dI : Nat → Nat → Nat) (x a b : Nat) (cA : ClassId) (n k : Nat) (f g : Nat → Int64) (pm pn : Int32) (v hd : Int64) (hbad : pm < nI 1 ∨ pn < pm ∨ nI 1073741824 < pn) : Met l qy_X_grew qw_X_grew ({ frames := 33, cells := 0, slots := 0, locals := 940 }) (va_Pc [.ref x, .int pm, .int pn, .long v, .long hd] (tq_ro (dC, dI) tq_cl [(x, .inr (0, [.ref a, .int (nI n), .ref b, .int (nI k)])), (a, .inl (cA, (600, .inr (.inl f)))), (b, .inl (cA, (40, .inr (.inl g))))] [(cA, .long)])) (vp_Si (fun r => r = nI 0)) 0 0 (fun _ => False) := by
  refine Met.ofW (cc := qc_X_grew) (maxL := 7) (ret := (some .boolean)) (by decide) rfl ?_
  intro p e s m args below meth c s₁ B hml hv
  obtain ⟨rfl, hP, hK⟩ := hv
  have hx := B.exec
  have hb := B.bytes
  have hr := B.returns
  have hts := atoms_spec (ws := qw_X_grew) B.pre
  have hW : ∀ w ∈ tq_W, w.before ([.ref x, .int pm, .int pn, .long v, .long hd] : List Value).toArray s = true := fun w h => hts w (List.mem_cons_of_mem _ h)
  have hown : s.vm.findClass RX0 = some m.cls := findClass_of_methodNamed B.named
  have hlocks := B.notSynchronized
  have hl := lv_entry ([.ref x, .int pm, .int pn, .long v, .long hd]) (n := 7) (Nat.le_of_ble_eq_true rfl)
  rw [lg_entry_eq]
  generalize (lg_sl ([.ref x, .int pm, .int pn, .long v, .long hd]) ++ List.replicate (7 - (lg_sl ([.ref x, .int pm, .int pn, .long v, .long hd])).length) Slot.unset).toArray = ls at hl ⊢
  have hl : lv_has ls 7 [(0, .ref x), (1, .int pm), (2, .int pn), (3, .long v), (5, .long hd)] := hl
  refine lv_iload_n hx hb qd_X_grew_0 rfl (lv_at hl 1 rfl) ?_
  refine lv_iconst (v := nI 1) hx hb qd_X_grew_1 (by decide +kernel) ?_
  refine lv_icmp_lt (tgt := 16) hx hb qd_X_grew_2 (by decide) (fun c1 => ?_) (fun c1 => ?_)
  · refine lv_iconst (v := nI 0) hx hb qd_X_grew_16 (by decide +kernel) ?_
    exact W.zret hx hb hr (by decide) (fun t ht hW9 => ⟨_, rfl, rfl, ht⟩) (fun _ h => nomatch h) qd_X_grew_17
  · refine lv_iload_n hx hb qd_X_grew_5 rfl (lv_at hl 1 rfl) ?_
    refine lv_iload_n hx hb qd_X_grew_6 rfl (lv_at hl 2 rfl) ?_
    refine lv_icmp_gt (tgt := 16) hx hb qd_X_grew_7 (by decide) (fun c2 => ?_) (fun c2 => ?_)
    · refine lv_iconst (v := nI 0) hx hb qd_X_grew_16 (by decide +kernel) ?_
      exact W.zret hx hb hr (by decide) (fun t ht hW9 => ⟨_, rfl, rfl, ht⟩) (fun _ h => nomatch h) qd_X_grew_17
    · have h9 : ¬ pn ≤ nI 1073741824 := tq_nle (hbad.elim (fun h => absurd h c1) (fun h => h.elim (fun h => absurd h c2) id))
      refine lv_iload_n hx hb qd_X_grew_10 rfl (lv_at hl 2 rfl) ?_
      refine lv_ldc (v := (1073741824)) hx hb hown (hW _ qm_37) qd_X_grew_11 ?_
      refine tq_ti (y := nI 1073741824) (by decide +kernel) ?_
      refine lv_icmp_le (tgt := 18) hx hb qd_X_grew_13 (by decide) (fun c9 => absurd c9 (h9)) (fun c3 => ?_)
      refine lv_iconst (v := nI 0) hx hb qd_X_grew_16 (by decide +kernel) ?_
      exact W.zret hx hb hr (by decide) (fun t ht hW9 => ⟨_, rfl, rfl, ht⟩) (fun _ h => nomatch h) qd_X_grew_17
set_option maxHeartbeats 4000000 in
set_option maxRecDepth 100000 in
/-- grew -/
theorem ct_X_grew (l : Launch) (dC : Nat → ClassId) (dI : Nat → Nat → Nat) (x a b : Nat) (cA : ClassId) (n k : Nat) (f g : Nat → Int64) (i j : Nat) (v hd : Int64) (h0 : 1 ≤ i) (h1 : i ≤ j) (h2 : j ≤ 2 ^ 30) (hk : k ≤ 40) : Met l qy_X_grew qw_X_grew ({ frames := 33, cells := 0, slots := 0, locals := 940 }) (va_Pc [.ref x, .int (nI i), .int (nI j), .long v, .long hd] (tq_ro (dC, dI) tq_cl [(x, .inr (0, [.ref a, .int (nI n), .ref b, .int (nI k)])), (a, .inl (cA, (600, .inr (.inl f)))), (b, .inl (cA, (40, .inr (.inl g))))] [(cA, .long)])) (vp_Si (fun r => r = tq_b (decide (k = tq_sl true i j) && (decide (tq_od g true i j v = v) && decide (tq_nw g true i j v = hd))))) 0 0 (fun _ => False) := by
  refine Met.ofW (cc := qc_X_grew) (maxL := 7) (ret := (some .boolean)) (by decide) rfl ?_
  intro p e s m args below meth c s₁ B hml hv
  obtain ⟨rfl, hP, hK⟩ := hv
  have hx := B.exec
  have hb := B.bytes
  have hr := B.returns
  have hts := atoms_spec (ws := qw_X_grew) B.pre
  have hW : ∀ w ∈ tq_W, w.before ([.ref x, .int (nI i), .int (nI j), .long v, .long hd] : List Value).toArray s = true := fun w h => hts w (List.mem_cons_of_mem _ h)
  have hown : s.vm.findClass RX0 = some m.cls := findClass_of_methodNamed B.named
  have hlocks := B.notSynchronized
  have hl := lv_entry ([.ref x, .int (nI i), .int (nI j), .long v, .long hd]) (n := 7) (Nat.le_of_ble_eq_true rfl)
  rw [lg_entry_eq]
  generalize (lg_sl ([.ref x, .int (nI i), .int (nI j), .long v, .long hd]) ++ List.replicate (7 - (lg_sl ([.ref x, .int (nI i), .int (nI j), .long v, .long hd])).length) Slot.unset).toArray = ls at hl ⊢
  have hl : lv_has ls 7 [(0, .ref x), (1, .int (nI i)), (2, .int (nI j)), (3, .long v), (5, .long hd)] := hl
  have hsl := tq_sl_le 30 true i j h2
  refine lv_iload_n hx hb qd_X_grew_0 rfl (lv_at hl 1 rfl) ?_
  refine lv_iconst (v := nI 1) hx hb qd_X_grew_1 (by decide +kernel) ?_
  refine tq_icmp_lt (x := i) (y := 1) (tgt := 16) hx hb qd_X_grew_2 (by decide) (by omega) (by omega) (fun c9 => by omega) (fun c9 => ?_)
  refine lv_iload_n hx hb qd_X_grew_5 rfl (lv_at hl 1 rfl) ?_
  refine lv_iload_n hx hb qd_X_grew_6 rfl (lv_at hl 2 rfl) ?_
  refine tq_icmp_gt (x := i) (y := j) (tgt := 16) hx hb qd_X_grew_7 (by decide) (by omega) (by omega) (fun c9 => by omega) (fun c9 => ?_)
  refine lv_iload_n hx hb qd_X_grew_10 rfl (lv_at hl 2 rfl) ?_
  refine lv_ldc (v := (1073741824)) hx hb hown (hW _ qm_37) qd_X_grew_11 ?_
  refine tq_ti (y := nI 1073741824) (by decide +kernel) ?_
  refine tq_icmp_le (x := j) (y := 1073741824) (tgt := 18) hx hb qd_X_grew_13 (by decide) (by omega) (by omega) (fun c9 => ?_) (fun c9 => by omega)
  refine lv_aload_n hx hb qd_X_grew_18 rfl (lv_at hl 0 rfl) ?_
  refine va_get (D := (dC, dI)) (ci := 0) (v := .int (nI k)) (C := RX0) (T := TX0) (N := 4) hx hb hW inX0 hown hK hP 0 rfl rfl 3 (by decide) (hW _ qm_22) (fun _ h9 => h9) rfl qd_X_grew_19 ?_
  refine lv_iload_n hx hb qd_X_grew_22 rfl (lv_at hl 1 rfl) ?_
  refine lv_iload_n hx hb qd_X_grew_23 rfl (lv_at hl 2 rfl) ?_
  refine vp_callSi (W.runS (As := [.int (nI i), .int (nI j)]) (rest := [.int (nI k)]) ⟨hx, hb, hml, hown, hW⟩ (ct_X_stepsLength l i j (by omega) (by omega) (by omega)) (cwS 2 hW (tq_gS qm_63 qm_64 qm_1 qm_65) rfl rfl rfl (by decide +kernel) ⟨Nat.le_of_ble_eq_true rfl, Nat.le_of_ble_eq_true rfl⟩) ⟨tq_b0, fun U hU hW9 => ⟨rfl, trivial⟩⟩ rfl rfl hl.1 rfl (lv_room (Nat.le_of_ble_eq_true rfl)) qd_X_grew_24 ⟨Nat.le_of_ble_eq_true rfl, Nat.le_of_ble_eq_true rfl⟩) (fun r9 e9 => ?_)
  subst e9
  refine tq_icmp_eq (x := k) (y := (tq_sl true i j)) (tgt := 32) hx hb qd_X_grew_27 (by decide) (by omega) (by omega) (fun c9 => ?_) (fun c9 => ?_)
  · refine lv_aload_n hx hb qd_X_grew_32 rfl (lv_at hl 0 rfl) ?_
    refine va_get (D := (dC, dI)) (ci := 0) (v := .ref b) (C := RX0) (T := TX0) (N := 4) hx hb hW inX0 hown hK hP 0 rfl rfl 2 (by decide) (hW _ qm_21) (fun _ h9 => h9) rfl qd_X_grew_33 ?_
    refine lv_aload_n hx hb qd_X_grew_36 rfl (lv_at hl 0 rfl) ?_
    refine va_get (D := (dC, dI)) (ci := 0) (v := .int (nI k)) (C := RX0) (T := TX0) (N := 4) hx hb hW inX0 hown hK hP 0 rfl rfl 3 (by decide) (hW _ qm_22) (fun _ h9 => h9) rfl qd_X_grew_37 ?_
    refine tq_ti (y := nI (tq_sl true i j)) (by rw [c9]) ?_
    refine lv_iload_n hx hb qd_X_grew_40 rfl (lv_at hl 1 rfl) ?_
    refine lv_iload_n hx hb qd_X_grew_41 rfl (lv_at hl 2 rfl) ?_
    refine lv_lload_n hx hb qd_X_grew_42 rfl (lv_at hl 3 rfl) ?_
    refine vp_callSl (W.runS (As := [.ref b, .int (nI (tq_sl true i j)), .int (nI i), .int (nI j), .long v]) (rest := []) ⟨hx, hb, hml, hown, hW⟩ (ct_X_oldHeadBySteps l dC dI b cA g v 30 true i j h0 h1 h2 (by omega)) (cwS 5 hW (tq_gS qm_66 qm_67 qm_1 qm_68) rfl rfl rfl (by decide +kernel) ⟨Nat.le_of_ble_eq_true rfl, Nat.le_of_ble_eq_true rfl⟩) ⟨tq_b1, fun U hU hW9 => ⟨rfl, by rw [hU]; exact hP.sub [2] rfl, va_K.moved hW9.alike (hK.sub [0] rfl)⟩⟩ rfl rfl hl.1 rfl (lv_room (Nat.le_of_ble_eq_true rfl)) qd_X_grew_43 ⟨Nat.le_of_ble_eq_true rfl, Nat.le_of_ble_eq_true rfl⟩) (fun r9 e9 => ?_)
    subst e9
    refine lv_lload_n hx hb qd_X_grew_46 rfl (lv_at hl 3 rfl) ?_
    refine tq_lc_ne (tgt := 75) hx hb qd_X_grew_47 qd_X_grew_48 (by decide) (fun c1 => ?_) (fun c1 => ?_)
    · refine lv_iconst (v := nI 0) hx hb qd_X_grew_75 (by decide +kernel) ?_
      exact W.zret hx hb hr (by decide) (fun t ht hW9 => ⟨_, rfl, by rw [decide_eq_false c1, Bool.false_and, Bool.and_false]; rfl, ht⟩) (fun _ h => nomatch h) qd_X_grew_76
    · refine lv_aload_n hx hb qd_X_grew_51 rfl (lv_at hl 0 rfl) ?_
      refine va_get (D := (dC, dI)) (ci := 0) (v := .ref b) (C := RX0) (T := TX0) (N := 4) hx hb hW inX0 hown hK hP 0 rfl rfl 2 (by decide) (hW _ qm_21) (fun _ h9 => h9) rfl qd_X_grew_52 ?_
      refine lv_aload_n hx hb qd_X_grew_55 rfl (lv_at hl 0 rfl) ?_
      refine va_get (D := (dC, dI)) (ci := 0) (v := .int (nI k)) (C := RX0) (T := TX0) (N := 4) hx hb hW inX0 hown hK hP 0 rfl rfl 3 (by decide) (hW _ qm_22) (fun _ h9 => h9) rfl qd_X_grew_56 ?_
      refine tq_ti (y := nI (tq_sl true i j)) (by rw [c9]) ?_
      refine lv_iload_n hx hb qd_X_grew_59 rfl (lv_at hl 1 rfl) ?_
      refine lv_iload_n hx hb qd_X_grew_60 rfl (lv_at hl 2 rfl) ?_
      refine lv_lload_n hx hb qd_X_grew_61 rfl (lv_at hl 3 rfl) ?_
      refine vp_callSl (W.runS (As := [.ref b, .int (nI (tq_sl true i j)), .int (nI i), .int (nI j), .long v]) (rest := []) ⟨hx, hb, hml, hown, hW⟩ (ct_X_newHeadBySteps l dC dI b cA g v 30 true i j h0 h1 h2 (by omega)) (cwS 5 hW (tq_gS qm_69 qm_70 qm_1 qm_71) rfl rfl rfl (by decide +kernel) ⟨Nat.le_of_ble_eq_true rfl, Nat.le_of_ble_eq_true rfl⟩) ⟨tq_b1, fun U hU hW9 => ⟨rfl, by rw [hU]; exact hP.sub [2] rfl, va_K.moved hW9.alike (hK.sub [0] rfl)⟩⟩ rfl rfl hl.1 rfl (lv_room (Nat.le_of_ble_eq_true rfl)) qd_X_grew_62 ⟨Nat.le_of_ble_eq_true rfl, Nat.le_of_ble_eq_true rfl⟩) (fun r9 e9 => ?_)
      subst e9
      refine lv_lload hx hb qd_X_grew_65 (lv_at hl 4 rfl) ?_
      refine tq_lc_ne (tgt := 75) hx hb qd_X_grew_67 qd_X_grew_68 (by decide) (fun c2 => ?_) (fun c2 => ?_)
      · refine lv_iconst (v := nI 0) hx hb qd_X_grew_75 (by decide +kernel) ?_
        exact W.zret hx hb hr (by decide) (fun t ht hW9 => ⟨_, rfl, by rw [decide_eq_false c2, Bool.and_false, Bool.and_false]; rfl, ht⟩) (fun _ h => nomatch h) qd_X_grew_76
      · refine lv_iconst (v := nI 1) hx hb qd_X_grew_71 (by decide +kernel) ?_
        refine lv_goto (tgt := 76) hx hb qd_X_grew_72 (by decide) ?_
        exact W.zret hx hb hr (by decide) (fun t ht hW9 => ⟨_, rfl, by rw [decide_eq_true c1, decide_eq_true c2, decide_eq_true c9]; rfl, ht⟩) (fun _ h => nomatch h) qd_X_grew_76
  · refine lv_iconst (v := nI 0) hx hb qd_X_grew_30 (by decide +kernel) ?_
    exact W.zret hx hb hr (by decide) (fun t ht hW9 => ⟨_, rfl, by rw [decide_eq_false c9]; rfl, ht⟩) (fun _ h => nomatch h) qd_X_grew_31
def tq_c1 (i : Int32) : Int32 := i - ((i.toUInt32 >>> ((nI 1).toUInt32 &&& Int32.toUInt32 31)).toInt32 &&& nI 1431655765)
def tq_c2 (i : Int32) : Int32 := (i &&& nI 858993459) + ((i.toUInt32 >>> ((nI 2).toUInt32 &&& Int32.toUInt32 31)).toInt32 &&& nI 858993459)
def tq_c3 (i : Int32) : Int32 := (i + (i.toUInt32 >>> ((nI 4).toUInt32 &&& Int32.toUInt32 31)).toInt32) &&& nI 252645135
def tq_c4 (i : Int32) : Int32 := i + (i.toUInt32 >>> ((nI 8).toUInt32 &&& Int32.toUInt32 31)).toInt32
def tq_c5 (i : Int32) : Int32 := i + (i.toUInt32 >>> ((nI 16).toUInt32 &&& Int32.toUInt32 31)).toInt32
def tq_bc (i : Int32) : Int32 := tq_c5 (tq_c4 (tq_c3 (tq_c2 (tq_c1 i)))) &&& nI 63
set_option maxRecDepth 100000 in
theorem tq_bc_ok : ∀ n, n < 601 → tq_bc (nI n) = nI (tq_pop n) := by decide +kernel
set_option maxHeartbeats 4000000 in
set_option maxRecDepth 100000 in
/-- Integer.bitCount -/
theorem ct_J_bitCount (l : Launch) (n : Nat) (hn : n ≤ 600) : Met l qy_J_bitCount qw_J_bitCount ({ frames := 0, cells := 0, slots := 0, locals := 0 }) (va_Pc [.int (nI n)] (fun _ => True)) (vp_Si (fun r => r = nI (tq_pop n))) 0 0 (fun _ => False) := by
  refine Met.ofW (cc := qc_J_bitCount) (maxL := 1) (ret := (some .int)) (by decide) rfl ?_
  intro p e s m args below meth c s₁ B hml hv
  obtain ⟨rfl, -⟩ := hv
  have hx := B.exec
  have hb := B.bytes
  have hr := B.returns
  have hts := atoms_spec (ws := qw_J_bitCount) B.pre
  have hW : ∀ w ∈ tq_W, w.before ([.int (nI n)] : List Value).toArray s = true := fun w h => hts w (List.mem_cons_of_mem _ h)
  have hown : s.vm.findClass RJ = some m.cls := findClass_of_methodNamed B.named
  have hlocks := B.notSynchronized
  have hl := lv_entry ([.int (nI n)]) (n := 1) (Nat.le_of_ble_eq_true rfl)
  rw [lg_entry_eq]
  generalize (lg_sl ([.int (nI n)]) ++ List.replicate (1 - (lg_sl ([.int (nI n)])).length) Slot.unset).toArray = ls at hl ⊢
  have hl : lv_has ls 1 [(0, .int (nI n))] := hl
  refine lv_iload_n hx hb qd_J_bitCount_0 rfl (lv_at hl 0 rfl) ?_
  refine lv_iload_n hx hb qd_J_bitCount_1 rfl (lv_at hl 0 rfl) ?_
  refine lv_iconst (v := nI 1) hx hb qd_J_bitCount_2 (by decide +kernel) ?_
  refine lv_iushr (v := ((nI n).toUInt32 >>> ((nI 1).toUInt32 &&& Int32.toUInt32 31)).toInt32) hx hb qd_J_bitCount_3 rfl ?_
  refine lv_ldcw (v := (1431655765)) hx hb hown (hW _ qm_79) qd_J_bitCount_4 ?_
  refine tq_ti (y := nI 1431655765) (by decide +kernel) ?_
  refine lv_iand hx hb qd_J_bitCount_7 ?_
  refine lv_isub hx hb qd_J_bitCount_8 ?_
  refine tq_ti (y := tq_c1 (nI n)) (rfl) ?_
  refine lv_istore_n (lv' := [(0, .int (tq_c1 (nI n)))]) hx hb qd_J_bitCount_9 rfl hl (by decide) rfl (fun ls hl => ?_)
  refine lv_iload_n hx hb qd_J_bitCount_10 rfl (lv_at hl 0 rfl) ?_
  refine lv_ldcw (v := (858993459)) hx hb hown (hW _ qm_80) qd_J_bitCount_11 ?_
  refine tq_ti (y := nI 858993459) (by decide +kernel) ?_
  refine lv_iand hx hb qd_J_bitCount_14 ?_
  refine lv_iload_n hx hb qd_J_bitCount_15 rfl (lv_at hl 0 rfl) ?_
  refine lv_iconst (v := nI 2) hx hb qd_J_bitCount_16 (by decide +kernel) ?_
  refine lv_iushr (v := ((tq_c1 (nI n)).toUInt32 >>> ((nI 2).toUInt32 &&& Int32.toUInt32 31)).toInt32) hx hb qd_J_bitCount_17 rfl ?_
  refine lv_ldcw (v := (858993459)) hx hb hown (hW _ qm_80) qd_J_bitCount_18 ?_
  refine tq_ti (y := nI 858993459) (by decide +kernel) ?_
  refine lv_iand hx hb qd_J_bitCount_21 ?_
  refine lv_iadd hx hb qd_J_bitCount_22 ?_
  refine tq_ti (y := tq_c2 (tq_c1 (nI n))) (rfl) ?_
  refine lv_istore_n (lv' := [(0, .int (tq_c2 (tq_c1 (nI n))))]) hx hb qd_J_bitCount_23 rfl hl (by decide) rfl (fun ls hl => ?_)
  refine lv_iload_n hx hb qd_J_bitCount_24 rfl (lv_at hl 0 rfl) ?_
  refine lv_iload_n hx hb qd_J_bitCount_25 rfl (lv_at hl 0 rfl) ?_
  refine lv_iconst (v := nI 4) hx hb qd_J_bitCount_26 (by decide +kernel) ?_
  refine lv_iushr (v := ((tq_c2 (tq_c1 (nI n))).toUInt32 >>> ((nI 4).toUInt32 &&& Int32.toUInt32 31)).toInt32) hx hb qd_J_bitCount_27 rfl ?_
  refine lv_iadd hx hb qd_J_bitCount_28 ?_
  refine lv_ldcw (v := (252645135)) hx hb hown (hW _ qm_81) qd_J_bitCount_29 ?_
  refine tq_ti (y := nI 252645135) (by decide +kernel) ?_
  refine lv_iand hx hb qd_J_bitCount_32 ?_
  refine tq_ti (y := tq_c3 (tq_c2 (tq_c1 (nI n)))) (rfl) ?_
  refine lv_istore_n (lv' := [(0, .int (tq_c3 (tq_c2 (tq_c1 (nI n)))))]) hx hb qd_J_bitCount_33 rfl hl (by decide) rfl (fun ls hl => ?_)
  refine lv_iload_n hx hb qd_J_bitCount_34 rfl (lv_at hl 0 rfl) ?_
  refine lv_iload_n hx hb qd_J_bitCount_35 rfl (lv_at hl 0 rfl) ?_
  refine lv_bipush (v := nI 8) hx hb qd_J_bitCount_36 (by decide +kernel) ?_
  refine lv_iushr (v := ((tq_c3 (tq_c2 (tq_c1 (nI n)))).toUInt32 >>> ((nI 8).toUInt32 &&& Int32.toUInt32 31)).toInt32) hx hb qd_J_bitCount_38 rfl ?_
  refine lv_iadd hx hb qd_J_bitCount_39 ?_
  refine tq_ti (y := tq_c4 (tq_c3 (tq_c2 (tq_c1 (nI n))))) (rfl) ?_
  refine lv_istore_n (lv' := [(0, .int (tq_c4 (tq_c3 (tq_c2 (tq_c1 (nI n))))))]) hx hb qd_J_bitCount_40 rfl hl (by decide) rfl (fun ls hl => ?_)
  refine lv_iload_n hx hb qd_J_bitCount_41 rfl (lv_at hl 0 rfl) ?_
  refine lv_iload_n hx hb qd_J_bitCount_42 rfl (lv_at hl 0 rfl) ?_
  refine lv_bipush (v := nI 16) hx hb qd_J_bitCount_43 (by decide +kernel) ?_
  refine lv_iushr (v := ((tq_c4 (tq_c3 (tq_c2 (tq_c1 (nI n))))).toUInt32 >>> ((nI 16).toUInt32 &&& Int32.toUInt32 31)).toInt32) hx hb qd_J_bitCount_45 rfl ?_
  refine lv_iadd hx hb qd_J_bitCount_46 ?_
  refine tq_ti (y := tq_c5 (tq_c4 (tq_c3 (tq_c2 (tq_c1 (nI n)))))) (rfl) ?_
  refine lv_istore_n (lv' := [(0, .int (tq_c5 (tq_c4 (tq_c3 (tq_c2 (tq_c1 (nI n)))))))]) hx hb qd_J_bitCount_47 rfl hl (by decide) rfl (fun ls hl => ?_)
  refine lv_iload_n hx hb qd_J_bitCount_48 rfl (lv_at hl 0 rfl) ?_
  refine lv_bipush (v := nI 63) hx hb qd_J_bitCount_49 (by decide +kernel) ?_
  refine lv_iand hx hb qd_J_bitCount_51 ?_
  refine tq_ti (y := tq_bc (nI n)) (rfl) ?_
  exact W.iret hx hb hr (fun t ht hW9 => ⟨_, rfl, tq_bc_ok n (by omega), ht⟩) (fun _ h => nomatch h) qd_J_bitCount_52
def tq_ct (n k : Nat) (w : Int32) : Int32 := if w = 0 then nI n else if w = 1 then nI k else if w = 2 then nI (tq_pop n) else -1
set_option maxHeartbeats 4000000 in
set_option maxRecDepth 100000 in
/-- count -/
theorem ct_X_count (l : Launch) (dC : Nat → ClassId) (dI : Nat → Nat → Nat) (x a b : Nat) (cA : ClassId) (n k : Nat) (f g : Nat → Int64) (q : Int32) (hn : n ≤ 600) : Met l qy_X_count qw_X_count ({ frames := 1, cells := 0, slots := 0, locals := 40 }) (va_Pc [.ref x, .int q] (tq_ro (dC, dI) tq_cl [(x, .inr (0, [.ref a, .int (nI n), .ref b, .int (nI k)])), (a, .inl (cA, (600, .inr (.inl f)))), (b, .inl (cA, (40, .inr (.inl g))))] [(cA, .long)])) (vp_Si (fun r => r = tq_ct n k q)) 0 0 (fun _ => False) := by
  refine Met.ofW (cc := qc_X_count) (maxL := 2) (ret := (some .int)) (by decide) rfl ?_
  intro p e s m args below meth c s₁ B hml hv
  obtain ⟨rfl, hP, hK⟩ := hv
  have hx := B.exec
  have hb := B.bytes
  have hr := B.returns
  have hts := atoms_spec (ws := qw_X_count) B.pre
  have hW : ∀ w ∈ tq_W, w.before ([.ref x, .int q] : List Value).toArray s = true := fun w h => hts w (List.mem_cons_of_mem _ h)
  have hown : s.vm.findClass RX0 = some m.cls := findClass_of_methodNamed B.named
  have hlocks := B.notSynchronized
  have hl := lv_entry ([.ref x, .int q]) (n := 2) (Nat.le_of_ble_eq_true rfl)
  rw [lg_entry_eq]
  generalize (lg_sl ([.ref x, .int q]) ++ List.replicate (2 - (lg_sl ([.ref x, .int q])).length) Slot.unset).toArray = ls at hl ⊢
  have hl : lv_has ls 2 [(0, .ref x), (1, .int q)] := hl
  refine lv_iload_n hx hb qd_X_count_0 rfl (lv_at hl 1 rfl) ?_
  by_cases c0 : q = 0
  · subst c0
    refine lv_tableIn (off := 27) (tgt := 28) hx hb qd_X_count_1 (by decide) (by decide) rfl (by decide) ?_
    refine lv_aload_n hx hb qd_X_count_28 rfl (lv_at hl 0 rfl) ?_
    refine va_get (D := (dC, dI)) (ci := 0) (v := .int (nI n)) (C := RX0) (T := TX0) (N := 4) hx hb hW inX0 hown hK hP 0 rfl rfl 1 (by decide) (hW _ qm_20) (fun _ h9 => h9) rfl qd_X_count_29 ?_
    exact W.iret hx hb hr (fun t ht hW9 => ⟨_, rfl, rfl, ht⟩) (fun _ h => nomatch h) qd_X_count_32
  by_cases c1 : q = 1
  · subst c1
    refine lv_tableIn (off := 32) (tgt := 33) hx hb qd_X_count_1 (by decide) (by decide) rfl (by decide) ?_
    refine lv_aload_n hx hb qd_X_count_33 rfl (lv_at hl 0 rfl) ?_
    refine va_get (D := (dC, dI)) (ci := 0) (v := .int (nI k)) (C := RX0) (T := TX0) (N := 4) hx hb hW inX0 hown hK hP 0 rfl rfl 3 (by decide) (hW _ qm_22) (fun _ h9 => h9) rfl qd_X_count_34 ?_
    exact W.iret hx hb hr (fun t ht hW9 => ⟨_, rfl, rfl, ht⟩) (fun _ h => nomatch h) qd_X_count_37
  by_cases c2 : q = 2
  · subst c2
    refine lv_tableIn (off := 37) (tgt := 38) hx hb qd_X_count_1 (by decide) (by decide) rfl (by decide) ?_
    refine lv_aload_n hx hb qd_X_count_38 rfl (lv_at hl 0 rfl) ?_
    refine va_get (D := (dC, dI)) (ci := 0) (v := .int (nI n)) (C := RX0) (T := TX0) (N := 4) hx hb hW inX0 hown hK hP 0 rfl rfl 1 (by decide) (hW _ qm_20) (fun _ h9 => h9) rfl qd_X_count_39 ?_
    refine vp_callSi (W.runS (As := [.int (nI n)]) (rest := []) ⟨hx, hb, hml, hown, hW⟩ (ct_J_bitCount l n (by omega)) (va_cwS 1 hW (tq_gSa qm_76 qm_77 qm_10 qm_78) rfl rfl rfl (by decide +kernel) ⟨Nat.le_of_ble_eq_true rfl, Nat.le_of_ble_eq_true rfl⟩) ⟨tq_b0, fun U hU hW9 => ⟨rfl, trivial⟩⟩ rfl rfl hl.1 rfl (lv_room (Nat.le_of_ble_eq_true rfl)) qd_X_count_42 ⟨Nat.le_of_ble_eq_true rfl, Nat.le_of_ble_eq_true rfl⟩) (fun r9 e9 => ?_)
    subst e9
    exact W.iret hx hb hr (fun t ht hW9 => ⟨_, rfl, rfl, ht⟩) (fun _ h => nomatch h) qd_X_count_45
  refine lv_tableOut (tgt := 46) hx hb qd_X_count_1 (by have h0 := lv_neT c0 (a := 0) (by decide); have h1 := lv_neT c1 (a := 1) (by decide); have h2 := lv_neT c2 (a := 2) (by decide); omega) (by decide) ?_
  refine lv_iconst (v := (-1)) hx hb qd_X_count_46 (by decide +kernel) ?_
  exact W.iret hx hb hr (fun t ht hW9 => ⟨_, rfl, by unfold tq_ct; rw [if_neg c0, if_neg c1, if_neg c2], ht⟩) (fun _ h => nomatch h) qd_X_count_47
end
section
def tq_rw (D : va_G) (ws : va_W) (tys : List (ClassId × FieldType)) (sz : Nat) (U : State) : Prop := U.heap.size = sz ∧ va_P D tq_cl ws U.heap ∧ va_K D tq_cl tys U ∧ va_D (fun _ => True) ws
abbrev tq_in (D : va_G) (ws : va_W) (tys : List (ClassId × FieldType)) (A : Nat → Prop) (t : State) : Prop := va_P D tq_cl ws t.heap ∧ va_K D tq_cl tys t ∧ va_D A ws
theorem tq_b2 {av : List Value} {D : va_G} {ws : va_W} {tys : List (ClassId × FieldType)} {sz : Nat} : FrameBlind (va_Pc av (tq_rw D ws tys sz)) := fun a U g mk q => ⟨q.1, q.2.1, q.2.2.1, va_K.moved (u := U) (U := U.calling g mk a) (Vm.Alike.refl U.vm) q.2.2.2.1, q.2.2.2.2⟩
theorem tq_oneA {D : va_G} {cl : List vw_C} {tys : List (ClassId × FieldType)} {U : State} {c1 c2 : ClassId} (h : va_K D cl tys U) (i j : Nat) (hi : tys[i]? = some (c1, .long)) (hj : tys[j]? = some (c2, .long)) : c1 = c2 := by
  have h1 : U.vm.findClass ("[" ++ FieldType.long.toString) = some c1 := (h.2 i _ hi).2
  have h2 : U.vm.findClass ("[" ++ FieldType.long.toString) = some c2 := (h.2 j _ hj).2
  exact Option.some.inj (h1.symm.trans h2)
def tq_pd (t : Nat) : Int32 := nI t + (-1)
theorem tq_pd_0 : tq_pd 0 < 0 := by decide +kernel
theorem tq_pd_s (t : Nat) : tq_pd (t + 1) = nI t := pk_m1 t
theorem tq_pd_1 (t : Nat) : nI t - nI 1 = tq_pd t := by
  unfold tq_pd
  rw [Int32.sub_eq_add_neg]
  rfl
theorem tq_pd_i (t : Nat) : nI t + Int32.ofInt (-1) = tq_pd t := rfl
set_option maxHeartbeats 4000000 in
set_option maxRecDepth 100000 in
/-- LogTree() -/
theorem ct_X_init (l : Launch) (dC : Nat → ClassId) (dI : Nat → Nat → Nat) (x : Nat) (sz : Nat)  : Met l qy_X_init qw_X_init ({ frames := 1, cells := 2, slots := 640, locals := 12 }) (va_Pc [.ref x] (tq_rw (dC, dI) [(x, .inr (0, [.null, .int 0, .null, .int 0]))] [] sz)) (va_Qv (fun _ : Nat × Nat × ClassId => True) (fun u t => tq_in (dC, dI) [(x, .inr (0, [.ref u.1, .int (nI 0), .ref u.2.1, .int (nI 0)])), (u.1, .inl (u.2.2, (600, .inr (.inl (fun _ => 0))))), (u.2.1, .inl (u.2.2, (40, .inr (.inl (fun _ => 0)))))] [(u.2.2, .long)] (va_A [(x, .inr (0, [.null, .int 0, .null, .int 0]))] sz) t) (va_A [(x, .inr (0, [.null, .int 0, .null, .int 0]))] sz)) 2 640 (va_A [(x, .inr (0, [.null, .int 0, .null, .int 0]))] sz) := by
  refine Met.ofW (cc := qc_X_init) (maxL := 1) (ret := none) (by decide) rfl ?_
  intro p e s m args below meth c s₁ B hml hv
  obtain ⟨rfl, hsz, hP, hK, hD0⟩ := hv
  have hx := B.exec
  have hb := B.bytes
  have hr := B.returns
  have hts := atoms_spec (ws := qw_X_init) B.pre
  have hW : ∀ w ∈ tq_W, w.before ([.ref x] : List Value).toArray s = true := fun w h => hts w (List.mem_cons_of_mem _ h)
  have hown : s.vm.findClass RX0 = some m.cls := findClass_of_methodNamed B.named
  have hlocks := B.notSynchronized
  have hl := lv_entry ([.ref x]) (n := 1) (Nat.le_of_ble_eq_true rfl)
  rw [lg_entry_eq]
  generalize (lg_sl ([.ref x]) ++ List.replicate (1 - (lg_sl ([.ref x])).length) Slot.unset).toArray = ls at hl ⊢
  have hl : lv_has ls 1 [(0, .ref x)] := hl
  subst hsz
  have hD := hD0.self (sz := s.heap.size)
  generalize hAe : va_A [(x, .inr (0, [.null, .int 0, .null, .int 0]))] s.heap.size = A at hD ⊢
  have hA : ∀ q : Nat, s.heap.size ≤ q → A q := fun q h => by rw [← hAe]; exact Or.inr h
  have hS : va_S A s.heap s.heap [] := va_S.rf
  have hin : meth.name = "<init>" := (name_of_methodNamed B.named B.method).1
  refine lv_aload_n hx hb qd_X_init_0 rfl (lv_at hl 0 rfl) ?_
  refine W.objInit hx hb hown (hW _ qm_16) (hW _ qm_17) (hW _ qm_18) rfl (by rw [hml]; exact hl.1) rfl qd_X_init_1 (Nat.le_of_ble_eq_true rfl) (Nat.le_of_ble_eq_true rfl) ?_
  refine W.eq (g2 := F0 m 4 ls []) rfl ?_
  refine lv_aload_n hx hb qd_X_init_4 rfl (lv_at hl 0 rfl) ?_
  refine lv_sipush (v := nI 600) hx hb qd_X_init_5 (by decide +kernel) ?_
  refine va_newa (atype := .long) (N' := 600) (a0 := (600, .inr (.inl (fun _ => 0)))) (ty := .long) (n := nI 600) hx hb (hW _ qm_32) rfl hK hP hD hS hA (fun _ => rfl) (by decide +kernel) (by decide +kernel) (by decide +kernel) (Nat.le_of_ble_eq_true rfl) (Nat.le_of_ble_eq_true rfl) qd_X_init_8 (fun qa cqa H hK hP hD hS => ?_)
  have hP : va_P (dC, dI) tq_cl [(x, .inr (0, [.null, .int 0, .null, .int 0])), (qa, .inl (cqa, (600, .inr (.inl (fun _ => 0)))))] H := hP
  have hD : va_D A [(x, .inr (0, [.null, .int 0, .null, .int 0])), (qa, .inl (cqa, (600, .inr (.inl (fun _ => 0)))))] := hD
  have hK : va_K (dC, dI) tq_cl [(cqa, .long)] s := hK
  refine W.widen (k := 1) (n := 600) (by omega) (by omega) ?_
  refine va_putF (D := (dC, dI)) (ci := 0) (v := .ref qa) (ty := .array .long) (C := RX0) (T := TX0) (N := 4) hx hb hW inX0 tyX0 tyX0_ok nmX0 hown hK hP hD hS 0 rfl rfl 0 (by decide) (hW _ qm_19) (fun _ h9 => h9) rfl hin rfl (by decide +kernel) rfl rfl (Nat.le_of_ble_eq_true rfl) qd_X_init_10 (fun H locs hP hD hS => ?_)
  have hP : va_P (dC, dI) tq_cl [(x, .inr (0, [.ref qa, .int 0, .null, .int 0])), (qa, .inl (cqa, (600, .inr (.inl (fun _ => 0)))))] H := hP
  have hD : va_D A [(x, .inr (0, [.ref qa, .int 0, .null, .int 0])), (qa, .inl (cqa, (600, .inr (.inl (fun _ => 0)))))] := hD
  refine lv_aload_n hx hb qd_X_init_13 rfl (lv_at hl 0 rfl) ?_
  refine lv_iconst (v := nI 0) hx hb qd_X_init_14 (by decide +kernel) ?_
  refine va_put (D := (dC, dI)) (ci := 0) (v := .int (nI 0)) (ty := .int) (C := RX0) (T := TX0) (N := 4) hx hb hW inX0 tyX0 tyX0_ok nmX0 hown hK hP hD hS 0 rfl rfl 1 (by decide) (hW _ qm_20) (fun _ h9 => h9) rfl (by decide +kernel) rfl rfl (Nat.le_of_ble_eq_true rfl) qd_X_init_15 (fun H locs hP hD hS => ?_)
  have hP : va_P (dC, dI) tq_cl [(x, .inr (0, [.ref qa, .int (nI 0), .null, .int 0])), (qa, .inl (cqa, (600, .inr (.inl (fun _ => 0)))))] H := hP
  have hD : va_D A [(x, .inr (0, [.ref qa, .int (nI 0), .null, .int 0])), (qa, .inl (cqa, (600, .inr (.inl (fun _ => 0)))))] := hD
  refine lv_aload_n hx hb qd_X_init_18 rfl (lv_at hl 0 rfl) ?_
  refine lv_bipush (v := nI 40) hx hb qd_X_init_19 (by decide +kernel) ?_
  refine va_newa (atype := .long) (N' := 40) (a0 := (40, .inr (.inl (fun _ => 0)))) (ty := .long) (n := nI 40) hx hb (hW _ qm_32) rfl hK hP hD hS hA (fun _ => rfl) (by decide +kernel) (by decide +kernel) (by decide +kernel) (Nat.le_of_ble_eq_true rfl) (Nat.le_of_ble_eq_true rfl) qd_X_init_21 (fun qb cqb H hK hP hD hS => ?_)
  have hP : va_P (dC, dI) tq_cl [(x, .inr (0, [.ref qa, .int (nI 0), .null, .int 0])), (qa, .inl (cqa, (600, .inr (.inl (fun _ => 0))))), (qb, .inl (cqb, (40, .inr (.inl (fun _ => 0)))))] H := hP
  have hD : va_D A [(x, .inr (0, [.ref qa, .int (nI 0), .null, .int 0])), (qa, .inl (cqa, (600, .inr (.inl (fun _ => 0))))), (qb, .inl (cqb, (40, .inr (.inl (fun _ => 0)))))] := hD
  have hK : va_K (dC, dI) tq_cl [(cqa, .long), (cqb, .long)] s := hK
  refine W.widen (k := 2) (n := 640) (by omega) (by omega) ?_
  refine va_putF (D := (dC, dI)) (ci := 0) (v := .ref qb) (ty := .array .long) (C := RX0) (T := TX0) (N := 4) hx hb hW inX0 tyX0 tyX0_ok nmX0 hown hK hP hD hS 0 rfl rfl 2 (by decide) (hW _ qm_21) (fun _ h9 => h9) rfl hin rfl (by decide +kernel) rfl rfl (Nat.le_of_ble_eq_true rfl) qd_X_init_23 (fun H locs hP hD hS => ?_)
  have hP : va_P (dC, dI) tq_cl [(x, .inr (0, [.ref qa, .int (nI 0), .ref qb, .int 0])), (qa, .inl (cqa, (600, .inr (.inl (fun _ => 0))))), (qb, .inl (cqb, (40, .inr (.inl (fun _ => 0)))))] H := hP
  have hD : va_D A [(x, .inr (0, [.ref qa, .int (nI 0), .ref qb, .int 0])), (qa, .inl (cqa, (600, .inr (.inl (fun _ => 0))))), (qb, .inl (cqb, (40, .inr (.inl (fun _ => 0)))))] := hD
  refine lv_aload_n hx hb qd_X_init_26 rfl (lv_at hl 0 rfl) ?_
  refine lv_iconst (v := nI 0) hx hb qd_X_init_27 (by decide +kernel) ?_
  refine va_put (D := (dC, dI)) (ci := 0) (v := .int (nI 0)) (ty := .int) (C := RX0) (T := TX0) (N := 4) hx hb hW inX0 tyX0 tyX0_ok nmX0 hown hK hP hD hS 0 rfl rfl 3 (by decide) (hW _ qm_22) (fun _ h9 => h9) rfl (by decide +kernel) rfl rfl (Nat.le_of_ble_eq_true rfl) qd_X_init_28 (fun H locs hP hD hS => ?_)
  have hP : va_P (dC, dI) tq_cl [(x, .inr (0, [.ref qa, .int (nI 0), .ref qb, .int (nI 0)])), (qa, .inl (cqa, (600, .inr (.inl (fun _ => 0))))), (qb, .inl (cqb, (40, .inr (.inl (fun _ => 0)))))] H := hP
  have hD : va_D A [(x, .inr (0, [.ref qa, .int (nI 0), .ref qb, .int (nI 0)])), (qa, .inl (cqa, (600, .inr (.inl (fun _ => 0))))), (qb, .inl (cqb, (40, .inr (.inl (fun _ => 0)))))] := hD
  obtain rfl := tq_oneA hK 0 1 rfl rfl
  have hK := hK.sub (tys' := [(cqa, .long)]) [0] rfl
  exact W.vret hx hb hr (fun t ht hW9 => ⟨⟨(qa, qb, cqa), rfl, trivial, by rw [ht]; exact hP, va_K.moved hW9.alike hK, hD⟩, hS.F ht⟩) hS.2.2 qd_X_init_31
set_option maxHeartbeats 4000000 in
set_option maxRecDepth 100000 in
/-- add -/
theorem ct_X_add (l : Launch) (dC : Nat → ClassId) (dI : Nat → Nat → Nat) (x a b : Nat) (cA : ClassId) (n k : Nat) (f g : Nat → Int64) (sz : Nat) (v : Int64) (hn : n < 600) : Met l qy_X_add qw_X_add ({ frames := 2, cells := 0, slots := 0, locals := 60 }) (va_Pc [.ref x, .long v] (tq_rw (dC, dI) [(x, .inr (0, [.ref a, .int (nI n), .ref b, .int (nI k)])), (a, .inl (cA, (600, .inr (.inl f)))), (b, .inl (cA, (40, .inr (.inl g))))] [(cA, .long)] sz)) (va_Qi (fun r (_ : Unit) => r = nI (n + 1)) (fun _ t => tq_in (dC, dI) [(x, .inr (0, [.ref a, .int (nI (n + 1)), .ref b, .int (nI k)])), (a, .inl (cA, (600, .inr (.inl ((vp_updL f n (tq_leaf v))))))), (b, .inl (cA, (40, .inr (.inl g))))] [(cA, .long)] (va_A [(x, .inr (0, [.ref a, .int (nI n), .ref b, .int (nI k)])), (a, .inl (cA, (600, .inr (.inl f)))), (b, .inl (cA, (40, .inr (.inl g))))] sz) t) (va_A [(x, .inr (0, [.ref a, .int (nI n), .ref b, .int (nI k)])), (a, .inl (cA, (600, .inr (.inl f)))), (b, .inl (cA, (40, .inr (.inl g))))] sz)) 0 0 (va_A [(x, .inr (0, [.ref a, .int (nI n), .ref b, .int (nI k)])), (a, .inl (cA, (600, .inr (.inl f)))), (b, .inl (cA, (40, .inr (.inl g))))] sz) := by
  refine Met.ofW (cc := qc_X_add) (maxL := 3) (ret := (some .int)) (by decide) rfl ?_
  intro p e s m args below meth c s₁ B hml hv
  obtain ⟨rfl, hsz, hP, hK, hD0⟩ := hv
  have hx := B.exec
  have hb := B.bytes
  have hr := B.returns
  have hts := atoms_spec (ws := qw_X_add) B.pre
  have hW : ∀ w ∈ tq_W, w.before ([.ref x, .long v] : List Value).toArray s = true := fun w h => hts w (List.mem_cons_of_mem _ h)
  have hown : s.vm.findClass RX0 = some m.cls := findClass_of_methodNamed B.named
  have hlocks := B.notSynchronized
  have hl := lv_entry ([.ref x, .long v]) (n := 3) (Nat.le_of_ble_eq_true rfl)
  rw [lg_entry_eq]
  generalize (lg_sl ([.ref x, .long v]) ++ List.replicate (3 - (lg_sl ([.ref x, .long v])).length) Slot.unset).toArray = ls at hl ⊢
  have hl : lv_has ls 3 [(0, .ref x), (1, .long v)] := hl
  subst hsz
  have hD := hD0.self (sz := s.heap.size)
  generalize hAe : va_A [(x, .inr (0, [.ref a, .int (nI n), .ref b, .int (nI k)])), (a, .inl (cA, (600, .inr (.inl f)))), (b, .inl (cA, (40, .inr (.inl g))))] s.heap.size = A at hD ⊢
  have hA : ∀ q : Nat, s.heap.size ≤ q → A q := fun q h => by rw [← hAe]; exact Or.inr h
  have hS : va_S A s.heap s.heap [] := va_S.rf
  refine lv_aload_n hx hb qd_X_add_0 rfl (lv_at hl 0 rfl) ?_
  refine va_get (D := (dC, dI)) (ci := 0) (v := .int (nI n)) (C := RX0) (T := TX0) (N := 4) hx hb hW inX0 hown hK hP 0 rfl rfl 1 (by decide) (hW _ qm_20) (fun _ h9 => h9) rfl qd_X_add_1 ?_
  refine lv_sipush (v := nI 600) hx hb qd_X_add_4 (by decide +kernel) ?_
  refine tq_icmp_lt (x := n) (y := 600) (tgt := 18) hx hb qd_X_add_7 (by decide) (by omega) (by omega) (fun c9 => ?_) (fun c9 => by omega)
  refine lv_aload_n hx hb qd_X_add_18 rfl (lv_at hl 0 rfl) ?_
  refine va_get (D := (dC, dI)) (ci := 0) (v := .ref a) (C := RX0) (T := TX0) (N := 4) hx hb hW inX0 hown hK hP 0 rfl rfl 0 (by decide) (hW _ qm_19) (fun _ h9 => h9) rfl qd_X_add_19 ?_
  refine lv_aload_n hx hb qd_X_add_22 rfl (lv_at hl 0 rfl) ?_
  refine va_get (D := (dC, dI)) (ci := 0) (v := .int (nI n)) (C := RX0) (T := TX0) (N := 4) hx hb hW inX0 hown hK hP 0 rfl rfl 1 (by decide) (hW _ qm_20) (fun _ h9 => h9) rfl qd_X_add_23 ?_
  refine lv_lload_n hx hb qd_X_add_26 rfl (lv_at hl 1 rfl) ?_
  refine vp_callSl (W.runS (As := [.long v]) (rest := [.int (nI n), .ref a]) ⟨hx, hb, hml, hown, hW⟩ (ct_X_leafOf l v) (cwS 1 hW (tq_gS qm_44 qm_45 qm_1 qm_46) rfl rfl rfl (by decide +kernel) ⟨Nat.le_of_ble_eq_true rfl, Nat.le_of_ble_eq_true rfl⟩) ⟨tq_b0, fun U hU hW9 => ⟨rfl, trivial⟩⟩ rfl rfl hl.1 rfl (lv_room (Nat.le_of_ble_eq_true rfl)) qd_X_add_27 ⟨Nat.le_of_ble_eq_true rfl, Nat.le_of_ble_eq_true rfl⟩) (fun r9 e9 => ?_)
  subst e9
  refine tq_last hx hb hK hP hD hS 1 0 rfl rfl (j := n) (x := (tq_leaf v)) (by omega) (by decide) qd_X_add_30 (fun H locs hP hD hS => ?_)
  have hP : va_P (dC, dI) tq_cl [(x, .inr (0, [.ref a, .int (nI n), .ref b, .int (nI k)])), (a, .inl (cA, (600, .inr (.inl (vp_updL f n (tq_leaf v)))))), (b, .inl (cA, (40, .inr (.inl g))))] H := hP
  have hD : va_D A [(x, .inr (0, [.ref a, .int (nI n), .ref b, .int (nI k)])), (a, .inl (cA, (600, .inr (.inl (vp_updL f n (tq_leaf v)))))), (b, .inl (cA, (40, .inr (.inl g))))] := hD
  refine lv_aload_n hx hb qd_X_add_31 rfl (lv_at hl 0 rfl) ?_
  refine lv_dup hx hb qd_X_add_32 rfl ?_
  refine va_get (D := (dC, dI)) (ci := 0) (v := .int (nI n)) (C := RX0) (T := TX0) (N := 4) hx hb hW inX0 hown hK hP 0 rfl rfl 1 (by decide) (hW _ qm_20) (fun _ h9 => h9) rfl qd_X_add_33 ?_
  refine lv_iconst (v := nI 1) hx hb qd_X_add_36 (by decide +kernel) ?_
  refine lv_iadd hx hb qd_X_add_37 ?_
  refine tq_ti (y := nI (n + 1)) (nI_1 n) ?_
  refine va_put (D := (dC, dI)) (ci := 0) (v := .int (nI (n + 1))) (ty := .int) (C := RX0) (T := TX0) (N := 4) hx hb hW inX0 tyX0 tyX0_ok nmX0 hown hK hP hD hS 0 rfl rfl 1 (by decide) (hW _ qm_20) (fun _ h9 => h9) rfl (by decide +kernel) rfl rfl (Nat.le_of_ble_eq_true rfl) qd_X_add_38 (fun H locs hP hD hS => ?_)
  have hP : va_P (dC, dI) tq_cl [(x, .inr (0, [.ref a, .int (nI (n + 1)), .ref b, .int (nI k)])), (a, .inl (cA, (600, .inr (.inl (vp_updL f n (tq_leaf v)))))), (b, .inl (cA, (40, .inr (.inl g))))] H := hP
  have hD : va_D A [(x, .inr (0, [.ref a, .int (nI (n + 1)), .ref b, .int (nI k)])), (a, .inl (cA, (600, .inr (.inl (vp_updL f n (tq_leaf v)))))), (b, .inl (cA, (40, .inr (.inl g))))] := hD
  refine lv_aload_n hx hb qd_X_add_41 rfl (lv_at hl 0 rfl) ?_
  refine va_get (D := (dC, dI)) (ci := 0) (v := .int (nI (n + 1))) (C := RX0) (T := TX0) (N := 4) hx hb hW inX0 hown hK hP 0 rfl rfl 1 (by decide) (hW _ qm_20) (fun _ h9 => h9) rfl qd_X_add_42 ?_
  exact W.iret hx hb hr (fun t ht hW9 => ⟨⟨_, (), rfl, rfl, by rw [ht]; exact hP, va_K.moved hW9.alike hK, hD⟩, hS.F ht⟩) hS.2.2 qd_X_add_45
def tq_fv (v step : Int64) (i : Nat) : Int64 := v + (nI i).toInt64 * step
set_option maxHeartbeats 4000000 in
set_option maxRecDepth 100000 in
/-- fill -/
theorem ct_X_fill (l : Launch) (dC : Nat → ClassId) (dI : Nat → Nat → Nat) (x a b : Nat) (cA : ClassId) (n k : Nat) (f g : Nat → Int64) (sz : Nat) (j : Nat) (v step : Int64) (h1 : 1 ≤ j) (h2 : j ≤ 200) (hn : n + j ≤ 600) : Met l qy_X_fill qw_X_fill ({ frames := 2, cells := 0, slots := 0, locals := 60 }) (va_Pc [.ref x, .int (nI j), .long v, .long step] (tq_rw (dC, dI) [(x, .inr (0, [.ref a, .int (nI n), .ref b, .int (nI k)])), (a, .inl (cA, (600, .inr (.inl f)))), (b, .inl (cA, (40, .inr (.inl g))))] [(cA, .long)] sz)) (va_Qi (fun r (_ : Unit) => r = nI (n + j)) (fun _ t => tq_in (dC, dI) [(x, .inr (0, [.ref a, .int (nI (n + j)), .ref b, .int (nI k)])), (a, .inl (cA, (600, .inr (.inl ((tq_fl f n j (fun i => tq_leaf (tq_fv v step i)))))))), (b, .inl (cA, (40, .inr (.inl g))))] [(cA, .long)] (va_A [(x, .inr (0, [.ref a, .int (nI n), .ref b, .int (nI k)])), (a, .inl (cA, (600, .inr (.inl f)))), (b, .inl (cA, (40, .inr (.inl g))))] sz) t) (va_A [(x, .inr (0, [.ref a, .int (nI n), .ref b, .int (nI k)])), (a, .inl (cA, (600, .inr (.inl f)))), (b, .inl (cA, (40, .inr (.inl g))))] sz)) 0 0 (va_A [(x, .inr (0, [.ref a, .int (nI n), .ref b, .int (nI k)])), (a, .inl (cA, (600, .inr (.inl f)))), (b, .inl (cA, (40, .inr (.inl g))))] sz) := by
  refine Met.ofW (cc := qc_X_fill) (maxL := 7) (ret := (some .int)) (by decide) rfl ?_
  intro p e s m args below meth c s₁ B hml hv
  obtain ⟨rfl, hsz, hP, hK, hD0⟩ := hv
  have hx := B.exec
  have hb := B.bytes
  have hr := B.returns
  have hts := atoms_spec (ws := qw_X_fill) B.pre
  have hW : ∀ w ∈ tq_W, w.before ([.ref x, .int (nI j), .long v, .long step] : List Value).toArray s = true := fun w h => hts w (List.mem_cons_of_mem _ h)
  have hown : s.vm.findClass RX0 = some m.cls := findClass_of_methodNamed B.named
  have hlocks := B.notSynchronized
  have hl := lv_entry ([.ref x, .int (nI j), .long v, .long step]) (n := 7) (Nat.le_of_ble_eq_true rfl)
  rw [lg_entry_eq]
  generalize (lg_sl ([.ref x, .int (nI j), .long v, .long step]) ++ List.replicate (7 - (lg_sl ([.ref x, .int (nI j), .long v, .long step])).length) Slot.unset).toArray = ls at hl ⊢
  have hl : lv_has ls 7 [(0, .ref x), (1, .int (nI j)), (2, .long v), (4, .long step)] := hl
  subst hsz
  have hD := hD0.self (sz := s.heap.size)
  generalize hAe : va_A [(x, .inr (0, [.ref a, .int (nI n), .ref b, .int (nI k)])), (a, .inl (cA, (600, .inr (.inl f)))), (b, .inl (cA, (40, .inr (.inl g))))] s.heap.size = A at hD ⊢
  have hA : ∀ q : Nat, s.heap.size ≤ q → A q := fun q h => by rw [← hAe]; exact Or.inr h
  have hS : va_S A s.heap s.heap [] := va_S.rf
  have loop : ∀ (t i : Nat), i + t = j → ∀ (H : Heap) (locs : List Loc), va_P (dC, dI) tq_cl [(x, .inr (0, [.ref a, .int (nI n), .ref b, .int (nI k)])), (a, .inl (cA, (600, .inr (.inl ((tq_fl f n i (fun i => tq_leaf (tq_fv v step i)))))))), (b, .inl (cA, (40, .inr (.inl g))))] H → va_D A [(x, .inr (0, [.ref a, .int (nI n), .ref b, .int (nI k)])), (a, .inl (cA, (600, .inr (.inl ((tq_fl f n i (fun i => tq_leaf (tq_fv v step i)))))))), (b, .inl (cA, (40, .inr (.inl g))))] → va_S A s.heap H locs → ∀ ls : Array Slot, lv_has ls 7 [(6, .int (nI i)), (0, .ref x), (1, .int (nI j)), (2, .long v), (4, .long step)] → W p l e (headSpec qw_X_fill ({ frames := 2, cells := 0, slots := 0, locals := 60 })).room s m ([.ref x, .int (nI j), .long v, .long step] : List Value).toArray below meth c H locs 0 0 (MQ below (va_Qi (fun r (_ : Unit) => r = nI (n + j)) (fun _ t => tq_in (dC, dI) [(x, .inr (0, [.ref a, .int (nI (n + j)), .ref b, .int (nI k)])), (a, .inl (cA, (600, .inr (.inl ((tq_fl f n j (fun i => tq_leaf (tq_fv v step i)))))))), (b, .inl (cA, (40, .inr (.inl g))))] [(cA, .long)] A t) A) ([.ref x, .int (nI j), .long v, .long step] : List Value).toArray s 0 0 A) (F0 m 43 ls []) := by
    intro t
    induction t with
    | zero =>
      intro i hi H locs hP hD hS ls hl
      obtain rfl : i = j := by omega
      refine lv_iload hx hb qd_X_fill_43 (lv_at hl 0 rfl) ?_
      refine lv_iload_n hx hb qd_X_fill_45 rfl (lv_at hl 2 rfl) ?_
      refine tq_icmp_ge (x := i) (y := i) (tgt := 78) hx hb qd_X_fill_46 (by decide) (by omega) (by omega) (fun c9 => ?_) (fun c9 => by omega)
      refine lv_aload_n hx hb qd_X_fill_78 rfl (lv_at hl 1 rfl) ?_
      refine lv_dup hx hb qd_X_fill_79 rfl ?_
      refine va_get (D := (dC, dI)) (ci := 0) (v := .int (nI n)) (C := RX0) (T := TX0) (N := 4) hx hb hW inX0 hown hK hP 0 rfl rfl 1 (by decide) (hW _ qm_20) (fun _ h9 => h9) rfl qd_X_fill_80 ?_
      refine lv_iload_n hx hb qd_X_fill_83 rfl (lv_at hl 2 rfl) ?_
      refine lv_iadd hx hb qd_X_fill_84 ?_
      refine tq_ti (y := nI (n + i)) (nI_add _ _) ?_
      refine va_put (D := (dC, dI)) (ci := 0) (v := .int (nI (n + i))) (ty := .int) (C := RX0) (T := TX0) (N := 4) hx hb hW inX0 tyX0 tyX0_ok nmX0 hown hK hP hD hS 0 rfl rfl 1 (by decide) (hW _ qm_20) (fun _ h9 => h9) rfl (by decide +kernel) rfl rfl (Nat.le_of_ble_eq_true rfl) qd_X_fill_85 (fun H locs hP hD hS => ?_)
      have hP : va_P (dC, dI) tq_cl [(x, .inr (0, [.ref a, .int (nI (n + i)), .ref b, .int (nI k)])), (a, .inl (cA, (600, .inr (.inl ((tq_fl f n i (fun i => tq_leaf (tq_fv v step i)))))))), (b, .inl (cA, (40, .inr (.inl g))))] H := hP
      have hD : va_D A [(x, .inr (0, [.ref a, .int (nI (n + i)), .ref b, .int (nI k)])), (a, .inl (cA, (600, .inr (.inl ((tq_fl f n i (fun i => tq_leaf (tq_fv v step i)))))))), (b, .inl (cA, (40, .inr (.inl g))))] := hD
      refine lv_aload_n hx hb qd_X_fill_88 rfl (lv_at hl 1 rfl) ?_
      refine va_get (D := (dC, dI)) (ci := 0) (v := .int (nI (n + i))) (C := RX0) (T := TX0) (N := 4) hx hb hW inX0 hown hK hP 0 rfl rfl 1 (by decide) (hW _ qm_20) (fun _ h9 => h9) rfl qd_X_fill_89 ?_
      exact W.iret hx hb hr (fun t ht hW9 => ⟨⟨_, (), rfl, rfl, by rw [ht]; exact hP, va_K.moved hW9.alike hK, hD⟩, hS.F ht⟩) hS.2.2 qd_X_fill_92
    | succ t ih =>
      intro i hi H locs hP hD hS ls hl
      refine lv_iload hx hb qd_X_fill_43 (lv_at hl 0 rfl) ?_
      refine lv_iload_n hx hb qd_X_fill_45 rfl (lv_at hl 2 rfl) ?_
      refine tq_icmp_ge (x := i) (y := j) (tgt := 78) hx hb qd_X_fill_46 (by decide) (by omega) (by omega) (fun c9 => by omega) (fun c9 => ?_)
      refine lv_aload_n hx hb qd_X_fill_49 rfl (lv_at hl 1 rfl) ?_
      refine va_get (D := (dC, dI)) (ci := 0) (v := .ref a) (C := RX0) (T := TX0) (N := 4) hx hb hW inX0 hown hK hP 0 rfl rfl 0 (by decide) (hW _ qm_19) (fun _ h9 => h9) rfl qd_X_fill_50 ?_
      refine lv_aload_n hx hb qd_X_fill_53 rfl (lv_at hl 1 rfl) ?_
      refine va_get (D := (dC, dI)) (ci := 0) (v := .int (nI n)) (C := RX0) (T := TX0) (N := 4) hx hb hW inX0 hown hK hP 0 rfl rfl 1 (by decide) (hW _ qm_20) (fun _ h9 => h9) rfl qd_X_fill_54 ?_
      refine lv_iload hx hb qd_X_fill_57 (lv_at hl 0 rfl) ?_
      refine lv_iadd hx hb qd_X_fill_59 ?_
      refine tq_ti (y := nI (n + i)) (nI_add _ _) ?_
      refine lv_lload_n hx hb qd_X_fill_60 rfl (lv_at hl 3 rfl) ?_
      refine lv_iload hx hb qd_X_fill_61 (lv_at hl 0 rfl) ?_
      refine lv_i2l (v := (nI i).toInt64) hx hb qd_X_fill_63 rfl ?_
      refine lv_lload hx hb qd_X_fill_64 (lv_at hl 4 rfl) ?_
      refine lv_lmul hx hb qd_X_fill_66 ?_
      refine lv_ladd hx hb qd_X_fill_67 ?_
      refine tq_tl (y := tq_fv v step i) (rfl) ?_
      refine vp_callSl (W.runS (As := [.long (tq_fv v step i)]) (rest := [.int (nI (n + i)), .ref a]) ⟨hx, hb, hml, hown, hW⟩ (ct_X_leafOf l (tq_fv v step i)) (cwS 1 hW (tq_gS qm_44 qm_45 qm_1 qm_46) rfl rfl rfl (by decide +kernel) ⟨Nat.le_of_ble_eq_true rfl, Nat.le_of_ble_eq_true rfl⟩) ⟨tq_b0, fun U hU hW9 => ⟨rfl, trivial⟩⟩ rfl rfl hl.1 rfl (lv_room (Nat.le_of_ble_eq_true rfl)) qd_X_fill_68 ⟨Nat.le_of_ble_eq_true rfl, Nat.le_of_ble_eq_true rfl⟩) (fun r9 e9 => ?_)
      subst e9
      refine tq_last hx hb hK hP hD hS 1 0 rfl rfl (j := ((n + i))) (x := (tq_leaf (tq_fv v step i))) (by omega) (by decide) qd_X_fill_71 (fun H locs hP hD hS => ?_)
      have hP : va_P (dC, dI) tq_cl [(x, .inr (0, [.ref a, .int (nI n), .ref b, .int (nI k)])), (a, .inl (cA, (600, .inr (.inl (vp_updL ((tq_fl f n i (fun i => tq_leaf (tq_fv v step i)))) ((n + i)) (tq_leaf (tq_fv v step i))))))), (b, .inl (cA, (40, .inr (.inl g))))] H := hP
      have hD : va_D A [(x, .inr (0, [.ref a, .int (nI n), .ref b, .int (nI k)])), (a, .inl (cA, (600, .inr (.inl (vp_updL ((tq_fl f n i (fun i => tq_leaf (tq_fv v step i)))) ((n + i)) (tq_leaf (tq_fv v step i))))))), (b, .inl (cA, (40, .inr (.inl g))))] := hD
      rw [tq_fl_s f n i (fun i => tq_leaf (tq_fv v step i))] at hP hD
      refine lv_iinc (v := (nI (i + 1))) (lv' := [(6, .int (nI (i + 1))), (0, .ref x), (1, .int (nI j)), (2, .long v), (4, .long step)]) hx hb qd_X_fill_72 hl (k := 0) rfl (nI_1 i) (by decide) rfl (fun ls hl => ?_)
      refine lv_goto (tgt := 43) hx hb qd_X_fill_75 (by decide) ?_
      exact ih (i + 1) (by omega) _ _ hP hD hS ls (lv_sub hl [0, 1, 2, 3, 4] rfl)
  refine lv_iload_n hx hb qd_X_fill_0 rfl (lv_at hl 1 rfl) ?_
  refine lv_iconst (v := nI 1) hx hb qd_X_fill_1 (by decide +kernel) ?_
  refine tq_icmp_lt (x := j) (y := 1) (tgt := 12) hx hb qd_X_fill_2 (by decide) (by omega) (by omega) (fun c9 => by omega) (fun c9 => ?_)
  refine lv_iload_n hx hb qd_X_fill_5 rfl (lv_at hl 1 rfl) ?_
  refine lv_sipush (v := nI 200) hx hb qd_X_fill_6 (by decide +kernel) ?_
  refine tq_icmp_le (x := j) (y := 200) (tgt := 20) hx hb qd_X_fill_9 (by decide) (by omega) (by omega) (fun c9 => ?_) (fun c9 => by omega)
  refine lv_aload_n hx hb qd_X_fill_20 rfl (lv_at hl 0 rfl) ?_
  refine va_get (D := (dC, dI)) (ci := 0) (v := .int (nI n)) (C := RX0) (T := TX0) (N := 4) hx hb hW inX0 hown hK hP 0 rfl rfl 1 (by decide) (hW _ qm_20) (fun _ h9 => h9) rfl qd_X_fill_21 ?_
  refine lv_iload_n hx hb qd_X_fill_24 rfl (lv_at hl 1 rfl) ?_
  refine lv_iadd hx hb qd_X_fill_25 ?_
  refine tq_ti (y := nI (n + j)) (nI_add _ _) ?_
  refine lv_sipush (v := nI 600) hx hb qd_X_fill_26 (by decide +kernel) ?_
  refine tq_icmp_le (x := (n + j)) (y := 600) (tgt := 40) hx hb qd_X_fill_29 (by decide) (by omega) (by omega) (fun c9 => ?_) (fun c9 => by omega)
  refine lv_iconst (v := nI 0) hx hb qd_X_fill_40 (by decide +kernel) ?_
  refine lv_istore (lv' := [(6, .int (nI 0)), (0, .ref x), (1, .int (nI j)), (2, .long v), (4, .long step)]) hx hb qd_X_fill_41 hl (by decide) rfl (fun ls hl => ?_)
  exact loop j 0 (Nat.zero_add j) _ _ (by rw [tq_fl_0]; exact hP) (by rw [tq_fl_0]; exact hD) hS ls (lv_sub hl [0, 1, 2, 3, 4] rfl)
set_option maxHeartbeats 4000000 in
set_option maxRecDepth 100000 in
/-- cut -/
theorem ct_X_cut (l : Launch) (dC : Nat → ClassId) (dI : Nat → Nat → Nat) (x a b : Nat) (cA : ClassId) (n k : Nat) (f g : Nat → Int64) (sz : Nat) (j : Nat) (hj : j ≤ n) (hn : n ≤ 600) : Met l qy_X_cut qw_X_cut ({ frames := 0, cells := 0, slots := 0, locals := 0 }) (va_Pc [.ref x, .int (nI j)] (tq_rw (dC, dI) [(x, .inr (0, [.ref a, .int (nI n), .ref b, .int (nI k)])), (a, .inl (cA, (600, .inr (.inl f)))), (b, .inl (cA, (40, .inr (.inl g))))] [(cA, .long)] sz)) (va_Qi (fun r (_ : Unit) => r = nI (n - j)) (fun _ t => tq_in (dC, dI) [(x, .inr (0, [.ref a, .int (nI j), .ref b, .int (nI k)])), (a, .inl (cA, (600, .inr (.inl f)))), (b, .inl (cA, (40, .inr (.inl g))))] [(cA, .long)] (va_A [(x, .inr (0, [.ref a, .int (nI n), .ref b, .int (nI k)])), (a, .inl (cA, (600, .inr (.inl f)))), (b, .inl (cA, (40, .inr (.inl g))))] sz) t) (va_A [(x, .inr (0, [.ref a, .int (nI n), .ref b, .int (nI k)])), (a, .inl (cA, (600, .inr (.inl f)))), (b, .inl (cA, (40, .inr (.inl g))))] sz)) 0 0 (va_A [(x, .inr (0, [.ref a, .int (nI n), .ref b, .int (nI k)])), (a, .inl (cA, (600, .inr (.inl f)))), (b, .inl (cA, (40, .inr (.inl g))))] sz) := by
  refine Met.ofW (cc := qc_X_cut) (maxL := 3) (ret := (some .int)) (by decide) rfl ?_
  intro p e s m args below meth c s₁ B hml hv
  obtain ⟨rfl, hsz, hP, hK, hD0⟩ := hv
  have hx := B.exec
  have hb := B.bytes
  have hr := B.returns
  have hts := atoms_spec (ws := qw_X_cut) B.pre
  have hW : ∀ w ∈ tq_W, w.before ([.ref x, .int (nI j)] : List Value).toArray s = true := fun w h => hts w (List.mem_cons_of_mem _ h)
  have hown : s.vm.findClass RX0 = some m.cls := findClass_of_methodNamed B.named
  have hlocks := B.notSynchronized
  have hl := lv_entry ([.ref x, .int (nI j)]) (n := 3) (Nat.le_of_ble_eq_true rfl)
  rw [lg_entry_eq]
  generalize (lg_sl ([.ref x, .int (nI j)]) ++ List.replicate (3 - (lg_sl ([.ref x, .int (nI j)])).length) Slot.unset).toArray = ls at hl ⊢
  have hl : lv_has ls 3 [(0, .ref x), (1, .int (nI j))] := hl
  subst hsz
  have hD := hD0.self (sz := s.heap.size)
  generalize hAe : va_A [(x, .inr (0, [.ref a, .int (nI n), .ref b, .int (nI k)])), (a, .inl (cA, (600, .inr (.inl f)))), (b, .inl (cA, (40, .inr (.inl g))))] s.heap.size = A at hD ⊢
  have hA : ∀ q : Nat, s.heap.size ≤ q → A q := fun q h => by rw [← hAe]; exact Or.inr h
  have hS : va_S A s.heap s.heap [] := va_S.rf
  refine lv_iload_n hx hb qd_X_cut_0 rfl (lv_at hl 1 rfl) ?_
  refine tq_if_lt (x := j) (tgt := 12) hx hb qd_X_cut_1 (by decide) (by omega) ?_
  refine lv_iload_n hx hb qd_X_cut_4 rfl (lv_at hl 1 rfl) ?_
  refine lv_aload_n hx hb qd_X_cut_5 rfl (lv_at hl 0 rfl) ?_
  refine va_get (D := (dC, dI)) (ci := 0) (v := .int (nI n)) (C := RX0) (T := TX0) (N := 4) hx hb hW inX0 hown hK hP 0 rfl rfl 1 (by decide) (hW _ qm_20) (fun _ h9 => h9) rfl qd_X_cut_6 ?_
  refine tq_icmp_le (x := j) (y := n) (tgt := 20) hx hb qd_X_cut_9 (by decide) (by omega) (by omega) (fun c9 => ?_) (fun c9 => by omega)
  refine lv_aload_n hx hb qd_X_cut_20 rfl (lv_at hl 0 rfl) ?_
  refine va_get (D := (dC, dI)) (ci := 0) (v := .int (nI n)) (C := RX0) (T := TX0) (N := 4) hx hb hW inX0 hown hK hP 0 rfl rfl 1 (by decide) (hW _ qm_20) (fun _ h9 => h9) rfl qd_X_cut_21 ?_
  refine lv_iload_n hx hb qd_X_cut_24 rfl (lv_at hl 1 rfl) ?_
  refine lv_isub hx hb qd_X_cut_25 ?_
  refine tq_ti (y := nI (n - j)) (pk_sub hj) ?_
  refine lv_istore_n (lv' := [(2, .int (nI (n - j))), (0, .ref x), (1, .int (nI j))]) hx hb qd_X_cut_26 rfl hl (by decide) rfl (fun ls hl => ?_)
  refine lv_aload_n hx hb qd_X_cut_27 rfl (lv_at hl 1 rfl) ?_
  refine lv_iload_n hx hb qd_X_cut_28 rfl (lv_at hl 2 rfl) ?_
  refine va_put (D := (dC, dI)) (ci := 0) (v := .int (nI j)) (ty := .int) (C := RX0) (T := TX0) (N := 4) hx hb hW inX0 tyX0 tyX0_ok nmX0 hown hK hP hD hS 0 rfl rfl 1 (by decide) (hW _ qm_20) (fun _ h9 => h9) rfl (by decide +kernel) rfl rfl (Nat.le_of_ble_eq_true rfl) qd_X_cut_29 (fun H locs hP hD hS => ?_)
  have hP : va_P (dC, dI) tq_cl [(x, .inr (0, [.ref a, .int (nI j), .ref b, .int (nI k)])), (a, .inl (cA, (600, .inr (.inl f)))), (b, .inl (cA, (40, .inr (.inl g))))] H := hP
  have hD : va_D A [(x, .inr (0, [.ref a, .int (nI j), .ref b, .int (nI k)])), (a, .inl (cA, (600, .inr (.inl f)))), (b, .inl (cA, (40, .inr (.inl g))))] := hD
  refine lv_iload_n hx hb qd_X_cut_32 rfl (lv_at hl 0 rfl) ?_
  exact W.iret hx hb hr (fun t ht hW9 => ⟨⟨_, (), rfl, rfl, by rw [ht]; exact hP, va_K.moved hW9.alike hK, hD⟩, hS.F ht⟩) hS.2.2 qd_X_cut_33
set_option maxHeartbeats 4000000 in
set_option maxRecDepth 100000 in
/-- alter -/
theorem ct_X_alter (l : Launch) (dC : Nat → ClassId) (dI : Nat → Nat → Nat) (x a b : Nat) (cA : ClassId) (n k : Nat) (f g : Nat → Int64) (sz : Nat) (j : Nat) (v : Int64) (hj : j < k) (hk : k ≤ 40) : Met l qy_X_alter qw_X_alter ({ frames := 0, cells := 0, slots := 0, locals := 0 }) (va_Pc [.ref x, .int (nI j), .long v] (tq_rw (dC, dI) [(x, .inr (0, [.ref a, .int (nI n), .ref b, .int (nI k)])), (a, .inl (cA, (600, .inr (.inl f)))), (b, .inl (cA, (40, .inr (.inl g))))] [(cA, .long)] sz)) (va_Ql (fun r (_ : Unit) => r = g j) (fun _ t => tq_in (dC, dI) [(x, .inr (0, [.ref a, .int (nI n), .ref b, .int (nI k)])), (a, .inl (cA, (600, .inr (.inl f)))), (b, .inl (cA, (40, .inr (.inl ((vp_updL g j v))))))] [(cA, .long)] (va_A [(x, .inr (0, [.ref a, .int (nI n), .ref b, .int (nI k)])), (a, .inl (cA, (600, .inr (.inl f)))), (b, .inl (cA, (40, .inr (.inl g))))] sz) t) (va_A [(x, .inr (0, [.ref a, .int (nI n), .ref b, .int (nI k)])), (a, .inl (cA, (600, .inr (.inl f)))), (b, .inl (cA, (40, .inr (.inl g))))] sz)) 0 0 (va_A [(x, .inr (0, [.ref a, .int (nI n), .ref b, .int (nI k)])), (a, .inl (cA, (600, .inr (.inl f)))), (b, .inl (cA, (40, .inr (.inl g))))] sz) := by
  refine Met.ofW (cc := qc_X_alter) (maxL := 6) (ret := (some .long)) (by decide) rfl ?_
  intro p e s m args below meth c s₁ B hml hv
  obtain ⟨rfl, hsz, hP, hK, hD0⟩ := hv
  have hx := B.exec
  have hb := B.bytes
  have hr := B.returns
  have hts := atoms_spec (ws := qw_X_alter) B.pre
  have hW : ∀ w ∈ tq_W, w.before ([.ref x, .int (nI j), .long v] : List Value).toArray s = true := fun w h => hts w (List.mem_cons_of_mem _ h)
  have hown : s.vm.findClass RX0 = some m.cls := findClass_of_methodNamed B.named
  have hlocks := B.notSynchronized
  have hl := lv_entry ([.ref x, .int (nI j), .long v]) (n := 6) (Nat.le_of_ble_eq_true rfl)
  rw [lg_entry_eq]
  generalize (lg_sl ([.ref x, .int (nI j), .long v]) ++ List.replicate (6 - (lg_sl ([.ref x, .int (nI j), .long v])).length) Slot.unset).toArray = ls at hl ⊢
  have hl : lv_has ls 6 [(0, .ref x), (1, .int (nI j)), (2, .long v)] := hl
  subst hsz
  have hD := hD0.self (sz := s.heap.size)
  generalize hAe : va_A [(x, .inr (0, [.ref a, .int (nI n), .ref b, .int (nI k)])), (a, .inl (cA, (600, .inr (.inl f)))), (b, .inl (cA, (40, .inr (.inl g))))] s.heap.size = A at hD ⊢
  have hA : ∀ q : Nat, s.heap.size ≤ q → A q := fun q h => by rw [← hAe]; exact Or.inr h
  have hS : va_S A s.heap s.heap [] := va_S.rf
  refine lv_iload_n hx hb qd_X_alter_0 rfl (lv_at hl 1 rfl) ?_
  refine tq_if_lt (x := j) (tgt := 12) hx hb qd_X_alter_1 (by decide) (by omega) ?_
  refine lv_iload_n hx hb qd_X_alter_4 rfl (lv_at hl 1 rfl) ?_
  refine lv_aload_n hx hb qd_X_alter_5 rfl (lv_at hl 0 rfl) ?_
  refine va_get (D := (dC, dI)) (ci := 0) (v := .int (nI k)) (C := RX0) (T := TX0) (N := 4) hx hb hW inX0 hown hK hP 0 rfl rfl 3 (by decide) (hW _ qm_22) (fun _ h9 => h9) rfl qd_X_alter_6 ?_
  refine tq_icmp_lt (x := j) (y := k) (tgt := 20) hx hb qd_X_alter_9 (by decide) (by omega) (by omega) (fun c9 => ?_) (fun c9 => by omega)
  refine lv_aload_n hx hb qd_X_alter_20 rfl (lv_at hl 0 rfl) ?_
  refine va_get (D := (dC, dI)) (ci := 0) (v := .ref b) (C := RX0) (T := TX0) (N := 4) hx hb hW inX0 hown hK hP 0 rfl rfl 2 (by decide) (hW _ qm_21) (fun _ h9 => h9) rfl qd_X_alter_21 ?_
  refine lv_iload_n hx hb qd_X_alter_24 rfl (lv_at hl 1 rfl) ?_
  refine tq_lald hx hb hK hP 2 0 rfl rfl (j := j) (by omega) (by decide) qd_X_alter_25 ?_
  refine lv_lstore (lv' := [(4, .long (g j)), (0, .ref x), (1, .int (nI j)), (2, .long v)]) hx hb qd_X_alter_26 hl (by decide) rfl (fun ls hl => ?_)
  refine lv_aload_n hx hb qd_X_alter_28 rfl (lv_at hl 1 rfl) ?_
  refine va_get (D := (dC, dI)) (ci := 0) (v := .ref b) (C := RX0) (T := TX0) (N := 4) hx hb hW inX0 hown hK hP 0 rfl rfl 2 (by decide) (hW _ qm_21) (fun _ h9 => h9) rfl qd_X_alter_29 ?_
  refine lv_iload_n hx hb qd_X_alter_32 rfl (lv_at hl 2 rfl) ?_
  refine lv_lload_n hx hb qd_X_alter_33 rfl (lv_at hl 3 rfl) ?_
  refine tq_last hx hb hK hP hD hS 2 0 rfl rfl (j := j) (x := v) (by omega) (by decide) qd_X_alter_34 (fun H locs hP hD hS => ?_)
  have hP : va_P (dC, dI) tq_cl [(x, .inr (0, [.ref a, .int (nI n), .ref b, .int (nI k)])), (a, .inl (cA, (600, .inr (.inl f)))), (b, .inl (cA, (40, .inr (.inl (vp_updL g j v)))))] H := hP
  have hD : va_D A [(x, .inr (0, [.ref a, .int (nI n), .ref b, .int (nI k)])), (a, .inl (cA, (600, .inr (.inl f)))), (b, .inl (cA, (40, .inr (.inl (vp_updL g j v)))))] := hD
  refine lv_lload hx hb qd_X_alter_35 (lv_at hl 0 rfl) ?_
  exact W.lret hx hb hr (fun t ht hW9 => ⟨⟨_, (), rfl, rfl, by rw [ht]; exact hP, va_K.moved hW9.alike hK, hD⟩, hS.F ht⟩) hS.2.2 qd_X_alter_37
set_option maxHeartbeats 4000000 in
set_option maxRecDepth 100000 in
/-- length -/
theorem ct_X_length (l : Launch) (dC : Nat → ClassId) (dI : Nat → Nat → Nat) (x a b : Nat) (cA : ClassId) (n k : Nat) (f g : Nat → Int64) (sz : Nat) (j : Nat) (hj : j ≤ 40) (hk : k ≤ 40) : Met l qy_X_length qw_X_length ({ frames := 0, cells := 0, slots := 0, locals := 0 }) (va_Pc [.ref x, .int (nI j)] (tq_rw (dC, dI) [(x, .inr (0, [.ref a, .int (nI n), .ref b, .int (nI k)])), (a, .inl (cA, (600, .inr (.inl f)))), (b, .inl (cA, (40, .inr (.inl g))))] [(cA, .long)] sz)) (va_Qi (fun r (_ : Unit) => r = nI k) (fun _ t => tq_in (dC, dI) [(x, .inr (0, [.ref a, .int (nI n), .ref b, .int (nI j)])), (a, .inl (cA, (600, .inr (.inl f)))), (b, .inl (cA, (40, .inr (.inl ((tq_fl g k (j - k) (fun _ => 0)))))))] [(cA, .long)] (va_A [(x, .inr (0, [.ref a, .int (nI n), .ref b, .int (nI k)])), (a, .inl (cA, (600, .inr (.inl f)))), (b, .inl (cA, (40, .inr (.inl g))))] sz) t) (va_A [(x, .inr (0, [.ref a, .int (nI n), .ref b, .int (nI k)])), (a, .inl (cA, (600, .inr (.inl f)))), (b, .inl (cA, (40, .inr (.inl g))))] sz)) 0 0 (va_A [(x, .inr (0, [.ref a, .int (nI n), .ref b, .int (nI k)])), (a, .inl (cA, (600, .inr (.inl f)))), (b, .inl (cA, (40, .inr (.inl g))))] sz) := by
  refine Met.ofW (cc := qc_X_length) (maxL := 4) (ret := (some .int)) (by decide) rfl ?_
  intro p e s m args below meth c s₁ B hml hv
  obtain ⟨rfl, hsz, hP, hK, hD0⟩ := hv
  have hx := B.exec
  have hb := B.bytes
  have hr := B.returns
  have hts := atoms_spec (ws := qw_X_length) B.pre
  have hW : ∀ w ∈ tq_W, w.before ([.ref x, .int (nI j)] : List Value).toArray s = true := fun w h => hts w (List.mem_cons_of_mem _ h)
  have hown : s.vm.findClass RX0 = some m.cls := findClass_of_methodNamed B.named
  have hlocks := B.notSynchronized
  have hl := lv_entry ([.ref x, .int (nI j)]) (n := 4) (Nat.le_of_ble_eq_true rfl)
  rw [lg_entry_eq]
  generalize (lg_sl ([.ref x, .int (nI j)]) ++ List.replicate (4 - (lg_sl ([.ref x, .int (nI j)])).length) Slot.unset).toArray = ls at hl ⊢
  have hl : lv_has ls 4 [(0, .ref x), (1, .int (nI j))] := hl
  subst hsz
  have hD := hD0.self (sz := s.heap.size)
  generalize hAe : va_A [(x, .inr (0, [.ref a, .int (nI n), .ref b, .int (nI k)])), (a, .inl (cA, (600, .inr (.inl f)))), (b, .inl (cA, (40, .inr (.inl g))))] s.heap.size = A at hD ⊢
  have hA : ∀ q : Nat, s.heap.size ≤ q → A q := fun q h => by rw [← hAe]; exact Or.inr h
  have hS : va_S A s.heap s.heap [] := va_S.rf
  have loop : ∀ (t i : Nat), i + t = j - k → ∀ (H : Heap) (locs : List Loc), va_P (dC, dI) tq_cl [(x, .inr (0, [.ref a, .int (nI n), .ref b, .int (nI k)])), (a, .inl (cA, (600, .inr (.inl f)))), (b, .inl (cA, (40, .inr (.inl ((tq_fl g k i (fun _ => 0)))))))] H → va_D A [(x, .inr (0, [.ref a, .int (nI n), .ref b, .int (nI k)])), (a, .inl (cA, (600, .inr (.inl f)))), (b, .inl (cA, (40, .inr (.inl ((tq_fl g k i (fun _ => 0)))))))] → va_S A s.heap H locs → ∀ ls : Array Slot, lv_has ls 4 [(3, .int (nI (k + i))), (2, .int (nI k)), (0, .ref x), (1, .int (nI j))] → W p l e (headSpec qw_X_length ({ frames := 0, cells := 0, slots := 0, locals := 0 })).room s m ([.ref x, .int (nI j)] : List Value).toArray below meth c H locs 0 0 (MQ below (va_Qi (fun r (_ : Unit) => r = nI k) (fun _ t => tq_in (dC, dI) [(x, .inr (0, [.ref a, .int (nI n), .ref b, .int (nI j)])), (a, .inl (cA, (600, .inr (.inl f)))), (b, .inl (cA, (40, .inr (.inl ((tq_fl g k (j - k) (fun _ => 0)))))))] [(cA, .long)] A t) A) ([.ref x, .int (nI j)] : List Value).toArray s 0 0 A) (F0 m 25 ls []) := by
    intro t
    induction t with
    | zero =>
      intro i hi H locs hP hD hS ls hl
      obtain rfl : i = j - k := by omega
      refine lv_iload_n hx hb qd_X_length_25 rfl (lv_at hl 0 rfl) ?_
      refine lv_iload_n hx hb qd_X_length_26 rfl (lv_at hl 3 rfl) ?_
      refine tq_icmp_ge (x := (k + (j - k))) (y := j) (tgt := 43) hx hb qd_X_length_27 (by decide) (by omega) (by omega) (fun c9 => ?_) (fun c9 => by omega)
      refine lv_aload_n hx hb qd_X_length_43 rfl (lv_at hl 2 rfl) ?_
      refine lv_iload_n hx hb qd_X_length_44 rfl (lv_at hl 3 rfl) ?_
      refine va_put (D := (dC, dI)) (ci := 0) (v := .int (nI j)) (ty := .int) (C := RX0) (T := TX0) (N := 4) hx hb hW inX0 tyX0 tyX0_ok nmX0 hown hK hP hD hS 0 rfl rfl 3 (by decide) (hW _ qm_22) (fun _ h9 => h9) rfl (by decide +kernel) rfl rfl (Nat.le_of_ble_eq_true rfl) qd_X_length_45 (fun H locs hP hD hS => ?_)
      have hP : va_P (dC, dI) tq_cl [(x, .inr (0, [.ref a, .int (nI n), .ref b, .int (nI j)])), (a, .inl (cA, (600, .inr (.inl f)))), (b, .inl (cA, (40, .inr (.inl ((tq_fl g k (j - k) (fun _ => 0)))))))] H := hP
      have hD : va_D A [(x, .inr (0, [.ref a, .int (nI n), .ref b, .int (nI j)])), (a, .inl (cA, (600, .inr (.inl f)))), (b, .inl (cA, (40, .inr (.inl ((tq_fl g k (j - k) (fun _ => 0)))))))] := hD
      refine lv_iload_n hx hb qd_X_length_48 rfl (lv_at hl 1 rfl) ?_
      exact W.iret hx hb hr (fun t ht hW9 => ⟨⟨_, (), rfl, rfl, by rw [ht]; exact hP, va_K.moved hW9.alike hK, hD⟩, hS.F ht⟩) hS.2.2 qd_X_length_49
    | succ t ih =>
      intro i hi H locs hP hD hS ls hl
      refine lv_iload_n hx hb qd_X_length_25 rfl (lv_at hl 0 rfl) ?_
      refine lv_iload_n hx hb qd_X_length_26 rfl (lv_at hl 3 rfl) ?_
      refine tq_icmp_ge (x := (k + i)) (y := j) (tgt := 43) hx hb qd_X_length_27 (by decide) (by omega) (by omega) (fun c9 => by omega) (fun c9 => ?_)
      refine lv_aload_n hx hb qd_X_length_30 rfl (lv_at hl 2 rfl) ?_
      refine va_get (D := (dC, dI)) (ci := 0) (v := .ref b) (C := RX0) (T := TX0) (N := 4) hx hb hW inX0 hown hK hP 0 rfl rfl 2 (by decide) (hW _ qm_21) (fun _ h9 => h9) rfl qd_X_length_31 ?_
      refine lv_iload_n hx hb qd_X_length_34 rfl (lv_at hl 0 rfl) ?_
      refine lv_lconst (v := 0) hx hb qd_X_length_35 (by decide) ?_
      refine tq_last hx hb hK hP hD hS 2 0 rfl rfl (j := ((k + i))) (x := 0) (by omega) (by decide) qd_X_length_36 (fun H locs hP hD hS => ?_)
      have hP : va_P (dC, dI) tq_cl [(x, .inr (0, [.ref a, .int (nI n), .ref b, .int (nI k)])), (a, .inl (cA, (600, .inr (.inl f)))), (b, .inl (cA, (40, .inr (.inl (vp_updL ((tq_fl g k i (fun _ => 0))) ((k + i)) 0)))))] H := hP
      have hD : va_D A [(x, .inr (0, [.ref a, .int (nI n), .ref b, .int (nI k)])), (a, .inl (cA, (600, .inr (.inl f)))), (b, .inl (cA, (40, .inr (.inl (vp_updL ((tq_fl g k i (fun _ => 0))) ((k + i)) 0)))))] := hD
      rw [tq_fl_s g k i (fun _ => 0)] at hP hD
      refine lv_iinc (v := (nI (k + (i + 1)))) (lv' := [(3, .int (nI (k + (i + 1)))), (2, .int (nI k)), (0, .ref x), (1, .int (nI j))]) hx hb qd_X_length_37 hl (k := 0) rfl (nI_1 (k + i)) (by decide) rfl (fun ls hl => ?_)
      refine lv_goto (tgt := 25) hx hb qd_X_length_40 (by decide) ?_
      exact ih (i + 1) (by omega) _ _ hP hD hS ls (lv_sub hl [0, 1, 2, 3] rfl)
  refine lv_iload_n hx hb qd_X_length_0 rfl (lv_at hl 1 rfl) ?_
  refine tq_if_lt (x := j) (tgt := 10) hx hb qd_X_length_1 (by decide) (by omega) ?_
  refine lv_iload_n hx hb qd_X_length_4 rfl (lv_at hl 1 rfl) ?_
  refine lv_bipush (v := nI 40) hx hb qd_X_length_5 (by decide +kernel) ?_
  refine tq_icmp_le (x := j) (y := 40) (tgt := 18) hx hb qd_X_length_7 (by decide) (by omega) (by omega) (fun c9 => ?_) (fun c9 => by omega)
  refine lv_aload_n hx hb qd_X_length_18 rfl (lv_at hl 0 rfl) ?_
  refine va_get (D := (dC, dI)) (ci := 0) (v := .int (nI k)) (C := RX0) (T := TX0) (N := 4) hx hb hW inX0 hown hK hP 0 rfl rfl 3 (by decide) (hW _ qm_22) (fun _ h9 => h9) rfl qd_X_length_19 ?_
  refine lv_istore_n (lv' := [(2, .int (nI k)), (0, .ref x), (1, .int (nI j))]) hx hb qd_X_length_22 rfl hl (by decide) rfl (fun ls hl => ?_)
  refine lv_iload_n hx hb qd_X_length_23 rfl (lv_at hl 0 rfl) ?_
  refine tq_ti (y := nI (k + 0)) (rfl) ?_
  refine lv_istore_n (lv' := [(3, .int (nI (k + 0))), (2, .int (nI k)), (0, .ref x), (1, .int (nI j))]) hx hb qd_X_length_24 rfl hl (by decide) rfl (fun ls hl => ?_)
  exact loop (j - k) 0 (Nat.zero_add _) _ _ (by rw [tq_fl_0]; exact hP) (by rw [tq_fl_0]; exact hD) hS ls (lv_sub hl [0, 1, 2, 3] rfl)
end
section
theorem tq_sh1 {g : Nat → Int64} {S : List Int64} {t : Nat} {x : Int64} (h : ∀ q, q < S.length → g (t + 1 + q) = S.getD q 0) : ∀ q, q < (x :: S).length → vp_updL g t x (t + q) = (x :: S).getD q 0 := by
  intro q hq
  cases q with
  | zero => simp [vp_updL]
  | succ q =>
    have h1 := h q (by simpa using hq)
    rw [show t + 1 + q = t + (q + 1) by omega] at h1
    simp only [vp_updL]
    rw [if_neg (by omega), h1]
    simp
theorem tq_sh2 {g : Nat → Int64} {L S : List Int64} (e : L = S) (h : ∀ q, q < S.length → g (0 + q) = S.getD q 0) : ∀ q, q < L.length → g q = L.getD q 0 := by
  subst e
  intro q hq
  have := h q hq
  rw [Nat.zero_add] at this
  exact this
set_option maxHeartbeats 4000000 in
set_option maxRecDepth 100000 in
/-- path -/
theorem ct_X_path (l : Launch) (dC : Nat → ClassId) (dI : Nat → Nat → Nat) (x a b : Nat) (cA : ClassId) (n k : Nat) (f g : Nat → Int64) (sz : Nat) (mm j : Nat) (h1 : mm < j) (hj : j ≤ n) (hn : n ≤ 600) : Met l qy_X_path qw_X_path ({ frames := 13, cells := 0, slots := 0, locals := 320 }) (va_Pc [.ref x, .int (nI mm), .int (nI j)] (tq_rw (dC, dI) [(x, .inr (0, [.ref a, .int (nI n), .ref b, .int (nI k)])), (a, .inl (cA, (600, .inr (.inl f)))), (b, .inl (cA, (40, .inr (.inl g))))] [(cA, .long)] sz)) (va_Qi (fun r (u : Nat → Int64) => r = nI (tq_pl mm j) ∧ ∀ q, q < (tq_pt f 0 mm j).length → u q = (tq_pt f 0 mm j).getD q 0) (fun u t => tq_in (dC, dI) [(x, .inr (0, [.ref a, .int (nI n), .ref b, .int (nI (tq_pl mm j))])), (a, .inl (cA, (600, .inr (.inl f)))), (b, .inl (cA, (40, .inr (.inl u))))] [(cA, .long)] (va_A [(x, .inr (0, [.ref a, .int (nI n), .ref b, .int (nI k)])), (a, .inl (cA, (600, .inr (.inl f)))), (b, .inl (cA, (40, .inr (.inl g))))] sz) t) (va_A [(x, .inr (0, [.ref a, .int (nI n), .ref b, .int (nI k)])), (a, .inl (cA, (600, .inr (.inl f)))), (b, .inl (cA, (40, .inr (.inl g))))] sz)) 0 0 (va_A [(x, .inr (0, [.ref a, .int (nI n), .ref b, .int (nI k)])), (a, .inl (cA, (600, .inr (.inl f)))), (b, .inl (cA, (40, .inr (.inl g))))] sz) := by
  refine Met.ofW (cc := qc_X_path) (maxL := 7) (ret := (some .int)) (by decide) rfl ?_
  intro p e s m args below meth c s₁ B hml hv
  obtain ⟨rfl, hsz, hP, hK, hD0⟩ := hv
  have hx := B.exec
  have hb := B.bytes
  have hr := B.returns
  have hts := atoms_spec (ws := qw_X_path) B.pre
  have hW : ∀ w ∈ tq_W, w.before ([.ref x, .int (nI mm), .int (nI j)] : List Value).toArray s = true := fun w h => hts w (List.mem_cons_of_mem _ h)
  have hown : s.vm.findClass RX0 = some m.cls := findClass_of_methodNamed B.named
  have hlocks := B.notSynchronized
  have hl := lv_entry ([.ref x, .int (nI mm), .int (nI j)]) (n := 7) (Nat.le_of_ble_eq_true rfl)
  rw [lg_entry_eq]
  generalize (lg_sl ([.ref x, .int (nI mm), .int (nI j)]) ++ List.replicate (7 - (lg_sl ([.ref x, .int (nI mm), .int (nI j)])).length) Slot.unset).toArray = ls at hl ⊢
  have hl : lv_has ls 7 [(0, .ref x), (1, .int (nI mm)), (2, .int (nI j))] := hl
  subst hsz
  have hD := hD0.self (sz := s.heap.size)
  generalize hAe : va_A [(x, .inr (0, [.ref a, .int (nI n), .ref b, .int (nI k)])), (a, .inl (cA, (600, .inr (.inl f)))), (b, .inl (cA, (40, .inr (.inl g))))] s.heap.size = A at hD ⊢
  have hA : ∀ q : Nat, s.heap.size ≤ q → A q := fun q h => by rw [← hAe]; exact Or.inr h
  have hS : va_S A s.heap s.heap [] := va_S.rf
  have loop : ∀ (t i y z : Nat) (S : List Int64) (g1 : Nat → Int64), i + y = mm → y < z → i + z ≤ j → t = tq_pl y z → tq_pt f 0 mm j = tq_pt f i y z ++ S → (∀ q, q < S.length → g1 (t + q) = S.getD q 0) → ∀ (H : Heap) (locs : List Loc), va_P (dC, dI) tq_cl [(x, .inr (0, [.ref a, .int (nI n), .ref b, .int (nI (tq_pl mm j))])), (a, .inl (cA, (600, .inr (.inl f)))), (b, .inl (cA, (40, .inr (.inl g1))))] H → va_D A [(x, .inr (0, [.ref a, .int (nI n), .ref b, .int (nI (tq_pl mm j))])), (a, .inl (cA, (600, .inr (.inl f)))), (b, .inl (cA, (40, .inr (.inl g1))))] → va_S A s.heap H locs → ∀ ls : Array Slot, lv_has ls 7 [(5, .int (tq_pd t)), (4, .int (nI (i + z))), (3, .int (nI i)), (0, .ref x), (1, .int (nI mm))] → W p l e (headSpec qw_X_path ({ frames := 13, cells := 0, slots := 0, locals := 320 })).room s m ([.ref x, .int (nI mm), .int (nI j)] : List Value).toArray below meth c H locs 0 0 (MQ below (va_Qi (fun r (u : Nat → Int64) => r = nI (tq_pl mm j) ∧ ∀ q, q < (tq_pt f 0 mm j).length → u q = (tq_pt f 0 mm j).getD q 0) (fun u t => tq_in (dC, dI) [(x, .inr (0, [.ref a, .int (nI n), .ref b, .int (nI (tq_pl mm j))])), (a, .inl (cA, (600, .inr (.inl f)))), (b, .inl (cA, (40, .inr (.inl u))))] [(cA, .long)] A t) A) ([.ref x, .int (nI mm), .int (nI j)] : List Value).toArray s 0 0 A) (F0 m 47 ls []) := by
    intro t
    induction t with
    | zero =>
      intro i y z S g1 hi hy hz ht hL hg H locs hP hD hS ls hl
      have e0 : tq_pt f i y z = [] := List.eq_nil_of_length_eq_zero (by rw [tq_pt_len, ← ht])
      rw [e0, List.nil_append] at hL
      refine lv_iload hx hb qd_X_path_47 (lv_at hl 0 rfl) ?_
      refine lv_if_lt (tgt := 120) hx hb qd_X_path_49 (by decide) (fun c9 => ?_) (fun c9 => absurd tq_pd_0 c9)
      refine lv_aload_n hx hb qd_X_path_120 rfl (lv_at hl 3 rfl) ?_
      refine va_get (D := (dC, dI)) (ci := 0) (v := .int (nI (tq_pl mm j))) (C := RX0) (T := TX0) (N := 4) hx hb hW inX0 hown hK hP 0 rfl rfl 3 (by decide) (hW _ qm_22) (fun _ h9 => h9) rfl qd_X_path_121 ?_
      exact W.iret hx hb hr (fun t ht hW9 => ⟨⟨_, g1, rfl, ⟨rfl, tq_sh2 hL hg⟩, by rw [ht]; exact hP, va_K.moved hW9.alike hK, hD⟩, hS.F ht⟩) hS.2.2 qd_X_path_124
    | succ t ih =>
      intro i y z S g1 hi hy hz ht hL hg H locs hP hD hS ls hl
      rw [tq_pd_s] at hl
      have h2 : 2 ≤ z := by
        rcases Nat.lt_or_ge z 2 with h9 | h9
        · have := tq_pl_0 (m := y) h9; omega
        · exact h9
      have hlt := tq_pb_lt h2
      have hps := tq_pb_pos z
      have hpl := tq_pl_le 10 y z (by omega)
      have ht40 : t < 40 := by omega
      refine lv_iload hx hb qd_X_path_47 (lv_at hl 0 rfl) ?_
      refine tq_if_lt (x := t) (tgt := 120) hx hb qd_X_path_49 (by decide) (by omega) ?_
      refine lv_iload_n hx hb qd_X_path_52 rfl (lv_at hl 2 rfl) ?_
      refine lv_iload hx hb qd_X_path_53 (lv_at hl 1 rfl) ?_
      refine lv_iload_n hx hb qd_X_path_55 rfl (lv_at hl 2 rfl) ?_
      refine lv_isub hx hb qd_X_path_56 ?_
      refine tq_ti (y := nI z) (by rw [pk_sub (by omega)]; congr 1; omega) ?_
      refine vp_callSi (W.runS (As := [.int (nI z)]) (rest := [.int (nI i)]) ⟨hx, hb, hml, hown, hW⟩ (ct_X_powerBelow l z (by omega) (by omega)) (cwS 1 hW (tq_gS qm_41 qm_42 qm_1 qm_43) rfl rfl rfl (by decide +kernel) ⟨Nat.le_of_ble_eq_true rfl, Nat.le_of_ble_eq_true rfl⟩) ⟨tq_b0, fun U hU hW9 => ⟨rfl, trivial⟩⟩ rfl rfl hl.1 rfl (lv_room (Nat.le_of_ble_eq_true rfl)) qd_X_path_57 ⟨Nat.le_of_ble_eq_true rfl, Nat.le_of_ble_eq_true rfl⟩) (fun r9 e9 => ?_)
      subst e9
      refine lv_iadd hx hb qd_X_path_60 ?_
      refine tq_ti (y := nI (i + tq_pb z)) (nI_add _ _) ?_
      refine lv_istore (lv' := [(6, .int (nI (i + tq_pb z))), (5, .int (nI t)), (4, .int (nI (i + z))), (3, .int (nI i)), (0, .ref x), (1, .int (nI mm))]) hx hb qd_X_path_61 hl (by decide) rfl (fun ls hl => ?_)
      refine lv_iload_n hx hb qd_X_path_63 rfl (lv_at hl 5 rfl) ?_
      refine lv_iload hx hb qd_X_path_64 (lv_at hl 0 rfl) ?_
      refine tq_icmp_ge (x := mm) (y := (i + tq_pb z)) (tgt := 94) hx hb qd_X_path_66 (by decide) (by omega) (by omega) (fun c9 => ?_) (fun c9 => ?_)
      · rw [tq_pt_r h2 (by omega), List.append_assoc] at hL
        rw [tq_pl_r h2 (by omega)] at ht
        refine lv_aload_n hx hb qd_X_path_94 rfl (lv_at hl 4 rfl) ?_
        refine va_get (D := (dC, dI)) (ci := 0) (v := .ref b) (C := RX0) (T := TX0) (N := 4) hx hb hW inX0 hown hK hP 0 rfl rfl 2 (by decide) (hW _ qm_21) (fun _ h9 => h9) rfl qd_X_path_95 ?_
        refine lv_iload hx hb qd_X_path_98 (lv_at hl 1 rfl) ?_
        refine lv_aload_n hx hb qd_X_path_100 rfl (lv_at hl 4 rfl) ?_
        refine va_get (D := (dC, dI)) (ci := 0) (v := .ref a) (C := RX0) (T := TX0) (N := 4) hx hb hW inX0 hown hK hP 0 rfl rfl 0 (by decide) (hW _ qm_19) (fun _ h9 => h9) rfl qd_X_path_101 ?_
        refine lv_iload_n hx hb qd_X_path_104 rfl (lv_at hl 3 rfl) ?_
        refine lv_iload hx hb qd_X_path_105 (lv_at hl 0 rfl) ?_
        refine vp_callSl (W.runS (As := [.ref a, .int (nI i), .int (nI (i + tq_pb z))]) (rest := [.int (nI t), .ref b]) ⟨hx, hb, hml, hown, hW⟩ (ct_X_headOf l dC dI a cA f 10 i (tq_pb z) (by omega) (by omega)) (cwS 3 hW (tq_gS qm_207 qm_208 qm_1 qm_209) rfl rfl rfl (by decide +kernel) ⟨Nat.le_of_ble_eq_true rfl, Nat.le_of_ble_eq_true rfl⟩) ⟨tq_b1, fun U hU hW9 => ⟨rfl, by rw [hU]; exact hP.sub [1] rfl, va_K.moved hW9.alike (hK.sub [0] rfl)⟩⟩ rfl rfl hl.1 rfl (lv_room (Nat.le_of_ble_eq_true rfl)) qd_X_path_107 ⟨Nat.le_of_ble_eq_true rfl, Nat.le_of_ble_eq_true rfl⟩) (fun r9 e9 => ?_)
        subst e9
        refine tq_last hx hb hK hP hD hS 2 0 rfl rfl (j := t) (x := (tq_hd f i (tq_pb z))) (by omega) (by decide) qd_X_path_110 (fun H locs hP hD hS => ?_)
        have hP : va_P (dC, dI) tq_cl [(x, .inr (0, [.ref a, .int (nI n), .ref b, .int (nI (tq_pl mm j))])), (a, .inl (cA, (600, .inr (.inl f)))), (b, .inl (cA, (40, .inr (.inl (vp_updL g1 t (tq_hd f i (tq_pb z)))))))] H := hP
        have hD : va_D A [(x, .inr (0, [.ref a, .int (nI n), .ref b, .int (nI (tq_pl mm j))])), (a, .inl (cA, (600, .inr (.inl f)))), (b, .inl (cA, (40, .inr (.inl (vp_updL g1 t (tq_hd f i (tq_pb z)))))))] := hD
        refine lv_iload hx hb qd_X_path_111 (lv_at hl 0 rfl) ?_
        refine lv_istore_n (lv' := [(3, .int (nI (i + tq_pb z))), (6, .int (nI (i + tq_pb z))), (5, .int (nI t)), (4, .int (nI (i + z))), (0, .ref x), (1, .int (nI mm))]) hx hb qd_X_path_113 rfl hl (by decide) rfl (fun ls hl => ?_)
        refine lv_iinc (v := (tq_pd t)) (lv' := [(5, .int (tq_pd t)), (3, .int (nI (i + tq_pb z))), (6, .int (nI (i + tq_pb z))), (4, .int (nI (i + z))), (0, .ref x), (1, .int (nI mm))]) hx hb qd_X_path_114 hl (k := 2) rfl (tq_pd_i t) (by decide) rfl (fun ls hl => ?_)
        refine lv_goto (tgt := 47) hx hb qd_X_path_117 (by decide) ?_
        exact ih (i + tq_pb z) (y - tq_pb z) (z - tq_pb z) _ _ (by omega) (by omega) (by omega) (by omega) hL (tq_sh1 hg) _ _ hP hD hS ls (by rw [show i + tq_pb z + (z - tq_pb z) = i + z by omega]; exact lv_sub hl [0, 3, 1, 4, 5] rfl)
      · rw [tq_pt_l h2 (by omega), List.append_assoc] at hL
        rw [tq_pl_l h2 (by omega)] at ht
        refine lv_aload_n hx hb qd_X_path_69 rfl (lv_at hl 4 rfl) ?_
        refine va_get (D := (dC, dI)) (ci := 0) (v := .ref b) (C := RX0) (T := TX0) (N := 4) hx hb hW inX0 hown hK hP 0 rfl rfl 2 (by decide) (hW _ qm_21) (fun _ h9 => h9) rfl qd_X_path_70 ?_
        refine lv_iload hx hb qd_X_path_73 (lv_at hl 1 rfl) ?_
        refine lv_aload_n hx hb qd_X_path_75 rfl (lv_at hl 4 rfl) ?_
        refine va_get (D := (dC, dI)) (ci := 0) (v := .ref a) (C := RX0) (T := TX0) (N := 4) hx hb hW inX0 hown hK hP 0 rfl rfl 0 (by decide) (hW _ qm_19) (fun _ h9 => h9) rfl qd_X_path_76 ?_
        refine lv_iload hx hb qd_X_path_79 (lv_at hl 0 rfl) ?_
        refine lv_iload hx hb qd_X_path_81 (lv_at hl 2 rfl) ?_
        refine tq_ti (y := nI (i + tq_pb z + (z - tq_pb z))) (by congr 1; omega) ?_
        refine vp_callSl (W.runS (As := [.ref a, .int (nI (i + tq_pb z)), .int (nI (i + tq_pb z + (z - tq_pb z)))]) (rest := [.int (nI t), .ref b]) ⟨hx, hb, hml, hown, hW⟩ (ct_X_headOf l dC dI a cA f 10 (i + tq_pb z) (z - tq_pb z) (by omega) (by omega)) (cwS 3 hW (tq_gS qm_207 qm_208 qm_1 qm_209) rfl rfl rfl (by decide +kernel) ⟨Nat.le_of_ble_eq_true rfl, Nat.le_of_ble_eq_true rfl⟩) ⟨tq_b1, fun U hU hW9 => ⟨rfl, by rw [hU]; exact hP.sub [1] rfl, va_K.moved hW9.alike (hK.sub [0] rfl)⟩⟩ rfl rfl hl.1 rfl (lv_room (Nat.le_of_ble_eq_true rfl)) qd_X_path_83 ⟨Nat.le_of_ble_eq_true rfl, Nat.le_of_ble_eq_true rfl⟩) (fun r9 e9 => ?_)
        subst e9
        refine tq_last hx hb hK hP hD hS 2 0 rfl rfl (j := t) (x := (tq_hd f (i + tq_pb z) (z - tq_pb z))) (by omega) (by decide) qd_X_path_86 (fun H locs hP hD hS => ?_)
        have hP : va_P (dC, dI) tq_cl [(x, .inr (0, [.ref a, .int (nI n), .ref b, .int (nI (tq_pl mm j))])), (a, .inl (cA, (600, .inr (.inl f)))), (b, .inl (cA, (40, .inr (.inl (vp_updL g1 t (tq_hd f (i + tq_pb z) (z - tq_pb z)))))))] H := hP
        have hD : va_D A [(x, .inr (0, [.ref a, .int (nI n), .ref b, .int (nI (tq_pl mm j))])), (a, .inl (cA, (600, .inr (.inl f)))), (b, .inl (cA, (40, .inr (.inl (vp_updL g1 t (tq_hd f (i + tq_pb z) (z - tq_pb z)))))))] := hD
        refine lv_iload hx hb qd_X_path_87 (lv_at hl 0 rfl) ?_
        refine lv_istore (lv' := [(4, .int (nI (i + tq_pb z))), (6, .int (nI (i + tq_pb z))), (5, .int (nI t)), (3, .int (nI i)), (0, .ref x), (1, .int (nI mm))]) hx hb qd_X_path_89 hl (by decide) rfl (fun ls hl => ?_)
        refine lv_goto (tgt := 114) hx hb qd_X_path_91 (by decide) ?_
        refine lv_iinc (v := (tq_pd t)) (lv' := [(5, .int (tq_pd t)), (4, .int (nI (i + tq_pb z))), (6, .int (nI (i + tq_pb z))), (3, .int (nI i)), (0, .ref x), (1, .int (nI mm))]) hx hb qd_X_path_114 hl (k := 2) rfl (tq_pd_i t) (by decide) rfl (fun ls hl => ?_)
        refine lv_goto (tgt := 47) hx hb qd_X_path_117 (by decide) ?_
        exact ih i y (tq_pb z) _ _ hi (by omega) (by omega) (by omega) hL (tq_sh1 hg) _ _ hP hD hS ls (lv_sub hl [0, 1, 3, 4, 5] rfl)
  refine lv_iload_n hx hb qd_X_path_0 rfl (lv_at hl 1 rfl) ?_
  refine tq_if_lt (x := mm) (tgt := 17) hx hb qd_X_path_1 (by decide) (by omega) ?_
  refine lv_iload_n hx hb qd_X_path_4 rfl (lv_at hl 1 rfl) ?_
  refine lv_iload_n hx hb qd_X_path_5 rfl (lv_at hl 2 rfl) ?_
  refine tq_icmp_ge (x := mm) (y := j) (tgt := 17) hx hb qd_X_path_6 (by decide) (by omega) (by omega) (fun c9 => by omega) (fun c9 => ?_)
  refine lv_iload_n hx hb qd_X_path_9 rfl (lv_at hl 2 rfl) ?_
  refine lv_aload_n hx hb qd_X_path_10 rfl (lv_at hl 0 rfl) ?_
  refine va_get (D := (dC, dI)) (ci := 0) (v := .int (nI n)) (C := RX0) (T := TX0) (N := 4) hx hb hW inX0 hown hK hP 0 rfl rfl 1 (by decide) (hW _ qm_20) (fun _ h9 => h9) rfl qd_X_path_11 ?_
  refine tq_icmp_le (x := j) (y := n) (tgt := 25) hx hb qd_X_path_14 (by decide) (by omega) (by omega) (fun c9 => ?_) (fun c9 => by omega)
  have hpl := tq_pl_le 10 mm j (by omega)
  refine lv_aload_n hx hb qd_X_path_25 rfl (lv_at hl 0 rfl) ?_
  refine lv_iload_n hx hb qd_X_path_26 rfl (lv_at hl 1 rfl) ?_
  refine lv_iload_n hx hb qd_X_path_27 rfl (lv_at hl 2 rfl) ?_
  refine vp_callSi (W.runS (As := [.int (nI mm), .int (nI j)]) (rest := [.ref x]) ⟨hx, hb, hml, hown, hW⟩ (ct_X_pathLength l mm j (by omega) (by omega)) (cwS 2 hW (tq_gS qm_38 qm_39 qm_1 qm_40) rfl rfl rfl (by decide +kernel) ⟨Nat.le_of_ble_eq_true rfl, Nat.le_of_ble_eq_true rfl⟩) ⟨tq_b0, fun U hU hW9 => ⟨rfl, trivial⟩⟩ rfl rfl hl.1 rfl (lv_room (Nat.le_of_ble_eq_true rfl)) qd_X_path_28 ⟨Nat.le_of_ble_eq_true rfl, Nat.le_of_ble_eq_true rfl⟩) (fun r9 e9 => ?_)
  subst e9
  refine va_put (D := (dC, dI)) (ci := 0) (v := .int (nI (tq_pl mm j))) (ty := .int) (C := RX0) (T := TX0) (N := 4) hx hb hW inX0 tyX0 tyX0_ok nmX0 hown hK hP hD hS 0 rfl rfl 3 (by decide) (hW _ qm_22) (fun _ h9 => h9) rfl (by decide +kernel) rfl rfl (Nat.le_of_ble_eq_true rfl) qd_X_path_31 (fun H locs hP hD hS => ?_)
  have hP : va_P (dC, dI) tq_cl [(x, .inr (0, [.ref a, .int (nI n), .ref b, .int (nI (tq_pl mm j))])), (a, .inl (cA, (600, .inr (.inl f)))), (b, .inl (cA, (40, .inr (.inl g))))] H := hP
  have hD : va_D A [(x, .inr (0, [.ref a, .int (nI n), .ref b, .int (nI (tq_pl mm j))])), (a, .inl (cA, (600, .inr (.inl f)))), (b, .inl (cA, (40, .inr (.inl g))))] := hD
  refine lv_iconst (v := nI 0) hx hb qd_X_path_34 (by decide +kernel) ?_
  refine tq_ti (y := nI 0) (rfl) ?_
  refine lv_istore_n (lv' := [(3, .int (nI 0)), (0, .ref x), (1, .int (nI mm)), (2, .int (nI j))]) hx hb qd_X_path_35 rfl hl (by decide) rfl (fun ls hl => ?_)
  refine lv_iload_n hx hb qd_X_path_36 rfl (lv_at hl 3 rfl) ?_
  refine tq_ti (y := nI (0 + j)) (by rw [Nat.zero_add]) ?_
  refine lv_istore (lv' := [(4, .int (nI (0 + j))), (3, .int (nI 0)), (0, .ref x), (1, .int (nI mm)), (2, .int (nI j))]) hx hb qd_X_path_37 hl (by decide) rfl (fun ls hl => ?_)
  refine lv_aload_n hx hb qd_X_path_39 rfl (lv_at hl 2 rfl) ?_
  refine va_get (D := (dC, dI)) (ci := 0) (v := .int (nI (tq_pl mm j))) (C := RX0) (T := TX0) (N := 4) hx hb hW inX0 hown hK hP 0 rfl rfl 3 (by decide) (hW _ qm_22) (fun _ h9 => h9) rfl qd_X_path_40 ?_
  refine lv_iconst (v := nI 1) hx hb qd_X_path_43 (by decide +kernel) ?_
  refine lv_isub hx hb qd_X_path_44 ?_
  refine tq_ti (y := tq_pd (tq_pl mm j)) (tq_pd_1 _) ?_
  refine lv_istore (lv' := [(5, .int (tq_pd (tq_pl mm j))), (4, .int (nI (0 + j))), (3, .int (nI 0)), (0, .ref x), (1, .int (nI mm)), (2, .int (nI j))]) hx hb qd_X_path_45 hl (by decide) rfl (fun ls hl => ?_)
  exact loop (tq_pl mm j) 0 mm j [] g (Nat.zero_add mm) h1 (by omega) rfl (List.append_nil _).symm (fun q h9 => absurd h9 (Nat.not_lt_zero q)) _ _ hP hD hS ls (lv_sub hl [0, 1, 2, 3, 4] rfl)
set_option maxHeartbeats 4000000 in
set_option maxRecDepth 100000 in
/-- steps -/
theorem ct_X_steps (l : Launch) (dC : Nat → ClassId) (dI : Nat → Nat → Nat) (x a b : Nat) (cA : ClassId) (n k : Nat) (f g : Nat → Int64) (sz : Nat) (mm j : Nat) (h0 : 1 ≤ mm) (h1 : mm ≤ j) (hj : j ≤ n) (hn : n ≤ 600) : Met l qy_X_steps qw_X_steps ({ frames := 13, cells := 0, slots := 0, locals := 320 }) (va_Pc [.ref x, .int (nI mm), .int (nI j)] (tq_rw (dC, dI) [(x, .inr (0, [.ref a, .int (nI n), .ref b, .int (nI k)])), (a, .inl (cA, (600, .inr (.inl f)))), (b, .inl (cA, (40, .inr (.inl g))))] [(cA, .long)] sz)) (va_Qi (fun r (u : Nat → Int64) => r = nI (tq_sl true mm j) ∧ ∀ q, q < (tq_st f true 0 mm j).length → u q = (tq_st f true 0 mm j).getD q 0) (fun u t => tq_in (dC, dI) [(x, .inr (0, [.ref a, .int (nI n), .ref b, .int (nI (tq_sl true mm j))])), (a, .inl (cA, (600, .inr (.inl f)))), (b, .inl (cA, (40, .inr (.inl u))))] [(cA, .long)] (va_A [(x, .inr (0, [.ref a, .int (nI n), .ref b, .int (nI k)])), (a, .inl (cA, (600, .inr (.inl f)))), (b, .inl (cA, (40, .inr (.inl g))))] sz) t) (va_A [(x, .inr (0, [.ref a, .int (nI n), .ref b, .int (nI k)])), (a, .inl (cA, (600, .inr (.inl f)))), (b, .inl (cA, (40, .inr (.inl g))))] sz)) 0 0 (va_A [(x, .inr (0, [.ref a, .int (nI n), .ref b, .int (nI k)])), (a, .inl (cA, (600, .inr (.inl f)))), (b, .inl (cA, (40, .inr (.inl g))))] sz) := by
  refine Met.ofW (cc := qc_X_steps) (maxL := 7) (ret := (some .int)) (by decide) rfl ?_
  intro p e s m args below meth c s₁ B hml hv
  obtain ⟨rfl, hsz, hP, hK, hD0⟩ := hv
  have hx := B.exec
  have hb := B.bytes
  have hr := B.returns
  have hts := atoms_spec (ws := qw_X_steps) B.pre
  have hW : ∀ w ∈ tq_W, w.before ([.ref x, .int (nI mm), .int (nI j)] : List Value).toArray s = true := fun w h => hts w (List.mem_cons_of_mem _ h)
  have hown : s.vm.findClass RX0 = some m.cls := findClass_of_methodNamed B.named
  have hlocks := B.notSynchronized
  have hl := lv_entry ([.ref x, .int (nI mm), .int (nI j)]) (n := 7) (Nat.le_of_ble_eq_true rfl)
  rw [lg_entry_eq]
  generalize (lg_sl ([.ref x, .int (nI mm), .int (nI j)]) ++ List.replicate (7 - (lg_sl ([.ref x, .int (nI mm), .int (nI j)])).length) Slot.unset).toArray = ls at hl ⊢
  have hl : lv_has ls 7 [(0, .ref x), (1, .int (nI mm)), (2, .int (nI j))] := hl
  subst hsz
  have hD := hD0.self (sz := s.heap.size)
  generalize hAe : va_A [(x, .inr (0, [.ref a, .int (nI n), .ref b, .int (nI k)])), (a, .inl (cA, (600, .inr (.inl f)))), (b, .inl (cA, (40, .inr (.inl g))))] s.heap.size = A at hD ⊢
  have hA : ∀ q : Nat, s.heap.size ≤ q → A q := fun q h => by rw [← hAe]; exact Or.inr h
  have hS : va_S A s.heap s.heap [] := va_S.rf
  have loop : ∀ (t i y z : Nat) (kn : Bool) (S : List Int64) (g1 : Nat → Int64), i + y = mm → 1 ≤ y → y ≤ z → i + z ≤ j → t = tq_sl kn y z → tq_st f true 0 mm j = tq_st f kn i y z ++ S → (∀ q, q < S.length → g1 (t + q) = S.getD q 0) → ∀ (H : Heap) (locs : List Loc), va_P (dC, dI) tq_cl [(x, .inr (0, [.ref a, .int (nI n), .ref b, .int (nI (tq_sl true mm j))])), (a, .inl (cA, (600, .inr (.inl f)))), (b, .inl (cA, (40, .inr (.inl g1))))] H → va_D A [(x, .inr (0, [.ref a, .int (nI n), .ref b, .int (nI (tq_sl true mm j))])), (a, .inl (cA, (600, .inr (.inl f)))), (b, .inl (cA, (40, .inr (.inl g1))))] → va_S A s.heap H locs → ∀ ls : Array Slot, lv_has ls 7 [(5, .int (tq_pd t)), (4, .int (nI (i + z))), (3, .int (nI i)), (0, .ref x), (1, .int (nI mm))] → W p l e (headSpec qw_X_steps ({ frames := 13, cells := 0, slots := 0, locals := 320 })).room s m ([.ref x, .int (nI mm), .int (nI j)] : List Value).toArray below meth c H locs 0 0 (MQ below (va_Qi (fun r (u : Nat → Int64) => r = nI (tq_sl true mm j) ∧ ∀ q, q < (tq_st f true 0 mm j).length → u q = (tq_st f true 0 mm j).getD q 0) (fun u t => tq_in (dC, dI) [(x, .inr (0, [.ref a, .int (nI n), .ref b, .int (nI (tq_sl true mm j))])), (a, .inl (cA, (600, .inr (.inl f)))), (b, .inl (cA, (40, .inr (.inl u))))] [(cA, .long)] A t) A) ([.ref x, .int (nI mm), .int (nI j)] : List Value).toArray s 0 0 A) (F0 m 48 ls []) := by
    intro t
    induction t with
    | zero =>
      intro i y z kn S g1 hi hy0 hy hz ht hL hg H locs hP hD hS ls hl
      have e0 : tq_st f kn i y z = [] := List.eq_nil_of_length_eq_zero (by rw [tq_st_len, ← ht])
      rw [e0, List.nil_append] at hL
      refine lv_iload hx hb qd_X_steps_48 (lv_at hl 0 rfl) ?_
      refine lv_if_lt (tgt := 147) hx hb qd_X_steps_50 (by decide) (fun c9 => ?_) (fun c9 => absurd tq_pd_0 c9)
      refine lv_aload_n hx hb qd_X_steps_147 rfl (lv_at hl 3 rfl) ?_
      refine va_get (D := (dC, dI)) (ci := 0) (v := .int (nI (tq_sl true mm j))) (C := RX0) (T := TX0) (N := 4) hx hb hW inX0 hown hK hP 0 rfl rfl 3 (by decide) (hW _ qm_22) (fun _ h9 => h9) rfl qd_X_steps_148 ?_
      exact W.iret hx hb hr (fun t ht hW9 => ⟨⟨_, g1, rfl, ⟨rfl, tq_sh2 hL hg⟩, by rw [ht]; exact hP, va_K.moved hW9.alike hK, hD⟩, hS.F ht⟩) hS.2.2 qd_X_steps_151
    | succ t ih =>
      intro i y z kn S g1 hi hy0 hy hz ht hL hg H locs hP hD hS ls hl
      rw [tq_pd_s] at hl
      have hps := tq_pb_pos z
      have hsl := tq_sl_le 10 kn y z (by omega)
      have ht40 : t < 40 := by omega
      refine lv_iload hx hb qd_X_steps_48 (lv_at hl 0 rfl) ?_
      refine tq_if_lt (x := t) (tgt := 147) hx hb qd_X_steps_50 (by decide) (by omega) ?_
      refine lv_iload_n hx hb qd_X_steps_53 rfl (lv_at hl 2 rfl) ?_
      refine lv_iload hx hb qd_X_steps_54 (lv_at hl 1 rfl) ?_
      refine lv_iload_n hx hb qd_X_steps_56 rfl (lv_at hl 2 rfl) ?_
      refine lv_isub hx hb qd_X_steps_57 ?_
      refine tq_ti (y := nI z) (by rw [pk_sub (by omega)]; congr 1; omega) ?_
      refine vp_callSi (W.runS (As := [.int (nI z)]) (rest := [.int (nI i)]) ⟨hx, hb, hml, hown, hW⟩ (ct_X_powerBelow l z (by omega) (by omega)) (cwS 1 hW (tq_gS qm_41 qm_42 qm_1 qm_43) rfl rfl rfl (by decide +kernel) ⟨Nat.le_of_ble_eq_true rfl, Nat.le_of_ble_eq_true rfl⟩) ⟨tq_b0, fun U hU hW9 => ⟨rfl, trivial⟩⟩ rfl rfl hl.1 rfl (lv_room (Nat.le_of_ble_eq_true rfl)) qd_X_steps_58 ⟨Nat.le_of_ble_eq_true rfl, Nat.le_of_ble_eq_true rfl⟩) (fun r9 e9 => ?_)
      subst e9
      refine lv_iadd hx hb qd_X_steps_61 ?_
      refine tq_ti (y := nI (i + tq_pb z)) (nI_add _ _) ?_
      refine lv_istore (lv' := [(6, .int (nI (i + tq_pb z))), (5, .int (nI t)), (4, .int (nI (i + z))), (3, .int (nI i)), (0, .ref x), (1, .int (nI mm))]) hx hb qd_X_steps_62 hl (by decide) rfl (fun ls hl => ?_)
      refine lv_iload_n hx hb qd_X_steps_64 rfl (lv_at hl 5 rfl) ?_
      refine lv_iload hx hb qd_X_steps_65 (lv_at hl 2 rfl) ?_
      refine tq_icmp_ne (x := mm) (y := (i + z)) (tgt := 90) hx hb qd_X_steps_67 (by decide) (by omega) (by omega) (fun c1 => ?_) (fun c1 => ?_)
      · have h2 : 2 ≤ z := by omega
        have hlt := tq_pb_lt h2
        refine lv_iload_n hx hb qd_X_steps_90 rfl (lv_at hl 5 rfl) ?_
        refine lv_iload hx hb qd_X_steps_91 (lv_at hl 0 rfl) ?_
        refine tq_icmp_gt (x := mm) (y := (i + tq_pb z)) (tgt := 121) hx hb qd_X_steps_93 (by decide) (by omega) (by omega) (fun c9 => ?_) (fun c9 => ?_)
        · rw [tq_st_r h2 (by omega) (by omega), List.append_assoc] at hL
          rw [tq_sl_r h2 (by omega) (by omega)] at ht
          refine lv_aload_n hx hb qd_X_steps_121 rfl (lv_at hl 4 rfl) ?_
          refine va_get (D := (dC, dI)) (ci := 0) (v := .ref b) (C := RX0) (T := TX0) (N := 4) hx hb hW inX0 hown hK hP 0 rfl rfl 2 (by decide) (hW _ qm_21) (fun _ h9 => h9) rfl qd_X_steps_122 ?_
          refine lv_iload hx hb qd_X_steps_125 (lv_at hl 1 rfl) ?_
          refine lv_aload_n hx hb qd_X_steps_127 rfl (lv_at hl 4 rfl) ?_
          refine va_get (D := (dC, dI)) (ci := 0) (v := .ref a) (C := RX0) (T := TX0) (N := 4) hx hb hW inX0 hown hK hP 0 rfl rfl 0 (by decide) (hW _ qm_19) (fun _ h9 => h9) rfl qd_X_steps_128 ?_
          refine lv_iload_n hx hb qd_X_steps_131 rfl (lv_at hl 3 rfl) ?_
          refine lv_iload hx hb qd_X_steps_132 (lv_at hl 0 rfl) ?_
          refine vp_callSl (W.runS (As := [.ref a, .int (nI i), .int (nI (i + tq_pb z))]) (rest := [.int (nI t), .ref b]) ⟨hx, hb, hml, hown, hW⟩ (ct_X_headOf l dC dI a cA f 10 i (tq_pb z) (by omega) (by omega)) (cwS 3 hW (tq_gS qm_207 qm_208 qm_1 qm_209) rfl rfl rfl (by decide +kernel) ⟨Nat.le_of_ble_eq_true rfl, Nat.le_of_ble_eq_true rfl⟩) ⟨tq_b1, fun U hU hW9 => ⟨rfl, by rw [hU]; exact hP.sub [1] rfl, va_K.moved hW9.alike (hK.sub [0] rfl)⟩⟩ rfl rfl hl.1 rfl (lv_room (Nat.le_of_ble_eq_true rfl)) qd_X_steps_134 ⟨Nat.le_of_ble_eq_true rfl, Nat.le_of_ble_eq_true rfl⟩) (fun r9 e9 => ?_)
          subst e9
          refine tq_last hx hb hK hP hD hS 2 0 rfl rfl (j := t) (x := (tq_hd f i (tq_pb z))) (by omega) (by decide) qd_X_steps_137 (fun H locs hP hD hS => ?_)
          have hP : va_P (dC, dI) tq_cl [(x, .inr (0, [.ref a, .int (nI n), .ref b, .int (nI (tq_sl true mm j))])), (a, .inl (cA, (600, .inr (.inl f)))), (b, .inl (cA, (40, .inr (.inl (vp_updL g1 t (tq_hd f i (tq_pb z)))))))] H := hP
          have hD : va_D A [(x, .inr (0, [.ref a, .int (nI n), .ref b, .int (nI (tq_sl true mm j))])), (a, .inl (cA, (600, .inr (.inl f)))), (b, .inl (cA, (40, .inr (.inl (vp_updL g1 t (tq_hd f i (tq_pb z)))))))] := hD
          refine lv_iload hx hb qd_X_steps_138 (lv_at hl 0 rfl) ?_
          refine lv_istore_n (lv' := [(3, .int (nI (i + tq_pb z))), (6, .int (nI (i + tq_pb z))), (5, .int (nI t)), (4, .int (nI (i + z))), (0, .ref x), (1, .int (nI mm))]) hx hb qd_X_steps_140 rfl hl (by decide) rfl (fun ls hl => ?_)
          refine lv_iinc (v := (tq_pd t)) (lv' := [(5, .int (tq_pd t)), (3, .int (nI (i + tq_pb z))), (6, .int (nI (i + tq_pb z))), (4, .int (nI (i + z))), (0, .ref x), (1, .int (nI mm))]) hx hb qd_X_steps_141 hl (k := 2) rfl (tq_pd_i t) (by decide) rfl (fun ls hl => ?_)
          refine lv_goto (tgt := 48) hx hb qd_X_steps_144 (by decide) ?_
          exact ih (i + tq_pb z) (y - tq_pb z) (z - tq_pb z) false _ _ (by omega) (by omega) (by omega) (by omega) (by omega) hL (tq_sh1 hg) _ _ hP hD hS ls (by rw [show i + tq_pb z + (z - tq_pb z) = i + z by omega]; exact lv_sub hl [0, 3, 1, 4, 5] rfl)
        · rw [tq_st_l h2 (by omega), List.append_assoc] at hL
          rw [tq_sl_l h2 (by omega)] at ht
          refine lv_aload_n hx hb qd_X_steps_96 rfl (lv_at hl 4 rfl) ?_
          refine va_get (D := (dC, dI)) (ci := 0) (v := .ref b) (C := RX0) (T := TX0) (N := 4) hx hb hW inX0 hown hK hP 0 rfl rfl 2 (by decide) (hW _ qm_21) (fun _ h9 => h9) rfl qd_X_steps_97 ?_
          refine lv_iload hx hb qd_X_steps_100 (lv_at hl 1 rfl) ?_
          refine lv_aload_n hx hb qd_X_steps_102 rfl (lv_at hl 4 rfl) ?_
          refine va_get (D := (dC, dI)) (ci := 0) (v := .ref a) (C := RX0) (T := TX0) (N := 4) hx hb hW inX0 hown hK hP 0 rfl rfl 0 (by decide) (hW _ qm_19) (fun _ h9 => h9) rfl qd_X_steps_103 ?_
          refine lv_iload hx hb qd_X_steps_106 (lv_at hl 0 rfl) ?_
          refine lv_iload hx hb qd_X_steps_108 (lv_at hl 2 rfl) ?_
          refine tq_ti (y := nI (i + tq_pb z + (z - tq_pb z))) (by congr 1; omega) ?_
          refine vp_callSl (W.runS (As := [.ref a, .int (nI (i + tq_pb z)), .int (nI (i + tq_pb z + (z - tq_pb z)))]) (rest := [.int (nI t), .ref b]) ⟨hx, hb, hml, hown, hW⟩ (ct_X_headOf l dC dI a cA f 10 (i + tq_pb z) (z - tq_pb z) (by omega) (by omega)) (cwS 3 hW (tq_gS qm_207 qm_208 qm_1 qm_209) rfl rfl rfl (by decide +kernel) ⟨Nat.le_of_ble_eq_true rfl, Nat.le_of_ble_eq_true rfl⟩) ⟨tq_b1, fun U hU hW9 => ⟨rfl, by rw [hU]; exact hP.sub [1] rfl, va_K.moved hW9.alike (hK.sub [0] rfl)⟩⟩ rfl rfl hl.1 rfl (lv_room (Nat.le_of_ble_eq_true rfl)) qd_X_steps_110 ⟨Nat.le_of_ble_eq_true rfl, Nat.le_of_ble_eq_true rfl⟩) (fun r9 e9 => ?_)
          subst e9
          refine tq_last hx hb hK hP hD hS 2 0 rfl rfl (j := t) (x := (tq_hd f (i + tq_pb z) (z - tq_pb z))) (by omega) (by decide) qd_X_steps_113 (fun H locs hP hD hS => ?_)
          have hP : va_P (dC, dI) tq_cl [(x, .inr (0, [.ref a, .int (nI n), .ref b, .int (nI (tq_sl true mm j))])), (a, .inl (cA, (600, .inr (.inl f)))), (b, .inl (cA, (40, .inr (.inl (vp_updL g1 t (tq_hd f (i + tq_pb z) (z - tq_pb z)))))))] H := hP
          have hD : va_D A [(x, .inr (0, [.ref a, .int (nI n), .ref b, .int (nI (tq_sl true mm j))])), (a, .inl (cA, (600, .inr (.inl f)))), (b, .inl (cA, (40, .inr (.inl (vp_updL g1 t (tq_hd f (i + tq_pb z) (z - tq_pb z)))))))] := hD
          refine lv_iload hx hb qd_X_steps_114 (lv_at hl 0 rfl) ?_
          refine lv_istore (lv' := [(4, .int (nI (i + tq_pb z))), (6, .int (nI (i + tq_pb z))), (5, .int (nI t)), (3, .int (nI i)), (0, .ref x), (1, .int (nI mm))]) hx hb qd_X_steps_116 hl (by decide) rfl (fun ls hl => ?_)
          refine lv_goto (tgt := 141) hx hb qd_X_steps_118 (by decide) ?_
          refine lv_iinc (v := (tq_pd t)) (lv' := [(5, .int (tq_pd t)), (4, .int (nI (i + tq_pb z))), (6, .int (nI (i + tq_pb z))), (3, .int (nI i)), (0, .ref x), (1, .int (nI mm))]) hx hb qd_X_steps_141 hl (k := 2) rfl (tq_pd_i t) (by decide) rfl (fun ls hl => ?_)
          refine lv_goto (tgt := 48) hx hb qd_X_steps_144 (by decide) ?_
          exact ih i y (tq_pb z) kn _ _ hi hy0 (by omega) (by omega) (by omega) hL (tq_sh1 hg) _ _ hP hD hS ls (lv_sub hl [0, 1, 3, 4, 5] rfl)
      · obtain rfl : y = z := by omega
        have ek : kn = false ∧ t = 0 := by
          rw [tq_sl_e] at ht
          cases kn with
          | true => exact absurd ht (by simp)
          | false => exact ⟨rfl, by simpa using ht⟩
        obtain ⟨rfl, rfl⟩ := ek
        rw [tq_st_e] at hL
        refine lv_aload_n hx hb qd_X_steps_70 rfl (lv_at hl 4 rfl) ?_
        refine va_get (D := (dC, dI)) (ci := 0) (v := .ref b) (C := RX0) (T := TX0) (N := 4) hx hb hW inX0 hown hK hP 0 rfl rfl 2 (by decide) (hW _ qm_21) (fun _ h9 => h9) rfl qd_X_steps_71 ?_
        refine lv_iload hx hb qd_X_steps_74 (lv_at hl 1 rfl) ?_
        refine lv_aload_n hx hb qd_X_steps_76 rfl (lv_at hl 4 rfl) ?_
        refine va_get (D := (dC, dI)) (ci := 0) (v := .ref a) (C := RX0) (T := TX0) (N := 4) hx hb hW inX0 hown hK hP 0 rfl rfl 0 (by decide) (hW _ qm_19) (fun _ h9 => h9) rfl qd_X_steps_77 ?_
        refine lv_iload_n hx hb qd_X_steps_80 rfl (lv_at hl 3 rfl) ?_
        refine lv_iload hx hb qd_X_steps_81 (lv_at hl 2 rfl) ?_
        refine vp_callSl (W.runS (As := [.ref a, .int (nI i), .int (nI (i + y))]) (rest := [.int (nI 0), .ref b]) ⟨hx, hb, hml, hown, hW⟩ (ct_X_headOf l dC dI a cA f 10 i y (by omega) (by omega)) (cwS 3 hW (tq_gS qm_207 qm_208 qm_1 qm_209) rfl rfl rfl (by decide +kernel) ⟨Nat.le_of_ble_eq_true rfl, Nat.le_of_ble_eq_true rfl⟩) ⟨tq_b1, fun U hU hW9 => ⟨rfl, by rw [hU]; exact hP.sub [1] rfl, va_K.moved hW9.alike (hK.sub [0] rfl)⟩⟩ rfl rfl hl.1 rfl (lv_room (Nat.le_of_ble_eq_true rfl)) qd_X_steps_83 ⟨Nat.le_of_ble_eq_true rfl, Nat.le_of_ble_eq_true rfl⟩) (fun r9 e9 => ?_)
        subst e9
        refine tq_last hx hb hK hP hD hS 2 0 rfl rfl (j := 0) (x := (tq_hd f i y)) (by omega) (by decide) qd_X_steps_86 (fun H locs hP hD hS => ?_)
        have hP : va_P (dC, dI) tq_cl [(x, .inr (0, [.ref a, .int (nI n), .ref b, .int (nI (tq_sl true mm j))])), (a, .inl (cA, (600, .inr (.inl f)))), (b, .inl (cA, (40, .inr (.inl (vp_updL g1 0 (tq_hd f i y))))))] H := hP
        have hD : va_D A [(x, .inr (0, [.ref a, .int (nI n), .ref b, .int (nI (tq_sl true mm j))])), (a, .inl (cA, (600, .inr (.inl f)))), (b, .inl (cA, (40, .inr (.inl (vp_updL g1 0 (tq_hd f i y))))))] := hD
        refine lv_goto (tgt := 141) hx hb qd_X_steps_87 (by decide) ?_
        refine lv_iinc (v := (tq_pd 0)) (lv' := [(5, .int (tq_pd 0)), (6, .int (nI (i + tq_pb y))), (4, .int (nI (i + y))), (3, .int (nI i)), (0, .ref x), (1, .int (nI mm))]) hx hb qd_X_steps_141 hl (k := 1) rfl (tq_pd_i 0) (by decide) rfl (fun ls hl => ?_)
        refine lv_goto (tgt := 48) hx hb qd_X_steps_144 (by decide) ?_
        refine lv_iload hx hb qd_X_steps_48 (lv_at hl 0 rfl) ?_
        refine lv_if_lt (tgt := 147) hx hb qd_X_steps_50 (by decide) (fun c9 => ?_) (fun c9 => absurd tq_pd_0 c9)
        refine lv_aload_n hx hb qd_X_steps_147 rfl (lv_at hl 4 rfl) ?_
        refine va_get (D := (dC, dI)) (ci := 0) (v := .int (nI (tq_sl true mm j))) (C := RX0) (T := TX0) (N := 4) hx hb hW inX0 hown hK hP 0 rfl rfl 3 (by decide) (hW _ qm_22) (fun _ h9 => h9) rfl qd_X_steps_148 ?_
        exact W.iret hx hb hr (fun t ht hW9 => ⟨⟨_, _, rfl, ⟨rfl, tq_sh2 hL (tq_sh1 hg)⟩, by rw [ht]; exact hP, va_K.moved hW9.alike hK, hD⟩, hS.F ht⟩) hS.2.2 qd_X_steps_151
  refine lv_iload_n hx hb qd_X_steps_0 rfl (lv_at hl 1 rfl) ?_
  refine lv_iconst (v := nI 1) hx hb qd_X_steps_1 (by decide +kernel) ?_
  refine tq_icmp_lt (x := mm) (y := 1) (tgt := 18) hx hb qd_X_steps_2 (by decide) (by omega) (by omega) (fun c9 => by omega) (fun c9 => ?_)
  refine lv_iload_n hx hb qd_X_steps_5 rfl (lv_at hl 1 rfl) ?_
  refine lv_iload_n hx hb qd_X_steps_6 rfl (lv_at hl 2 rfl) ?_
  refine tq_icmp_gt (x := mm) (y := j) (tgt := 18) hx hb qd_X_steps_7 (by decide) (by omega) (by omega) (fun c9 => by omega) (fun c9 => ?_)
  refine lv_iload_n hx hb qd_X_steps_10 rfl (lv_at hl 2 rfl) ?_
  refine lv_aload_n hx hb qd_X_steps_11 rfl (lv_at hl 0 rfl) ?_
  refine va_get (D := (dC, dI)) (ci := 0) (v := .int (nI n)) (C := RX0) (T := TX0) (N := 4) hx hb hW inX0 hown hK hP 0 rfl rfl 1 (by decide) (hW _ qm_20) (fun _ h9 => h9) rfl qd_X_steps_12 ?_
  refine tq_icmp_le (x := j) (y := n) (tgt := 26) hx hb qd_X_steps_15 (by decide) (by omega) (by omega) (fun c9 => ?_) (fun c9 => by omega)
  have hsl := tq_sl_le 10 true mm j (by omega)
  refine lv_aload_n hx hb qd_X_steps_26 rfl (lv_at hl 0 rfl) ?_
  refine lv_iload_n hx hb qd_X_steps_27 rfl (lv_at hl 1 rfl) ?_
  refine lv_iload_n hx hb qd_X_steps_28 rfl (lv_at hl 2 rfl) ?_
  refine vp_callSi (W.runS (As := [.int (nI mm), .int (nI j)]) (rest := [.ref x]) ⟨hx, hb, hml, hown, hW⟩ (ct_X_stepsLength l mm j (by omega) (by omega) (by omega)) (cwS 2 hW (tq_gS qm_63 qm_64 qm_1 qm_65) rfl rfl rfl (by decide +kernel) ⟨Nat.le_of_ble_eq_true rfl, Nat.le_of_ble_eq_true rfl⟩) ⟨tq_b0, fun U hU hW9 => ⟨rfl, trivial⟩⟩ rfl rfl hl.1 rfl (lv_room (Nat.le_of_ble_eq_true rfl)) qd_X_steps_29 ⟨Nat.le_of_ble_eq_true rfl, Nat.le_of_ble_eq_true rfl⟩) (fun r9 e9 => ?_)
  subst e9
  refine va_put (D := (dC, dI)) (ci := 0) (v := .int (nI (tq_sl true mm j))) (ty := .int) (C := RX0) (T := TX0) (N := 4) hx hb hW inX0 tyX0 tyX0_ok nmX0 hown hK hP hD hS 0 rfl rfl 3 (by decide) (hW _ qm_22) (fun _ h9 => h9) rfl (by decide +kernel) rfl rfl (Nat.le_of_ble_eq_true rfl) qd_X_steps_32 (fun H locs hP hD hS => ?_)
  have hP : va_P (dC, dI) tq_cl [(x, .inr (0, [.ref a, .int (nI n), .ref b, .int (nI (tq_sl true mm j))])), (a, .inl (cA, (600, .inr (.inl f)))), (b, .inl (cA, (40, .inr (.inl g))))] H := hP
  have hD : va_D A [(x, .inr (0, [.ref a, .int (nI n), .ref b, .int (nI (tq_sl true mm j))])), (a, .inl (cA, (600, .inr (.inl f)))), (b, .inl (cA, (40, .inr (.inl g))))] := hD
  refine lv_iconst (v := nI 0) hx hb qd_X_steps_35 (by decide +kernel) ?_
  refine lv_istore_n (lv' := [(3, .int (nI 0)), (0, .ref x), (1, .int (nI mm)), (2, .int (nI j))]) hx hb qd_X_steps_36 rfl hl (by decide) rfl (fun ls hl => ?_)
  refine lv_iload_n hx hb qd_X_steps_37 rfl (lv_at hl 3 rfl) ?_
  refine tq_ti (y := nI (0 + j)) (by rw [Nat.zero_add]) ?_
  refine lv_istore (lv' := [(4, .int (nI (0 + j))), (3, .int (nI 0)), (0, .ref x), (1, .int (nI mm)), (2, .int (nI j))]) hx hb qd_X_steps_38 hl (by decide) rfl (fun ls hl => ?_)
  refine lv_aload_n hx hb qd_X_steps_40 rfl (lv_at hl 2 rfl) ?_
  refine va_get (D := (dC, dI)) (ci := 0) (v := .int (nI (tq_sl true mm j))) (C := RX0) (T := TX0) (N := 4) hx hb hW inX0 hown hK hP 0 rfl rfl 3 (by decide) (hW _ qm_22) (fun _ h9 => h9) rfl qd_X_steps_41 ?_
  refine lv_iconst (v := nI 1) hx hb qd_X_steps_44 (by decide +kernel) ?_
  refine lv_isub hx hb qd_X_steps_45 ?_
  refine tq_ti (y := tq_pd (tq_sl true mm j)) (tq_pd_1 _) ?_
  refine lv_istore (lv' := [(5, .int (tq_pd (tq_sl true mm j))), (4, .int (nI (0 + j))), (3, .int (nI 0)), (0, .ref x), (1, .int (nI mm)), (2, .int (nI j))]) hx hb qd_X_steps_46 hl (by decide) rfl (fun ls hl => ?_)
  exact loop (tq_sl true mm j) 0 mm j true [] g (Nat.zero_add mm) h0 h1 (by omega) rfl (List.append_nil _).symm (fun q h9 => absurd h9 (Nat.not_lt_zero q)) _ _ hP hD hS ls (lv_sub hl [0, 1, 2, 3, 4] rfl)
end
section
def tq_q (g : Nat → Int64) (k : Nat) : Nat → Int64 := fun q => if q < k then g q else 0
theorem tq_pf_0 : ∀ d, tq_pf d 0 = 0
  | 0 => rfl
  | d + 1 => by show 0 % 2 + tq_pf d (0 / 2) = 0; rw [show 0 / 2 = 0 from rfl, tq_pf_0 d]
set_option maxHeartbeats 4000000 in
set_option maxRecDepth 100000 in
/-- LogTreeModel() -/
theorem ct_M_init (l : Launch) (dC : Nat → ClassId) (dI : Nat → Nat → Nat) (o : Nat) (sz : Nat)  : Met l qy_M_init qw_M_init ({ frames := 1, cells := 2, slots := 640, locals := 12 }) (va_Pc [.ref o] (tq_rw (dC, dI) [(o, .inr (1, [.int 0, .int 0, .int 0, .int 0, .null, .null, .long 0, .long 0]))] [] sz)) (va_Qv (fun _ : Nat × Nat × ClassId => True) (fun u t => tq_in (dC, dI) [(o, .inr (1, [.int 0, .int 0, .int 0, .int 0, .ref u.1, .ref u.2.1, .long 0, .long 0])), (u.1, .inl (u.2.2, (600, .inr (.inl (fun _ => 0))))), (u.2.1, .inl (u.2.2, (40, .inr (.inl (fun _ => 0)))))] [(u.2.2, .long)] (va_A [(o, .inr (1, [.int 0, .int 0, .int 0, .int 0, .null, .null, .long 0, .long 0]))] sz) t) (va_A [(o, .inr (1, [.int 0, .int 0, .int 0, .int 0, .null, .null, .long 0, .long 0]))] sz)) 2 640 (va_A [(o, .inr (1, [.int 0, .int 0, .int 0, .int 0, .null, .null, .long 0, .long 0]))] sz) := by
  refine Met.ofW (cc := qc_M_init) (maxL := 1) (ret := none) (by decide) rfl ?_
  intro p e s m args below meth c s₁ B hml hv
  obtain ⟨rfl, hsz, hP, hK, hD0⟩ := hv
  have hx := B.exec
  have hb := B.bytes
  have hr := B.returns
  have hts := atoms_spec (ws := qw_M_init) B.pre
  have hW : ∀ w ∈ tq_W, w.before ([.ref o] : List Value).toArray s = true := fun w h => hts w (List.mem_cons_of_mem _ h)
  have hown : s.vm.findClass RX1 = some m.cls := findClass_of_methodNamed B.named
  have hlocks := B.notSynchronized
  have hl := lv_entry ([.ref o]) (n := 1) (Nat.le_of_ble_eq_true rfl)
  rw [lg_entry_eq]
  generalize (lg_sl ([.ref o]) ++ List.replicate (1 - (lg_sl ([.ref o])).length) Slot.unset).toArray = ls at hl ⊢
  have hl : lv_has ls 1 [(0, .ref o)] := hl
  subst hsz
  have hD := hD0.self (sz := s.heap.size)
  generalize hAe : va_A [(o, .inr (1, [.int 0, .int 0, .int 0, .int 0, .null, .null, .long 0, .long 0]))] s.heap.size = A at hD ⊢
  have hA : ∀ q : Nat, s.heap.size ≤ q → A q := fun q h => by rw [← hAe]; exact Or.inr h
  have hS : va_S A s.heap s.heap [] := va_S.rf
  have hin : meth.name = "<init>" := (name_of_methodNamed B.named B.method).1
  refine lv_aload_n hx hb qd_M_init_0 rfl (lv_at hl 0 rfl) ?_
  refine W.objInit hx hb hown (hW _ qm_280) (hW _ qm_17) (hW _ qm_18) rfl (by rw [hml]; exact hl.1) rfl qd_M_init_1 (Nat.le_of_ble_eq_true rfl) (Nat.le_of_ble_eq_true rfl) ?_
  refine W.eq (g2 := F0 m 4 ls []) rfl ?_
  refine lv_aload_n hx hb qd_M_init_4 rfl (lv_at hl 0 rfl) ?_
  refine lv_sipush (v := nI 600) hx hb qd_M_init_5 (by decide +kernel) ?_
  refine va_newa (atype := .long) (N' := 600) (a0 := (600, .inr (.inl (fun _ => 0)))) (ty := .long) (n := nI 600) hx hb (hW _ qm_32) rfl hK hP hD hS hA (fun _ => rfl) (by decide +kernel) (by decide +kernel) (by decide +kernel) (Nat.le_of_ble_eq_true rfl) (Nat.le_of_ble_eq_true rfl) qd_M_init_8 (fun qa cqa H hK hP hD hS => ?_)
  have hP : va_P (dC, dI) tq_cl [(o, .inr (1, [.int 0, .int 0, .int 0, .int 0, .null, .null, .long 0, .long 0])), (qa, .inl (cqa, (600, .inr (.inl (fun _ => 0)))))] H := hP
  have hD : va_D A [(o, .inr (1, [.int 0, .int 0, .int 0, .int 0, .null, .null, .long 0, .long 0])), (qa, .inl (cqa, (600, .inr (.inl (fun _ => 0)))))] := hD
  have hK : va_K (dC, dI) tq_cl [(cqa, .long)] s := hK
  refine W.widen (k := 1) (n := 600) (by omega) (by omega) ?_
  refine va_putF (D := (dC, dI)) (ci := 1) (v := .ref qa) (ty := .array .long) (C := RX1) (T := TX1) (N := 8) hx hb hW inX1 tyX1 tyX1_ok nmX1 hown hK hP hD hS 0 rfl rfl 4 (by decide) (hW _ qm_285) (fun _ h9 => h9) rfl hin rfl (by decide +kernel) rfl rfl (Nat.le_of_ble_eq_true rfl) qd_M_init_10 (fun H locs hP hD hS => ?_)
  have hP : va_P (dC, dI) tq_cl [(o, .inr (1, [.int 0, .int 0, .int 0, .int 0, .ref qa, .null, .long 0, .long 0])), (qa, .inl (cqa, (600, .inr (.inl (fun _ => 0)))))] H := hP
  have hD : va_D A [(o, .inr (1, [.int 0, .int 0, .int 0, .int 0, .ref qa, .null, .long 0, .long 0])), (qa, .inl (cqa, (600, .inr (.inl (fun _ => 0)))))] := hD
  refine lv_aload_n hx hb qd_M_init_13 rfl (lv_at hl 0 rfl) ?_
  refine lv_bipush (v := nI 40) hx hb qd_M_init_14 (by decide +kernel) ?_
  refine va_newa (atype := .long) (N' := 40) (a0 := (40, .inr (.inl (fun _ => 0)))) (ty := .long) (n := nI 40) hx hb (hW _ qm_32) rfl hK hP hD hS hA (fun _ => rfl) (by decide +kernel) (by decide +kernel) (by decide +kernel) (Nat.le_of_ble_eq_true rfl) (Nat.le_of_ble_eq_true rfl) qd_M_init_16 (fun qb cqb H hK hP hD hS => ?_)
  have hP : va_P (dC, dI) tq_cl [(o, .inr (1, [.int 0, .int 0, .int 0, .int 0, .ref qa, .null, .long 0, .long 0])), (qa, .inl (cqa, (600, .inr (.inl (fun _ => 0))))), (qb, .inl (cqb, (40, .inr (.inl (fun _ => 0)))))] H := hP
  have hD : va_D A [(o, .inr (1, [.int 0, .int 0, .int 0, .int 0, .ref qa, .null, .long 0, .long 0])), (qa, .inl (cqa, (600, .inr (.inl (fun _ => 0))))), (qb, .inl (cqb, (40, .inr (.inl (fun _ => 0)))))] := hD
  have hK : va_K (dC, dI) tq_cl [(cqa, .long), (cqb, .long)] s := hK
  refine W.widen (k := 2) (n := 640) (by omega) (by omega) ?_
  refine va_putF (D := (dC, dI)) (ci := 1) (v := .ref qb) (ty := .array .long) (C := RX1) (T := TX1) (N := 8) hx hb hW inX1 tyX1 tyX1_ok nmX1 hown hK hP hD hS 0 rfl rfl 5 (by decide) (hW _ qm_286) (fun _ h9 => h9) rfl hin rfl (by decide +kernel) rfl rfl (Nat.le_of_ble_eq_true rfl) qd_M_init_18 (fun H locs hP hD hS => ?_)
  have hP : va_P (dC, dI) tq_cl [(o, .inr (1, [.int 0, .int 0, .int 0, .int 0, .ref qa, .ref qb, .long 0, .long 0])), (qa, .inl (cqa, (600, .inr (.inl (fun _ => 0))))), (qb, .inl (cqb, (40, .inr (.inl (fun _ => 0)))))] H := hP
  have hD : va_D A [(o, .inr (1, [.int 0, .int 0, .int 0, .int 0, .ref qa, .ref qb, .long 0, .long 0])), (qa, .inl (cqa, (600, .inr (.inl (fun _ => 0))))), (qb, .inl (cqb, (40, .inr (.inl (fun _ => 0)))))] := hD
  obtain rfl := tq_oneA hK 0 1 rfl rfl
  have hK := hK.sub (tys' := [(cqa, .long)]) [0] rfl
  exact W.vret hx hb hr (fun t ht hW9 => ⟨⟨(qa, qb, cqa), rfl, trivial, by rw [ht]; exact hP, va_K.moved hW9.alike hK, hD⟩, hS.F ht⟩) hS.2.2 qd_M_init_21
set_option maxHeartbeats 4000000 in
set_option maxRecDepth 100000 in
theorem ct_M_thrown (l : Launch) (dC : Nat → ClassId) (dI : Nat → Nat → Nat) (o ca cb : Nat) (cA : ClassId) (w1 : Int32) (n k : Nat) (w4 : Int32) (z1 z2 : Int64) (f g : Nat → Int64) : Met l qy_M_thrown qw_M_thrown ({ frames := 0, cells := 0, slots := 0, locals := 0 }) (va_Pc [.ref o] (tq_ro (dC, dI) tq_cl [(o, .inr (1, [.int w1, .int (nI n), .int (nI k), .int w4, .ref ca, .ref cb, .long z1, .long z2])), (ca, .inl (cA, (600, .inr (.inl f)))), (cb, .inl (cA, (40, .inr (.inl g))))] [(cA, .long)])) (vp_Si (fun r => r = w1)) 0 0 (fun _ => False) := by
  refine Met.ofW (cc := qc_M_thrown) (maxL := 1) (ret := (some .int)) (by decide) rfl ?_
  intro p e s m args below meth c s₁ B hml hv
  obtain ⟨rfl, hP, hK⟩ := hv
  have hx := B.exec
  have hb := B.bytes
  have hr := B.returns
  have hts := atoms_spec (ws := qw_M_thrown) B.pre
  have hW : ∀ w ∈ tq_W, w.before ([.ref o] : List Value).toArray s = true := fun w h => hts w (List.mem_cons_of_mem _ h)
  have hown : s.vm.findClass RX1 = some m.cls := findClass_of_methodNamed B.named
  have hlocks := B.notSynchronized
  have hl := lv_entry ([.ref o]) (n := 1) (Nat.le_of_ble_eq_true rfl)
  rw [lg_entry_eq]
  generalize (lg_sl ([.ref o]) ++ List.replicate (1 - (lg_sl ([.ref o])).length) Slot.unset).toArray = ls at hl ⊢
  have hl : lv_has ls 1 [(0, .ref o)] := hl
  refine lv_aload_n hx hb qd_M_thrown_0 rfl (lv_at hl 0 rfl) ?_
  refine va_get (D := (dC, dI)) (ci := 1) (v := .int w1) (C := RX1) (T := TX1) (N := 8) hx hb hW inX1 hown hK hP 0 rfl rfl 0 (by decide) (hW _ qm_281) (fun _ h9 => h9) rfl qd_M_thrown_1 ?_
  exact W.iret hx hb hr (fun t ht hW9 => ⟨_, rfl, rfl, ht⟩) (fun _ h => nomatch h) qd_M_thrown_4
set_option maxHeartbeats 4000000 in
set_option maxRecDepth 100000 in
theorem ct_M_add (l : Launch) (dC : Nat → ClassId) (dI : Nat → Nat → Nat) (o ca cb : Nat) (cA : ClassId) (w1 : Int32) (n k : Nat) (w4 : Int32) (z1 z2 : Int64) (f g : Nat → Int64) (sz : Nat) (v : Int64) (hn : n < 600) : Met l qy_M_add qw_M_add ({ frames := 0, cells := 0, slots := 0, locals := 0 }) (va_Pc [.ref o, .long v] (tq_rw (dC, dI) [(o, .inr (1, [.int w1, .int (nI n), .int (nI k), .int w4, .ref ca, .ref cb, .long z1, .long z2])), (ca, .inl (cA, (600, .inr (.inl f)))), (cb, .inl (cA, (40, .inr (.inl g))))] [(cA, .long)] sz)) (va_Qi (fun r (_ : Unit) => r = nI (n + 1)) (fun _ t => tq_in (dC, dI) [(o, .inr (1, [.int (nI 0), .int (nI (n + 1)), .int (nI k), .int w4, .ref ca, .ref cb, .long z1, .long z2])), (ca, .inl (cA, (600, .inr (.inl ((vp_updL f n v)))))), (cb, .inl (cA, (40, .inr (.inl g))))] [(cA, .long)] (va_A [(o, .inr (1, [.int w1, .int (nI n), .int (nI k), .int w4, .ref ca, .ref cb, .long z1, .long z2])), (ca, .inl (cA, (600, .inr (.inl f)))), (cb, .inl (cA, (40, .inr (.inl g))))] sz) t) (va_A [(o, .inr (1, [.int w1, .int (nI n), .int (nI k), .int w4, .ref ca, .ref cb, .long z1, .long z2])), (ca, .inl (cA, (600, .inr (.inl f)))), (cb, .inl (cA, (40, .inr (.inl g))))] sz)) 0 0 (va_A [(o, .inr (1, [.int w1, .int (nI n), .int (nI k), .int w4, .ref ca, .ref cb, .long z1, .long z2])), (ca, .inl (cA, (600, .inr (.inl f)))), (cb, .inl (cA, (40, .inr (.inl g))))] sz) := by
  refine Met.ofW (cc := qc_M_add) (maxL := 3) (ret := (some .int)) (by decide) rfl ?_
  intro p e s m args below meth c s₁ B hml hv
  obtain ⟨rfl, hsz, hP, hK, hD0⟩ := hv
  have hx := B.exec
  have hb := B.bytes
  have hr := B.returns
  have hts := atoms_spec (ws := qw_M_add) B.pre
  have hW : ∀ w ∈ tq_W, w.before ([.ref o, .long v] : List Value).toArray s = true := fun w h => hts w (List.mem_cons_of_mem _ h)
  have hown : s.vm.findClass RX1 = some m.cls := findClass_of_methodNamed B.named
  have hlocks := B.notSynchronized
  have hl := lv_entry ([.ref o, .long v]) (n := 3) (Nat.le_of_ble_eq_true rfl)
  rw [lg_entry_eq]
  generalize (lg_sl ([.ref o, .long v]) ++ List.replicate (3 - (lg_sl ([.ref o, .long v])).length) Slot.unset).toArray = ls at hl ⊢
  have hl : lv_has ls 3 [(0, .ref o), (1, .long v)] := hl
  subst hsz
  have hD := hD0.self (sz := s.heap.size)
  generalize hAe : va_A [(o, .inr (1, [.int w1, .int (nI n), .int (nI k), .int w4, .ref ca, .ref cb, .long z1, .long z2])), (ca, .inl (cA, (600, .inr (.inl f)))), (cb, .inl (cA, (40, .inr (.inl g))))] s.heap.size = A at hD ⊢
  have hA : ∀ q : Nat, s.heap.size ≤ q → A q := fun q h => by rw [← hAe]; exact Or.inr h
  have hS : va_S A s.heap s.heap [] := va_S.rf
  refine lv_aload_n hx hb qd_M_add_0 rfl (lv_at hl 0 rfl) ?_
  refine lv_aload_n hx hb qd_M_add_1 rfl (lv_at hl 0 rfl) ?_
  refine va_get (D := (dC, dI)) (ci := 1) (v := .int (nI n)) (C := RX1) (T := TX1) (N := 8) hx hb hW inX1 hown hK hP 0 rfl rfl 1 (by decide) (hW _ qm_282) (fun _ h9 => h9) rfl qd_M_add_2 ?_
  refine lv_sipush (v := nI 600) hx hb qd_M_add_5 (by decide +kernel) ?_
  refine tq_icmp_ne (x := n) (y := 600) (tgt := 15) hx hb qd_M_add_8 (by decide) (by omega) (by omega) (fun c9 => ?_) (fun c9 => by omega)
  refine lv_iconst (v := nI 0) hx hb qd_M_add_15 (by decide +kernel) ?_
  refine va_put (D := (dC, dI)) (ci := 1) (v := .int (nI 0)) (ty := .int) (C := RX1) (T := TX1) (N := 8) hx hb hW inX1 tyX1 tyX1_ok nmX1 hown hK hP hD hS 0 rfl rfl 0 (by decide) (hW _ qm_281) (fun _ h9 => h9) rfl (by decide +kernel) rfl rfl (Nat.le_of_ble_eq_true rfl) qd_M_add_16 (fun H locs hP hD hS => ?_)
  have hP : va_P (dC, dI) tq_cl [(o, .inr (1, [.int (nI 0), .int (nI n), .int (nI k), .int w4, .ref ca, .ref cb, .long z1, .long z2])), (ca, .inl (cA, (600, .inr (.inl f)))), (cb, .inl (cA, (40, .inr (.inl g))))] H := hP
  have hD : va_D A [(o, .inr (1, [.int (nI 0), .int (nI n), .int (nI k), .int w4, .ref ca, .ref cb, .long z1, .long z2])), (ca, .inl (cA, (600, .inr (.inl f)))), (cb, .inl (cA, (40, .inr (.inl g))))] := hD
  refine lv_aload_n hx hb qd_M_add_19 rfl (lv_at hl 0 rfl) ?_
  refine va_get (D := (dC, dI)) (ci := 1) (v := .int (nI 0)) (C := RX1) (T := TX1) (N := 8) hx hb hW inX1 hown hK hP 0 rfl rfl 0 (by decide) (hW _ qm_281) (fun _ h9 => h9) rfl qd_M_add_20 ?_
  refine tq_if_le (x := 0) (tgt := 28) hx hb qd_M_add_23 (by decide) (by omega) (fun c9 => ?_) (fun c9 => by omega)
  refine lv_aload_n hx hb qd_M_add_28 rfl (lv_at hl 0 rfl) ?_
  refine va_get (D := (dC, dI)) (ci := 1) (v := .ref ca) (C := RX1) (T := TX1) (N := 8) hx hb hW inX1 hown hK hP 0 rfl rfl 4 (by decide) (hW _ qm_285) (fun _ h9 => h9) rfl qd_M_add_29 ?_
  refine lv_aload_n hx hb qd_M_add_32 rfl (lv_at hl 0 rfl) ?_
  refine va_get (D := (dC, dI)) (ci := 1) (v := .int (nI n)) (C := RX1) (T := TX1) (N := 8) hx hb hW inX1 hown hK hP 0 rfl rfl 1 (by decide) (hW _ qm_282) (fun _ h9 => h9) rfl qd_M_add_33 ?_
  refine lv_lload_n hx hb qd_M_add_36 rfl (lv_at hl 1 rfl) ?_
  refine tq_last hx hb hK hP hD hS 1 0 rfl rfl (j := n) (x := v) (by omega) (by decide) qd_M_add_37 (fun H locs hP hD hS => ?_)
  have hP : va_P (dC, dI) tq_cl [(o, .inr (1, [.int (nI 0), .int (nI n), .int (nI k), .int w4, .ref ca, .ref cb, .long z1, .long z2])), (ca, .inl (cA, (600, .inr (.inl (vp_updL f n v))))), (cb, .inl (cA, (40, .inr (.inl g))))] H := hP
  have hD : va_D A [(o, .inr (1, [.int (nI 0), .int (nI n), .int (nI k), .int w4, .ref ca, .ref cb, .long z1, .long z2])), (ca, .inl (cA, (600, .inr (.inl (vp_updL f n v))))), (cb, .inl (cA, (40, .inr (.inl g))))] := hD
  refine lv_aload_n hx hb qd_M_add_38 rfl (lv_at hl 0 rfl) ?_
  refine lv_dup hx hb qd_M_add_39 rfl ?_
  refine va_get (D := (dC, dI)) (ci := 1) (v := .int (nI n)) (C := RX1) (T := TX1) (N := 8) hx hb hW inX1 hown hK hP 0 rfl rfl 1 (by decide) (hW _ qm_282) (fun _ h9 => h9) rfl qd_M_add_40 ?_
  refine lv_iconst (v := nI 1) hx hb qd_M_add_43 (by decide +kernel) ?_
  refine lv_iadd hx hb qd_M_add_44 ?_
  refine tq_ti (y := nI (n + 1)) (nI_1 n) ?_
  refine va_put (D := (dC, dI)) (ci := 1) (v := .int (nI (n + 1))) (ty := .int) (C := RX1) (T := TX1) (N := 8) hx hb hW inX1 tyX1 tyX1_ok nmX1 hown hK hP hD hS 0 rfl rfl 1 (by decide) (hW _ qm_282) (fun _ h9 => h9) rfl (by decide +kernel) rfl rfl (Nat.le_of_ble_eq_true rfl) qd_M_add_45 (fun H locs hP hD hS => ?_)
  have hP : va_P (dC, dI) tq_cl [(o, .inr (1, [.int (nI 0), .int (nI (n + 1)), .int (nI k), .int w4, .ref ca, .ref cb, .long z1, .long z2])), (ca, .inl (cA, (600, .inr (.inl (vp_updL f n v))))), (cb, .inl (cA, (40, .inr (.inl g))))] H := hP
  have hD : va_D A [(o, .inr (1, [.int (nI 0), .int (nI (n + 1)), .int (nI k), .int w4, .ref ca, .ref cb, .long z1, .long z2])), (ca, .inl (cA, (600, .inr (.inl (vp_updL f n v))))), (cb, .inl (cA, (40, .inr (.inl g))))] := hD
  refine lv_aload_n hx hb qd_M_add_48 rfl (lv_at hl 0 rfl) ?_
  refine va_get (D := (dC, dI)) (ci := 1) (v := .int (nI (n + 1))) (C := RX1) (T := TX1) (N := 8) hx hb hW inX1 hown hK hP 0 rfl rfl 1 (by decide) (hW _ qm_282) (fun _ h9 => h9) rfl qd_M_add_49 ?_
  exact W.iret hx hb hr (fun t ht hW9 => ⟨⟨_, (), rfl, rfl, by rw [ht]; exact hP, va_K.moved hW9.alike hK, hD⟩, hS.F ht⟩) hS.2.2 qd_M_add_52
set_option maxHeartbeats 4000000 in
set_option maxRecDepth 100000 in
theorem ct_M_add_no (l : Launch) (dC : Nat → ClassId) (dI : Nat → Nat → Nat) (o ca cb : Nat) (cA : ClassId) (w1 : Int32) (n k : Nat) (w4 : Int32) (z1 z2 : Int64) (f g : Nat → Int64) (sz : Nat) (v : Int64) (hn : n = 600) : Met l qy_M_add qw_M_add ({ frames := 0, cells := 0, slots := 0, locals := 0 }) (va_Pc [.ref o, .long v] (tq_rw (dC, dI) [(o, .inr (1, [.int w1, .int (nI n), .int (nI k), .int w4, .ref ca, .ref cb, .long z1, .long z2])), (ca, .inl (cA, (600, .inr (.inl f)))), (cb, .inl (cA, (40, .inr (.inl g))))] [(cA, .long)] sz)) (va_Qi (fun r (_ : Unit) => r = nI 0) (fun _ t => tq_in (dC, dI) [(o, .inr (1, [.int (nI 1), .int (nI n), .int (nI k), .int w4, .ref ca, .ref cb, .long z1, .long z2])), (ca, .inl (cA, (600, .inr (.inl f)))), (cb, .inl (cA, (40, .inr (.inl g))))] [(cA, .long)] (va_A [(o, .inr (1, [.int w1, .int (nI n), .int (nI k), .int w4, .ref ca, .ref cb, .long z1, .long z2])), (ca, .inl (cA, (600, .inr (.inl f)))), (cb, .inl (cA, (40, .inr (.inl g))))] sz) t) (va_A [(o, .inr (1, [.int w1, .int (nI n), .int (nI k), .int w4, .ref ca, .ref cb, .long z1, .long z2])), (ca, .inl (cA, (600, .inr (.inl f)))), (cb, .inl (cA, (40, .inr (.inl g))))] sz)) 0 0 (va_A [(o, .inr (1, [.int w1, .int (nI n), .int (nI k), .int w4, .ref ca, .ref cb, .long z1, .long z2])), (ca, .inl (cA, (600, .inr (.inl f)))), (cb, .inl (cA, (40, .inr (.inl g))))] sz) := by
  refine Met.ofW (cc := qc_M_add) (maxL := 3) (ret := (some .int)) (by decide) rfl ?_
  intro p e s m args below meth c s₁ B hml hv
  obtain ⟨rfl, hsz, hP, hK, hD0⟩ := hv
  have hx := B.exec
  have hb := B.bytes
  have hr := B.returns
  have hts := atoms_spec (ws := qw_M_add) B.pre
  have hW : ∀ w ∈ tq_W, w.before ([.ref o, .long v] : List Value).toArray s = true := fun w h => hts w (List.mem_cons_of_mem _ h)
  have hown : s.vm.findClass RX1 = some m.cls := findClass_of_methodNamed B.named
  have hlocks := B.notSynchronized
  have hl := lv_entry ([.ref o, .long v]) (n := 3) (Nat.le_of_ble_eq_true rfl)
  rw [lg_entry_eq]
  generalize (lg_sl ([.ref o, .long v]) ++ List.replicate (3 - (lg_sl ([.ref o, .long v])).length) Slot.unset).toArray = ls at hl ⊢
  have hl : lv_has ls 3 [(0, .ref o), (1, .long v)] := hl
  subst hsz
  have hD := hD0.self (sz := s.heap.size)
  generalize hAe : va_A [(o, .inr (1, [.int w1, .int (nI n), .int (nI k), .int w4, .ref ca, .ref cb, .long z1, .long z2])), (ca, .inl (cA, (600, .inr (.inl f)))), (cb, .inl (cA, (40, .inr (.inl g))))] s.heap.size = A at hD ⊢
  have hA : ∀ q : Nat, s.heap.size ≤ q → A q := fun q h => by rw [← hAe]; exact Or.inr h
  have hS : va_S A s.heap s.heap [] := va_S.rf
  refine lv_aload_n hx hb qd_M_add_0 rfl (lv_at hl 0 rfl) ?_
  refine lv_aload_n hx hb qd_M_add_1 rfl (lv_at hl 0 rfl) ?_
  refine va_get (D := (dC, dI)) (ci := 1) (v := .int (nI n)) (C := RX1) (T := TX1) (N := 8) hx hb hW inX1 hown hK hP 0 rfl rfl 1 (by decide) (hW _ qm_282) (fun _ h9 => h9) rfl qd_M_add_2 ?_
  refine lv_sipush (v := nI 600) hx hb qd_M_add_5 (by decide +kernel) ?_
  refine tq_icmp_ne (x := n) (y := 600) (tgt := 15) hx hb qd_M_add_8 (by decide) (by omega) (by omega) (fun c9 => by omega) (fun c9 => ?_)
  refine lv_iconst (v := nI 1) hx hb qd_M_add_11 (by decide +kernel) ?_
  refine lv_goto (tgt := 16) hx hb qd_M_add_12 (by decide) ?_
  refine va_put (D := (dC, dI)) (ci := 1) (v := .int (nI 1)) (ty := .int) (C := RX1) (T := TX1) (N := 8) hx hb hW inX1 tyX1 tyX1_ok nmX1 hown hK hP hD hS 0 rfl rfl 0 (by decide) (hW _ qm_281) (fun _ h9 => h9) rfl (by decide +kernel) rfl rfl (Nat.le_of_ble_eq_true rfl) qd_M_add_16 (fun H locs hP hD hS => ?_)
  have hP : va_P (dC, dI) tq_cl [(o, .inr (1, [.int (nI 1), .int (nI n), .int (nI k), .int w4, .ref ca, .ref cb, .long z1, .long z2])), (ca, .inl (cA, (600, .inr (.inl f)))), (cb, .inl (cA, (40, .inr (.inl g))))] H := hP
  have hD : va_D A [(o, .inr (1, [.int (nI 1), .int (nI n), .int (nI k), .int w4, .ref ca, .ref cb, .long z1, .long z2])), (ca, .inl (cA, (600, .inr (.inl f)))), (cb, .inl (cA, (40, .inr (.inl g))))] := hD
  refine lv_aload_n hx hb qd_M_add_19 rfl (lv_at hl 0 rfl) ?_
  refine va_get (D := (dC, dI)) (ci := 1) (v := .int (nI 1)) (C := RX1) (T := TX1) (N := 8) hx hb hW inX1 hown hK hP 0 rfl rfl 0 (by decide) (hW _ qm_281) (fun _ h9 => h9) rfl qd_M_add_20 ?_
  refine tq_if_le (x := 1) (tgt := 28) hx hb qd_M_add_23 (by decide) (by omega) (fun c9 => by omega) (fun c9 => ?_)
  refine lv_iconst (v := nI 0) hx hb qd_M_add_26 (by decide +kernel) ?_
  exact W.iret hx hb hr (fun t ht hW9 => ⟨⟨_, (), rfl, rfl, by rw [ht]; exact hP, va_K.moved hW9.alike hK, hD⟩, hS.F ht⟩) hS.2.2 qd_M_add_27
set_option maxHeartbeats 4000000 in
set_option maxRecDepth 100000 in
theorem ct_M_fill (l : Launch) (dC : Nat → ClassId) (dI : Nat → Nat → Nat) (o ca cb : Nat) (cA : ClassId) (w1 : Int32) (n k : Nat) (w4 : Int32) (z1 z2 : Int64) (f g : Nat → Int64) (sz : Nat) (j : Nat) (v step : Int64) (h1 : 1 ≤ j) (h2 : j ≤ 200) (hn : n + j ≤ 600) : Met l qy_M_fill qw_M_fill ({ frames := 0, cells := 0, slots := 0, locals := 0 }) (va_Pc [.ref o, .int (nI j), .long v, .long step] (tq_rw (dC, dI) [(o, .inr (1, [.int w1, .int (nI n), .int (nI k), .int w4, .ref ca, .ref cb, .long z1, .long z2])), (ca, .inl (cA, (600, .inr (.inl f)))), (cb, .inl (cA, (40, .inr (.inl g))))] [(cA, .long)] sz)) (va_Qi (fun r (_ : Unit) => r = nI (n + j)) (fun _ t => tq_in (dC, dI) [(o, .inr (1, [.int (nI 0), .int (nI (n + j)), .int (nI k), .int w4, .ref ca, .ref cb, .long z1, .long z2])), (ca, .inl (cA, (600, .inr (.inl ((tq_fl f n j (tq_fv v step))))))), (cb, .inl (cA, (40, .inr (.inl g))))] [(cA, .long)] (va_A [(o, .inr (1, [.int w1, .int (nI n), .int (nI k), .int w4, .ref ca, .ref cb, .long z1, .long z2])), (ca, .inl (cA, (600, .inr (.inl f)))), (cb, .inl (cA, (40, .inr (.inl g))))] sz) t) (va_A [(o, .inr (1, [.int w1, .int (nI n), .int (nI k), .int w4, .ref ca, .ref cb, .long z1, .long z2])), (ca, .inl (cA, (600, .inr (.inl f)))), (cb, .inl (cA, (40, .inr (.inl g))))] sz)) 0 0 (va_A [(o, .inr (1, [.int w1, .int (nI n), .int (nI k), .int w4, .ref ca, .ref cb, .long z1, .long z2])), (ca, .inl (cA, (600, .inr (.inl f)))), (cb, .inl (cA, (40, .inr (.inl g))))] sz) := by
  refine Met.ofW (cc := qc_M_fill) (maxL := 7) (ret := (some .int)) (by decide) rfl ?_
  intro p e s m args below meth c s₁ B hml hv
  obtain ⟨rfl, hsz, hP, hK, hD0⟩ := hv
  have hx := B.exec
  have hb := B.bytes
  have hr := B.returns
  have hts := atoms_spec (ws := qw_M_fill) B.pre
  have hW : ∀ w ∈ tq_W, w.before ([.ref o, .int (nI j), .long v, .long step] : List Value).toArray s = true := fun w h => hts w (List.mem_cons_of_mem _ h)
  have hown : s.vm.findClass RX1 = some m.cls := findClass_of_methodNamed B.named
  have hlocks := B.notSynchronized
  have hl := lv_entry ([.ref o, .int (nI j), .long v, .long step]) (n := 7) (Nat.le_of_ble_eq_true rfl)
  rw [lg_entry_eq]
  generalize (lg_sl ([.ref o, .int (nI j), .long v, .long step]) ++ List.replicate (7 - (lg_sl ([.ref o, .int (nI j), .long v, .long step])).length) Slot.unset).toArray = ls at hl ⊢
  have hl : lv_has ls 7 [(0, .ref o), (1, .int (nI j)), (2, .long v), (4, .long step)] := hl
  subst hsz
  have hD := hD0.self (sz := s.heap.size)
  generalize hAe : va_A [(o, .inr (1, [.int w1, .int (nI n), .int (nI k), .int w4, .ref ca, .ref cb, .long z1, .long z2])), (ca, .inl (cA, (600, .inr (.inl f)))), (cb, .inl (cA, (40, .inr (.inl g))))] s.heap.size = A at hD ⊢
  have hA : ∀ q : Nat, s.heap.size ≤ q → A q := fun q h => by rw [← hAe]; exact Or.inr h
  have hS : va_S A s.heap s.heap [] := va_S.rf
  have loop : ∀ (t i : Nat), i + t = j → ∀ (H : Heap) (locs : List Loc), va_P (dC, dI) tq_cl [(o, .inr (1, [.int (nI 0), .int (nI n), .int (nI k), .int w4, .ref ca, .ref cb, .long z1, .long z2])), (ca, .inl (cA, (600, .inr (.inl ((tq_fl f n i (tq_fv v step))))))), (cb, .inl (cA, (40, .inr (.inl g))))] H → va_D A [(o, .inr (1, [.int (nI 0), .int (nI n), .int (nI k), .int w4, .ref ca, .ref cb, .long z1, .long z2])), (ca, .inl (cA, (600, .inr (.inl ((tq_fl f n i (tq_fv v step))))))), (cb, .inl (cA, (40, .inr (.inl g))))] → va_S A s.heap H locs → ∀ ls : Array Slot, lv_has ls 7 [(6, .int (nI i)), (0, .ref o), (1, .int (nI j)), (2, .long v), (4, .long step)] → W p l e (headSpec qw_M_fill ({ frames := 0, cells := 0, slots := 0, locals := 0 })).room s m ([.ref o, .int (nI j), .long v, .long step] : List Value).toArray below meth c H locs 0 0 (MQ below (va_Qi (fun r (_ : Unit) => r = nI (n + j)) (fun _ t => tq_in (dC, dI) [(o, .inr (1, [.int (nI 0), .int (nI (n + j)), .int (nI k), .int w4, .ref ca, .ref cb, .long z1, .long z2])), (ca, .inl (cA, (600, .inr (.inl ((tq_fl f n j (tq_fv v step))))))), (cb, .inl (cA, (40, .inr (.inl g))))] [(cA, .long)] A t) A) ([.ref o, .int (nI j), .long v, .long step] : List Value).toArray s 0 0 A) (F0 m 49 ls []) := by
    intro t
    induction t with
    | zero =>
      intro i hi H locs hP hD hS ls hl
      obtain rfl : i = j := by omega
      refine lv_iload hx hb qd_M_fill_49 (lv_at hl 0 rfl) ?_
      refine lv_iload_n hx hb qd_M_fill_51 rfl (lv_at hl 2 rfl) ?_
      refine tq_icmp_ge (x := i) (y := i) (tgt := 81) hx hb qd_M_fill_52 (by decide) (by omega) (by omega) (fun c9 => ?_) (fun c9 => by omega)
      refine lv_aload_n hx hb qd_M_fill_81 rfl (lv_at hl 1 rfl) ?_
      refine lv_dup hx hb qd_M_fill_82 rfl ?_
      refine va_get (D := (dC, dI)) (ci := 1) (v := .int (nI n)) (C := RX1) (T := TX1) (N := 8) hx hb hW inX1 hown hK hP 0 rfl rfl 1 (by decide) (hW _ qm_282) (fun _ h9 => h9) rfl qd_M_fill_83 ?_
      refine lv_iload_n hx hb qd_M_fill_86 rfl (lv_at hl 2 rfl) ?_
      refine lv_iadd hx hb qd_M_fill_87 ?_
      refine tq_ti (y := nI (n + i)) (nI_add _ _) ?_
      refine va_put (D := (dC, dI)) (ci := 1) (v := .int (nI (n + i))) (ty := .int) (C := RX1) (T := TX1) (N := 8) hx hb hW inX1 tyX1 tyX1_ok nmX1 hown hK hP hD hS 0 rfl rfl 1 (by decide) (hW _ qm_282) (fun _ h9 => h9) rfl (by decide +kernel) rfl rfl (Nat.le_of_ble_eq_true rfl) qd_M_fill_88 (fun H locs hP hD hS => ?_)
      have hP : va_P (dC, dI) tq_cl [(o, .inr (1, [.int (nI 0), .int (nI (n + i)), .int (nI k), .int w4, .ref ca, .ref cb, .long z1, .long z2])), (ca, .inl (cA, (600, .inr (.inl ((tq_fl f n i (tq_fv v step))))))), (cb, .inl (cA, (40, .inr (.inl g))))] H := hP
      have hD : va_D A [(o, .inr (1, [.int (nI 0), .int (nI (n + i)), .int (nI k), .int w4, .ref ca, .ref cb, .long z1, .long z2])), (ca, .inl (cA, (600, .inr (.inl ((tq_fl f n i (tq_fv v step))))))), (cb, .inl (cA, (40, .inr (.inl g))))] := hD
      refine lv_aload_n hx hb qd_M_fill_91 rfl (lv_at hl 1 rfl) ?_
      refine va_get (D := (dC, dI)) (ci := 1) (v := .int (nI (n + i))) (C := RX1) (T := TX1) (N := 8) hx hb hW inX1 hown hK hP 0 rfl rfl 1 (by decide) (hW _ qm_282) (fun _ h9 => h9) rfl qd_M_fill_92 ?_
      exact W.iret hx hb hr (fun t ht hW9 => ⟨⟨_, (), rfl, rfl, by rw [ht]; exact hP, va_K.moved hW9.alike hK, hD⟩, hS.F ht⟩) hS.2.2 qd_M_fill_95
    | succ t ih =>
      intro i hi H locs hP hD hS ls hl
      refine lv_iload hx hb qd_M_fill_49 (lv_at hl 0 rfl) ?_
      refine lv_iload_n hx hb qd_M_fill_51 rfl (lv_at hl 2 rfl) ?_
      refine tq_icmp_ge (x := i) (y := j) (tgt := 81) hx hb qd_M_fill_52 (by decide) (by omega) (by omega) (fun c9 => by omega) (fun c9 => ?_)
      refine lv_aload_n hx hb qd_M_fill_55 rfl (lv_at hl 1 rfl) ?_
      refine va_get (D := (dC, dI)) (ci := 1) (v := .ref ca) (C := RX1) (T := TX1) (N := 8) hx hb hW inX1 hown hK hP 0 rfl rfl 4 (by decide) (hW _ qm_285) (fun _ h9 => h9) rfl qd_M_fill_56 ?_
      refine lv_aload_n hx hb qd_M_fill_59 rfl (lv_at hl 1 rfl) ?_
      refine va_get (D := (dC, dI)) (ci := 1) (v := .int (nI n)) (C := RX1) (T := TX1) (N := 8) hx hb hW inX1 hown hK hP 0 rfl rfl 1 (by decide) (hW _ qm_282) (fun _ h9 => h9) rfl qd_M_fill_60 ?_
      refine lv_iload hx hb qd_M_fill_63 (lv_at hl 0 rfl) ?_
      refine lv_iadd hx hb qd_M_fill_65 ?_
      refine tq_ti (y := nI (n + i)) (nI_add _ _) ?_
      refine lv_lload_n hx hb qd_M_fill_66 rfl (lv_at hl 3 rfl) ?_
      refine lv_iload hx hb qd_M_fill_67 (lv_at hl 0 rfl) ?_
      refine lv_i2l (v := (nI i).toInt64) hx hb qd_M_fill_69 rfl ?_
      refine lv_lload hx hb qd_M_fill_70 (lv_at hl 4 rfl) ?_
      refine lv_lmul hx hb qd_M_fill_72 ?_
      refine lv_ladd hx hb qd_M_fill_73 ?_
      refine tq_tl (y := tq_fv v step i) (rfl) ?_
      refine tq_last hx hb hK hP hD hS 1 0 rfl rfl (j := ((n + i))) (x := (tq_fv v step i)) (by omega) (by decide) qd_M_fill_74 (fun H locs hP hD hS => ?_)
      have hP : va_P (dC, dI) tq_cl [(o, .inr (1, [.int (nI 0), .int (nI n), .int (nI k), .int w4, .ref ca, .ref cb, .long z1, .long z2])), (ca, .inl (cA, (600, .inr (.inl (vp_updL ((tq_fl f n i (tq_fv v step))) ((n + i)) (tq_fv v step i)))))), (cb, .inl (cA, (40, .inr (.inl g))))] H := hP
      have hD : va_D A [(o, .inr (1, [.int (nI 0), .int (nI n), .int (nI k), .int w4, .ref ca, .ref cb, .long z1, .long z2])), (ca, .inl (cA, (600, .inr (.inl (vp_updL ((tq_fl f n i (tq_fv v step))) ((n + i)) (tq_fv v step i)))))), (cb, .inl (cA, (40, .inr (.inl g))))] := hD
      rw [tq_fl_s f n i (tq_fv v step)] at hP hD
      refine lv_iinc (v := (nI (i + 1))) (lv' := [(6, .int (nI (i + 1))), (0, .ref o), (1, .int (nI j)), (2, .long v), (4, .long step)]) hx hb qd_M_fill_75 hl (k := 0) rfl (nI_1 i) (by decide) rfl (fun ls hl => ?_)
      refine lv_goto (tgt := 49) hx hb qd_M_fill_78 (by decide) ?_
      exact ih (i + 1) (by omega) _ _ hP hD hS ls (lv_sub hl [0, 1, 2, 3, 4] rfl)
  refine lv_aload_n hx hb qd_M_fill_0 rfl (lv_at hl 0 rfl) ?_
  refine lv_iload_n hx hb qd_M_fill_1 rfl (lv_at hl 1 rfl) ?_
  refine lv_iconst (v := nI 1) hx hb qd_M_fill_2 (by decide +kernel) ?_
  refine tq_icmp_lt (x := j) (y := 1) (tgt := 13) hx hb qd_M_fill_3 (by decide) (by omega) (by omega) (fun c9 => by omega) (fun c9 => ?_)
  refine lv_iload_n hx hb qd_M_fill_6 rfl (lv_at hl 1 rfl) ?_
  refine lv_sipush (v := nI 200) hx hb qd_M_fill_7 (by decide +kernel) ?_
  refine tq_icmp_le (x := j) (y := 200) (tgt := 17) hx hb qd_M_fill_10 (by decide) (by omega) (by omega) (fun c9 => ?_) (fun c9 => by omega)
  refine lv_aload_n hx hb qd_M_fill_17 rfl (lv_at hl 0 rfl) ?_
  refine va_get (D := (dC, dI)) (ci := 1) (v := .int (nI n)) (C := RX1) (T := TX1) (N := 8) hx hb hW inX1 hown hK hP 0 rfl rfl 1 (by decide) (hW _ qm_282) (fun _ h9 => h9) rfl qd_M_fill_18 ?_
  refine lv_iload_n hx hb qd_M_fill_21 rfl (lv_at hl 1 rfl) ?_
  refine lv_iadd hx hb qd_M_fill_22 ?_
  refine tq_ti (y := nI (n + j)) (nI_add _ _) ?_
  refine lv_sipush (v := nI 600) hx hb qd_M_fill_23 (by decide +kernel) ?_
  refine tq_icmp_le (x := (n + j)) (y := 600) (tgt := 33) hx hb qd_M_fill_26 (by decide) (by omega) (by omega) (fun c9 => ?_) (fun c9 => by omega)
  refine lv_iconst (v := nI 0) hx hb qd_M_fill_33 (by decide +kernel) ?_
  refine va_put (D := (dC, dI)) (ci := 1) (v := .int (nI 0)) (ty := .int) (C := RX1) (T := TX1) (N := 8) hx hb hW inX1 tyX1 tyX1_ok nmX1 hown hK hP hD hS 0 rfl rfl 0 (by decide) (hW _ qm_281) (fun _ h9 => h9) rfl (by decide +kernel) rfl rfl (Nat.le_of_ble_eq_true rfl) qd_M_fill_34 (fun H locs hP hD hS => ?_)
  have hP : va_P (dC, dI) tq_cl [(o, .inr (1, [.int (nI 0), .int (nI n), .int (nI k), .int w4, .ref ca, .ref cb, .long z1, .long z2])), (ca, .inl (cA, (600, .inr (.inl f)))), (cb, .inl (cA, (40, .inr (.inl g))))] H := hP
  have hD : va_D A [(o, .inr (1, [.int (nI 0), .int (nI n), .int (nI k), .int w4, .ref ca, .ref cb, .long z1, .long z2])), (ca, .inl (cA, (600, .inr (.inl f)))), (cb, .inl (cA, (40, .inr (.inl g))))] := hD
  refine lv_aload_n hx hb qd_M_fill_37 rfl (lv_at hl 0 rfl) ?_
  refine va_get (D := (dC, dI)) (ci := 1) (v := .int (nI 0)) (C := RX1) (T := TX1) (N := 8) hx hb hW inX1 hown hK hP 0 rfl rfl 0 (by decide) (hW _ qm_281) (fun _ h9 => h9) rfl qd_M_fill_38 ?_
  refine tq_if_le (x := 0) (tgt := 46) hx hb qd_M_fill_41 (by decide) (by omega) (fun c9 => ?_) (fun c9 => by omega)
  refine lv_iconst (v := nI 0) hx hb qd_M_fill_46 (by decide +kernel) ?_
  refine lv_istore (lv' := [(6, .int (nI 0)), (0, .ref o), (1, .int (nI j)), (2, .long v), (4, .long step)]) hx hb qd_M_fill_47 hl (by decide) rfl (fun ls hl => ?_)
  exact loop j 0 (Nat.zero_add j) _ _ (by rw [tq_fl_0]; exact hP) (by rw [tq_fl_0]; exact hD) hS ls (lv_sub hl [0, 1, 2, 3, 4] rfl)
set_option maxHeartbeats 4000000 in
set_option maxRecDepth 100000 in
theorem ct_M_fill_no (l : Launch) (dC : Nat → ClassId) (dI : Nat → Nat → Nat) (o ca cb : Nat) (cA : ClassId) (w1 : Int32) (n k : Nat) (w4 : Int32) (z1 z2 : Int64) (f g : Nat → Int64) (sz : Nat) (q : Int32) (v step : Int64) (hbad : q < nI 1 ∨ nI 200 < q) : Met l qy_M_fill qw_M_fill ({ frames := 0, cells := 0, slots := 0, locals := 0 }) (va_Pc [.ref o, .int q, .long v, .long step] (tq_rw (dC, dI) [(o, .inr (1, [.int w1, .int (nI n), .int (nI k), .int w4, .ref ca, .ref cb, .long z1, .long z2])), (ca, .inl (cA, (600, .inr (.inl f)))), (cb, .inl (cA, (40, .inr (.inl g))))] [(cA, .long)] sz)) (va_Qi (fun r (_ : Unit) => r = nI 0) (fun _ t => tq_in (dC, dI) [(o, .inr (1, [.int (nI 1), .int (nI n), .int (nI k), .int w4, .ref ca, .ref cb, .long z1, .long z2])), (ca, .inl (cA, (600, .inr (.inl f)))), (cb, .inl (cA, (40, .inr (.inl g))))] [(cA, .long)] (va_A [(o, .inr (1, [.int w1, .int (nI n), .int (nI k), .int w4, .ref ca, .ref cb, .long z1, .long z2])), (ca, .inl (cA, (600, .inr (.inl f)))), (cb, .inl (cA, (40, .inr (.inl g))))] sz) t) (va_A [(o, .inr (1, [.int w1, .int (nI n), .int (nI k), .int w4, .ref ca, .ref cb, .long z1, .long z2])), (ca, .inl (cA, (600, .inr (.inl f)))), (cb, .inl (cA, (40, .inr (.inl g))))] sz)) 0 0 (va_A [(o, .inr (1, [.int w1, .int (nI n), .int (nI k), .int w4, .ref ca, .ref cb, .long z1, .long z2])), (ca, .inl (cA, (600, .inr (.inl f)))), (cb, .inl (cA, (40, .inr (.inl g))))] sz) := by
  refine Met.ofW (cc := qc_M_fill) (maxL := 7) (ret := (some .int)) (by decide) rfl ?_
  intro p e s m args below meth c s₁ B hml hv
  obtain ⟨rfl, hsz, hP, hK, hD0⟩ := hv
  have hx := B.exec
  have hb := B.bytes
  have hr := B.returns
  have hts := atoms_spec (ws := qw_M_fill) B.pre
  have hW : ∀ w ∈ tq_W, w.before ([.ref o, .int q, .long v, .long step] : List Value).toArray s = true := fun w h => hts w (List.mem_cons_of_mem _ h)
  have hown : s.vm.findClass RX1 = some m.cls := findClass_of_methodNamed B.named
  have hlocks := B.notSynchronized
  have hl := lv_entry ([.ref o, .int q, .long v, .long step]) (n := 7) (Nat.le_of_ble_eq_true rfl)
  rw [lg_entry_eq]
  generalize (lg_sl ([.ref o, .int q, .long v, .long step]) ++ List.replicate (7 - (lg_sl ([.ref o, .int q, .long v, .long step])).length) Slot.unset).toArray = ls at hl ⊢
  have hl : lv_has ls 7 [(0, .ref o), (1, .int q), (2, .long v), (4, .long step)] := hl
  subst hsz
  have hD := hD0.self (sz := s.heap.size)
  generalize hAe : va_A [(o, .inr (1, [.int w1, .int (nI n), .int (nI k), .int w4, .ref ca, .ref cb, .long z1, .long z2])), (ca, .inl (cA, (600, .inr (.inl f)))), (cb, .inl (cA, (40, .inr (.inl g))))] s.heap.size = A at hD ⊢
  have hA : ∀ q : Nat, s.heap.size ≤ q → A q := fun q h => by rw [← hAe]; exact Or.inr h
  have hS : va_S A s.heap s.heap [] := va_S.rf
  refine lv_aload_n hx hb qd_M_fill_0 rfl (lv_at hl 0 rfl) ?_
  refine lv_iload_n hx hb qd_M_fill_1 rfl (lv_at hl 1 rfl) ?_
  refine lv_iconst (v := nI 1) hx hb qd_M_fill_2 (by decide +kernel) ?_
  refine lv_icmp_lt (tgt := 13) hx hb qd_M_fill_3 (by decide) (fun c1 => ?_) (fun c1 => ?_)
  · refine lv_iconst (v := nI 1) hx hb qd_M_fill_13 (by decide +kernel) ?_
    refine lv_goto (tgt := 34) hx hb qd_M_fill_14 (by decide) ?_
    refine va_put (D := (dC, dI)) (ci := 1) (v := .int (nI 1)) (ty := .int) (C := RX1) (T := TX1) (N := 8) hx hb hW inX1 tyX1 tyX1_ok nmX1 hown hK hP hD hS 0 rfl rfl 0 (by decide) (hW _ qm_281) (fun _ h9 => h9) rfl (by decide +kernel) rfl rfl (Nat.le_of_ble_eq_true rfl) qd_M_fill_34 (fun H locs hP hD hS => ?_)
    have hP : va_P (dC, dI) tq_cl [(o, .inr (1, [.int (nI 1), .int (nI n), .int (nI k), .int w4, .ref ca, .ref cb, .long z1, .long z2])), (ca, .inl (cA, (600, .inr (.inl f)))), (cb, .inl (cA, (40, .inr (.inl g))))] H := hP
    have hD : va_D A [(o, .inr (1, [.int (nI 1), .int (nI n), .int (nI k), .int w4, .ref ca, .ref cb, .long z1, .long z2])), (ca, .inl (cA, (600, .inr (.inl f)))), (cb, .inl (cA, (40, .inr (.inl g))))] := hD
    refine lv_aload_n hx hb qd_M_fill_37 rfl (lv_at hl 0 rfl) ?_
    refine va_get (D := (dC, dI)) (ci := 1) (v := .int (nI 1)) (C := RX1) (T := TX1) (N := 8) hx hb hW inX1 hown hK hP 0 rfl rfl 0 (by decide) (hW _ qm_281) (fun _ h9 => h9) rfl qd_M_fill_38 ?_
    refine tq_if_le (x := 1) (tgt := 46) hx hb qd_M_fill_41 (by decide) (by omega) (fun c9 => by omega) (fun c9 => ?_)
    refine lv_iconst (v := nI 0) hx hb qd_M_fill_44 (by decide +kernel) ?_
    exact W.iret hx hb hr (fun t ht hW9 => ⟨⟨_, (), rfl, rfl, by rw [ht]; exact hP, va_K.moved hW9.alike hK, hD⟩, hS.F ht⟩) hS.2.2 qd_M_fill_45
  · have h9 : ¬ q ≤ nI 200 := tq_nle (hbad.elim (fun h => absurd h c1) id)
    refine lv_iload_n hx hb qd_M_fill_6 rfl (lv_at hl 1 rfl) ?_
    refine lv_sipush (v := nI 200) hx hb qd_M_fill_7 (by decide +kernel) ?_
    refine lv_icmp_le (tgt := 17) hx hb qd_M_fill_10 (by decide) (fun c9 => absurd c9 (h9)) (fun c2 => ?_)
    refine lv_iconst (v := nI 1) hx hb qd_M_fill_13 (by decide +kernel) ?_
    refine lv_goto (tgt := 34) hx hb qd_M_fill_14 (by decide) ?_
    refine va_put (D := (dC, dI)) (ci := 1) (v := .int (nI 1)) (ty := .int) (C := RX1) (T := TX1) (N := 8) hx hb hW inX1 tyX1 tyX1_ok nmX1 hown hK hP hD hS 0 rfl rfl 0 (by decide) (hW _ qm_281) (fun _ h9 => h9) rfl (by decide +kernel) rfl rfl (Nat.le_of_ble_eq_true rfl) qd_M_fill_34 (fun H locs hP hD hS => ?_)
    have hP : va_P (dC, dI) tq_cl [(o, .inr (1, [.int (nI 1), .int (nI n), .int (nI k), .int w4, .ref ca, .ref cb, .long z1, .long z2])), (ca, .inl (cA, (600, .inr (.inl f)))), (cb, .inl (cA, (40, .inr (.inl g))))] H := hP
    have hD : va_D A [(o, .inr (1, [.int (nI 1), .int (nI n), .int (nI k), .int w4, .ref ca, .ref cb, .long z1, .long z2])), (ca, .inl (cA, (600, .inr (.inl f)))), (cb, .inl (cA, (40, .inr (.inl g))))] := hD
    refine lv_aload_n hx hb qd_M_fill_37 rfl (lv_at hl 0 rfl) ?_
    refine va_get (D := (dC, dI)) (ci := 1) (v := .int (nI 1)) (C := RX1) (T := TX1) (N := 8) hx hb hW inX1 hown hK hP 0 rfl rfl 0 (by decide) (hW _ qm_281) (fun _ h9 => h9) rfl qd_M_fill_38 ?_
    refine tq_if_le (x := 1) (tgt := 46) hx hb qd_M_fill_41 (by decide) (by omega) (fun c9 => by omega) (fun c9 => ?_)
    refine lv_iconst (v := nI 0) hx hb qd_M_fill_44 (by decide +kernel) ?_
    exact W.iret hx hb hr (fun t ht hW9 => ⟨⟨_, (), rfl, rfl, by rw [ht]; exact hP, va_K.moved hW9.alike hK, hD⟩, hS.F ht⟩) hS.2.2 qd_M_fill_45
set_option maxHeartbeats 4000000 in
set_option maxRecDepth 100000 in
theorem ct_M_fill_no2 (l : Launch) (dC : Nat → ClassId) (dI : Nat → Nat → Nat) (o ca cb : Nat) (cA : ClassId) (w1 : Int32) (n k : Nat) (w4 : Int32) (z1 z2 : Int64) (f g : Nat → Int64) (sz : Nat) (j : Nat) (v step : Int64) (h1 : 1 ≤ j) (h2 : j ≤ 200) (hn : 600 < n + j) (hn6 : n ≤ 600) : Met l qy_M_fill qw_M_fill ({ frames := 0, cells := 0, slots := 0, locals := 0 }) (va_Pc [.ref o, .int (nI j), .long v, .long step] (tq_rw (dC, dI) [(o, .inr (1, [.int w1, .int (nI n), .int (nI k), .int w4, .ref ca, .ref cb, .long z1, .long z2])), (ca, .inl (cA, (600, .inr (.inl f)))), (cb, .inl (cA, (40, .inr (.inl g))))] [(cA, .long)] sz)) (va_Qi (fun r (_ : Unit) => r = nI 0) (fun _ t => tq_in (dC, dI) [(o, .inr (1, [.int (nI 2), .int (nI n), .int (nI k), .int w4, .ref ca, .ref cb, .long z1, .long z2])), (ca, .inl (cA, (600, .inr (.inl f)))), (cb, .inl (cA, (40, .inr (.inl g))))] [(cA, .long)] (va_A [(o, .inr (1, [.int w1, .int (nI n), .int (nI k), .int w4, .ref ca, .ref cb, .long z1, .long z2])), (ca, .inl (cA, (600, .inr (.inl f)))), (cb, .inl (cA, (40, .inr (.inl g))))] sz) t) (va_A [(o, .inr (1, [.int w1, .int (nI n), .int (nI k), .int w4, .ref ca, .ref cb, .long z1, .long z2])), (ca, .inl (cA, (600, .inr (.inl f)))), (cb, .inl (cA, (40, .inr (.inl g))))] sz)) 0 0 (va_A [(o, .inr (1, [.int w1, .int (nI n), .int (nI k), .int w4, .ref ca, .ref cb, .long z1, .long z2])), (ca, .inl (cA, (600, .inr (.inl f)))), (cb, .inl (cA, (40, .inr (.inl g))))] sz) := by
  refine Met.ofW (cc := qc_M_fill) (maxL := 7) (ret := (some .int)) (by decide) rfl ?_
  intro p e s m args below meth c s₁ B hml hv
  obtain ⟨rfl, hsz, hP, hK, hD0⟩ := hv
  have hx := B.exec
  have hb := B.bytes
  have hr := B.returns
  have hts := atoms_spec (ws := qw_M_fill) B.pre
  have hW : ∀ w ∈ tq_W, w.before ([.ref o, .int (nI j), .long v, .long step] : List Value).toArray s = true := fun w h => hts w (List.mem_cons_of_mem _ h)
  have hown : s.vm.findClass RX1 = some m.cls := findClass_of_methodNamed B.named
  have hlocks := B.notSynchronized
  have hl := lv_entry ([.ref o, .int (nI j), .long v, .long step]) (n := 7) (Nat.le_of_ble_eq_true rfl)
  rw [lg_entry_eq]
  generalize (lg_sl ([.ref o, .int (nI j), .long v, .long step]) ++ List.replicate (7 - (lg_sl ([.ref o, .int (nI j), .long v, .long step])).length) Slot.unset).toArray = ls at hl ⊢
  have hl : lv_has ls 7 [(0, .ref o), (1, .int (nI j)), (2, .long v), (4, .long step)] := hl
  subst hsz
  have hD := hD0.self (sz := s.heap.size)
  generalize hAe : va_A [(o, .inr (1, [.int w1, .int (nI n), .int (nI k), .int w4, .ref ca, .ref cb, .long z1, .long z2])), (ca, .inl (cA, (600, .inr (.inl f)))), (cb, .inl (cA, (40, .inr (.inl g))))] s.heap.size = A at hD ⊢
  have hA : ∀ q : Nat, s.heap.size ≤ q → A q := fun q h => by rw [← hAe]; exact Or.inr h
  have hS : va_S A s.heap s.heap [] := va_S.rf
  refine lv_aload_n hx hb qd_M_fill_0 rfl (lv_at hl 0 rfl) ?_
  refine lv_iload_n hx hb qd_M_fill_1 rfl (lv_at hl 1 rfl) ?_
  refine lv_iconst (v := nI 1) hx hb qd_M_fill_2 (by decide +kernel) ?_
  refine tq_icmp_lt (x := j) (y := 1) (tgt := 13) hx hb qd_M_fill_3 (by decide) (by omega) (by omega) (fun c9 => by omega) (fun c9 => ?_)
  refine lv_iload_n hx hb qd_M_fill_6 rfl (lv_at hl 1 rfl) ?_
  refine lv_sipush (v := nI 200) hx hb qd_M_fill_7 (by decide +kernel) ?_
  refine tq_icmp_le (x := j) (y := 200) (tgt := 17) hx hb qd_M_fill_10 (by decide) (by omega) (by omega) (fun c9 => ?_) (fun c9 => by omega)
  refine lv_aload_n hx hb qd_M_fill_17 rfl (lv_at hl 0 rfl) ?_
  refine va_get (D := (dC, dI)) (ci := 1) (v := .int (nI n)) (C := RX1) (T := TX1) (N := 8) hx hb hW inX1 hown hK hP 0 rfl rfl 1 (by decide) (hW _ qm_282) (fun _ h9 => h9) rfl qd_M_fill_18 ?_
  refine lv_iload_n hx hb qd_M_fill_21 rfl (lv_at hl 1 rfl) ?_
  refine lv_iadd hx hb qd_M_fill_22 ?_
  refine tq_ti (y := nI (n + j)) (nI_add _ _) ?_
  refine lv_sipush (v := nI 600) hx hb qd_M_fill_23 (by decide +kernel) ?_
  refine tq_icmp_le (x := (n + j)) (y := 600) (tgt := 33) hx hb qd_M_fill_26 (by decide) (by omega) (by omega) (fun c9 => by omega) (fun c9 => ?_)
  refine lv_iconst (v := nI 2) hx hb qd_M_fill_29 (by decide +kernel) ?_
  refine lv_goto (tgt := 34) hx hb qd_M_fill_30 (by decide) ?_
  refine va_put (D := (dC, dI)) (ci := 1) (v := .int (nI 2)) (ty := .int) (C := RX1) (T := TX1) (N := 8) hx hb hW inX1 tyX1 tyX1_ok nmX1 hown hK hP hD hS 0 rfl rfl 0 (by decide) (hW _ qm_281) (fun _ h9 => h9) rfl (by decide +kernel) rfl rfl (Nat.le_of_ble_eq_true rfl) qd_M_fill_34 (fun H locs hP hD hS => ?_)
  have hP : va_P (dC, dI) tq_cl [(o, .inr (1, [.int (nI 2), .int (nI n), .int (nI k), .int w4, .ref ca, .ref cb, .long z1, .long z2])), (ca, .inl (cA, (600, .inr (.inl f)))), (cb, .inl (cA, (40, .inr (.inl g))))] H := hP
  have hD : va_D A [(o, .inr (1, [.int (nI 2), .int (nI n), .int (nI k), .int w4, .ref ca, .ref cb, .long z1, .long z2])), (ca, .inl (cA, (600, .inr (.inl f)))), (cb, .inl (cA, (40, .inr (.inl g))))] := hD
  refine lv_aload_n hx hb qd_M_fill_37 rfl (lv_at hl 0 rfl) ?_
  refine va_get (D := (dC, dI)) (ci := 1) (v := .int (nI 2)) (C := RX1) (T := TX1) (N := 8) hx hb hW inX1 hown hK hP 0 rfl rfl 0 (by decide) (hW _ qm_281) (fun _ h9 => h9) rfl qd_M_fill_38 ?_
  refine tq_if_le (x := 2) (tgt := 46) hx hb qd_M_fill_41 (by decide) (by omega) (fun c9 => by omega) (fun c9 => ?_)
  refine lv_iconst (v := nI 0) hx hb qd_M_fill_44 (by decide +kernel) ?_
  exact W.iret hx hb hr (fun t ht hW9 => ⟨⟨_, (), rfl, rfl, by rw [ht]; exact hP, va_K.moved hW9.alike hK, hD⟩, hS.F ht⟩) hS.2.2 qd_M_fill_45
set_option maxHeartbeats 4000000 in
set_option maxRecDepth 100000 in
theorem ct_M_cut (l : Launch) (dC : Nat → ClassId) (dI : Nat → Nat → Nat) (o ca cb : Nat) (cA : ClassId) (w1 : Int32) (n k : Nat) (w4 : Int32) (z1 z2 : Int64) (f g : Nat → Int64) (sz : Nat) (j : Nat) (hj : j ≤ n) (hn : n ≤ 600) : Met l qy_M_cut qw_M_cut ({ frames := 0, cells := 0, slots := 0, locals := 0 }) (va_Pc [.ref o, .int (nI j)] (tq_rw (dC, dI) [(o, .inr (1, [.int w1, .int (nI n), .int (nI k), .int w4, .ref ca, .ref cb, .long z1, .long z2])), (ca, .inl (cA, (600, .inr (.inl f)))), (cb, .inl (cA, (40, .inr (.inl g))))] [(cA, .long)] sz)) (va_Qi (fun r (_ : Unit) => r = nI (n - j)) (fun _ t => tq_in (dC, dI) [(o, .inr (1, [.int (nI 0), .int (nI j), .int (nI k), .int w4, .ref ca, .ref cb, .long z1, .long z2])), (ca, .inl (cA, (600, .inr (.inl f)))), (cb, .inl (cA, (40, .inr (.inl g))))] [(cA, .long)] (va_A [(o, .inr (1, [.int w1, .int (nI n), .int (nI k), .int w4, .ref ca, .ref cb, .long z1, .long z2])), (ca, .inl (cA, (600, .inr (.inl f)))), (cb, .inl (cA, (40, .inr (.inl g))))] sz) t) (va_A [(o, .inr (1, [.int w1, .int (nI n), .int (nI k), .int w4, .ref ca, .ref cb, .long z1, .long z2])), (ca, .inl (cA, (600, .inr (.inl f)))), (cb, .inl (cA, (40, .inr (.inl g))))] sz)) 0 0 (va_A [(o, .inr (1, [.int w1, .int (nI n), .int (nI k), .int w4, .ref ca, .ref cb, .long z1, .long z2])), (ca, .inl (cA, (600, .inr (.inl f)))), (cb, .inl (cA, (40, .inr (.inl g))))] sz) := by
  refine Met.ofW (cc := qc_M_cut) (maxL := 3) (ret := (some .int)) (by decide) rfl ?_
  intro p e s m args below meth c s₁ B hml hv
  obtain ⟨rfl, hsz, hP, hK, hD0⟩ := hv
  have hx := B.exec
  have hb := B.bytes
  have hr := B.returns
  have hts := atoms_spec (ws := qw_M_cut) B.pre
  have hW : ∀ w ∈ tq_W, w.before ([.ref o, .int (nI j)] : List Value).toArray s = true := fun w h => hts w (List.mem_cons_of_mem _ h)
  have hown : s.vm.findClass RX1 = some m.cls := findClass_of_methodNamed B.named
  have hlocks := B.notSynchronized
  have hl := lv_entry ([.ref o, .int (nI j)]) (n := 3) (Nat.le_of_ble_eq_true rfl)
  rw [lg_entry_eq]
  generalize (lg_sl ([.ref o, .int (nI j)]) ++ List.replicate (3 - (lg_sl ([.ref o, .int (nI j)])).length) Slot.unset).toArray = ls at hl ⊢
  have hl : lv_has ls 3 [(0, .ref o), (1, .int (nI j))] := hl
  subst hsz
  have hD := hD0.self (sz := s.heap.size)
  generalize hAe : va_A [(o, .inr (1, [.int w1, .int (nI n), .int (nI k), .int w4, .ref ca, .ref cb, .long z1, .long z2])), (ca, .inl (cA, (600, .inr (.inl f)))), (cb, .inl (cA, (40, .inr (.inl g))))] s.heap.size = A at hD ⊢
  have hA : ∀ q : Nat, s.heap.size ≤ q → A q := fun q h => by rw [← hAe]; exact Or.inr h
  have hS : va_S A s.heap s.heap [] := va_S.rf
  refine lv_aload_n hx hb qd_M_cut_0 rfl (lv_at hl 0 rfl) ?_
  refine lv_iload_n hx hb qd_M_cut_1 rfl (lv_at hl 1 rfl) ?_
  refine tq_if_lt (x := j) (tgt := 13) hx hb qd_M_cut_2 (by decide) (by omega) ?_
  refine lv_iload_n hx hb qd_M_cut_5 rfl (lv_at hl 1 rfl) ?_
  refine lv_aload_n hx hb qd_M_cut_6 rfl (lv_at hl 0 rfl) ?_
  refine va_get (D := (dC, dI)) (ci := 1) (v := .int (nI n)) (C := RX1) (T := TX1) (N := 8) hx hb hW inX1 hown hK hP 0 rfl rfl 1 (by decide) (hW _ qm_282) (fun _ h9 => h9) rfl qd_M_cut_7 ?_
  refine tq_icmp_le (x := j) (y := n) (tgt := 17) hx hb qd_M_cut_10 (by decide) (by omega) (by omega) (fun c9 => ?_) (fun c9 => by omega)
  refine lv_iconst (v := nI 0) hx hb qd_M_cut_17 (by decide +kernel) ?_
  refine va_put (D := (dC, dI)) (ci := 1) (v := .int (nI 0)) (ty := .int) (C := RX1) (T := TX1) (N := 8) hx hb hW inX1 tyX1 tyX1_ok nmX1 hown hK hP hD hS 0 rfl rfl 0 (by decide) (hW _ qm_281) (fun _ h9 => h9) rfl (by decide +kernel) rfl rfl (Nat.le_of_ble_eq_true rfl) qd_M_cut_18 (fun H locs hP hD hS => ?_)
  have hP : va_P (dC, dI) tq_cl [(o, .inr (1, [.int (nI 0), .int (nI n), .int (nI k), .int w4, .ref ca, .ref cb, .long z1, .long z2])), (ca, .inl (cA, (600, .inr (.inl f)))), (cb, .inl (cA, (40, .inr (.inl g))))] H := hP
  have hD : va_D A [(o, .inr (1, [.int (nI 0), .int (nI n), .int (nI k), .int w4, .ref ca, .ref cb, .long z1, .long z2])), (ca, .inl (cA, (600, .inr (.inl f)))), (cb, .inl (cA, (40, .inr (.inl g))))] := hD
  refine lv_aload_n hx hb qd_M_cut_21 rfl (lv_at hl 0 rfl) ?_
  refine va_get (D := (dC, dI)) (ci := 1) (v := .int (nI 0)) (C := RX1) (T := TX1) (N := 8) hx hb hW inX1 hown hK hP 0 rfl rfl 0 (by decide) (hW _ qm_281) (fun _ h9 => h9) rfl qd_M_cut_22 ?_
  refine tq_if_le (x := 0) (tgt := 30) hx hb qd_M_cut_25 (by decide) (by omega) (fun c9 => ?_) (fun c9 => by omega)
  refine lv_aload_n hx hb qd_M_cut_30 rfl (lv_at hl 0 rfl) ?_
  refine va_get (D := (dC, dI)) (ci := 1) (v := .int (nI n)) (C := RX1) (T := TX1) (N := 8) hx hb hW inX1 hown hK hP 0 rfl rfl 1 (by decide) (hW _ qm_282) (fun _ h9 => h9) rfl qd_M_cut_31 ?_
  refine lv_iload_n hx hb qd_M_cut_34 rfl (lv_at hl 1 rfl) ?_
  refine lv_isub hx hb qd_M_cut_35 ?_
  refine tq_ti (y := nI (n - j)) (pk_sub hj) ?_
  refine lv_istore_n (lv' := [(2, .int (nI (n - j))), (0, .ref o), (1, .int (nI j))]) hx hb qd_M_cut_36 rfl hl (by decide) rfl (fun ls hl => ?_)
  refine lv_aload_n hx hb qd_M_cut_37 rfl (lv_at hl 1 rfl) ?_
  refine lv_iload_n hx hb qd_M_cut_38 rfl (lv_at hl 2 rfl) ?_
  refine va_put (D := (dC, dI)) (ci := 1) (v := .int (nI j)) (ty := .int) (C := RX1) (T := TX1) (N := 8) hx hb hW inX1 tyX1 tyX1_ok nmX1 hown hK hP hD hS 0 rfl rfl 1 (by decide) (hW _ qm_282) (fun _ h9 => h9) rfl (by decide +kernel) rfl rfl (Nat.le_of_ble_eq_true rfl) qd_M_cut_39 (fun H locs hP hD hS => ?_)
  have hP : va_P (dC, dI) tq_cl [(o, .inr (1, [.int (nI 0), .int (nI j), .int (nI k), .int w4, .ref ca, .ref cb, .long z1, .long z2])), (ca, .inl (cA, (600, .inr (.inl f)))), (cb, .inl (cA, (40, .inr (.inl g))))] H := hP
  have hD : va_D A [(o, .inr (1, [.int (nI 0), .int (nI j), .int (nI k), .int w4, .ref ca, .ref cb, .long z1, .long z2])), (ca, .inl (cA, (600, .inr (.inl f)))), (cb, .inl (cA, (40, .inr (.inl g))))] := hD
  refine lv_iload_n hx hb qd_M_cut_42 rfl (lv_at hl 0 rfl) ?_
  exact W.iret hx hb hr (fun t ht hW9 => ⟨⟨_, (), rfl, rfl, by rw [ht]; exact hP, va_K.moved hW9.alike hK, hD⟩, hS.F ht⟩) hS.2.2 qd_M_cut_43
set_option maxHeartbeats 4000000 in
set_option maxRecDepth 100000 in
theorem ct_M_cut_no (l : Launch) (dC : Nat → ClassId) (dI : Nat → Nat → Nat) (o ca cb : Nat) (cA : ClassId) (w1 : Int32) (n k : Nat) (w4 : Int32) (z1 z2 : Int64) (f g : Nat → Int64) (sz : Nat) (q : Int32) (hbad : q < 0 ∨ nI n < q) : Met l qy_M_cut qw_M_cut ({ frames := 0, cells := 0, slots := 0, locals := 0 }) (va_Pc [.ref o, .int q] (tq_rw (dC, dI) [(o, .inr (1, [.int w1, .int (nI n), .int (nI k), .int w4, .ref ca, .ref cb, .long z1, .long z2])), (ca, .inl (cA, (600, .inr (.inl f)))), (cb, .inl (cA, (40, .inr (.inl g))))] [(cA, .long)] sz)) (va_Qi (fun r (_ : Unit) => r = nI 0) (fun _ t => tq_in (dC, dI) [(o, .inr (1, [.int (nI 1), .int (nI n), .int (nI k), .int w4, .ref ca, .ref cb, .long z1, .long z2])), (ca, .inl (cA, (600, .inr (.inl f)))), (cb, .inl (cA, (40, .inr (.inl g))))] [(cA, .long)] (va_A [(o, .inr (1, [.int w1, .int (nI n), .int (nI k), .int w4, .ref ca, .ref cb, .long z1, .long z2])), (ca, .inl (cA, (600, .inr (.inl f)))), (cb, .inl (cA, (40, .inr (.inl g))))] sz) t) (va_A [(o, .inr (1, [.int w1, .int (nI n), .int (nI k), .int w4, .ref ca, .ref cb, .long z1, .long z2])), (ca, .inl (cA, (600, .inr (.inl f)))), (cb, .inl (cA, (40, .inr (.inl g))))] sz)) 0 0 (va_A [(o, .inr (1, [.int w1, .int (nI n), .int (nI k), .int w4, .ref ca, .ref cb, .long z1, .long z2])), (ca, .inl (cA, (600, .inr (.inl f)))), (cb, .inl (cA, (40, .inr (.inl g))))] sz) := by
  refine Met.ofW (cc := qc_M_cut) (maxL := 3) (ret := (some .int)) (by decide) rfl ?_
  intro p e s m args below meth c s₁ B hml hv
  obtain ⟨rfl, hsz, hP, hK, hD0⟩ := hv
  have hx := B.exec
  have hb := B.bytes
  have hr := B.returns
  have hts := atoms_spec (ws := qw_M_cut) B.pre
  have hW : ∀ w ∈ tq_W, w.before ([.ref o, .int q] : List Value).toArray s = true := fun w h => hts w (List.mem_cons_of_mem _ h)
  have hown : s.vm.findClass RX1 = some m.cls := findClass_of_methodNamed B.named
  have hlocks := B.notSynchronized
  have hl := lv_entry ([.ref o, .int q]) (n := 3) (Nat.le_of_ble_eq_true rfl)
  rw [lg_entry_eq]
  generalize (lg_sl ([.ref o, .int q]) ++ List.replicate (3 - (lg_sl ([.ref o, .int q])).length) Slot.unset).toArray = ls at hl ⊢
  have hl : lv_has ls 3 [(0, .ref o), (1, .int q)] := hl
  subst hsz
  have hD := hD0.self (sz := s.heap.size)
  generalize hAe : va_A [(o, .inr (1, [.int w1, .int (nI n), .int (nI k), .int w4, .ref ca, .ref cb, .long z1, .long z2])), (ca, .inl (cA, (600, .inr (.inl f)))), (cb, .inl (cA, (40, .inr (.inl g))))] s.heap.size = A at hD ⊢
  have hA : ∀ q : Nat, s.heap.size ≤ q → A q := fun q h => by rw [← hAe]; exact Or.inr h
  have hS : va_S A s.heap s.heap [] := va_S.rf
  refine lv_aload_n hx hb qd_M_cut_0 rfl (lv_at hl 0 rfl) ?_
  refine lv_iload_n hx hb qd_M_cut_1 rfl (lv_at hl 1 rfl) ?_
  refine lv_if_lt (tgt := 13) hx hb qd_M_cut_2 (by decide) (fun c1 => ?_) (fun c1 => ?_)
  · refine lv_iconst (v := nI 1) hx hb qd_M_cut_13 (by decide +kernel) ?_
    refine lv_goto (tgt := 18) hx hb qd_M_cut_14 (by decide) ?_
    refine va_put (D := (dC, dI)) (ci := 1) (v := .int (nI 1)) (ty := .int) (C := RX1) (T := TX1) (N := 8) hx hb hW inX1 tyX1 tyX1_ok nmX1 hown hK hP hD hS 0 rfl rfl 0 (by decide) (hW _ qm_281) (fun _ h9 => h9) rfl (by decide +kernel) rfl rfl (Nat.le_of_ble_eq_true rfl) qd_M_cut_18 (fun H locs hP hD hS => ?_)
    have hP : va_P (dC, dI) tq_cl [(o, .inr (1, [.int (nI 1), .int (nI n), .int (nI k), .int w4, .ref ca, .ref cb, .long z1, .long z2])), (ca, .inl (cA, (600, .inr (.inl f)))), (cb, .inl (cA, (40, .inr (.inl g))))] H := hP
    have hD : va_D A [(o, .inr (1, [.int (nI 1), .int (nI n), .int (nI k), .int w4, .ref ca, .ref cb, .long z1, .long z2])), (ca, .inl (cA, (600, .inr (.inl f)))), (cb, .inl (cA, (40, .inr (.inl g))))] := hD
    refine lv_aload_n hx hb qd_M_cut_21 rfl (lv_at hl 0 rfl) ?_
    refine va_get (D := (dC, dI)) (ci := 1) (v := .int (nI 1)) (C := RX1) (T := TX1) (N := 8) hx hb hW inX1 hown hK hP 0 rfl rfl 0 (by decide) (hW _ qm_281) (fun _ h9 => h9) rfl qd_M_cut_22 ?_
    refine tq_if_le (x := 1) (tgt := 30) hx hb qd_M_cut_25 (by decide) (by omega) (fun c9 => by omega) (fun c9 => ?_)
    refine lv_iconst (v := nI 0) hx hb qd_M_cut_28 (by decide +kernel) ?_
    exact W.iret hx hb hr (fun t ht hW9 => ⟨⟨_, (), rfl, rfl, by rw [ht]; exact hP, va_K.moved hW9.alike hK, hD⟩, hS.F ht⟩) hS.2.2 qd_M_cut_29
  · have h9 : ¬ q ≤ nI n := tq_nle (hbad.elim (fun h => absurd h c1) id)
    refine lv_iload_n hx hb qd_M_cut_5 rfl (lv_at hl 1 rfl) ?_
    refine lv_aload_n hx hb qd_M_cut_6 rfl (lv_at hl 0 rfl) ?_
    refine va_get (D := (dC, dI)) (ci := 1) (v := .int (nI n)) (C := RX1) (T := TX1) (N := 8) hx hb hW inX1 hown hK hP 0 rfl rfl 1 (by decide) (hW _ qm_282) (fun _ h9 => h9) rfl qd_M_cut_7 ?_
    refine lv_icmp_le (tgt := 17) hx hb qd_M_cut_10 (by decide) (fun c9 => absurd c9 (h9)) (fun c2 => ?_)
    refine lv_iconst (v := nI 1) hx hb qd_M_cut_13 (by decide +kernel) ?_
    refine lv_goto (tgt := 18) hx hb qd_M_cut_14 (by decide) ?_
    refine va_put (D := (dC, dI)) (ci := 1) (v := .int (nI 1)) (ty := .int) (C := RX1) (T := TX1) (N := 8) hx hb hW inX1 tyX1 tyX1_ok nmX1 hown hK hP hD hS 0 rfl rfl 0 (by decide) (hW _ qm_281) (fun _ h9 => h9) rfl (by decide +kernel) rfl rfl (Nat.le_of_ble_eq_true rfl) qd_M_cut_18 (fun H locs hP hD hS => ?_)
    have hP : va_P (dC, dI) tq_cl [(o, .inr (1, [.int (nI 1), .int (nI n), .int (nI k), .int w4, .ref ca, .ref cb, .long z1, .long z2])), (ca, .inl (cA, (600, .inr (.inl f)))), (cb, .inl (cA, (40, .inr (.inl g))))] H := hP
    have hD : va_D A [(o, .inr (1, [.int (nI 1), .int (nI n), .int (nI k), .int w4, .ref ca, .ref cb, .long z1, .long z2])), (ca, .inl (cA, (600, .inr (.inl f)))), (cb, .inl (cA, (40, .inr (.inl g))))] := hD
    refine lv_aload_n hx hb qd_M_cut_21 rfl (lv_at hl 0 rfl) ?_
    refine va_get (D := (dC, dI)) (ci := 1) (v := .int (nI 1)) (C := RX1) (T := TX1) (N := 8) hx hb hW inX1 hown hK hP 0 rfl rfl 0 (by decide) (hW _ qm_281) (fun _ h9 => h9) rfl qd_M_cut_22 ?_
    refine tq_if_le (x := 1) (tgt := 30) hx hb qd_M_cut_25 (by decide) (by omega) (fun c9 => by omega) (fun c9 => ?_)
    refine lv_iconst (v := nI 0) hx hb qd_M_cut_28 (by decide +kernel) ?_
    exact W.iret hx hb hr (fun t ht hW9 => ⟨⟨_, (), rfl, rfl, by rw [ht]; exact hP, va_K.moved hW9.alike hK, hD⟩, hS.F ht⟩) hS.2.2 qd_M_cut_29
set_option maxHeartbeats 4000000 in
set_option maxRecDepth 100000 in
theorem ct_M_head (l : Launch) (dC : Nat → ClassId) (dI : Nat → Nat → Nat) (o ca cb : Nat) (cA : ClassId) (w1 : Int32) (n k : Nat) (w4 : Int32) (z1 z2 : Int64) (f g : Nat → Int64) (sz : Nat) (j : Nat) (hj : j ≤ n) (hn : n ≤ 600) : Met l qy_M_head qw_M_head ({ frames := 13, cells := 0, slots := 0, locals := 330 }) (va_Pc [.ref o, .int (nI j)] (tq_rw (dC, dI) [(o, .inr (1, [.int w1, .int (nI n), .int (nI k), .int w4, .ref ca, .ref cb, .long z1, .long z2])), (ca, .inl (cA, (600, .inr (.inl f)))), (cb, .inl (cA, (40, .inr (.inl g))))] [(cA, .long)] sz)) (va_Ql (fun r (_ : Unit) => r = tq_hd (fun j => tq_leaf (f j)) 0 j) (fun _ t => tq_in (dC, dI) [(o, .inr (1, [.int (nI 0), .int (nI n), .int (nI k), .int w4, .ref ca, .ref cb, .long z1, .long z2])), (ca, .inl (cA, (600, .inr (.inl f)))), (cb, .inl (cA, (40, .inr (.inl g))))] [(cA, .long)] (va_A [(o, .inr (1, [.int w1, .int (nI n), .int (nI k), .int w4, .ref ca, .ref cb, .long z1, .long z2])), (ca, .inl (cA, (600, .inr (.inl f)))), (cb, .inl (cA, (40, .inr (.inl g))))] sz) t) (va_A [(o, .inr (1, [.int w1, .int (nI n), .int (nI k), .int w4, .ref ca, .ref cb, .long z1, .long z2])), (ca, .inl (cA, (600, .inr (.inl f)))), (cb, .inl (cA, (40, .inr (.inl g))))] sz)) 0 0 (va_A [(o, .inr (1, [.int w1, .int (nI n), .int (nI k), .int w4, .ref ca, .ref cb, .long z1, .long z2])), (ca, .inl (cA, (600, .inr (.inl f)))), (cb, .inl (cA, (40, .inr (.inl g))))] sz) := by
  refine Met.ofW (cc := qc_M_head) (maxL := 2) (ret := (some .long)) (by decide) rfl ?_
  intro p e s m args below meth c s₁ B hml hv
  obtain ⟨rfl, hsz, hP, hK, hD0⟩ := hv
  have hx := B.exec
  have hb := B.bytes
  have hr := B.returns
  have hts := atoms_spec (ws := qw_M_head) B.pre
  have hW : ∀ w ∈ tq_W, w.before ([.ref o, .int (nI j)] : List Value).toArray s = true := fun w h => hts w (List.mem_cons_of_mem _ h)
  have hown : s.vm.findClass RX1 = some m.cls := findClass_of_methodNamed B.named
  have hlocks := B.notSynchronized
  have hl := lv_entry ([.ref o, .int (nI j)]) (n := 2) (Nat.le_of_ble_eq_true rfl)
  rw [lg_entry_eq]
  generalize (lg_sl ([.ref o, .int (nI j)]) ++ List.replicate (2 - (lg_sl ([.ref o, .int (nI j)])).length) Slot.unset).toArray = ls at hl ⊢
  have hl : lv_has ls 2 [(0, .ref o), (1, .int (nI j))] := hl
  subst hsz
  have hD := hD0.self (sz := s.heap.size)
  generalize hAe : va_A [(o, .inr (1, [.int w1, .int (nI n), .int (nI k), .int w4, .ref ca, .ref cb, .long z1, .long z2])), (ca, .inl (cA, (600, .inr (.inl f)))), (cb, .inl (cA, (40, .inr (.inl g))))] s.heap.size = A at hD ⊢
  have hA : ∀ q : Nat, s.heap.size ≤ q → A q := fun q h => by rw [← hAe]; exact Or.inr h
  have hS : va_S A s.heap s.heap [] := va_S.rf
  refine lv_aload_n hx hb qd_M_head_0 rfl (lv_at hl 0 rfl) ?_
  refine lv_iload_n hx hb qd_M_head_1 rfl (lv_at hl 1 rfl) ?_
  refine tq_if_lt (x := j) (tgt := 13) hx hb qd_M_head_2 (by decide) (by omega) ?_
  refine lv_iload_n hx hb qd_M_head_5 rfl (lv_at hl 1 rfl) ?_
  refine lv_aload_n hx hb qd_M_head_6 rfl (lv_at hl 0 rfl) ?_
  refine va_get (D := (dC, dI)) (ci := 1) (v := .int (nI n)) (C := RX1) (T := TX1) (N := 8) hx hb hW inX1 hown hK hP 0 rfl rfl 1 (by decide) (hW _ qm_282) (fun _ h9 => h9) rfl qd_M_head_7 ?_
  refine tq_icmp_le (x := j) (y := n) (tgt := 17) hx hb qd_M_head_10 (by decide) (by omega) (by omega) (fun c9 => ?_) (fun c9 => by omega)
  refine lv_iconst (v := nI 0) hx hb qd_M_head_17 (by decide +kernel) ?_
  refine va_put (D := (dC, dI)) (ci := 1) (v := .int (nI 0)) (ty := .int) (C := RX1) (T := TX1) (N := 8) hx hb hW inX1 tyX1 tyX1_ok nmX1 hown hK hP hD hS 0 rfl rfl 0 (by decide) (hW _ qm_281) (fun _ h9 => h9) rfl (by decide +kernel) rfl rfl (Nat.le_of_ble_eq_true rfl) qd_M_head_18 (fun H locs hP hD hS => ?_)
  have hP : va_P (dC, dI) tq_cl [(o, .inr (1, [.int (nI 0), .int (nI n), .int (nI k), .int w4, .ref ca, .ref cb, .long z1, .long z2])), (ca, .inl (cA, (600, .inr (.inl f)))), (cb, .inl (cA, (40, .inr (.inl g))))] H := hP
  have hD : va_D A [(o, .inr (1, [.int (nI 0), .int (nI n), .int (nI k), .int w4, .ref ca, .ref cb, .long z1, .long z2])), (ca, .inl (cA, (600, .inr (.inl f)))), (cb, .inl (cA, (40, .inr (.inl g))))] := hD
  refine lv_aload_n hx hb qd_M_head_21 rfl (lv_at hl 0 rfl) ?_
  refine va_get (D := (dC, dI)) (ci := 1) (v := .int (nI 0)) (C := RX1) (T := TX1) (N := 8) hx hb hW inX1 hown hK hP 0 rfl rfl 0 (by decide) (hW _ qm_281) (fun _ h9 => h9) rfl qd_M_head_22 ?_
  refine tq_if_le (x := 0) (tgt := 32) hx hb qd_M_head_25 (by decide) (by omega) (fun c9 => ?_) (fun c9 => by omega)
  refine lv_aload_n hx hb qd_M_head_32 rfl (lv_at hl 0 rfl) ?_
  refine lv_iconst (v := nI 0) hx hb qd_M_head_33 (by decide +kernel) ?_
  refine lv_iload_n hx hb qd_M_head_34 rfl (lv_at hl 1 rfl) ?_
  refine vp_callSl (W.runV (As := [.int (nI 0), .int (nI j)]) (rest := []) ⟨hx, hb, hml, hown, hW⟩ (ct_M_headOf l dC dI o ca cb cA (nI 0) (nI n) (nI k) w4 z1 z2 f 10 0 j (by omega) (by omega)) (cwV 2 hW (tq_gV qm_326 qm_328 qs_M_headOf qm_2 qm_329) rfl rfl rfl (by decide +kernel) ⟨Nat.le_of_ble_eq_true rfl, Nat.le_of_ble_eq_true rfl⟩) ⟨tq_b1, va_recv hK hP (ci := 1) (q0 := 0) rfl rfl, fun U hU hW9 => ⟨rfl, by rw [hU]; exact hP.sub [0, 1] rfl, va_K.moved hW9.alike (hK.sub [0] rfl)⟩⟩ rfl rfl hl.1 rfl (lv_room (Nat.le_of_ble_eq_true rfl)) qd_M_head_35 ⟨Nat.le_of_ble_eq_true rfl, Nat.le_of_ble_eq_true rfl⟩) (fun r9 e9 => ?_)
  subst e9
  exact W.lret hx hb hr (fun t ht hW9 => ⟨⟨_, (), rfl, rfl, by rw [ht]; exact hP, va_K.moved hW9.alike hK, hD⟩, hS.F ht⟩) hS.2.2 qd_M_head_38
set_option maxHeartbeats 4000000 in
set_option maxRecDepth 100000 in
theorem ct_M_head_no (l : Launch) (dC : Nat → ClassId) (dI : Nat → Nat → Nat) (o ca cb : Nat) (cA : ClassId) (w1 : Int32) (n k : Nat) (w4 : Int32) (z1 z2 : Int64) (f g : Nat → Int64) (sz : Nat) (q : Int32) (hbad : q < 0 ∨ nI n < q) : Met l qy_M_head qw_M_head ({ frames := 0, cells := 0, slots := 0, locals := 0 }) (va_Pc [.ref o, .int q] (tq_rw (dC, dI) [(o, .inr (1, [.int w1, .int (nI n), .int (nI k), .int w4, .ref ca, .ref cb, .long z1, .long z2])), (ca, .inl (cA, (600, .inr (.inl f)))), (cb, .inl (cA, (40, .inr (.inl g))))] [(cA, .long)] sz)) (va_Ql (fun r (_ : Unit) => r = 0) (fun _ t => tq_in (dC, dI) [(o, .inr (1, [.int (nI 1), .int (nI n), .int (nI k), .int w4, .ref ca, .ref cb, .long z1, .long z2])), (ca, .inl (cA, (600, .inr (.inl f)))), (cb, .inl (cA, (40, .inr (.inl g))))] [(cA, .long)] (va_A [(o, .inr (1, [.int w1, .int (nI n), .int (nI k), .int w4, .ref ca, .ref cb, .long z1, .long z2])), (ca, .inl (cA, (600, .inr (.inl f)))), (cb, .inl (cA, (40, .inr (.inl g))))] sz) t) (va_A [(o, .inr (1, [.int w1, .int (nI n), .int (nI k), .int w4, .ref ca, .ref cb, .long z1, .long z2])), (ca, .inl (cA, (600, .inr (.inl f)))), (cb, .inl (cA, (40, .inr (.inl g))))] sz)) 0 0 (va_A [(o, .inr (1, [.int w1, .int (nI n), .int (nI k), .int w4, .ref ca, .ref cb, .long z1, .long z2])), (ca, .inl (cA, (600, .inr (.inl f)))), (cb, .inl (cA, (40, .inr (.inl g))))] sz) := by
  refine Met.ofW (cc := qc_M_head) (maxL := 2) (ret := (some .long)) (by decide) rfl ?_
  intro p e s m args below meth c s₁ B hml hv
  obtain ⟨rfl, hsz, hP, hK, hD0⟩ := hv
  have hx := B.exec
  have hb := B.bytes
  have hr := B.returns
  have hts := atoms_spec (ws := qw_M_head) B.pre
  have hW : ∀ w ∈ tq_W, w.before ([.ref o, .int q] : List Value).toArray s = true := fun w h => hts w (List.mem_cons_of_mem _ h)
  have hown : s.vm.findClass RX1 = some m.cls := findClass_of_methodNamed B.named
  have hlocks := B.notSynchronized
  have hl := lv_entry ([.ref o, .int q]) (n := 2) (Nat.le_of_ble_eq_true rfl)
  rw [lg_entry_eq]
  generalize (lg_sl ([.ref o, .int q]) ++ List.replicate (2 - (lg_sl ([.ref o, .int q])).length) Slot.unset).toArray = ls at hl ⊢
  have hl : lv_has ls 2 [(0, .ref o), (1, .int q)] := hl
  subst hsz
  have hD := hD0.self (sz := s.heap.size)
  generalize hAe : va_A [(o, .inr (1, [.int w1, .int (nI n), .int (nI k), .int w4, .ref ca, .ref cb, .long z1, .long z2])), (ca, .inl (cA, (600, .inr (.inl f)))), (cb, .inl (cA, (40, .inr (.inl g))))] s.heap.size = A at hD ⊢
  have hA : ∀ q : Nat, s.heap.size ≤ q → A q := fun q h => by rw [← hAe]; exact Or.inr h
  have hS : va_S A s.heap s.heap [] := va_S.rf
  refine lv_aload_n hx hb qd_M_head_0 rfl (lv_at hl 0 rfl) ?_
  refine lv_iload_n hx hb qd_M_head_1 rfl (lv_at hl 1 rfl) ?_
  refine lv_if_lt (tgt := 13) hx hb qd_M_head_2 (by decide) (fun c1 => ?_) (fun c1 => ?_)
  · refine lv_iconst (v := nI 1) hx hb qd_M_head_13 (by decide +kernel) ?_
    refine lv_goto (tgt := 18) hx hb qd_M_head_14 (by decide) ?_
    refine va_put (D := (dC, dI)) (ci := 1) (v := .int (nI 1)) (ty := .int) (C := RX1) (T := TX1) (N := 8) hx hb hW inX1 tyX1 tyX1_ok nmX1 hown hK hP hD hS 0 rfl rfl 0 (by decide) (hW _ qm_281) (fun _ h9 => h9) rfl (by decide +kernel) rfl rfl (Nat.le_of_ble_eq_true rfl) qd_M_head_18 (fun H locs hP hD hS => ?_)
    have hP : va_P (dC, dI) tq_cl [(o, .inr (1, [.int (nI 1), .int (nI n), .int (nI k), .int w4, .ref ca, .ref cb, .long z1, .long z2])), (ca, .inl (cA, (600, .inr (.inl f)))), (cb, .inl (cA, (40, .inr (.inl g))))] H := hP
    have hD : va_D A [(o, .inr (1, [.int (nI 1), .int (nI n), .int (nI k), .int w4, .ref ca, .ref cb, .long z1, .long z2])), (ca, .inl (cA, (600, .inr (.inl f)))), (cb, .inl (cA, (40, .inr (.inl g))))] := hD
    refine lv_aload_n hx hb qd_M_head_21 rfl (lv_at hl 0 rfl) ?_
    refine va_get (D := (dC, dI)) (ci := 1) (v := .int (nI 1)) (C := RX1) (T := TX1) (N := 8) hx hb hW inX1 hown hK hP 0 rfl rfl 0 (by decide) (hW _ qm_281) (fun _ h9 => h9) rfl qd_M_head_22 ?_
    refine tq_if_le (x := 1) (tgt := 32) hx hb qd_M_head_25 (by decide) (by omega) (fun c9 => by omega) (fun c9 => ?_)
    refine lv_lconst (v := 0) hx hb qd_M_head_28 (by decide) ?_
    refine lv_goto (tgt := 38) hx hb qd_M_head_29 (by decide) ?_
    exact W.lret hx hb hr (fun t ht hW9 => ⟨⟨_, (), rfl, rfl, by rw [ht]; exact hP, va_K.moved hW9.alike hK, hD⟩, hS.F ht⟩) hS.2.2 qd_M_head_38
  · have h9 : ¬ q ≤ nI n := tq_nle (hbad.elim (fun h => absurd h c1) id)
    refine lv_iload_n hx hb qd_M_head_5 rfl (lv_at hl 1 rfl) ?_
    refine lv_aload_n hx hb qd_M_head_6 rfl (lv_at hl 0 rfl) ?_
    refine va_get (D := (dC, dI)) (ci := 1) (v := .int (nI n)) (C := RX1) (T := TX1) (N := 8) hx hb hW inX1 hown hK hP 0 rfl rfl 1 (by decide) (hW _ qm_282) (fun _ h9 => h9) rfl qd_M_head_7 ?_
    refine lv_icmp_le (tgt := 17) hx hb qd_M_head_10 (by decide) (fun c9 => absurd c9 (h9)) (fun c2 => ?_)
    refine lv_iconst (v := nI 1) hx hb qd_M_head_13 (by decide +kernel) ?_
    refine lv_goto (tgt := 18) hx hb qd_M_head_14 (by decide) ?_
    refine va_put (D := (dC, dI)) (ci := 1) (v := .int (nI 1)) (ty := .int) (C := RX1) (T := TX1) (N := 8) hx hb hW inX1 tyX1 tyX1_ok nmX1 hown hK hP hD hS 0 rfl rfl 0 (by decide) (hW _ qm_281) (fun _ h9 => h9) rfl (by decide +kernel) rfl rfl (Nat.le_of_ble_eq_true rfl) qd_M_head_18 (fun H locs hP hD hS => ?_)
    have hP : va_P (dC, dI) tq_cl [(o, .inr (1, [.int (nI 1), .int (nI n), .int (nI k), .int w4, .ref ca, .ref cb, .long z1, .long z2])), (ca, .inl (cA, (600, .inr (.inl f)))), (cb, .inl (cA, (40, .inr (.inl g))))] H := hP
    have hD : va_D A [(o, .inr (1, [.int (nI 1), .int (nI n), .int (nI k), .int w4, .ref ca, .ref cb, .long z1, .long z2])), (ca, .inl (cA, (600, .inr (.inl f)))), (cb, .inl (cA, (40, .inr (.inl g))))] := hD
    refine lv_aload_n hx hb qd_M_head_21 rfl (lv_at hl 0 rfl) ?_
    refine va_get (D := (dC, dI)) (ci := 1) (v := .int (nI 1)) (C := RX1) (T := TX1) (N := 8) hx hb hW inX1 hown hK hP 0 rfl rfl 0 (by decide) (hW _ qm_281) (fun _ h9 => h9) rfl qd_M_head_22 ?_
    refine tq_if_le (x := 1) (tgt := 32) hx hb qd_M_head_25 (by decide) (by omega) (fun c9 => by omega) (fun c9 => ?_)
    refine lv_lconst (v := 0) hx hb qd_M_head_28 (by decide) ?_
    refine lv_goto (tgt := 38) hx hb qd_M_head_29 (by decide) ?_
    exact W.lret hx hb hr (fun t ht hW9 => ⟨⟨_, (), rfl, rfl, by rw [ht]; exact hP, va_K.moved hW9.alike hK, hD⟩, hS.F ht⟩) hS.2.2 qd_M_head_38
set_option maxHeartbeats 4000000 in
set_option maxRecDepth 100000 in
theorem ct_M_part (l : Launch) (dC : Nat → ClassId) (dI : Nat → Nat → Nat) (o ca cb : Nat) (cA : ClassId) (w1 : Int32) (n k : Nat) (w4 : Int32) (z1 z2 : Int64) (f g : Nat → Int64) (sz : Nat) (i j : Nat) (hi : i ≤ j) (hj : j ≤ n) (hn : n ≤ 600) : Met l qy_M_part qw_M_part ({ frames := 13, cells := 0, slots := 0, locals := 330 }) (va_Pc [.ref o, .int (nI i), .int (nI j)] (tq_rw (dC, dI) [(o, .inr (1, [.int w1, .int (nI n), .int (nI k), .int w4, .ref ca, .ref cb, .long z1, .long z2])), (ca, .inl (cA, (600, .inr (.inl f)))), (cb, .inl (cA, (40, .inr (.inl g))))] [(cA, .long)] sz)) (va_Ql (fun r (_ : Unit) => r = tq_hd (fun j => tq_leaf (f j)) i (j - i)) (fun _ t => tq_in (dC, dI) [(o, .inr (1, [.int (nI 0), .int (nI n), .int (nI k), .int w4, .ref ca, .ref cb, .long z1, .long z2])), (ca, .inl (cA, (600, .inr (.inl f)))), (cb, .inl (cA, (40, .inr (.inl g))))] [(cA, .long)] (va_A [(o, .inr (1, [.int w1, .int (nI n), .int (nI k), .int w4, .ref ca, .ref cb, .long z1, .long z2])), (ca, .inl (cA, (600, .inr (.inl f)))), (cb, .inl (cA, (40, .inr (.inl g))))] sz) t) (va_A [(o, .inr (1, [.int w1, .int (nI n), .int (nI k), .int w4, .ref ca, .ref cb, .long z1, .long z2])), (ca, .inl (cA, (600, .inr (.inl f)))), (cb, .inl (cA, (40, .inr (.inl g))))] sz)) 0 0 (va_A [(o, .inr (1, [.int w1, .int (nI n), .int (nI k), .int w4, .ref ca, .ref cb, .long z1, .long z2])), (ca, .inl (cA, (600, .inr (.inl f)))), (cb, .inl (cA, (40, .inr (.inl g))))] sz) := by
  refine Met.ofW (cc := qc_M_part) (maxL := 3) (ret := (some .long)) (by decide) rfl ?_
  intro p e s m args below meth c s₁ B hml hv
  obtain ⟨rfl, hsz, hP, hK, hD0⟩ := hv
  have hx := B.exec
  have hb := B.bytes
  have hr := B.returns
  have hts := atoms_spec (ws := qw_M_part) B.pre
  have hW : ∀ w ∈ tq_W, w.before ([.ref o, .int (nI i), .int (nI j)] : List Value).toArray s = true := fun w h => hts w (List.mem_cons_of_mem _ h)
  have hown : s.vm.findClass RX1 = some m.cls := findClass_of_methodNamed B.named
  have hlocks := B.notSynchronized
  have hl := lv_entry ([.ref o, .int (nI i), .int (nI j)]) (n := 3) (Nat.le_of_ble_eq_true rfl)
  rw [lg_entry_eq]
  generalize (lg_sl ([.ref o, .int (nI i), .int (nI j)]) ++ List.replicate (3 - (lg_sl ([.ref o, .int (nI i), .int (nI j)])).length) Slot.unset).toArray = ls at hl ⊢
  have hl : lv_has ls 3 [(0, .ref o), (1, .int (nI i)), (2, .int (nI j))] := hl
  subst hsz
  have hD := hD0.self (sz := s.heap.size)
  generalize hAe : va_A [(o, .inr (1, [.int w1, .int (nI n), .int (nI k), .int w4, .ref ca, .ref cb, .long z1, .long z2])), (ca, .inl (cA, (600, .inr (.inl f)))), (cb, .inl (cA, (40, .inr (.inl g))))] s.heap.size = A at hD ⊢
  have hA : ∀ q : Nat, s.heap.size ≤ q → A q := fun q h => by rw [← hAe]; exact Or.inr h
  have hS : va_S A s.heap s.heap [] := va_S.rf
  refine lv_aload_n hx hb qd_M_part_0 rfl (lv_at hl 0 rfl) ?_
  refine lv_iload_n hx hb qd_M_part_1 rfl (lv_at hl 1 rfl) ?_
  refine tq_if_lt (x := i) (tgt := 18) hx hb qd_M_part_2 (by decide) (by omega) ?_
  refine lv_iload_n hx hb qd_M_part_5 rfl (lv_at hl 1 rfl) ?_
  refine lv_iload_n hx hb qd_M_part_6 rfl (lv_at hl 2 rfl) ?_
  refine tq_icmp_gt (x := i) (y := j) (tgt := 18) hx hb qd_M_part_7 (by decide) (by omega) (by omega) (fun c9 => by omega) (fun c9 => ?_)
  refine lv_iload_n hx hb qd_M_part_10 rfl (lv_at hl 2 rfl) ?_
  refine lv_aload_n hx hb qd_M_part_11 rfl (lv_at hl 0 rfl) ?_
  refine va_get (D := (dC, dI)) (ci := 1) (v := .int (nI n)) (C := RX1) (T := TX1) (N := 8) hx hb hW inX1 hown hK hP 0 rfl rfl 1 (by decide) (hW _ qm_282) (fun _ h9 => h9) rfl qd_M_part_12 ?_
  refine tq_icmp_le (x := j) (y := n) (tgt := 22) hx hb qd_M_part_15 (by decide) (by omega) (by omega) (fun c9 => ?_) (fun c9 => by omega)
  refine lv_iconst (v := nI 0) hx hb qd_M_part_22 (by decide +kernel) ?_
  refine va_put (D := (dC, dI)) (ci := 1) (v := .int (nI 0)) (ty := .int) (C := RX1) (T := TX1) (N := 8) hx hb hW inX1 tyX1 tyX1_ok nmX1 hown hK hP hD hS 0 rfl rfl 0 (by decide) (hW _ qm_281) (fun _ h9 => h9) rfl (by decide +kernel) rfl rfl (Nat.le_of_ble_eq_true rfl) qd_M_part_23 (fun H locs hP hD hS => ?_)
  have hP : va_P (dC, dI) tq_cl [(o, .inr (1, [.int (nI 0), .int (nI n), .int (nI k), .int w4, .ref ca, .ref cb, .long z1, .long z2])), (ca, .inl (cA, (600, .inr (.inl f)))), (cb, .inl (cA, (40, .inr (.inl g))))] H := hP
  have hD : va_D A [(o, .inr (1, [.int (nI 0), .int (nI n), .int (nI k), .int w4, .ref ca, .ref cb, .long z1, .long z2])), (ca, .inl (cA, (600, .inr (.inl f)))), (cb, .inl (cA, (40, .inr (.inl g))))] := hD
  refine lv_aload_n hx hb qd_M_part_26 rfl (lv_at hl 0 rfl) ?_
  refine va_get (D := (dC, dI)) (ci := 1) (v := .int (nI 0)) (C := RX1) (T := TX1) (N := 8) hx hb hW inX1 hown hK hP 0 rfl rfl 0 (by decide) (hW _ qm_281) (fun _ h9 => h9) rfl qd_M_part_27 ?_
  refine tq_if_le (x := 0) (tgt := 37) hx hb qd_M_part_30 (by decide) (by omega) (fun c9 => ?_) (fun c9 => by omega)
  refine lv_aload_n hx hb qd_M_part_37 rfl (lv_at hl 0 rfl) ?_
  refine lv_iload_n hx hb qd_M_part_38 rfl (lv_at hl 1 rfl) ?_
  refine lv_iload_n hx hb qd_M_part_39 rfl (lv_at hl 2 rfl) ?_
  refine lv_iload_n hx hb qd_M_part_40 rfl (lv_at hl 1 rfl) ?_
  refine lv_isub hx hb qd_M_part_41 ?_
  refine tq_ti (y := nI (j - i)) (pk_sub hi) ?_
  refine vp_callSl (W.runV (As := [.int (nI i), .int (nI (j - i))]) (rest := []) ⟨hx, hb, hml, hown, hW⟩ (ct_M_headOf l dC dI o ca cb cA (nI 0) (nI n) (nI k) w4 z1 z2 f 10 i ((j - i)) (by omega) (by omega)) (cwV 2 hW (tq_gV qm_326 qm_328 qs_M_headOf qm_2 qm_329) rfl rfl rfl (by decide +kernel) ⟨Nat.le_of_ble_eq_true rfl, Nat.le_of_ble_eq_true rfl⟩) ⟨tq_b1, va_recv hK hP (ci := 1) (q0 := 0) rfl rfl, fun U hU hW9 => ⟨rfl, by rw [hU]; exact hP.sub [0, 1] rfl, va_K.moved hW9.alike (hK.sub [0] rfl)⟩⟩ rfl rfl hl.1 rfl (lv_room (Nat.le_of_ble_eq_true rfl)) qd_M_part_42 ⟨Nat.le_of_ble_eq_true rfl, Nat.le_of_ble_eq_true rfl⟩) (fun r9 e9 => ?_)
  subst e9
  exact W.lret hx hb hr (fun t ht hW9 => ⟨⟨_, (), rfl, rfl, by rw [ht]; exact hP, va_K.moved hW9.alike hK, hD⟩, hS.F ht⟩) hS.2.2 qd_M_part_45
set_option maxHeartbeats 4000000 in
set_option maxRecDepth 100000 in
theorem ct_M_part_no (l : Launch) (dC : Nat → ClassId) (dI : Nat → Nat → Nat) (o ca cb : Nat) (cA : ClassId) (w1 : Int32) (n k : Nat) (w4 : Int32) (z1 z2 : Int64) (f g : Nat → Int64) (sz : Nat) (pm pn : Int32) (hbad : pm < 0 ∨ pn < pm ∨ nI n < pn) : Met l qy_M_part qw_M_part ({ frames := 0, cells := 0, slots := 0, locals := 0 }) (va_Pc [.ref o, .int pm, .int pn] (tq_rw (dC, dI) [(o, .inr (1, [.int w1, .int (nI n), .int (nI k), .int w4, .ref ca, .ref cb, .long z1, .long z2])), (ca, .inl (cA, (600, .inr (.inl f)))), (cb, .inl (cA, (40, .inr (.inl g))))] [(cA, .long)] sz)) (va_Ql (fun r (_ : Unit) => r = 0) (fun _ t => tq_in (dC, dI) [(o, .inr (1, [.int (nI 1), .int (nI n), .int (nI k), .int w4, .ref ca, .ref cb, .long z1, .long z2])), (ca, .inl (cA, (600, .inr (.inl f)))), (cb, .inl (cA, (40, .inr (.inl g))))] [(cA, .long)] (va_A [(o, .inr (1, [.int w1, .int (nI n), .int (nI k), .int w4, .ref ca, .ref cb, .long z1, .long z2])), (ca, .inl (cA, (600, .inr (.inl f)))), (cb, .inl (cA, (40, .inr (.inl g))))] sz) t) (va_A [(o, .inr (1, [.int w1, .int (nI n), .int (nI k), .int w4, .ref ca, .ref cb, .long z1, .long z2])), (ca, .inl (cA, (600, .inr (.inl f)))), (cb, .inl (cA, (40, .inr (.inl g))))] sz)) 0 0 (va_A [(o, .inr (1, [.int w1, .int (nI n), .int (nI k), .int w4, .ref ca, .ref cb, .long z1, .long z2])), (ca, .inl (cA, (600, .inr (.inl f)))), (cb, .inl (cA, (40, .inr (.inl g))))] sz) := by
  refine Met.ofW (cc := qc_M_part) (maxL := 3) (ret := (some .long)) (by decide) rfl ?_
  intro p e s m args below meth c s₁ B hml hv
  obtain ⟨rfl, hsz, hP, hK, hD0⟩ := hv
  have hx := B.exec
  have hb := B.bytes
  have hr := B.returns
  have hts := atoms_spec (ws := qw_M_part) B.pre
  have hW : ∀ w ∈ tq_W, w.before ([.ref o, .int pm, .int pn] : List Value).toArray s = true := fun w h => hts w (List.mem_cons_of_mem _ h)
  have hown : s.vm.findClass RX1 = some m.cls := findClass_of_methodNamed B.named
  have hlocks := B.notSynchronized
  have hl := lv_entry ([.ref o, .int pm, .int pn]) (n := 3) (Nat.le_of_ble_eq_true rfl)
  rw [lg_entry_eq]
  generalize (lg_sl ([.ref o, .int pm, .int pn]) ++ List.replicate (3 - (lg_sl ([.ref o, .int pm, .int pn])).length) Slot.unset).toArray = ls at hl ⊢
  have hl : lv_has ls 3 [(0, .ref o), (1, .int pm), (2, .int pn)] := hl
  subst hsz
  have hD := hD0.self (sz := s.heap.size)
  generalize hAe : va_A [(o, .inr (1, [.int w1, .int (nI n), .int (nI k), .int w4, .ref ca, .ref cb, .long z1, .long z2])), (ca, .inl (cA, (600, .inr (.inl f)))), (cb, .inl (cA, (40, .inr (.inl g))))] s.heap.size = A at hD ⊢
  have hA : ∀ q : Nat, s.heap.size ≤ q → A q := fun q h => by rw [← hAe]; exact Or.inr h
  have hS : va_S A s.heap s.heap [] := va_S.rf
  refine lv_aload_n hx hb qd_M_part_0 rfl (lv_at hl 0 rfl) ?_
  refine lv_iload_n hx hb qd_M_part_1 rfl (lv_at hl 1 rfl) ?_
  refine lv_if_lt (tgt := 18) hx hb qd_M_part_2 (by decide) (fun c1 => ?_) (fun c1 => ?_)
  · refine lv_iconst (v := nI 1) hx hb qd_M_part_18 (by decide +kernel) ?_
    refine lv_goto (tgt := 23) hx hb qd_M_part_19 (by decide) ?_
    refine va_put (D := (dC, dI)) (ci := 1) (v := .int (nI 1)) (ty := .int) (C := RX1) (T := TX1) (N := 8) hx hb hW inX1 tyX1 tyX1_ok nmX1 hown hK hP hD hS 0 rfl rfl 0 (by decide) (hW _ qm_281) (fun _ h9 => h9) rfl (by decide +kernel) rfl rfl (Nat.le_of_ble_eq_true rfl) qd_M_part_23 (fun H locs hP hD hS => ?_)
    have hP : va_P (dC, dI) tq_cl [(o, .inr (1, [.int (nI 1), .int (nI n), .int (nI k), .int w4, .ref ca, .ref cb, .long z1, .long z2])), (ca, .inl (cA, (600, .inr (.inl f)))), (cb, .inl (cA, (40, .inr (.inl g))))] H := hP
    have hD : va_D A [(o, .inr (1, [.int (nI 1), .int (nI n), .int (nI k), .int w4, .ref ca, .ref cb, .long z1, .long z2])), (ca, .inl (cA, (600, .inr (.inl f)))), (cb, .inl (cA, (40, .inr (.inl g))))] := hD
    refine lv_aload_n hx hb qd_M_part_26 rfl (lv_at hl 0 rfl) ?_
    refine va_get (D := (dC, dI)) (ci := 1) (v := .int (nI 1)) (C := RX1) (T := TX1) (N := 8) hx hb hW inX1 hown hK hP 0 rfl rfl 0 (by decide) (hW _ qm_281) (fun _ h9 => h9) rfl qd_M_part_27 ?_
    refine tq_if_le (x := 1) (tgt := 37) hx hb qd_M_part_30 (by decide) (by omega) (fun c9 => by omega) (fun c9 => ?_)
    refine lv_lconst (v := 0) hx hb qd_M_part_33 (by decide) ?_
    refine lv_goto (tgt := 45) hx hb qd_M_part_34 (by decide) ?_
    exact W.lret hx hb hr (fun t ht hW9 => ⟨⟨_, (), rfl, rfl, by rw [ht]; exact hP, va_K.moved hW9.alike hK, hD⟩, hS.F ht⟩) hS.2.2 qd_M_part_45
  · refine lv_iload_n hx hb qd_M_part_5 rfl (lv_at hl 1 rfl) ?_
    refine lv_iload_n hx hb qd_M_part_6 rfl (lv_at hl 2 rfl) ?_
    refine lv_icmp_gt (tgt := 18) hx hb qd_M_part_7 (by decide) (fun c2 => ?_) (fun c2 => ?_)
    · refine lv_iconst (v := nI 1) hx hb qd_M_part_18 (by decide +kernel) ?_
      refine lv_goto (tgt := 23) hx hb qd_M_part_19 (by decide) ?_
      refine va_put (D := (dC, dI)) (ci := 1) (v := .int (nI 1)) (ty := .int) (C := RX1) (T := TX1) (N := 8) hx hb hW inX1 tyX1 tyX1_ok nmX1 hown hK hP hD hS 0 rfl rfl 0 (by decide) (hW _ qm_281) (fun _ h9 => h9) rfl (by decide +kernel) rfl rfl (Nat.le_of_ble_eq_true rfl) qd_M_part_23 (fun H locs hP hD hS => ?_)
      have hP : va_P (dC, dI) tq_cl [(o, .inr (1, [.int (nI 1), .int (nI n), .int (nI k), .int w4, .ref ca, .ref cb, .long z1, .long z2])), (ca, .inl (cA, (600, .inr (.inl f)))), (cb, .inl (cA, (40, .inr (.inl g))))] H := hP
      have hD : va_D A [(o, .inr (1, [.int (nI 1), .int (nI n), .int (nI k), .int w4, .ref ca, .ref cb, .long z1, .long z2])), (ca, .inl (cA, (600, .inr (.inl f)))), (cb, .inl (cA, (40, .inr (.inl g))))] := hD
      refine lv_aload_n hx hb qd_M_part_26 rfl (lv_at hl 0 rfl) ?_
      refine va_get (D := (dC, dI)) (ci := 1) (v := .int (nI 1)) (C := RX1) (T := TX1) (N := 8) hx hb hW inX1 hown hK hP 0 rfl rfl 0 (by decide) (hW _ qm_281) (fun _ h9 => h9) rfl qd_M_part_27 ?_
      refine tq_if_le (x := 1) (tgt := 37) hx hb qd_M_part_30 (by decide) (by omega) (fun c9 => by omega) (fun c9 => ?_)
      refine lv_lconst (v := 0) hx hb qd_M_part_33 (by decide) ?_
      refine lv_goto (tgt := 45) hx hb qd_M_part_34 (by decide) ?_
      exact W.lret hx hb hr (fun t ht hW9 => ⟨⟨_, (), rfl, rfl, by rw [ht]; exact hP, va_K.moved hW9.alike hK, hD⟩, hS.F ht⟩) hS.2.2 qd_M_part_45
    · have h9 : ¬ pn ≤ nI n := tq_nle (hbad.elim (fun h => absurd h c1) (fun h => h.elim (fun h => absurd h c2) id))
      refine lv_iload_n hx hb qd_M_part_10 rfl (lv_at hl 2 rfl) ?_
      refine lv_aload_n hx hb qd_M_part_11 rfl (lv_at hl 0 rfl) ?_
      refine va_get (D := (dC, dI)) (ci := 1) (v := .int (nI n)) (C := RX1) (T := TX1) (N := 8) hx hb hW inX1 hown hK hP 0 rfl rfl 1 (by decide) (hW _ qm_282) (fun _ h9 => h9) rfl qd_M_part_12 ?_
      refine lv_icmp_le (tgt := 22) hx hb qd_M_part_15 (by decide) (fun c9 => absurd c9 (h9)) (fun c3 => ?_)
      refine lv_iconst (v := nI 1) hx hb qd_M_part_18 (by decide +kernel) ?_
      refine lv_goto (tgt := 23) hx hb qd_M_part_19 (by decide) ?_
      refine va_put (D := (dC, dI)) (ci := 1) (v := .int (nI 1)) (ty := .int) (C := RX1) (T := TX1) (N := 8) hx hb hW inX1 tyX1 tyX1_ok nmX1 hown hK hP hD hS 0 rfl rfl 0 (by decide) (hW _ qm_281) (fun _ h9 => h9) rfl (by decide +kernel) rfl rfl (Nat.le_of_ble_eq_true rfl) qd_M_part_23 (fun H locs hP hD hS => ?_)
      have hP : va_P (dC, dI) tq_cl [(o, .inr (1, [.int (nI 1), .int (nI n), .int (nI k), .int w4, .ref ca, .ref cb, .long z1, .long z2])), (ca, .inl (cA, (600, .inr (.inl f)))), (cb, .inl (cA, (40, .inr (.inl g))))] H := hP
      have hD : va_D A [(o, .inr (1, [.int (nI 1), .int (nI n), .int (nI k), .int w4, .ref ca, .ref cb, .long z1, .long z2])), (ca, .inl (cA, (600, .inr (.inl f)))), (cb, .inl (cA, (40, .inr (.inl g))))] := hD
      refine lv_aload_n hx hb qd_M_part_26 rfl (lv_at hl 0 rfl) ?_
      refine va_get (D := (dC, dI)) (ci := 1) (v := .int (nI 1)) (C := RX1) (T := TX1) (N := 8) hx hb hW inX1 hown hK hP 0 rfl rfl 0 (by decide) (hW _ qm_281) (fun _ h9 => h9) rfl qd_M_part_27 ?_
      refine tq_if_le (x := 1) (tgt := 37) hx hb qd_M_part_30 (by decide) (by omega) (fun c9 => by omega) (fun c9 => ?_)
      refine lv_lconst (v := 0) hx hb qd_M_part_33 (by decide) ?_
      refine lv_goto (tgt := 45) hx hb qd_M_part_34 (by decide) ?_
      exact W.lret hx hb hr (fun t ht hW9 => ⟨⟨_, (), rfl, rfl, by rw [ht]; exact hP, va_K.moved hW9.alike hK, hD⟩, hS.F ht⟩) hS.2.2 qd_M_part_45
set_option maxHeartbeats 4000000 in
set_option maxRecDepth 100000 in
theorem ct_M_path_no (l : Launch) (dC : Nat → ClassId) (dI : Nat → Nat → Nat) (o ca cb : Nat) (cA : ClassId) (w1 : Int32) (n k : Nat) (w4 : Int32) (z1 z2 : Int64) (f g : Nat → Int64) (sz : Nat) (pm pn : Int32) (hbad : pm < 0 ∨ pn ≤ pm ∨ nI n < pn) : Met l qy_M_path qw_M_path ({ frames := 0, cells := 0, slots := 0, locals := 0 }) (va_Pc [.ref o, .int pm, .int pn] (tq_rw (dC, dI) [(o, .inr (1, [.int w1, .int (nI n), .int (nI k), .int w4, .ref ca, .ref cb, .long z1, .long z2])), (ca, .inl (cA, (600, .inr (.inl f)))), (cb, .inl (cA, (40, .inr (.inl g))))] [(cA, .long)] sz)) (va_Qi (fun r (_ : Unit) => r = nI 0) (fun _ t => tq_in (dC, dI) [(o, .inr (1, [.int (nI 1), .int (nI n), .int (nI k), .int w4, .ref ca, .ref cb, .long z1, .long z2])), (ca, .inl (cA, (600, .inr (.inl f)))), (cb, .inl (cA, (40, .inr (.inl g))))] [(cA, .long)] (va_A [(o, .inr (1, [.int w1, .int (nI n), .int (nI k), .int w4, .ref ca, .ref cb, .long z1, .long z2])), (ca, .inl (cA, (600, .inr (.inl f)))), (cb, .inl (cA, (40, .inr (.inl g))))] sz) t) (va_A [(o, .inr (1, [.int w1, .int (nI n), .int (nI k), .int w4, .ref ca, .ref cb, .long z1, .long z2])), (ca, .inl (cA, (600, .inr (.inl f)))), (cb, .inl (cA, (40, .inr (.inl g))))] sz)) 0 0 (va_A [(o, .inr (1, [.int w1, .int (nI n), .int (nI k), .int w4, .ref ca, .ref cb, .long z1, .long z2])), (ca, .inl (cA, (600, .inr (.inl f)))), (cb, .inl (cA, (40, .inr (.inl g))))] sz) := by
  refine Met.ofW (cc := qc_M_path) (maxL := 3) (ret := (some .int)) (by decide) rfl ?_
  intro p e s m args below meth c s₁ B hml hv
  obtain ⟨rfl, hsz, hP, hK, hD0⟩ := hv
  have hx := B.exec
  have hb := B.bytes
  have hr := B.returns
  have hts := atoms_spec (ws := qw_M_path) B.pre
  have hW : ∀ w ∈ tq_W, w.before ([.ref o, .int pm, .int pn] : List Value).toArray s = true := fun w h => hts w (List.mem_cons_of_mem _ h)
  have hown : s.vm.findClass RX1 = some m.cls := findClass_of_methodNamed B.named
  have hlocks := B.notSynchronized
  have hl := lv_entry ([.ref o, .int pm, .int pn]) (n := 3) (Nat.le_of_ble_eq_true rfl)
  rw [lg_entry_eq]
  generalize (lg_sl ([.ref o, .int pm, .int pn]) ++ List.replicate (3 - (lg_sl ([.ref o, .int pm, .int pn])).length) Slot.unset).toArray = ls at hl ⊢
  have hl : lv_has ls 3 [(0, .ref o), (1, .int pm), (2, .int pn)] := hl
  subst hsz
  have hD := hD0.self (sz := s.heap.size)
  generalize hAe : va_A [(o, .inr (1, [.int w1, .int (nI n), .int (nI k), .int w4, .ref ca, .ref cb, .long z1, .long z2])), (ca, .inl (cA, (600, .inr (.inl f)))), (cb, .inl (cA, (40, .inr (.inl g))))] s.heap.size = A at hD ⊢
  have hA : ∀ q : Nat, s.heap.size ≤ q → A q := fun q h => by rw [← hAe]; exact Or.inr h
  have hS : va_S A s.heap s.heap [] := va_S.rf
  refine lv_aload_n hx hb qd_M_path_0 rfl (lv_at hl 0 rfl) ?_
  refine lv_iload_n hx hb qd_M_path_1 rfl (lv_at hl 1 rfl) ?_
  refine lv_if_lt (tgt := 18) hx hb qd_M_path_2 (by decide) (fun c1 => ?_) (fun c1 => ?_)
  · refine lv_iconst (v := nI 1) hx hb qd_M_path_18 (by decide +kernel) ?_
    refine lv_goto (tgt := 23) hx hb qd_M_path_19 (by decide) ?_
    refine va_put (D := (dC, dI)) (ci := 1) (v := .int (nI 1)) (ty := .int) (C := RX1) (T := TX1) (N := 8) hx hb hW inX1 tyX1 tyX1_ok nmX1 hown hK hP hD hS 0 rfl rfl 0 (by decide) (hW _ qm_281) (fun _ h9 => h9) rfl (by decide +kernel) rfl rfl (Nat.le_of_ble_eq_true rfl) qd_M_path_23 (fun H locs hP hD hS => ?_)
    have hP : va_P (dC, dI) tq_cl [(o, .inr (1, [.int (nI 1), .int (nI n), .int (nI k), .int w4, .ref ca, .ref cb, .long z1, .long z2])), (ca, .inl (cA, (600, .inr (.inl f)))), (cb, .inl (cA, (40, .inr (.inl g))))] H := hP
    have hD : va_D A [(o, .inr (1, [.int (nI 1), .int (nI n), .int (nI k), .int w4, .ref ca, .ref cb, .long z1, .long z2])), (ca, .inl (cA, (600, .inr (.inl f)))), (cb, .inl (cA, (40, .inr (.inl g))))] := hD
    refine lv_aload_n hx hb qd_M_path_26 rfl (lv_at hl 0 rfl) ?_
    refine va_get (D := (dC, dI)) (ci := 1) (v := .int (nI 1)) (C := RX1) (T := TX1) (N := 8) hx hb hW inX1 hown hK hP 0 rfl rfl 0 (by decide) (hW _ qm_281) (fun _ h9 => h9) rfl qd_M_path_27 ?_
    refine tq_if_le (x := 1) (tgt := 35) hx hb qd_M_path_30 (by decide) (by omega) (fun c9 => by omega) (fun c9 => ?_)
    refine lv_iconst (v := nI 0) hx hb qd_M_path_33 (by decide +kernel) ?_
    exact W.iret hx hb hr (fun t ht hW9 => ⟨⟨_, (), rfl, rfl, by rw [ht]; exact hP, va_K.moved hW9.alike hK, hD⟩, hS.F ht⟩) hS.2.2 qd_M_path_34
  · refine lv_iload_n hx hb qd_M_path_5 rfl (lv_at hl 1 rfl) ?_
    refine lv_iload_n hx hb qd_M_path_6 rfl (lv_at hl 2 rfl) ?_
    refine lv_icmp_ge (tgt := 18) hx hb qd_M_path_7 (by decide) (fun c2 => ?_) (fun c2 => ?_)
    · refine lv_iconst (v := nI 1) hx hb qd_M_path_18 (by decide +kernel) ?_
      refine lv_goto (tgt := 23) hx hb qd_M_path_19 (by decide) ?_
      refine va_put (D := (dC, dI)) (ci := 1) (v := .int (nI 1)) (ty := .int) (C := RX1) (T := TX1) (N := 8) hx hb hW inX1 tyX1 tyX1_ok nmX1 hown hK hP hD hS 0 rfl rfl 0 (by decide) (hW _ qm_281) (fun _ h9 => h9) rfl (by decide +kernel) rfl rfl (Nat.le_of_ble_eq_true rfl) qd_M_path_23 (fun H locs hP hD hS => ?_)
      have hP : va_P (dC, dI) tq_cl [(o, .inr (1, [.int (nI 1), .int (nI n), .int (nI k), .int w4, .ref ca, .ref cb, .long z1, .long z2])), (ca, .inl (cA, (600, .inr (.inl f)))), (cb, .inl (cA, (40, .inr (.inl g))))] H := hP
      have hD : va_D A [(o, .inr (1, [.int (nI 1), .int (nI n), .int (nI k), .int w4, .ref ca, .ref cb, .long z1, .long z2])), (ca, .inl (cA, (600, .inr (.inl f)))), (cb, .inl (cA, (40, .inr (.inl g))))] := hD
      refine lv_aload_n hx hb qd_M_path_26 rfl (lv_at hl 0 rfl) ?_
      refine va_get (D := (dC, dI)) (ci := 1) (v := .int (nI 1)) (C := RX1) (T := TX1) (N := 8) hx hb hW inX1 hown hK hP 0 rfl rfl 0 (by decide) (hW _ qm_281) (fun _ h9 => h9) rfl qd_M_path_27 ?_
      refine tq_if_le (x := 1) (tgt := 35) hx hb qd_M_path_30 (by decide) (by omega) (fun c9 => by omega) (fun c9 => ?_)
      refine lv_iconst (v := nI 0) hx hb qd_M_path_33 (by decide +kernel) ?_
      exact W.iret hx hb hr (fun t ht hW9 => ⟨⟨_, (), rfl, rfl, by rw [ht]; exact hP, va_K.moved hW9.alike hK, hD⟩, hS.F ht⟩) hS.2.2 qd_M_path_34
    · have h9 : ¬ pn ≤ nI n := tq_nle (hbad.elim (fun h => absurd h c1) (fun h => h.elim (fun h => absurd h c2) id))
      refine lv_iload_n hx hb qd_M_path_10 rfl (lv_at hl 2 rfl) ?_
      refine lv_aload_n hx hb qd_M_path_11 rfl (lv_at hl 0 rfl) ?_
      refine va_get (D := (dC, dI)) (ci := 1) (v := .int (nI n)) (C := RX1) (T := TX1) (N := 8) hx hb hW inX1 hown hK hP 0 rfl rfl 1 (by decide) (hW _ qm_282) (fun _ h9 => h9) rfl qd_M_path_12 ?_
      refine lv_icmp_le (tgt := 22) hx hb qd_M_path_15 (by decide) (fun c9 => absurd c9 (h9)) (fun c3 => ?_)
      refine lv_iconst (v := nI 1) hx hb qd_M_path_18 (by decide +kernel) ?_
      refine lv_goto (tgt := 23) hx hb qd_M_path_19 (by decide) ?_
      refine va_put (D := (dC, dI)) (ci := 1) (v := .int (nI 1)) (ty := .int) (C := RX1) (T := TX1) (N := 8) hx hb hW inX1 tyX1 tyX1_ok nmX1 hown hK hP hD hS 0 rfl rfl 0 (by decide) (hW _ qm_281) (fun _ h9 => h9) rfl (by decide +kernel) rfl rfl (Nat.le_of_ble_eq_true rfl) qd_M_path_23 (fun H locs hP hD hS => ?_)
      have hP : va_P (dC, dI) tq_cl [(o, .inr (1, [.int (nI 1), .int (nI n), .int (nI k), .int w4, .ref ca, .ref cb, .long z1, .long z2])), (ca, .inl (cA, (600, .inr (.inl f)))), (cb, .inl (cA, (40, .inr (.inl g))))] H := hP
      have hD : va_D A [(o, .inr (1, [.int (nI 1), .int (nI n), .int (nI k), .int w4, .ref ca, .ref cb, .long z1, .long z2])), (ca, .inl (cA, (600, .inr (.inl f)))), (cb, .inl (cA, (40, .inr (.inl g))))] := hD
      refine lv_aload_n hx hb qd_M_path_26 rfl (lv_at hl 0 rfl) ?_
      refine va_get (D := (dC, dI)) (ci := 1) (v := .int (nI 1)) (C := RX1) (T := TX1) (N := 8) hx hb hW inX1 hown hK hP 0 rfl rfl 0 (by decide) (hW _ qm_281) (fun _ h9 => h9) rfl qd_M_path_27 ?_
      refine tq_if_le (x := 1) (tgt := 35) hx hb qd_M_path_30 (by decide) (by omega) (fun c9 => by omega) (fun c9 => ?_)
      refine lv_iconst (v := nI 0) hx hb qd_M_path_33 (by decide +kernel) ?_
      exact W.iret hx hb hr (fun t ht hW9 => ⟨⟨_, (), rfl, rfl, by rw [ht]; exact hP, va_K.moved hW9.alike hK, hD⟩, hS.F ht⟩) hS.2.2 qd_M_path_34
set_option maxHeartbeats 4000000 in
set_option maxRecDepth 100000 in
theorem ct_M_steps_no (l : Launch) (dC : Nat → ClassId) (dI : Nat → Nat → Nat) (o ca cb : Nat) (cA : ClassId) (w1 : Int32) (n k : Nat) (w4 : Int32) (z1 z2 : Int64) (f g : Nat → Int64) (sz : Nat) (pm pn : Int32) (hbad : pm < nI 1 ∨ pn < pm ∨ nI n < pn) : Met l qy_M_steps qw_M_steps ({ frames := 0, cells := 0, slots := 0, locals := 0 }) (va_Pc [.ref o, .int pm, .int pn] (tq_rw (dC, dI) [(o, .inr (1, [.int w1, .int (nI n), .int (nI k), .int w4, .ref ca, .ref cb, .long z1, .long z2])), (ca, .inl (cA, (600, .inr (.inl f)))), (cb, .inl (cA, (40, .inr (.inl g))))] [(cA, .long)] sz)) (va_Qi (fun r (_ : Unit) => r = nI 0) (fun _ t => tq_in (dC, dI) [(o, .inr (1, [.int (nI 1), .int (nI n), .int (nI k), .int w4, .ref ca, .ref cb, .long z1, .long z2])), (ca, .inl (cA, (600, .inr (.inl f)))), (cb, .inl (cA, (40, .inr (.inl g))))] [(cA, .long)] (va_A [(o, .inr (1, [.int w1, .int (nI n), .int (nI k), .int w4, .ref ca, .ref cb, .long z1, .long z2])), (ca, .inl (cA, (600, .inr (.inl f)))), (cb, .inl (cA, (40, .inr (.inl g))))] sz) t) (va_A [(o, .inr (1, [.int w1, .int (nI n), .int (nI k), .int w4, .ref ca, .ref cb, .long z1, .long z2])), (ca, .inl (cA, (600, .inr (.inl f)))), (cb, .inl (cA, (40, .inr (.inl g))))] sz)) 0 0 (va_A [(o, .inr (1, [.int w1, .int (nI n), .int (nI k), .int w4, .ref ca, .ref cb, .long z1, .long z2])), (ca, .inl (cA, (600, .inr (.inl f)))), (cb, .inl (cA, (40, .inr (.inl g))))] sz) := by
  refine Met.ofW (cc := qc_M_steps) (maxL := 3) (ret := (some .int)) (by decide) rfl ?_
  intro p e s m args below meth c s₁ B hml hv
  obtain ⟨rfl, hsz, hP, hK, hD0⟩ := hv
  have hx := B.exec
  have hb := B.bytes
  have hr := B.returns
  have hts := atoms_spec (ws := qw_M_steps) B.pre
  have hW : ∀ w ∈ tq_W, w.before ([.ref o, .int pm, .int pn] : List Value).toArray s = true := fun w h => hts w (List.mem_cons_of_mem _ h)
  have hown : s.vm.findClass RX1 = some m.cls := findClass_of_methodNamed B.named
  have hlocks := B.notSynchronized
  have hl := lv_entry ([.ref o, .int pm, .int pn]) (n := 3) (Nat.le_of_ble_eq_true rfl)
  rw [lg_entry_eq]
  generalize (lg_sl ([.ref o, .int pm, .int pn]) ++ List.replicate (3 - (lg_sl ([.ref o, .int pm, .int pn])).length) Slot.unset).toArray = ls at hl ⊢
  have hl : lv_has ls 3 [(0, .ref o), (1, .int pm), (2, .int pn)] := hl
  subst hsz
  have hD := hD0.self (sz := s.heap.size)
  generalize hAe : va_A [(o, .inr (1, [.int w1, .int (nI n), .int (nI k), .int w4, .ref ca, .ref cb, .long z1, .long z2])), (ca, .inl (cA, (600, .inr (.inl f)))), (cb, .inl (cA, (40, .inr (.inl g))))] s.heap.size = A at hD ⊢
  have hA : ∀ q : Nat, s.heap.size ≤ q → A q := fun q h => by rw [← hAe]; exact Or.inr h
  have hS : va_S A s.heap s.heap [] := va_S.rf
  refine lv_aload_n hx hb qd_M_steps_0 rfl (lv_at hl 0 rfl) ?_
  refine lv_iload_n hx hb qd_M_steps_1 rfl (lv_at hl 1 rfl) ?_
  refine lv_iconst (v := nI 1) hx hb qd_M_steps_2 (by decide +kernel) ?_
  refine lv_icmp_lt (tgt := 19) hx hb qd_M_steps_3 (by decide) (fun c1 => ?_) (fun c1 => ?_)
  · refine lv_iconst (v := nI 1) hx hb qd_M_steps_19 (by decide +kernel) ?_
    refine lv_goto (tgt := 24) hx hb qd_M_steps_20 (by decide) ?_
    refine va_put (D := (dC, dI)) (ci := 1) (v := .int (nI 1)) (ty := .int) (C := RX1) (T := TX1) (N := 8) hx hb hW inX1 tyX1 tyX1_ok nmX1 hown hK hP hD hS 0 rfl rfl 0 (by decide) (hW _ qm_281) (fun _ h9 => h9) rfl (by decide +kernel) rfl rfl (Nat.le_of_ble_eq_true rfl) qd_M_steps_24 (fun H locs hP hD hS => ?_)
    have hP : va_P (dC, dI) tq_cl [(o, .inr (1, [.int (nI 1), .int (nI n), .int (nI k), .int w4, .ref ca, .ref cb, .long z1, .long z2])), (ca, .inl (cA, (600, .inr (.inl f)))), (cb, .inl (cA, (40, .inr (.inl g))))] H := hP
    have hD : va_D A [(o, .inr (1, [.int (nI 1), .int (nI n), .int (nI k), .int w4, .ref ca, .ref cb, .long z1, .long z2])), (ca, .inl (cA, (600, .inr (.inl f)))), (cb, .inl (cA, (40, .inr (.inl g))))] := hD
    refine lv_aload_n hx hb qd_M_steps_27 rfl (lv_at hl 0 rfl) ?_
    refine va_get (D := (dC, dI)) (ci := 1) (v := .int (nI 1)) (C := RX1) (T := TX1) (N := 8) hx hb hW inX1 hown hK hP 0 rfl rfl 0 (by decide) (hW _ qm_281) (fun _ h9 => h9) rfl qd_M_steps_28 ?_
    refine tq_if_le (x := 1) (tgt := 36) hx hb qd_M_steps_31 (by decide) (by omega) (fun c9 => by omega) (fun c9 => ?_)
    refine lv_iconst (v := nI 0) hx hb qd_M_steps_34 (by decide +kernel) ?_
    exact W.iret hx hb hr (fun t ht hW9 => ⟨⟨_, (), rfl, rfl, by rw [ht]; exact hP, va_K.moved hW9.alike hK, hD⟩, hS.F ht⟩) hS.2.2 qd_M_steps_35
  · refine lv_iload_n hx hb qd_M_steps_6 rfl (lv_at hl 1 rfl) ?_
    refine lv_iload_n hx hb qd_M_steps_7 rfl (lv_at hl 2 rfl) ?_
    refine lv_icmp_gt (tgt := 19) hx hb qd_M_steps_8 (by decide) (fun c2 => ?_) (fun c2 => ?_)
    · refine lv_iconst (v := nI 1) hx hb qd_M_steps_19 (by decide +kernel) ?_
      refine lv_goto (tgt := 24) hx hb qd_M_steps_20 (by decide) ?_
      refine va_put (D := (dC, dI)) (ci := 1) (v := .int (nI 1)) (ty := .int) (C := RX1) (T := TX1) (N := 8) hx hb hW inX1 tyX1 tyX1_ok nmX1 hown hK hP hD hS 0 rfl rfl 0 (by decide) (hW _ qm_281) (fun _ h9 => h9) rfl (by decide +kernel) rfl rfl (Nat.le_of_ble_eq_true rfl) qd_M_steps_24 (fun H locs hP hD hS => ?_)
      have hP : va_P (dC, dI) tq_cl [(o, .inr (1, [.int (nI 1), .int (nI n), .int (nI k), .int w4, .ref ca, .ref cb, .long z1, .long z2])), (ca, .inl (cA, (600, .inr (.inl f)))), (cb, .inl (cA, (40, .inr (.inl g))))] H := hP
      have hD : va_D A [(o, .inr (1, [.int (nI 1), .int (nI n), .int (nI k), .int w4, .ref ca, .ref cb, .long z1, .long z2])), (ca, .inl (cA, (600, .inr (.inl f)))), (cb, .inl (cA, (40, .inr (.inl g))))] := hD
      refine lv_aload_n hx hb qd_M_steps_27 rfl (lv_at hl 0 rfl) ?_
      refine va_get (D := (dC, dI)) (ci := 1) (v := .int (nI 1)) (C := RX1) (T := TX1) (N := 8) hx hb hW inX1 hown hK hP 0 rfl rfl 0 (by decide) (hW _ qm_281) (fun _ h9 => h9) rfl qd_M_steps_28 ?_
      refine tq_if_le (x := 1) (tgt := 36) hx hb qd_M_steps_31 (by decide) (by omega) (fun c9 => by omega) (fun c9 => ?_)
      refine lv_iconst (v := nI 0) hx hb qd_M_steps_34 (by decide +kernel) ?_
      exact W.iret hx hb hr (fun t ht hW9 => ⟨⟨_, (), rfl, rfl, by rw [ht]; exact hP, va_K.moved hW9.alike hK, hD⟩, hS.F ht⟩) hS.2.2 qd_M_steps_35
    · have h9 : ¬ pn ≤ nI n := tq_nle (hbad.elim (fun h => absurd h c1) (fun h => h.elim (fun h => absurd h c2) id))
      refine lv_iload_n hx hb qd_M_steps_11 rfl (lv_at hl 2 rfl) ?_
      refine lv_aload_n hx hb qd_M_steps_12 rfl (lv_at hl 0 rfl) ?_
      refine va_get (D := (dC, dI)) (ci := 1) (v := .int (nI n)) (C := RX1) (T := TX1) (N := 8) hx hb hW inX1 hown hK hP 0 rfl rfl 1 (by decide) (hW _ qm_282) (fun _ h9 => h9) rfl qd_M_steps_13 ?_
      refine lv_icmp_le (tgt := 23) hx hb qd_M_steps_16 (by decide) (fun c9 => absurd c9 (h9)) (fun c3 => ?_)
      refine lv_iconst (v := nI 1) hx hb qd_M_steps_19 (by decide +kernel) ?_
      refine lv_goto (tgt := 24) hx hb qd_M_steps_20 (by decide) ?_
      refine va_put (D := (dC, dI)) (ci := 1) (v := .int (nI 1)) (ty := .int) (C := RX1) (T := TX1) (N := 8) hx hb hW inX1 tyX1 tyX1_ok nmX1 hown hK hP hD hS 0 rfl rfl 0 (by decide) (hW _ qm_281) (fun _ h9 => h9) rfl (by decide +kernel) rfl rfl (Nat.le_of_ble_eq_true rfl) qd_M_steps_24 (fun H locs hP hD hS => ?_)
      have hP : va_P (dC, dI) tq_cl [(o, .inr (1, [.int (nI 1), .int (nI n), .int (nI k), .int w4, .ref ca, .ref cb, .long z1, .long z2])), (ca, .inl (cA, (600, .inr (.inl f)))), (cb, .inl (cA, (40, .inr (.inl g))))] H := hP
      have hD : va_D A [(o, .inr (1, [.int (nI 1), .int (nI n), .int (nI k), .int w4, .ref ca, .ref cb, .long z1, .long z2])), (ca, .inl (cA, (600, .inr (.inl f)))), (cb, .inl (cA, (40, .inr (.inl g))))] := hD
      refine lv_aload_n hx hb qd_M_steps_27 rfl (lv_at hl 0 rfl) ?_
      refine va_get (D := (dC, dI)) (ci := 1) (v := .int (nI 1)) (C := RX1) (T := TX1) (N := 8) hx hb hW inX1 hown hK hP 0 rfl rfl 0 (by decide) (hW _ qm_281) (fun _ h9 => h9) rfl qd_M_steps_28 ?_
      refine tq_if_le (x := 1) (tgt := 36) hx hb qd_M_steps_31 (by decide) (by omega) (fun c9 => by omega) (fun c9 => ?_)
      refine lv_iconst (v := nI 0) hx hb qd_M_steps_34 (by decide +kernel) ?_
      exact W.iret hx hb hr (fun t ht hW9 => ⟨⟨_, (), rfl, rfl, by rw [ht]; exact hP, va_K.moved hW9.alike hK, hD⟩, hS.F ht⟩) hS.2.2 qd_M_steps_35
set_option maxHeartbeats 4000000 in
set_option maxRecDepth 100000 in
theorem ct_M_proof (l : Launch) (dC : Nat → ClassId) (dI : Nat → Nat → Nat) (o ca cb : Nat) (cA : ClassId) (w1 : Int32) (n k : Nat) (w4 : Int32) (z1 z2 : Int64) (f g : Nat → Int64) (sz : Nat) (j : Nat) (hj : j < k) (hk : k ≤ 40) : Met l qy_M_proof qw_M_proof ({ frames := 0, cells := 0, slots := 0, locals := 0 }) (va_Pc [.ref o, .int (nI j)] (tq_rw (dC, dI) [(o, .inr (1, [.int w1, .int (nI n), .int (nI k), .int w4, .ref ca, .ref cb, .long z1, .long z2])), (ca, .inl (cA, (600, .inr (.inl f)))), (cb, .inl (cA, (40, .inr (.inl g))))] [(cA, .long)] sz)) (va_Ql (fun r (_ : Unit) => r = g j) (fun _ t => tq_in (dC, dI) [(o, .inr (1, [.int (nI 0), .int (nI n), .int (nI k), .int w4, .ref ca, .ref cb, .long z1, .long z2])), (ca, .inl (cA, (600, .inr (.inl f)))), (cb, .inl (cA, (40, .inr (.inl g))))] [(cA, .long)] (va_A [(o, .inr (1, [.int w1, .int (nI n), .int (nI k), .int w4, .ref ca, .ref cb, .long z1, .long z2])), (ca, .inl (cA, (600, .inr (.inl f)))), (cb, .inl (cA, (40, .inr (.inl g))))] sz) t) (va_A [(o, .inr (1, [.int w1, .int (nI n), .int (nI k), .int w4, .ref ca, .ref cb, .long z1, .long z2])), (ca, .inl (cA, (600, .inr (.inl f)))), (cb, .inl (cA, (40, .inr (.inl g))))] sz)) 0 0 (va_A [(o, .inr (1, [.int w1, .int (nI n), .int (nI k), .int w4, .ref ca, .ref cb, .long z1, .long z2])), (ca, .inl (cA, (600, .inr (.inl f)))), (cb, .inl (cA, (40, .inr (.inl g))))] sz) := by
  refine Met.ofW (cc := qc_M_proof) (maxL := 2) (ret := (some .long)) (by decide) rfl ?_
  intro p e s m args below meth c s₁ B hml hv
  obtain ⟨rfl, hsz, hP, hK, hD0⟩ := hv
  have hx := B.exec
  have hb := B.bytes
  have hr := B.returns
  have hts := atoms_spec (ws := qw_M_proof) B.pre
  have hW : ∀ w ∈ tq_W, w.before ([.ref o, .int (nI j)] : List Value).toArray s = true := fun w h => hts w (List.mem_cons_of_mem _ h)
  have hown : s.vm.findClass RX1 = some m.cls := findClass_of_methodNamed B.named
  have hlocks := B.notSynchronized
  have hl := lv_entry ([.ref o, .int (nI j)]) (n := 2) (Nat.le_of_ble_eq_true rfl)
  rw [lg_entry_eq]
  generalize (lg_sl ([.ref o, .int (nI j)]) ++ List.replicate (2 - (lg_sl ([.ref o, .int (nI j)])).length) Slot.unset).toArray = ls at hl ⊢
  have hl : lv_has ls 2 [(0, .ref o), (1, .int (nI j))] := hl
  subst hsz
  have hD := hD0.self (sz := s.heap.size)
  generalize hAe : va_A [(o, .inr (1, [.int w1, .int (nI n), .int (nI k), .int w4, .ref ca, .ref cb, .long z1, .long z2])), (ca, .inl (cA, (600, .inr (.inl f)))), (cb, .inl (cA, (40, .inr (.inl g))))] s.heap.size = A at hD ⊢
  have hA : ∀ q : Nat, s.heap.size ≤ q → A q := fun q h => by rw [← hAe]; exact Or.inr h
  have hS : va_S A s.heap s.heap [] := va_S.rf
  refine lv_aload_n hx hb qd_M_proof_0 rfl (lv_at hl 0 rfl) ?_
  refine lv_iload_n hx hb qd_M_proof_1 rfl (lv_at hl 1 rfl) ?_
  refine tq_if_lt (x := j) (tgt := 13) hx hb qd_M_proof_2 (by decide) (by omega) ?_
  refine lv_iload_n hx hb qd_M_proof_5 rfl (lv_at hl 1 rfl) ?_
  refine lv_aload_n hx hb qd_M_proof_6 rfl (lv_at hl 0 rfl) ?_
  refine va_get (D := (dC, dI)) (ci := 1) (v := .int (nI k)) (C := RX1) (T := TX1) (N := 8) hx hb hW inX1 hown hK hP 0 rfl rfl 2 (by decide) (hW _ qm_283) (fun _ h9 => h9) rfl qd_M_proof_7 ?_
  refine tq_icmp_lt (x := j) (y := k) (tgt := 17) hx hb qd_M_proof_10 (by decide) (by omega) (by omega) (fun c9 => ?_) (fun c9 => by omega)
  refine lv_iconst (v := nI 0) hx hb qd_M_proof_17 (by decide +kernel) ?_
  refine va_put (D := (dC, dI)) (ci := 1) (v := .int (nI 0)) (ty := .int) (C := RX1) (T := TX1) (N := 8) hx hb hW inX1 tyX1 tyX1_ok nmX1 hown hK hP hD hS 0 rfl rfl 0 (by decide) (hW _ qm_281) (fun _ h9 => h9) rfl (by decide +kernel) rfl rfl (Nat.le_of_ble_eq_true rfl) qd_M_proof_18 (fun H locs hP hD hS => ?_)
  have hP : va_P (dC, dI) tq_cl [(o, .inr (1, [.int (nI 0), .int (nI n), .int (nI k), .int w4, .ref ca, .ref cb, .long z1, .long z2])), (ca, .inl (cA, (600, .inr (.inl f)))), (cb, .inl (cA, (40, .inr (.inl g))))] H := hP
  have hD : va_D A [(o, .inr (1, [.int (nI 0), .int (nI n), .int (nI k), .int w4, .ref ca, .ref cb, .long z1, .long z2])), (ca, .inl (cA, (600, .inr (.inl f)))), (cb, .inl (cA, (40, .inr (.inl g))))] := hD
  refine lv_aload_n hx hb qd_M_proof_21 rfl (lv_at hl 0 rfl) ?_
  refine va_get (D := (dC, dI)) (ci := 1) (v := .int (nI 0)) (C := RX1) (T := TX1) (N := 8) hx hb hW inX1 hown hK hP 0 rfl rfl 0 (by decide) (hW _ qm_281) (fun _ h9 => h9) rfl qd_M_proof_22 ?_
  refine tq_if_le (x := 0) (tgt := 32) hx hb qd_M_proof_25 (by decide) (by omega) (fun c9 => ?_) (fun c9 => by omega)
  refine lv_aload_n hx hb qd_M_proof_32 rfl (lv_at hl 0 rfl) ?_
  refine va_get (D := (dC, dI)) (ci := 1) (v := .ref cb) (C := RX1) (T := TX1) (N := 8) hx hb hW inX1 hown hK hP 0 rfl rfl 5 (by decide) (hW _ qm_286) (fun _ h9 => h9) rfl qd_M_proof_33 ?_
  refine lv_iload_n hx hb qd_M_proof_36 rfl (lv_at hl 1 rfl) ?_
  refine tq_lald hx hb hK hP 2 0 rfl rfl (j := j) (by omega) (by decide) qd_M_proof_37 ?_
  exact W.lret hx hb hr (fun t ht hW9 => ⟨⟨_, (), rfl, rfl, by rw [ht]; exact hP, va_K.moved hW9.alike hK, hD⟩, hS.F ht⟩) hS.2.2 qd_M_proof_38
set_option maxHeartbeats 4000000 in
set_option maxRecDepth 100000 in
theorem ct_M_alter (l : Launch) (dC : Nat → ClassId) (dI : Nat → Nat → Nat) (o ca cb : Nat) (cA : ClassId) (w1 : Int32) (n k : Nat) (w4 : Int32) (z1 z2 : Int64) (f g : Nat → Int64) (sz : Nat) (j : Nat) (v : Int64) (hj : j < k) (hk : k ≤ 40) : Met l qy_M_alter qw_M_alter ({ frames := 0, cells := 0, slots := 0, locals := 0 }) (va_Pc [.ref o, .int (nI j), .long v] (tq_rw (dC, dI) [(o, .inr (1, [.int w1, .int (nI n), .int (nI k), .int w4, .ref ca, .ref cb, .long z1, .long z2])), (ca, .inl (cA, (600, .inr (.inl f)))), (cb, .inl (cA, (40, .inr (.inl g))))] [(cA, .long)] sz)) (va_Ql (fun r (_ : Unit) => r = g j) (fun _ t => tq_in (dC, dI) [(o, .inr (1, [.int (nI 0), .int (nI n), .int (nI k), .int w4, .ref ca, .ref cb, .long z1, .long z2])), (ca, .inl (cA, (600, .inr (.inl f)))), (cb, .inl (cA, (40, .inr (.inl ((vp_updL g j v))))))] [(cA, .long)] (va_A [(o, .inr (1, [.int w1, .int (nI n), .int (nI k), .int w4, .ref ca, .ref cb, .long z1, .long z2])), (ca, .inl (cA, (600, .inr (.inl f)))), (cb, .inl (cA, (40, .inr (.inl g))))] sz) t) (va_A [(o, .inr (1, [.int w1, .int (nI n), .int (nI k), .int w4, .ref ca, .ref cb, .long z1, .long z2])), (ca, .inl (cA, (600, .inr (.inl f)))), (cb, .inl (cA, (40, .inr (.inl g))))] sz)) 0 0 (va_A [(o, .inr (1, [.int w1, .int (nI n), .int (nI k), .int w4, .ref ca, .ref cb, .long z1, .long z2])), (ca, .inl (cA, (600, .inr (.inl f)))), (cb, .inl (cA, (40, .inr (.inl g))))] sz) := by
  refine Met.ofW (cc := qc_M_alter) (maxL := 6) (ret := (some .long)) (by decide) rfl ?_
  intro p e s m args below meth c s₁ B hml hv
  obtain ⟨rfl, hsz, hP, hK, hD0⟩ := hv
  have hx := B.exec
  have hb := B.bytes
  have hr := B.returns
  have hts := atoms_spec (ws := qw_M_alter) B.pre
  have hW : ∀ w ∈ tq_W, w.before ([.ref o, .int (nI j), .long v] : List Value).toArray s = true := fun w h => hts w (List.mem_cons_of_mem _ h)
  have hown : s.vm.findClass RX1 = some m.cls := findClass_of_methodNamed B.named
  have hlocks := B.notSynchronized
  have hl := lv_entry ([.ref o, .int (nI j), .long v]) (n := 6) (Nat.le_of_ble_eq_true rfl)
  rw [lg_entry_eq]
  generalize (lg_sl ([.ref o, .int (nI j), .long v]) ++ List.replicate (6 - (lg_sl ([.ref o, .int (nI j), .long v])).length) Slot.unset).toArray = ls at hl ⊢
  have hl : lv_has ls 6 [(0, .ref o), (1, .int (nI j)), (2, .long v)] := hl
  subst hsz
  have hD := hD0.self (sz := s.heap.size)
  generalize hAe : va_A [(o, .inr (1, [.int w1, .int (nI n), .int (nI k), .int w4, .ref ca, .ref cb, .long z1, .long z2])), (ca, .inl (cA, (600, .inr (.inl f)))), (cb, .inl (cA, (40, .inr (.inl g))))] s.heap.size = A at hD ⊢
  have hA : ∀ q : Nat, s.heap.size ≤ q → A q := fun q h => by rw [← hAe]; exact Or.inr h
  have hS : va_S A s.heap s.heap [] := va_S.rf
  refine lv_aload_n hx hb qd_M_alter_0 rfl (lv_at hl 0 rfl) ?_
  refine lv_iload_n hx hb qd_M_alter_1 rfl (lv_at hl 1 rfl) ?_
  refine tq_if_lt (x := j) (tgt := 13) hx hb qd_M_alter_2 (by decide) (by omega) ?_
  refine lv_iload_n hx hb qd_M_alter_5 rfl (lv_at hl 1 rfl) ?_
  refine lv_aload_n hx hb qd_M_alter_6 rfl (lv_at hl 0 rfl) ?_
  refine va_get (D := (dC, dI)) (ci := 1) (v := .int (nI k)) (C := RX1) (T := TX1) (N := 8) hx hb hW inX1 hown hK hP 0 rfl rfl 2 (by decide) (hW _ qm_283) (fun _ h9 => h9) rfl qd_M_alter_7 ?_
  refine tq_icmp_lt (x := j) (y := k) (tgt := 17) hx hb qd_M_alter_10 (by decide) (by omega) (by omega) (fun c9 => ?_) (fun c9 => by omega)
  refine lv_iconst (v := nI 0) hx hb qd_M_alter_17 (by decide +kernel) ?_
  refine va_put (D := (dC, dI)) (ci := 1) (v := .int (nI 0)) (ty := .int) (C := RX1) (T := TX1) (N := 8) hx hb hW inX1 tyX1 tyX1_ok nmX1 hown hK hP hD hS 0 rfl rfl 0 (by decide) (hW _ qm_281) (fun _ h9 => h9) rfl (by decide +kernel) rfl rfl (Nat.le_of_ble_eq_true rfl) qd_M_alter_18 (fun H locs hP hD hS => ?_)
  have hP : va_P (dC, dI) tq_cl [(o, .inr (1, [.int (nI 0), .int (nI n), .int (nI k), .int w4, .ref ca, .ref cb, .long z1, .long z2])), (ca, .inl (cA, (600, .inr (.inl f)))), (cb, .inl (cA, (40, .inr (.inl g))))] H := hP
  have hD : va_D A [(o, .inr (1, [.int (nI 0), .int (nI n), .int (nI k), .int w4, .ref ca, .ref cb, .long z1, .long z2])), (ca, .inl (cA, (600, .inr (.inl f)))), (cb, .inl (cA, (40, .inr (.inl g))))] := hD
  refine lv_aload_n hx hb qd_M_alter_21 rfl (lv_at hl 0 rfl) ?_
  refine va_get (D := (dC, dI)) (ci := 1) (v := .int (nI 0)) (C := RX1) (T := TX1) (N := 8) hx hb hW inX1 hown hK hP 0 rfl rfl 0 (by decide) (hW _ qm_281) (fun _ h9 => h9) rfl qd_M_alter_22 ?_
  refine tq_if_le (x := 0) (tgt := 30) hx hb qd_M_alter_25 (by decide) (by omega) (fun c9 => ?_) (fun c9 => by omega)
  refine lv_aload_n hx hb qd_M_alter_30 rfl (lv_at hl 0 rfl) ?_
  refine va_get (D := (dC, dI)) (ci := 1) (v := .ref cb) (C := RX1) (T := TX1) (N := 8) hx hb hW inX1 hown hK hP 0 rfl rfl 5 (by decide) (hW _ qm_286) (fun _ h9 => h9) rfl qd_M_alter_31 ?_
  refine lv_iload_n hx hb qd_M_alter_34 rfl (lv_at hl 1 rfl) ?_
  refine tq_lald hx hb hK hP 2 0 rfl rfl (j := j) (by omega) (by decide) qd_M_alter_35 ?_
  refine lv_lstore (lv' := [(4, .long (g j)), (0, .ref o), (1, .int (nI j)), (2, .long v)]) hx hb qd_M_alter_36 hl (by decide) rfl (fun ls hl => ?_)
  refine lv_aload_n hx hb qd_M_alter_38 rfl (lv_at hl 1 rfl) ?_
  refine va_get (D := (dC, dI)) (ci := 1) (v := .ref cb) (C := RX1) (T := TX1) (N := 8) hx hb hW inX1 hown hK hP 0 rfl rfl 5 (by decide) (hW _ qm_286) (fun _ h9 => h9) rfl qd_M_alter_39 ?_
  refine lv_iload_n hx hb qd_M_alter_42 rfl (lv_at hl 2 rfl) ?_
  refine lv_lload_n hx hb qd_M_alter_43 rfl (lv_at hl 3 rfl) ?_
  refine tq_last hx hb hK hP hD hS 2 0 rfl rfl (j := j) (x := v) (by omega) (by decide) qd_M_alter_44 (fun H locs hP hD hS => ?_)
  have hP : va_P (dC, dI) tq_cl [(o, .inr (1, [.int (nI 0), .int (nI n), .int (nI k), .int w4, .ref ca, .ref cb, .long z1, .long z2])), (ca, .inl (cA, (600, .inr (.inl f)))), (cb, .inl (cA, (40, .inr (.inl (vp_updL g j v)))))] H := hP
  have hD : va_D A [(o, .inr (1, [.int (nI 0), .int (nI n), .int (nI k), .int w4, .ref ca, .ref cb, .long z1, .long z2])), (ca, .inl (cA, (600, .inr (.inl f)))), (cb, .inl (cA, (40, .inr (.inl (vp_updL g j v)))))] := hD
  refine lv_lload hx hb qd_M_alter_45 (lv_at hl 0 rfl) ?_
  exact W.lret hx hb hr (fun t ht hW9 => ⟨⟨_, (), rfl, rfl, by rw [ht]; exact hP, va_K.moved hW9.alike hK, hD⟩, hS.F ht⟩) hS.2.2 qd_M_alter_47
set_option maxHeartbeats 4000000 in
set_option maxRecDepth 100000 in
theorem ct_M_proof_no (l : Launch) (dC : Nat → ClassId) (dI : Nat → Nat → Nat) (o ca cb : Nat) (cA : ClassId) (w1 : Int32) (n k : Nat) (w4 : Int32) (z1 z2 : Int64) (f g : Nat → Int64) (sz : Nat) (q : Int32) (hbad : q < 0 ∨ nI k ≤ q) : Met l qy_M_proof qw_M_proof ({ frames := 0, cells := 0, slots := 0, locals := 0 }) (va_Pc [.ref o, .int q] (tq_rw (dC, dI) [(o, .inr (1, [.int w1, .int (nI n), .int (nI k), .int w4, .ref ca, .ref cb, .long z1, .long z2])), (ca, .inl (cA, (600, .inr (.inl f)))), (cb, .inl (cA, (40, .inr (.inl g))))] [(cA, .long)] sz)) (va_Ql (fun r (_ : Unit) => r = 0) (fun _ t => tq_in (dC, dI) [(o, .inr (1, [.int (nI 1), .int (nI n), .int (nI k), .int w4, .ref ca, .ref cb, .long z1, .long z2])), (ca, .inl (cA, (600, .inr (.inl f)))), (cb, .inl (cA, (40, .inr (.inl g))))] [(cA, .long)] (va_A [(o, .inr (1, [.int w1, .int (nI n), .int (nI k), .int w4, .ref ca, .ref cb, .long z1, .long z2])), (ca, .inl (cA, (600, .inr (.inl f)))), (cb, .inl (cA, (40, .inr (.inl g))))] sz) t) (va_A [(o, .inr (1, [.int w1, .int (nI n), .int (nI k), .int w4, .ref ca, .ref cb, .long z1, .long z2])), (ca, .inl (cA, (600, .inr (.inl f)))), (cb, .inl (cA, (40, .inr (.inl g))))] sz)) 0 0 (va_A [(o, .inr (1, [.int w1, .int (nI n), .int (nI k), .int w4, .ref ca, .ref cb, .long z1, .long z2])), (ca, .inl (cA, (600, .inr (.inl f)))), (cb, .inl (cA, (40, .inr (.inl g))))] sz) := by
  refine Met.ofW (cc := qc_M_proof) (maxL := 2) (ret := (some .long)) (by decide) rfl ?_
  intro p e s m args below meth c s₁ B hml hv
  obtain ⟨rfl, hsz, hP, hK, hD0⟩ := hv
  have hx := B.exec
  have hb := B.bytes
  have hr := B.returns
  have hts := atoms_spec (ws := qw_M_proof) B.pre
  have hW : ∀ w ∈ tq_W, w.before ([.ref o, .int q] : List Value).toArray s = true := fun w h => hts w (List.mem_cons_of_mem _ h)
  have hown : s.vm.findClass RX1 = some m.cls := findClass_of_methodNamed B.named
  have hlocks := B.notSynchronized
  have hl := lv_entry ([.ref o, .int q]) (n := 2) (Nat.le_of_ble_eq_true rfl)
  rw [lg_entry_eq]
  generalize (lg_sl ([.ref o, .int q]) ++ List.replicate (2 - (lg_sl ([.ref o, .int q])).length) Slot.unset).toArray = ls at hl ⊢
  have hl : lv_has ls 2 [(0, .ref o), (1, .int q)] := hl
  subst hsz
  have hD := hD0.self (sz := s.heap.size)
  generalize hAe : va_A [(o, .inr (1, [.int w1, .int (nI n), .int (nI k), .int w4, .ref ca, .ref cb, .long z1, .long z2])), (ca, .inl (cA, (600, .inr (.inl f)))), (cb, .inl (cA, (40, .inr (.inl g))))] s.heap.size = A at hD ⊢
  have hA : ∀ q : Nat, s.heap.size ≤ q → A q := fun q h => by rw [← hAe]; exact Or.inr h
  have hS : va_S A s.heap s.heap [] := va_S.rf
  refine lv_aload_n hx hb qd_M_proof_0 rfl (lv_at hl 0 rfl) ?_
  refine lv_iload_n hx hb qd_M_proof_1 rfl (lv_at hl 1 rfl) ?_
  refine lv_if_lt (tgt := 13) hx hb qd_M_proof_2 (by decide) (fun c1 => ?_) (fun c1 => ?_)
  · refine lv_iconst (v := nI 1) hx hb qd_M_proof_13 (by decide +kernel) ?_
    refine lv_goto (tgt := 18) hx hb qd_M_proof_14 (by decide) ?_
    refine va_put (D := (dC, dI)) (ci := 1) (v := .int (nI 1)) (ty := .int) (C := RX1) (T := TX1) (N := 8) hx hb hW inX1 tyX1 tyX1_ok nmX1 hown hK hP hD hS 0 rfl rfl 0 (by decide) (hW _ qm_281) (fun _ h9 => h9) rfl (by decide +kernel) rfl rfl (Nat.le_of_ble_eq_true rfl) qd_M_proof_18 (fun H locs hP hD hS => ?_)
    have hP : va_P (dC, dI) tq_cl [(o, .inr (1, [.int (nI 1), .int (nI n), .int (nI k), .int w4, .ref ca, .ref cb, .long z1, .long z2])), (ca, .inl (cA, (600, .inr (.inl f)))), (cb, .inl (cA, (40, .inr (.inl g))))] H := hP
    have hD : va_D A [(o, .inr (1, [.int (nI 1), .int (nI n), .int (nI k), .int w4, .ref ca, .ref cb, .long z1, .long z2])), (ca, .inl (cA, (600, .inr (.inl f)))), (cb, .inl (cA, (40, .inr (.inl g))))] := hD
    refine lv_aload_n hx hb qd_M_proof_21 rfl (lv_at hl 0 rfl) ?_
    refine va_get (D := (dC, dI)) (ci := 1) (v := .int (nI 1)) (C := RX1) (T := TX1) (N := 8) hx hb hW inX1 hown hK hP 0 rfl rfl 0 (by decide) (hW _ qm_281) (fun _ h9 => h9) rfl qd_M_proof_22 ?_
    refine tq_if_le (x := 1) (tgt := 32) hx hb qd_M_proof_25 (by decide) (by omega) (fun c9 => by omega) (fun c9 => ?_)
    refine lv_lconst (v := 0) hx hb qd_M_proof_28 (by decide) ?_
    refine lv_goto (tgt := 38) hx hb qd_M_proof_29 (by decide) ?_
    exact W.lret hx hb hr (fun t ht hW9 => ⟨⟨_, (), rfl, rfl, by rw [ht]; exact hP, va_K.moved hW9.alike hK, hD⟩, hS.F ht⟩) hS.2.2 qd_M_proof_38
  · have h9 : ¬ q < nI k := fun h8 => tq_nle h8 (hbad.elim (fun h => absurd h c1) id)
    refine lv_iload_n hx hb qd_M_proof_5 rfl (lv_at hl 1 rfl) ?_
    refine lv_aload_n hx hb qd_M_proof_6 rfl (lv_at hl 0 rfl) ?_
    refine va_get (D := (dC, dI)) (ci := 1) (v := .int (nI k)) (C := RX1) (T := TX1) (N := 8) hx hb hW inX1 hown hK hP 0 rfl rfl 2 (by decide) (hW _ qm_283) (fun _ h9 => h9) rfl qd_M_proof_7 ?_
    refine lv_icmp_lt (tgt := 17) hx hb qd_M_proof_10 (by decide) (fun c9 => absurd c9 (h9)) (fun c2 => ?_)
    refine lv_iconst (v := nI 1) hx hb qd_M_proof_13 (by decide +kernel) ?_
    refine lv_goto (tgt := 18) hx hb qd_M_proof_14 (by decide) ?_
    refine va_put (D := (dC, dI)) (ci := 1) (v := .int (nI 1)) (ty := .int) (C := RX1) (T := TX1) (N := 8) hx hb hW inX1 tyX1 tyX1_ok nmX1 hown hK hP hD hS 0 rfl rfl 0 (by decide) (hW _ qm_281) (fun _ h9 => h9) rfl (by decide +kernel) rfl rfl (Nat.le_of_ble_eq_true rfl) qd_M_proof_18 (fun H locs hP hD hS => ?_)
    have hP : va_P (dC, dI) tq_cl [(o, .inr (1, [.int (nI 1), .int (nI n), .int (nI k), .int w4, .ref ca, .ref cb, .long z1, .long z2])), (ca, .inl (cA, (600, .inr (.inl f)))), (cb, .inl (cA, (40, .inr (.inl g))))] H := hP
    have hD : va_D A [(o, .inr (1, [.int (nI 1), .int (nI n), .int (nI k), .int w4, .ref ca, .ref cb, .long z1, .long z2])), (ca, .inl (cA, (600, .inr (.inl f)))), (cb, .inl (cA, (40, .inr (.inl g))))] := hD
    refine lv_aload_n hx hb qd_M_proof_21 rfl (lv_at hl 0 rfl) ?_
    refine va_get (D := (dC, dI)) (ci := 1) (v := .int (nI 1)) (C := RX1) (T := TX1) (N := 8) hx hb hW inX1 hown hK hP 0 rfl rfl 0 (by decide) (hW _ qm_281) (fun _ h9 => h9) rfl qd_M_proof_22 ?_
    refine tq_if_le (x := 1) (tgt := 32) hx hb qd_M_proof_25 (by decide) (by omega) (fun c9 => by omega) (fun c9 => ?_)
    refine lv_lconst (v := 0) hx hb qd_M_proof_28 (by decide) ?_
    refine lv_goto (tgt := 38) hx hb qd_M_proof_29 (by decide) ?_
    exact W.lret hx hb hr (fun t ht hW9 => ⟨⟨_, (), rfl, rfl, by rw [ht]; exact hP, va_K.moved hW9.alike hK, hD⟩, hS.F ht⟩) hS.2.2 qd_M_proof_38
set_option maxHeartbeats 4000000 in
set_option maxRecDepth 100000 in
theorem ct_M_alter_no (l : Launch) (dC : Nat → ClassId) (dI : Nat → Nat → Nat) (o ca cb : Nat) (cA : ClassId) (w1 : Int32) (n k : Nat) (w4 : Int32) (z1 z2 : Int64) (f g : Nat → Int64) (sz : Nat) (q : Int32) (v : Int64) (hbad : q < 0 ∨ nI k ≤ q) : Met l qy_M_alter qw_M_alter ({ frames := 0, cells := 0, slots := 0, locals := 0 }) (va_Pc [.ref o, .int q, .long v] (tq_rw (dC, dI) [(o, .inr (1, [.int w1, .int (nI n), .int (nI k), .int w4, .ref ca, .ref cb, .long z1, .long z2])), (ca, .inl (cA, (600, .inr (.inl f)))), (cb, .inl (cA, (40, .inr (.inl g))))] [(cA, .long)] sz)) (va_Ql (fun r (_ : Unit) => r = 0) (fun _ t => tq_in (dC, dI) [(o, .inr (1, [.int (nI 1), .int (nI n), .int (nI k), .int w4, .ref ca, .ref cb, .long z1, .long z2])), (ca, .inl (cA, (600, .inr (.inl f)))), (cb, .inl (cA, (40, .inr (.inl g))))] [(cA, .long)] (va_A [(o, .inr (1, [.int w1, .int (nI n), .int (nI k), .int w4, .ref ca, .ref cb, .long z1, .long z2])), (ca, .inl (cA, (600, .inr (.inl f)))), (cb, .inl (cA, (40, .inr (.inl g))))] sz) t) (va_A [(o, .inr (1, [.int w1, .int (nI n), .int (nI k), .int w4, .ref ca, .ref cb, .long z1, .long z2])), (ca, .inl (cA, (600, .inr (.inl f)))), (cb, .inl (cA, (40, .inr (.inl g))))] sz)) 0 0 (va_A [(o, .inr (1, [.int w1, .int (nI n), .int (nI k), .int w4, .ref ca, .ref cb, .long z1, .long z2])), (ca, .inl (cA, (600, .inr (.inl f)))), (cb, .inl (cA, (40, .inr (.inl g))))] sz) := by
  refine Met.ofW (cc := qc_M_alter) (maxL := 6) (ret := (some .long)) (by decide) rfl ?_
  intro p e s m args below meth c s₁ B hml hv
  obtain ⟨rfl, hsz, hP, hK, hD0⟩ := hv
  have hx := B.exec
  have hb := B.bytes
  have hr := B.returns
  have hts := atoms_spec (ws := qw_M_alter) B.pre
  have hW : ∀ w ∈ tq_W, w.before ([.ref o, .int q, .long v] : List Value).toArray s = true := fun w h => hts w (List.mem_cons_of_mem _ h)
  have hown : s.vm.findClass RX1 = some m.cls := findClass_of_methodNamed B.named
  have hlocks := B.notSynchronized
  have hl := lv_entry ([.ref o, .int q, .long v]) (n := 6) (Nat.le_of_ble_eq_true rfl)
  rw [lg_entry_eq]
  generalize (lg_sl ([.ref o, .int q, .long v]) ++ List.replicate (6 - (lg_sl ([.ref o, .int q, .long v])).length) Slot.unset).toArray = ls at hl ⊢
  have hl : lv_has ls 6 [(0, .ref o), (1, .int q), (2, .long v)] := hl
  subst hsz
  have hD := hD0.self (sz := s.heap.size)
  generalize hAe : va_A [(o, .inr (1, [.int w1, .int (nI n), .int (nI k), .int w4, .ref ca, .ref cb, .long z1, .long z2])), (ca, .inl (cA, (600, .inr (.inl f)))), (cb, .inl (cA, (40, .inr (.inl g))))] s.heap.size = A at hD ⊢
  have hA : ∀ q : Nat, s.heap.size ≤ q → A q := fun q h => by rw [← hAe]; exact Or.inr h
  have hS : va_S A s.heap s.heap [] := va_S.rf
  refine lv_aload_n hx hb qd_M_alter_0 rfl (lv_at hl 0 rfl) ?_
  refine lv_iload_n hx hb qd_M_alter_1 rfl (lv_at hl 1 rfl) ?_
  refine lv_if_lt (tgt := 13) hx hb qd_M_alter_2 (by decide) (fun c1 => ?_) (fun c1 => ?_)
  · refine lv_iconst (v := nI 1) hx hb qd_M_alter_13 (by decide +kernel) ?_
    refine lv_goto (tgt := 18) hx hb qd_M_alter_14 (by decide) ?_
    refine va_put (D := (dC, dI)) (ci := 1) (v := .int (nI 1)) (ty := .int) (C := RX1) (T := TX1) (N := 8) hx hb hW inX1 tyX1 tyX1_ok nmX1 hown hK hP hD hS 0 rfl rfl 0 (by decide) (hW _ qm_281) (fun _ h9 => h9) rfl (by decide +kernel) rfl rfl (Nat.le_of_ble_eq_true rfl) qd_M_alter_18 (fun H locs hP hD hS => ?_)
    have hP : va_P (dC, dI) tq_cl [(o, .inr (1, [.int (nI 1), .int (nI n), .int (nI k), .int w4, .ref ca, .ref cb, .long z1, .long z2])), (ca, .inl (cA, (600, .inr (.inl f)))), (cb, .inl (cA, (40, .inr (.inl g))))] H := hP
    have hD : va_D A [(o, .inr (1, [.int (nI 1), .int (nI n), .int (nI k), .int w4, .ref ca, .ref cb, .long z1, .long z2])), (ca, .inl (cA, (600, .inr (.inl f)))), (cb, .inl (cA, (40, .inr (.inl g))))] := hD
    refine lv_aload_n hx hb qd_M_alter_21 rfl (lv_at hl 0 rfl) ?_
    refine va_get (D := (dC, dI)) (ci := 1) (v := .int (nI 1)) (C := RX1) (T := TX1) (N := 8) hx hb hW inX1 hown hK hP 0 rfl rfl 0 (by decide) (hW _ qm_281) (fun _ h9 => h9) rfl qd_M_alter_22 ?_
    refine tq_if_le (x := 1) (tgt := 30) hx hb qd_M_alter_25 (by decide) (by omega) (fun c9 => by omega) (fun c9 => ?_)
    refine lv_lconst (v := 0) hx hb qd_M_alter_28 (by decide) ?_
    exact W.lret hx hb hr (fun t ht hW9 => ⟨⟨_, (), rfl, rfl, by rw [ht]; exact hP, va_K.moved hW9.alike hK, hD⟩, hS.F ht⟩) hS.2.2 qd_M_alter_29
  · have h9 : ¬ q < nI k := fun h8 => tq_nle h8 (hbad.elim (fun h => absurd h c1) id)
    refine lv_iload_n hx hb qd_M_alter_5 rfl (lv_at hl 1 rfl) ?_
    refine lv_aload_n hx hb qd_M_alter_6 rfl (lv_at hl 0 rfl) ?_
    refine va_get (D := (dC, dI)) (ci := 1) (v := .int (nI k)) (C := RX1) (T := TX1) (N := 8) hx hb hW inX1 hown hK hP 0 rfl rfl 2 (by decide) (hW _ qm_283) (fun _ h9 => h9) rfl qd_M_alter_7 ?_
    refine lv_icmp_lt (tgt := 17) hx hb qd_M_alter_10 (by decide) (fun c9 => absurd c9 (h9)) (fun c2 => ?_)
    refine lv_iconst (v := nI 1) hx hb qd_M_alter_13 (by decide +kernel) ?_
    refine lv_goto (tgt := 18) hx hb qd_M_alter_14 (by decide) ?_
    refine va_put (D := (dC, dI)) (ci := 1) (v := .int (nI 1)) (ty := .int) (C := RX1) (T := TX1) (N := 8) hx hb hW inX1 tyX1 tyX1_ok nmX1 hown hK hP hD hS 0 rfl rfl 0 (by decide) (hW _ qm_281) (fun _ h9 => h9) rfl (by decide +kernel) rfl rfl (Nat.le_of_ble_eq_true rfl) qd_M_alter_18 (fun H locs hP hD hS => ?_)
    have hP : va_P (dC, dI) tq_cl [(o, .inr (1, [.int (nI 1), .int (nI n), .int (nI k), .int w4, .ref ca, .ref cb, .long z1, .long z2])), (ca, .inl (cA, (600, .inr (.inl f)))), (cb, .inl (cA, (40, .inr (.inl g))))] H := hP
    have hD : va_D A [(o, .inr (1, [.int (nI 1), .int (nI n), .int (nI k), .int w4, .ref ca, .ref cb, .long z1, .long z2])), (ca, .inl (cA, (600, .inr (.inl f)))), (cb, .inl (cA, (40, .inr (.inl g))))] := hD
    refine lv_aload_n hx hb qd_M_alter_21 rfl (lv_at hl 0 rfl) ?_
    refine va_get (D := (dC, dI)) (ci := 1) (v := .int (nI 1)) (C := RX1) (T := TX1) (N := 8) hx hb hW inX1 hown hK hP 0 rfl rfl 0 (by decide) (hW _ qm_281) (fun _ h9 => h9) rfl qd_M_alter_22 ?_
    refine tq_if_le (x := 1) (tgt := 30) hx hb qd_M_alter_25 (by decide) (by omega) (fun c9 => by omega) (fun c9 => ?_)
    refine lv_lconst (v := 0) hx hb qd_M_alter_28 (by decide) ?_
    exact W.lret hx hb hr (fun t ht hW9 => ⟨⟨_, (), rfl, rfl, by rw [ht]; exact hP, va_K.moved hW9.alike hK, hD⟩, hS.F ht⟩) hS.2.2 qd_M_alter_29
set_option maxHeartbeats 4000000 in
set_option maxRecDepth 100000 in
theorem ct_M_length (l : Launch) (dC : Nat → ClassId) (dI : Nat → Nat → Nat) (o ca cb : Nat) (cA : ClassId) (w1 : Int32) (n k : Nat) (w4 : Int32) (z1 z2 : Int64) (f g : Nat → Int64) (sz : Nat) (j : Nat) (hj : j ≤ 40) (hk : k ≤ 40) : Met l qy_M_length qw_M_length ({ frames := 0, cells := 0, slots := 0, locals := 0 }) (va_Pc [.ref o, .int (nI j)] (tq_rw (dC, dI) [(o, .inr (1, [.int w1, .int (nI n), .int (nI k), .int w4, .ref ca, .ref cb, .long z1, .long z2])), (ca, .inl (cA, (600, .inr (.inl f)))), (cb, .inl (cA, (40, .inr (.inl g))))] [(cA, .long)] sz)) (va_Qi (fun r (_ : Unit) => r = nI k) (fun _ t => tq_in (dC, dI) [(o, .inr (1, [.int (nI 0), .int (nI n), .int (nI j), .int w4, .ref ca, .ref cb, .long z1, .long z2])), (ca, .inl (cA, (600, .inr (.inl f)))), (cb, .inl (cA, (40, .inr (.inl ((tq_fl g k (j - k) (fun _ => 0)))))))] [(cA, .long)] (va_A [(o, .inr (1, [.int w1, .int (nI n), .int (nI k), .int w4, .ref ca, .ref cb, .long z1, .long z2])), (ca, .inl (cA, (600, .inr (.inl f)))), (cb, .inl (cA, (40, .inr (.inl g))))] sz) t) (va_A [(o, .inr (1, [.int w1, .int (nI n), .int (nI k), .int w4, .ref ca, .ref cb, .long z1, .long z2])), (ca, .inl (cA, (600, .inr (.inl f)))), (cb, .inl (cA, (40, .inr (.inl g))))] sz)) 0 0 (va_A [(o, .inr (1, [.int w1, .int (nI n), .int (nI k), .int w4, .ref ca, .ref cb, .long z1, .long z2])), (ca, .inl (cA, (600, .inr (.inl f)))), (cb, .inl (cA, (40, .inr (.inl g))))] sz) := by
  refine Met.ofW (cc := qc_M_length) (maxL := 4) (ret := (some .int)) (by decide) rfl ?_
  intro p e s m args below meth c s₁ B hml hv
  obtain ⟨rfl, hsz, hP, hK, hD0⟩ := hv
  have hx := B.exec
  have hb := B.bytes
  have hr := B.returns
  have hts := atoms_spec (ws := qw_M_length) B.pre
  have hW : ∀ w ∈ tq_W, w.before ([.ref o, .int (nI j)] : List Value).toArray s = true := fun w h => hts w (List.mem_cons_of_mem _ h)
  have hown : s.vm.findClass RX1 = some m.cls := findClass_of_methodNamed B.named
  have hlocks := B.notSynchronized
  have hl := lv_entry ([.ref o, .int (nI j)]) (n := 4) (Nat.le_of_ble_eq_true rfl)
  rw [lg_entry_eq]
  generalize (lg_sl ([.ref o, .int (nI j)]) ++ List.replicate (4 - (lg_sl ([.ref o, .int (nI j)])).length) Slot.unset).toArray = ls at hl ⊢
  have hl : lv_has ls 4 [(0, .ref o), (1, .int (nI j))] := hl
  subst hsz
  have hD := hD0.self (sz := s.heap.size)
  generalize hAe : va_A [(o, .inr (1, [.int w1, .int (nI n), .int (nI k), .int w4, .ref ca, .ref cb, .long z1, .long z2])), (ca, .inl (cA, (600, .inr (.inl f)))), (cb, .inl (cA, (40, .inr (.inl g))))] s.heap.size = A at hD ⊢
  have hA : ∀ q : Nat, s.heap.size ≤ q → A q := fun q h => by rw [← hAe]; exact Or.inr h
  have hS : va_S A s.heap s.heap [] := va_S.rf
  have loop : ∀ (t i : Nat), i + t = j - k → ∀ (H : Heap) (locs : List Loc), va_P (dC, dI) tq_cl [(o, .inr (1, [.int (nI 0), .int (nI n), .int (nI k), .int w4, .ref ca, .ref cb, .long z1, .long z2])), (ca, .inl (cA, (600, .inr (.inl f)))), (cb, .inl (cA, (40, .inr (.inl ((tq_fl g k i (fun _ => 0)))))))] H → va_D A [(o, .inr (1, [.int (nI 0), .int (nI n), .int (nI k), .int w4, .ref ca, .ref cb, .long z1, .long z2])), (ca, .inl (cA, (600, .inr (.inl f)))), (cb, .inl (cA, (40, .inr (.inl ((tq_fl g k i (fun _ => 0)))))))] → va_S A s.heap H locs → ∀ ls : Array Slot, lv_has ls 4 [(3, .int (nI (k + i))), (2, .int (nI k)), (0, .ref o), (1, .int (nI j))] → W p l e (headSpec qw_M_length ({ frames := 0, cells := 0, slots := 0, locals := 0 })).room s m ([.ref o, .int (nI j)] : List Value).toArray below meth c H locs 0 0 (MQ below (va_Qi (fun r (_ : Unit) => r = nI k) (fun _ t => tq_in (dC, dI) [(o, .inr (1, [.int (nI 0), .int (nI n), .int (nI j), .int w4, .ref ca, .ref cb, .long z1, .long z2])), (ca, .inl (cA, (600, .inr (.inl f)))), (cb, .inl (cA, (40, .inr (.inl ((tq_fl g k (j - k) (fun _ => 0)))))))] [(cA, .long)] A t) A) ([.ref o, .int (nI j)] : List Value).toArray s 0 0 A) (F0 m 35 ls []) := by
    intro t
    induction t with
    | zero =>
      intro i hi H locs hP hD hS ls hl
      obtain rfl : i = j - k := by omega
      refine lv_iload_n hx hb qd_M_length_35 rfl (lv_at hl 0 rfl) ?_
      refine lv_iload_n hx hb qd_M_length_36 rfl (lv_at hl 3 rfl) ?_
      refine tq_icmp_ge (x := (k + (j - k))) (y := j) (tgt := 53) hx hb qd_M_length_37 (by decide) (by omega) (by omega) (fun c9 => ?_) (fun c9 => by omega)
      refine lv_aload_n hx hb qd_M_length_53 rfl (lv_at hl 2 rfl) ?_
      refine lv_iload_n hx hb qd_M_length_54 rfl (lv_at hl 3 rfl) ?_
      refine va_put (D := (dC, dI)) (ci := 1) (v := .int (nI j)) (ty := .int) (C := RX1) (T := TX1) (N := 8) hx hb hW inX1 tyX1 tyX1_ok nmX1 hown hK hP hD hS 0 rfl rfl 2 (by decide) (hW _ qm_283) (fun _ h9 => h9) rfl (by decide +kernel) rfl rfl (Nat.le_of_ble_eq_true rfl) qd_M_length_55 (fun H locs hP hD hS => ?_)
      have hP : va_P (dC, dI) tq_cl [(o, .inr (1, [.int (nI 0), .int (nI n), .int (nI j), .int w4, .ref ca, .ref cb, .long z1, .long z2])), (ca, .inl (cA, (600, .inr (.inl f)))), (cb, .inl (cA, (40, .inr (.inl ((tq_fl g k (j - k) (fun _ => 0)))))))] H := hP
      have hD : va_D A [(o, .inr (1, [.int (nI 0), .int (nI n), .int (nI j), .int w4, .ref ca, .ref cb, .long z1, .long z2])), (ca, .inl (cA, (600, .inr (.inl f)))), (cb, .inl (cA, (40, .inr (.inl ((tq_fl g k (j - k) (fun _ => 0)))))))] := hD
      refine lv_iload_n hx hb qd_M_length_58 rfl (lv_at hl 1 rfl) ?_
      exact W.iret hx hb hr (fun t ht hW9 => ⟨⟨_, (), rfl, rfl, by rw [ht]; exact hP, va_K.moved hW9.alike hK, hD⟩, hS.F ht⟩) hS.2.2 qd_M_length_59
    | succ t ih =>
      intro i hi H locs hP hD hS ls hl
      refine lv_iload_n hx hb qd_M_length_35 rfl (lv_at hl 0 rfl) ?_
      refine lv_iload_n hx hb qd_M_length_36 rfl (lv_at hl 3 rfl) ?_
      refine tq_icmp_ge (x := (k + i)) (y := j) (tgt := 53) hx hb qd_M_length_37 (by decide) (by omega) (by omega) (fun c9 => by omega) (fun c9 => ?_)
      refine lv_aload_n hx hb qd_M_length_40 rfl (lv_at hl 2 rfl) ?_
      refine va_get (D := (dC, dI)) (ci := 1) (v := .ref cb) (C := RX1) (T := TX1) (N := 8) hx hb hW inX1 hown hK hP 0 rfl rfl 5 (by decide) (hW _ qm_286) (fun _ h9 => h9) rfl qd_M_length_41 ?_
      refine lv_iload_n hx hb qd_M_length_44 rfl (lv_at hl 0 rfl) ?_
      refine lv_lconst (v := 0) hx hb qd_M_length_45 (by decide) ?_
      refine tq_last hx hb hK hP hD hS 2 0 rfl rfl (j := ((k + i))) (x := 0) (by omega) (by decide) qd_M_length_46 (fun H locs hP hD hS => ?_)
      have hP : va_P (dC, dI) tq_cl [(o, .inr (1, [.int (nI 0), .int (nI n), .int (nI k), .int w4, .ref ca, .ref cb, .long z1, .long z2])), (ca, .inl (cA, (600, .inr (.inl f)))), (cb, .inl (cA, (40, .inr (.inl (vp_updL ((tq_fl g k i (fun _ => 0))) ((k + i)) 0)))))] H := hP
      have hD : va_D A [(o, .inr (1, [.int (nI 0), .int (nI n), .int (nI k), .int w4, .ref ca, .ref cb, .long z1, .long z2])), (ca, .inl (cA, (600, .inr (.inl f)))), (cb, .inl (cA, (40, .inr (.inl (vp_updL ((tq_fl g k i (fun _ => 0))) ((k + i)) 0)))))] := hD
      rw [tq_fl_s g k i (fun _ => 0)] at hP hD
      refine lv_iinc (v := (nI (k + (i + 1)))) (lv' := [(3, .int (nI (k + (i + 1)))), (2, .int (nI k)), (0, .ref o), (1, .int (nI j))]) hx hb qd_M_length_47 hl (k := 0) rfl (nI_1 (k + i)) (by decide) rfl (fun ls hl => ?_)
      refine lv_goto (tgt := 35) hx hb qd_M_length_50 (by decide) ?_
      exact ih (i + 1) (by omega) _ _ hP hD hS ls (lv_sub hl [0, 1, 2, 3] rfl)
  refine lv_aload_n hx hb qd_M_length_0 rfl (lv_at hl 0 rfl) ?_
  refine lv_iload_n hx hb qd_M_length_1 rfl (lv_at hl 1 rfl) ?_
  refine tq_if_lt (x := j) (tgt := 11) hx hb qd_M_length_2 (by decide) (by omega) ?_
  refine lv_iload_n hx hb qd_M_length_5 rfl (lv_at hl 1 rfl) ?_
  refine lv_bipush (v := nI 40) hx hb qd_M_length_6 (by decide +kernel) ?_
  refine tq_icmp_le (x := j) (y := 40) (tgt := 15) hx hb qd_M_length_8 (by decide) (by omega) (by omega) (fun c9 => ?_) (fun c9 => by omega)
  refine lv_iconst (v := nI 0) hx hb qd_M_length_15 (by decide +kernel) ?_
  refine va_put (D := (dC, dI)) (ci := 1) (v := .int (nI 0)) (ty := .int) (C := RX1) (T := TX1) (N := 8) hx hb hW inX1 tyX1 tyX1_ok nmX1 hown hK hP hD hS 0 rfl rfl 0 (by decide) (hW _ qm_281) (fun _ h9 => h9) rfl (by decide +kernel) rfl rfl (Nat.le_of_ble_eq_true rfl) qd_M_length_16 (fun H locs hP hD hS => ?_)
  have hP : va_P (dC, dI) tq_cl [(o, .inr (1, [.int (nI 0), .int (nI n), .int (nI k), .int w4, .ref ca, .ref cb, .long z1, .long z2])), (ca, .inl (cA, (600, .inr (.inl f)))), (cb, .inl (cA, (40, .inr (.inl g))))] H := hP
  have hD : va_D A [(o, .inr (1, [.int (nI 0), .int (nI n), .int (nI k), .int w4, .ref ca, .ref cb, .long z1, .long z2])), (ca, .inl (cA, (600, .inr (.inl f)))), (cb, .inl (cA, (40, .inr (.inl g))))] := hD
  refine lv_aload_n hx hb qd_M_length_19 rfl (lv_at hl 0 rfl) ?_
  refine va_get (D := (dC, dI)) (ci := 1) (v := .int (nI 0)) (C := RX1) (T := TX1) (N := 8) hx hb hW inX1 hown hK hP 0 rfl rfl 0 (by decide) (hW _ qm_281) (fun _ h9 => h9) rfl qd_M_length_20 ?_
  refine tq_if_le (x := 0) (tgt := 28) hx hb qd_M_length_23 (by decide) (by omega) (fun c9 => ?_) (fun c9 => by omega)
  refine lv_aload_n hx hb qd_M_length_28 rfl (lv_at hl 0 rfl) ?_
  refine va_get (D := (dC, dI)) (ci := 1) (v := .int (nI k)) (C := RX1) (T := TX1) (N := 8) hx hb hW inX1 hown hK hP 0 rfl rfl 2 (by decide) (hW _ qm_283) (fun _ h9 => h9) rfl qd_M_length_29 ?_
  refine lv_istore_n (lv' := [(2, .int (nI k)), (0, .ref o), (1, .int (nI j))]) hx hb qd_M_length_32 rfl hl (by decide) rfl (fun ls hl => ?_)
  refine lv_iload_n hx hb qd_M_length_33 rfl (lv_at hl 0 rfl) ?_
  refine tq_ti (y := nI (k + 0)) (rfl) ?_
  refine lv_istore_n (lv' := [(3, .int (nI (k + 0))), (2, .int (nI k)), (0, .ref o), (1, .int (nI j))]) hx hb qd_M_length_34 rfl hl (by decide) rfl (fun ls hl => ?_)
  exact loop (j - k) 0 (Nat.zero_add _) _ _ (by rw [tq_fl_0]; exact hP) (by rw [tq_fl_0]; exact hD) hS ls (lv_sub hl [0, 1, 2, 3] rfl)
set_option maxHeartbeats 4000000 in
set_option maxRecDepth 100000 in
theorem ct_M_length_no (l : Launch) (dC : Nat → ClassId) (dI : Nat → Nat → Nat) (o ca cb : Nat) (cA : ClassId) (w1 : Int32) (n k : Nat) (w4 : Int32) (z1 z2 : Int64) (f g : Nat → Int64) (sz : Nat) (q : Int32) (hbad : q < 0 ∨ nI 40 < q) : Met l qy_M_length qw_M_length ({ frames := 0, cells := 0, slots := 0, locals := 0 }) (va_Pc [.ref o, .int q] (tq_rw (dC, dI) [(o, .inr (1, [.int w1, .int (nI n), .int (nI k), .int w4, .ref ca, .ref cb, .long z1, .long z2])), (ca, .inl (cA, (600, .inr (.inl f)))), (cb, .inl (cA, (40, .inr (.inl g))))] [(cA, .long)] sz)) (va_Qi (fun r (_ : Unit) => r = nI 0) (fun _ t => tq_in (dC, dI) [(o, .inr (1, [.int (nI 1), .int (nI n), .int (nI k), .int w4, .ref ca, .ref cb, .long z1, .long z2])), (ca, .inl (cA, (600, .inr (.inl f)))), (cb, .inl (cA, (40, .inr (.inl g))))] [(cA, .long)] (va_A [(o, .inr (1, [.int w1, .int (nI n), .int (nI k), .int w4, .ref ca, .ref cb, .long z1, .long z2])), (ca, .inl (cA, (600, .inr (.inl f)))), (cb, .inl (cA, (40, .inr (.inl g))))] sz) t) (va_A [(o, .inr (1, [.int w1, .int (nI n), .int (nI k), .int w4, .ref ca, .ref cb, .long z1, .long z2])), (ca, .inl (cA, (600, .inr (.inl f)))), (cb, .inl (cA, (40, .inr (.inl g))))] sz)) 0 0 (va_A [(o, .inr (1, [.int w1, .int (nI n), .int (nI k), .int w4, .ref ca, .ref cb, .long z1, .long z2])), (ca, .inl (cA, (600, .inr (.inl f)))), (cb, .inl (cA, (40, .inr (.inl g))))] sz) := by
  refine Met.ofW (cc := qc_M_length) (maxL := 4) (ret := (some .int)) (by decide) rfl ?_
  intro p e s m args below meth c s₁ B hml hv
  obtain ⟨rfl, hsz, hP, hK, hD0⟩ := hv
  have hx := B.exec
  have hb := B.bytes
  have hr := B.returns
  have hts := atoms_spec (ws := qw_M_length) B.pre
  have hW : ∀ w ∈ tq_W, w.before ([.ref o, .int q] : List Value).toArray s = true := fun w h => hts w (List.mem_cons_of_mem _ h)
  have hown : s.vm.findClass RX1 = some m.cls := findClass_of_methodNamed B.named
  have hlocks := B.notSynchronized
  have hl := lv_entry ([.ref o, .int q]) (n := 4) (Nat.le_of_ble_eq_true rfl)
  rw [lg_entry_eq]
  generalize (lg_sl ([.ref o, .int q]) ++ List.replicate (4 - (lg_sl ([.ref o, .int q])).length) Slot.unset).toArray = ls at hl ⊢
  have hl : lv_has ls 4 [(0, .ref o), (1, .int q)] := hl
  subst hsz
  have hD := hD0.self (sz := s.heap.size)
  generalize hAe : va_A [(o, .inr (1, [.int w1, .int (nI n), .int (nI k), .int w4, .ref ca, .ref cb, .long z1, .long z2])), (ca, .inl (cA, (600, .inr (.inl f)))), (cb, .inl (cA, (40, .inr (.inl g))))] s.heap.size = A at hD ⊢
  have hA : ∀ q : Nat, s.heap.size ≤ q → A q := fun q h => by rw [← hAe]; exact Or.inr h
  have hS : va_S A s.heap s.heap [] := va_S.rf
  refine lv_aload_n hx hb qd_M_length_0 rfl (lv_at hl 0 rfl) ?_
  refine lv_iload_n hx hb qd_M_length_1 rfl (lv_at hl 1 rfl) ?_
  refine lv_if_lt (tgt := 11) hx hb qd_M_length_2 (by decide) (fun c1 => ?_) (fun c1 => ?_)
  · refine lv_iconst (v := nI 1) hx hb qd_M_length_11 (by decide +kernel) ?_
    refine lv_goto (tgt := 16) hx hb qd_M_length_12 (by decide) ?_
    refine va_put (D := (dC, dI)) (ci := 1) (v := .int (nI 1)) (ty := .int) (C := RX1) (T := TX1) (N := 8) hx hb hW inX1 tyX1 tyX1_ok nmX1 hown hK hP hD hS 0 rfl rfl 0 (by decide) (hW _ qm_281) (fun _ h9 => h9) rfl (by decide +kernel) rfl rfl (Nat.le_of_ble_eq_true rfl) qd_M_length_16 (fun H locs hP hD hS => ?_)
    have hP : va_P (dC, dI) tq_cl [(o, .inr (1, [.int (nI 1), .int (nI n), .int (nI k), .int w4, .ref ca, .ref cb, .long z1, .long z2])), (ca, .inl (cA, (600, .inr (.inl f)))), (cb, .inl (cA, (40, .inr (.inl g))))] H := hP
    have hD : va_D A [(o, .inr (1, [.int (nI 1), .int (nI n), .int (nI k), .int w4, .ref ca, .ref cb, .long z1, .long z2])), (ca, .inl (cA, (600, .inr (.inl f)))), (cb, .inl (cA, (40, .inr (.inl g))))] := hD
    refine lv_aload_n hx hb qd_M_length_19 rfl (lv_at hl 0 rfl) ?_
    refine va_get (D := (dC, dI)) (ci := 1) (v := .int (nI 1)) (C := RX1) (T := TX1) (N := 8) hx hb hW inX1 hown hK hP 0 rfl rfl 0 (by decide) (hW _ qm_281) (fun _ h9 => h9) rfl qd_M_length_20 ?_
    refine tq_if_le (x := 1) (tgt := 28) hx hb qd_M_length_23 (by decide) (by omega) (fun c9 => by omega) (fun c9 => ?_)
    refine lv_iconst (v := nI 0) hx hb qd_M_length_26 (by decide +kernel) ?_
    exact W.iret hx hb hr (fun t ht hW9 => ⟨⟨_, (), rfl, rfl, by rw [ht]; exact hP, va_K.moved hW9.alike hK, hD⟩, hS.F ht⟩) hS.2.2 qd_M_length_27
  · have h9 : ¬ q ≤ nI 40 := tq_nle (hbad.elim (fun h => absurd h c1) id)
    refine lv_iload_n hx hb qd_M_length_5 rfl (lv_at hl 1 rfl) ?_
    refine lv_bipush (v := nI 40) hx hb qd_M_length_6 (by decide +kernel) ?_
    refine lv_icmp_le (tgt := 15) hx hb qd_M_length_8 (by decide) (fun c9 => absurd c9 (h9)) (fun c2 => ?_)
    refine lv_iconst (v := nI 1) hx hb qd_M_length_11 (by decide +kernel) ?_
    refine lv_goto (tgt := 16) hx hb qd_M_length_12 (by decide) ?_
    refine va_put (D := (dC, dI)) (ci := 1) (v := .int (nI 1)) (ty := .int) (C := RX1) (T := TX1) (N := 8) hx hb hW inX1 tyX1 tyX1_ok nmX1 hown hK hP hD hS 0 rfl rfl 0 (by decide) (hW _ qm_281) (fun _ h9 => h9) rfl (by decide +kernel) rfl rfl (Nat.le_of_ble_eq_true rfl) qd_M_length_16 (fun H locs hP hD hS => ?_)
    have hP : va_P (dC, dI) tq_cl [(o, .inr (1, [.int (nI 1), .int (nI n), .int (nI k), .int w4, .ref ca, .ref cb, .long z1, .long z2])), (ca, .inl (cA, (600, .inr (.inl f)))), (cb, .inl (cA, (40, .inr (.inl g))))] H := hP
    have hD : va_D A [(o, .inr (1, [.int (nI 1), .int (nI n), .int (nI k), .int w4, .ref ca, .ref cb, .long z1, .long z2])), (ca, .inl (cA, (600, .inr (.inl f)))), (cb, .inl (cA, (40, .inr (.inl g))))] := hD
    refine lv_aload_n hx hb qd_M_length_19 rfl (lv_at hl 0 rfl) ?_
    refine va_get (D := (dC, dI)) (ci := 1) (v := .int (nI 1)) (C := RX1) (T := TX1) (N := 8) hx hb hW inX1 hown hK hP 0 rfl rfl 0 (by decide) (hW _ qm_281) (fun _ h9 => h9) rfl qd_M_length_20 ?_
    refine tq_if_le (x := 1) (tgt := 28) hx hb qd_M_length_23 (by decide) (by omega) (fun c9 => by omega) (fun c9 => ?_)
    refine lv_iconst (v := nI 0) hx hb qd_M_length_26 (by decide +kernel) ?_
    exact W.iret hx hb hr (fun t ht hW9 => ⟨⟨_, (), rfl, rfl, by rw [ht]; exact hP, va_K.moved hW9.alike hK, hD⟩, hS.F ht⟩) hS.2.2 qd_M_length_27
set_option maxHeartbeats 4000000 in
set_option maxRecDepth 100000 in
theorem ct_M_find (l : Launch) (dC : Nat → ClassId) (dI : Nat → Nat → Nat) (o ca cb : Nat) (cA : ClassId) (w1 : Int32) (n k : Nat) (w4 : Int32) (z1 z2 : Int64) (f g : Nat → Int64) (sz : Nat) (j : Nat) (v : Int64) (hj : j ≤ n) (hn : n ≤ 600) : Met l qy_M_find qw_M_find ({ frames := 1, cells := 0, slots := 0, locals := 40 }) (va_Pc [.ref o, .int (nI j), .long v] (tq_rw (dC, dI) [(o, .inr (1, [.int w1, .int (nI n), .int (nI k), .int w4, .ref ca, .ref cb, .long z1, .long z2])), (ca, .inl (cA, (600, .inr (.inl f)))), (cb, .inl (cA, (40, .inr (.inl g))))] [(cA, .long)] sz)) (va_Qi (fun r (_ : Unit) => r = tq_fd (fun j => tq_leaf (f j)) (tq_leaf v) j 0) (fun _ t => tq_in (dC, dI) [(o, .inr (1, [.int (nI 0), .int (nI n), .int (nI k), .int w4, .ref ca, .ref cb, .long z1, .long z2])), (ca, .inl (cA, (600, .inr (.inl f)))), (cb, .inl (cA, (40, .inr (.inl g))))] [(cA, .long)] (va_A [(o, .inr (1, [.int w1, .int (nI n), .int (nI k), .int w4, .ref ca, .ref cb, .long z1, .long z2])), (ca, .inl (cA, (600, .inr (.inl f)))), (cb, .inl (cA, (40, .inr (.inl g))))] sz) t) (va_A [(o, .inr (1, [.int w1, .int (nI n), .int (nI k), .int w4, .ref ca, .ref cb, .long z1, .long z2])), (ca, .inl (cA, (600, .inr (.inl f)))), (cb, .inl (cA, (40, .inr (.inl g))))] sz)) 0 0 (va_A [(o, .inr (1, [.int w1, .int (nI n), .int (nI k), .int w4, .ref ca, .ref cb, .long z1, .long z2])), (ca, .inl (cA, (600, .inr (.inl f)))), (cb, .inl (cA, (40, .inr (.inl g))))] sz) := by
  refine Met.ofW (cc := qc_M_find) (maxL := 5) (ret := (some .int)) (by decide) rfl ?_
  intro p e s m args below meth c s₁ B hml hv
  obtain ⟨rfl, hsz, hP, hK, hD0⟩ := hv
  have hx := B.exec
  have hb := B.bytes
  have hr := B.returns
  have hts := atoms_spec (ws := qw_M_find) B.pre
  have hW : ∀ w ∈ tq_W, w.before ([.ref o, .int (nI j), .long v] : List Value).toArray s = true := fun w h => hts w (List.mem_cons_of_mem _ h)
  have hown : s.vm.findClass RX1 = some m.cls := findClass_of_methodNamed B.named
  have hlocks := B.notSynchronized
  have hl := lv_entry ([.ref o, .int (nI j), .long v]) (n := 5) (Nat.le_of_ble_eq_true rfl)
  rw [lg_entry_eq]
  generalize (lg_sl ([.ref o, .int (nI j), .long v]) ++ List.replicate (5 - (lg_sl ([.ref o, .int (nI j), .long v])).length) Slot.unset).toArray = ls at hl ⊢
  have hl : lv_has ls 5 [(0, .ref o), (1, .int (nI j)), (2, .long v)] := hl
  subst hsz
  have hD := hD0.self (sz := s.heap.size)
  generalize hAe : va_A [(o, .inr (1, [.int w1, .int (nI n), .int (nI k), .int w4, .ref ca, .ref cb, .long z1, .long z2])), (ca, .inl (cA, (600, .inr (.inl f)))), (cb, .inl (cA, (40, .inr (.inl g))))] s.heap.size = A at hD ⊢
  have hA : ∀ q : Nat, s.heap.size ≤ q → A q := fun q h => by rw [← hAe]; exact Or.inr h
  have hS : va_S A s.heap s.heap [] := va_S.rf
  have loop : ∀ (t i : Nat), i + t = j → tq_fd (fun j => tq_leaf (f j)) (tq_leaf v) t i = tq_fd (fun j => tq_leaf (f j)) (tq_leaf v) j 0 → ∀ (H : Heap) (locs : List Loc), va_P (dC, dI) tq_cl [(o, .inr (1, [.int (nI 0), .int (nI n), .int (nI k), .int w4, .ref ca, .ref cb, .long z1, .long z2])), (ca, .inl (cA, (600, .inr (.inl f)))), (cb, .inl (cA, (40, .inr (.inl g))))] H → va_D A [(o, .inr (1, [.int (nI 0), .int (nI n), .int (nI k), .int w4, .ref ca, .ref cb, .long z1, .long z2])), (ca, .inl (cA, (600, .inr (.inl f)))), (cb, .inl (cA, (40, .inr (.inl g))))] → va_S A s.heap H locs → ∀ ls : Array Slot, lv_has ls 5 [(4, .int (nI i)), (0, .ref o), (1, .int (nI j)), (2, .long v)] → W p l e (headSpec qw_M_find ({ frames := 1, cells := 0, slots := 0, locals := 40 })).room s m ([.ref o, .int (nI j), .long v] : List Value).toArray below meth c H locs 0 0 (MQ below (va_Qi (fun r (_ : Unit) => r = tq_fd (fun j => tq_leaf (f j)) (tq_leaf v) j 0) (fun _ t => tq_in (dC, dI) [(o, .inr (1, [.int (nI 0), .int (nI n), .int (nI k), .int w4, .ref ca, .ref cb, .long z1, .long z2])), (ca, .inl (cA, (600, .inr (.inl f)))), (cb, .inl (cA, (40, .inr (.inl g))))] [(cA, .long)] A t) A) ([.ref o, .int (nI j), .long v] : List Value).toArray s 0 0 A) (F0 m 24 ls []) := by
    intro t
    induction t with
    | zero =>
      intro i hi hq H locs hP hD hS ls hl
      refine lv_iload hx hb qd_M_find_24 (lv_at hl 0 rfl) ?_
      refine lv_iload_n hx hb qd_M_find_26 rfl (lv_at hl 2 rfl) ?_
      refine tq_icmp_ge (x := i) (y := j) (tgt := 66) hx hb qd_M_find_27 (by decide) (by omega) (by omega) (fun c9 => ?_) (fun c9 => by omega)
      refine lv_aload_n hx hb qd_M_find_66 rfl (lv_at hl 1 rfl) ?_
      refine va_get (D := (dC, dI)) (ci := 1) (v := .int (nI 0)) (C := RX1) (T := TX1) (N := 8) hx hb hW inX1 hown hK hP 0 rfl rfl 0 (by decide) (hW _ qm_281) (fun _ h9 => h9) rfl qd_M_find_67 ?_
      refine tq_if_le (x := 0) (tgt := 77) hx hb qd_M_find_70 (by decide) (by omega) (fun c9 => ?_) (fun c9 => by omega)
      refine lv_iconst (v := (-1)) hx hb qd_M_find_77 (by decide +kernel) ?_
      exact W.iret hx hb hr (fun t ht hW9 => ⟨⟨_, (), rfl, hq, by rw [ht]; exact hP, va_K.moved hW9.alike hK, hD⟩, hS.F ht⟩) hS.2.2 qd_M_find_78
    | succ t ih =>
      intro i hi hq H locs hP hD hS ls hl
      refine lv_iload hx hb qd_M_find_24 (lv_at hl 0 rfl) ?_
      refine lv_iload_n hx hb qd_M_find_26 rfl (lv_at hl 2 rfl) ?_
      refine tq_icmp_ge (x := i) (y := j) (tgt := 66) hx hb qd_M_find_27 (by decide) (by omega) (by omega) (fun c9 => by omega) (fun c9 => ?_)
      refine lv_aload_n hx hb qd_M_find_30 rfl (lv_at hl 1 rfl) ?_
      refine va_get (D := (dC, dI)) (ci := 1) (v := .int (nI 0)) (C := RX1) (T := TX1) (N := 8) hx hb hW inX1 hown hK hP 0 rfl rfl 0 (by decide) (hW _ qm_281) (fun _ h9 => h9) rfl qd_M_find_31 ?_
      refine tq_if_ne (x := 0) (tgt := 66) hx hb qd_M_find_34 (by decide) (by omega) (fun c9 => by omega) (fun c1 => ?_)
      refine lv_lconst (v := 1) hx hb qd_M_find_37 (by decide) ?_
      refine lv_aload_n hx hb qd_M_find_38 rfl (lv_at hl 1 rfl) ?_
      refine va_get (D := (dC, dI)) (ci := 1) (v := .ref ca) (C := RX1) (T := TX1) (N := 8) hx hb hW inX1 hown hK hP 0 rfl rfl 4 (by decide) (hW _ qm_285) (fun _ h9 => h9) rfl qd_M_find_39 ?_
      refine lv_iload hx hb qd_M_find_42 (lv_at hl 0 rfl) ?_
      refine tq_lald hx hb hK hP 1 0 rfl rfl (j := i) (by omega) (by decide) qd_M_find_44 ?_
      refine vp_callSl (W.runS (As := [.long 1, .long (f i)]) (rest := []) ⟨hx, hb, hml, hown, hW⟩ (ct_M_mix l 1 (f i)) (cwS 2 hW (tq_gS qm_330 qm_331 qm_2 qm_332) rfl rfl rfl (by decide +kernel) ⟨Nat.le_of_ble_eq_true rfl, Nat.le_of_ble_eq_true rfl⟩) ⟨tq_b0, fun U hU hW9 => ⟨rfl, trivial⟩⟩ rfl rfl hl.1 rfl (lv_room (Nat.le_of_ble_eq_true rfl)) qd_M_find_45 ⟨Nat.le_of_ble_eq_true rfl, Nat.le_of_ble_eq_true rfl⟩) (fun r9 e9 => ?_)
      subst e9
      refine lv_lconst (v := 1) hx hb qd_M_find_48 (by decide) ?_
      refine lv_lload_n hx hb qd_M_find_49 rfl (lv_at hl 3 rfl) ?_
      refine vp_callSl (W.runS (As := [.long 1, .long v]) (rest := [.long (tq_mix 1 (f i))]) ⟨hx, hb, hml, hown, hW⟩ (ct_M_mix l 1 v) (cwS 2 hW (tq_gS qm_330 qm_331 qm_2 qm_332) rfl rfl rfl (by decide +kernel) ⟨Nat.le_of_ble_eq_true rfl, Nat.le_of_ble_eq_true rfl⟩) ⟨tq_b0, fun U hU hW9 => ⟨rfl, trivial⟩⟩ rfl rfl hl.1 rfl (lv_room (Nat.le_of_ble_eq_true rfl)) qd_M_find_50 ⟨Nat.le_of_ble_eq_true rfl, Nat.le_of_ble_eq_true rfl⟩) (fun r9 e9 => ?_)
      subst e9
      refine tq_lc_ne (tgt := 60) hx hb qd_M_find_53 qd_M_find_54 (by decide) (fun c9 => ?_) (fun c9 => ?_)
      · have c9 : tq_leaf (f i) ≠ tq_leaf v := c9
        refine lv_iinc (v := (nI (i + 1))) (lv' := [(4, .int (nI (i + 1))), (0, .ref o), (1, .int (nI j)), (2, .long v)]) hx hb qd_M_find_60 hl (k := 0) rfl (nI_1 i) (by decide) rfl (fun ls hl => ?_)
        refine lv_goto (tgt := 24) hx hb qd_M_find_63 (by decide) ?_
        exact ih (i + 1) (by omega) (by rw [← hq]; show _ = (if tq_leaf (f i) = tq_leaf v then nI i else _); rw [if_neg c9]) _ _ hP hD hS ls (lv_sub hl [0, 1, 2, 3] rfl)
      · have c9 : tq_leaf (f i) = tq_leaf v := c9
        refine lv_iload hx hb qd_M_find_57 (lv_at hl 0 rfl) ?_
        exact W.iret hx hb hr (fun t ht hW9 => ⟨⟨_, (), rfl, (by rw [← hq]; show _ = (if tq_leaf (f i) = tq_leaf v then nI i else _); rw [if_pos c9]), by rw [ht]; exact hP, va_K.moved hW9.alike hK, hD⟩, hS.F ht⟩) hS.2.2 qd_M_find_59
  refine lv_aload_n hx hb qd_M_find_0 rfl (lv_at hl 0 rfl) ?_
  refine lv_iload_n hx hb qd_M_find_1 rfl (lv_at hl 1 rfl) ?_
  refine tq_if_lt (x := j) (tgt := 13) hx hb qd_M_find_2 (by decide) (by omega) ?_
  refine lv_iload_n hx hb qd_M_find_5 rfl (lv_at hl 1 rfl) ?_
  refine lv_aload_n hx hb qd_M_find_6 rfl (lv_at hl 0 rfl) ?_
  refine va_get (D := (dC, dI)) (ci := 1) (v := .int (nI n)) (C := RX1) (T := TX1) (N := 8) hx hb hW inX1 hown hK hP 0 rfl rfl 1 (by decide) (hW _ qm_282) (fun _ h9 => h9) rfl qd_M_find_7 ?_
  refine tq_icmp_le (x := j) (y := n) (tgt := 17) hx hb qd_M_find_10 (by decide) (by omega) (by omega) (fun c9 => ?_) (fun c9 => by omega)
  refine lv_iconst (v := nI 0) hx hb qd_M_find_17 (by decide +kernel) ?_
  refine va_put (D := (dC, dI)) (ci := 1) (v := .int (nI 0)) (ty := .int) (C := RX1) (T := TX1) (N := 8) hx hb hW inX1 tyX1 tyX1_ok nmX1 hown hK hP hD hS 0 rfl rfl 0 (by decide) (hW _ qm_281) (fun _ h9 => h9) rfl (by decide +kernel) rfl rfl (Nat.le_of_ble_eq_true rfl) qd_M_find_18 (fun H locs hP hD hS => ?_)
  have hP : va_P (dC, dI) tq_cl [(o, .inr (1, [.int (nI 0), .int (nI n), .int (nI k), .int w4, .ref ca, .ref cb, .long z1, .long z2])), (ca, .inl (cA, (600, .inr (.inl f)))), (cb, .inl (cA, (40, .inr (.inl g))))] H := hP
  have hD : va_D A [(o, .inr (1, [.int (nI 0), .int (nI n), .int (nI k), .int w4, .ref ca, .ref cb, .long z1, .long z2])), (ca, .inl (cA, (600, .inr (.inl f)))), (cb, .inl (cA, (40, .inr (.inl g))))] := hD
  refine lv_iconst (v := nI 0) hx hb qd_M_find_21 (by decide +kernel) ?_
  refine lv_istore (lv' := [(4, .int (nI 0)), (0, .ref o), (1, .int (nI j)), (2, .long v)]) hx hb qd_M_find_22 hl (by decide) rfl (fun ls hl => ?_)
  exact loop j 0 (Nat.zero_add j) rfl _ _ hP hD hS ls (lv_sub hl [0, 1, 2, 3] rfl)
set_option maxHeartbeats 4000000 in
set_option maxRecDepth 100000 in
theorem ct_M_find_no (l : Launch) (dC : Nat → ClassId) (dI : Nat → Nat → Nat) (o ca cb : Nat) (cA : ClassId) (w1 : Int32) (n k : Nat) (w4 : Int32) (z1 z2 : Int64) (f g : Nat → Int64) (sz : Nat) (q : Int32) (v : Int64) (hbad : q < 0 ∨ nI n < q) : Met l qy_M_find qw_M_find ({ frames := 0, cells := 0, slots := 0, locals := 0 }) (va_Pc [.ref o, .int q, .long v] (tq_rw (dC, dI) [(o, .inr (1, [.int w1, .int (nI n), .int (nI k), .int w4, .ref ca, .ref cb, .long z1, .long z2])), (ca, .inl (cA, (600, .inr (.inl f)))), (cb, .inl (cA, (40, .inr (.inl g))))] [(cA, .long)] sz)) (va_Qi (fun r (_ : Unit) => r = nI 0) (fun _ t => tq_in (dC, dI) [(o, .inr (1, [.int (nI 1), .int (nI n), .int (nI k), .int w4, .ref ca, .ref cb, .long z1, .long z2])), (ca, .inl (cA, (600, .inr (.inl f)))), (cb, .inl (cA, (40, .inr (.inl g))))] [(cA, .long)] (va_A [(o, .inr (1, [.int w1, .int (nI n), .int (nI k), .int w4, .ref ca, .ref cb, .long z1, .long z2])), (ca, .inl (cA, (600, .inr (.inl f)))), (cb, .inl (cA, (40, .inr (.inl g))))] sz) t) (va_A [(o, .inr (1, [.int w1, .int (nI n), .int (nI k), .int w4, .ref ca, .ref cb, .long z1, .long z2])), (ca, .inl (cA, (600, .inr (.inl f)))), (cb, .inl (cA, (40, .inr (.inl g))))] sz)) 0 0 (va_A [(o, .inr (1, [.int w1, .int (nI n), .int (nI k), .int w4, .ref ca, .ref cb, .long z1, .long z2])), (ca, .inl (cA, (600, .inr (.inl f)))), (cb, .inl (cA, (40, .inr (.inl g))))] sz) := by
  refine Met.ofW (cc := qc_M_find) (maxL := 5) (ret := (some .int)) (by decide) rfl ?_
  intro p e s m args below meth c s₁ B hml hv
  obtain ⟨rfl, hsz, hP, hK, hD0⟩ := hv
  have hx := B.exec
  have hb := B.bytes
  have hr := B.returns
  have hts := atoms_spec (ws := qw_M_find) B.pre
  have hW : ∀ w ∈ tq_W, w.before ([.ref o, .int q, .long v] : List Value).toArray s = true := fun w h => hts w (List.mem_cons_of_mem _ h)
  have hown : s.vm.findClass RX1 = some m.cls := findClass_of_methodNamed B.named
  have hlocks := B.notSynchronized
  have hl := lv_entry ([.ref o, .int q, .long v]) (n := 5) (Nat.le_of_ble_eq_true rfl)
  rw [lg_entry_eq]
  generalize (lg_sl ([.ref o, .int q, .long v]) ++ List.replicate (5 - (lg_sl ([.ref o, .int q, .long v])).length) Slot.unset).toArray = ls at hl ⊢
  have hl : lv_has ls 5 [(0, .ref o), (1, .int q), (2, .long v)] := hl
  subst hsz
  have hD := hD0.self (sz := s.heap.size)
  generalize hAe : va_A [(o, .inr (1, [.int w1, .int (nI n), .int (nI k), .int w4, .ref ca, .ref cb, .long z1, .long z2])), (ca, .inl (cA, (600, .inr (.inl f)))), (cb, .inl (cA, (40, .inr (.inl g))))] s.heap.size = A at hD ⊢
  have hA : ∀ q : Nat, s.heap.size ≤ q → A q := fun q h => by rw [← hAe]; exact Or.inr h
  have hS : va_S A s.heap s.heap [] := va_S.rf
  refine lv_aload_n hx hb qd_M_find_0 rfl (lv_at hl 0 rfl) ?_
  refine lv_iload_n hx hb qd_M_find_1 rfl (lv_at hl 1 rfl) ?_
  refine lv_if_lt (tgt := 13) hx hb qd_M_find_2 (by decide) (fun c1 => ?_) (fun c1 => ?_)
  · refine lv_iconst (v := nI 1) hx hb qd_M_find_13 (by decide +kernel) ?_
    refine lv_goto (tgt := 18) hx hb qd_M_find_14 (by decide) ?_
    refine va_put (D := (dC, dI)) (ci := 1) (v := .int (nI 1)) (ty := .int) (C := RX1) (T := TX1) (N := 8) hx hb hW inX1 tyX1 tyX1_ok nmX1 hown hK hP hD hS 0 rfl rfl 0 (by decide) (hW _ qm_281) (fun _ h9 => h9) rfl (by decide +kernel) rfl rfl (Nat.le_of_ble_eq_true rfl) qd_M_find_18 (fun H locs hP hD hS => ?_)
    have hP : va_P (dC, dI) tq_cl [(o, .inr (1, [.int (nI 1), .int (nI n), .int (nI k), .int w4, .ref ca, .ref cb, .long z1, .long z2])), (ca, .inl (cA, (600, .inr (.inl f)))), (cb, .inl (cA, (40, .inr (.inl g))))] H := hP
    have hD : va_D A [(o, .inr (1, [.int (nI 1), .int (nI n), .int (nI k), .int w4, .ref ca, .ref cb, .long z1, .long z2])), (ca, .inl (cA, (600, .inr (.inl f)))), (cb, .inl (cA, (40, .inr (.inl g))))] := hD
    refine lv_iconst (v := nI 0) hx hb qd_M_find_21 (by decide +kernel) ?_
    refine lv_istore (lv' := [(4, .int (nI 0)), (0, .ref o), (1, .int q), (2, .long v)]) hx hb qd_M_find_22 hl (by decide) rfl (fun ls hl => ?_)
    refine lv_iload hx hb qd_M_find_24 (lv_at hl 0 rfl) ?_
    refine lv_iload_n hx hb qd_M_find_26 rfl (lv_at hl 2 rfl) ?_
    refine lv_icmp_ge (tgt := 66) hx hb qd_M_find_27 (by decide) (fun c3 => ?_) (fun c3 => ?_)
    · refine lv_aload_n hx hb qd_M_find_66 rfl (lv_at hl 1 rfl) ?_
      refine va_get (D := (dC, dI)) (ci := 1) (v := .int (nI 1)) (C := RX1) (T := TX1) (N := 8) hx hb hW inX1 hown hK hP 0 rfl rfl 0 (by decide) (hW _ qm_281) (fun _ h9 => h9) rfl qd_M_find_67 ?_
      refine tq_if_le (x := 1) (tgt := 77) hx hb qd_M_find_70 (by decide) (by omega) (fun c9 => by omega) (fun c9 => ?_)
      refine lv_iconst (v := nI 0) hx hb qd_M_find_73 (by decide +kernel) ?_
      refine lv_goto (tgt := 78) hx hb qd_M_find_74 (by decide) ?_
      exact W.iret hx hb hr (fun t ht hW9 => ⟨⟨_, (), rfl, rfl, by rw [ht]; exact hP, va_K.moved hW9.alike hK, hD⟩, hS.F ht⟩) hS.2.2 qd_M_find_78
    · refine lv_aload_n hx hb qd_M_find_30 rfl (lv_at hl 1 rfl) ?_
      refine va_get (D := (dC, dI)) (ci := 1) (v := .int (nI 1)) (C := RX1) (T := TX1) (N := 8) hx hb hW inX1 hown hK hP 0 rfl rfl 0 (by decide) (hW _ qm_281) (fun _ h9 => h9) rfl qd_M_find_31 ?_
      refine tq_if_ne (x := 1) (tgt := 66) hx hb qd_M_find_34 (by decide) (by omega) (fun c4 => ?_) (fun c9 => by omega)
      refine lv_aload_n hx hb qd_M_find_66 rfl (lv_at hl 1 rfl) ?_
      refine va_get (D := (dC, dI)) (ci := 1) (v := .int (nI 1)) (C := RX1) (T := TX1) (N := 8) hx hb hW inX1 hown hK hP 0 rfl rfl 0 (by decide) (hW _ qm_281) (fun _ h9 => h9) rfl qd_M_find_67 ?_
      refine tq_if_le (x := 1) (tgt := 77) hx hb qd_M_find_70 (by decide) (by omega) (fun c9 => by omega) (fun c9 => ?_)
      refine lv_iconst (v := nI 0) hx hb qd_M_find_73 (by decide +kernel) ?_
      refine lv_goto (tgt := 78) hx hb qd_M_find_74 (by decide) ?_
      exact W.iret hx hb hr (fun t ht hW9 => ⟨⟨_, (), rfl, rfl, by rw [ht]; exact hP, va_K.moved hW9.alike hK, hD⟩, hS.F ht⟩) hS.2.2 qd_M_find_78
  · have h9 : ¬ q ≤ nI n := tq_nle (hbad.elim (fun h => absurd h c1) id)
    refine lv_iload_n hx hb qd_M_find_5 rfl (lv_at hl 1 rfl) ?_
    refine lv_aload_n hx hb qd_M_find_6 rfl (lv_at hl 0 rfl) ?_
    refine va_get (D := (dC, dI)) (ci := 1) (v := .int (nI n)) (C := RX1) (T := TX1) (N := 8) hx hb hW inX1 hown hK hP 0 rfl rfl 1 (by decide) (hW _ qm_282) (fun _ h9 => h9) rfl qd_M_find_7 ?_
    refine lv_icmp_le (tgt := 17) hx hb qd_M_find_10 (by decide) (fun c9 => absurd c9 (h9)) (fun c2 => ?_)
    refine lv_iconst (v := nI 1) hx hb qd_M_find_13 (by decide +kernel) ?_
    refine lv_goto (tgt := 18) hx hb qd_M_find_14 (by decide) ?_
    refine va_put (D := (dC, dI)) (ci := 1) (v := .int (nI 1)) (ty := .int) (C := RX1) (T := TX1) (N := 8) hx hb hW inX1 tyX1 tyX1_ok nmX1 hown hK hP hD hS 0 rfl rfl 0 (by decide) (hW _ qm_281) (fun _ h9 => h9) rfl (by decide +kernel) rfl rfl (Nat.le_of_ble_eq_true rfl) qd_M_find_18 (fun H locs hP hD hS => ?_)
    have hP : va_P (dC, dI) tq_cl [(o, .inr (1, [.int (nI 1), .int (nI n), .int (nI k), .int w4, .ref ca, .ref cb, .long z1, .long z2])), (ca, .inl (cA, (600, .inr (.inl f)))), (cb, .inl (cA, (40, .inr (.inl g))))] H := hP
    have hD : va_D A [(o, .inr (1, [.int (nI 1), .int (nI n), .int (nI k), .int w4, .ref ca, .ref cb, .long z1, .long z2])), (ca, .inl (cA, (600, .inr (.inl f)))), (cb, .inl (cA, (40, .inr (.inl g))))] := hD
    refine lv_iconst (v := nI 0) hx hb qd_M_find_21 (by decide +kernel) ?_
    refine lv_istore (lv' := [(4, .int (nI 0)), (0, .ref o), (1, .int q), (2, .long v)]) hx hb qd_M_find_22 hl (by decide) rfl (fun ls hl => ?_)
    refine lv_iload hx hb qd_M_find_24 (lv_at hl 0 rfl) ?_
    refine lv_iload_n hx hb qd_M_find_26 rfl (lv_at hl 2 rfl) ?_
    refine lv_icmp_ge (tgt := 66) hx hb qd_M_find_27 (by decide) (fun c3 => ?_) (fun c3 => ?_)
    · refine lv_aload_n hx hb qd_M_find_66 rfl (lv_at hl 1 rfl) ?_
      refine va_get (D := (dC, dI)) (ci := 1) (v := .int (nI 1)) (C := RX1) (T := TX1) (N := 8) hx hb hW inX1 hown hK hP 0 rfl rfl 0 (by decide) (hW _ qm_281) (fun _ h9 => h9) rfl qd_M_find_67 ?_
      refine tq_if_le (x := 1) (tgt := 77) hx hb qd_M_find_70 (by decide) (by omega) (fun c9 => by omega) (fun c9 => ?_)
      refine lv_iconst (v := nI 0) hx hb qd_M_find_73 (by decide +kernel) ?_
      refine lv_goto (tgt := 78) hx hb qd_M_find_74 (by decide) ?_
      exact W.iret hx hb hr (fun t ht hW9 => ⟨⟨_, (), rfl, rfl, by rw [ht]; exact hP, va_K.moved hW9.alike hK, hD⟩, hS.F ht⟩) hS.2.2 qd_M_find_78
    · refine lv_aload_n hx hb qd_M_find_30 rfl (lv_at hl 1 rfl) ?_
      refine va_get (D := (dC, dI)) (ci := 1) (v := .int (nI 1)) (C := RX1) (T := TX1) (N := 8) hx hb hW inX1 hown hK hP 0 rfl rfl 0 (by decide) (hW _ qm_281) (fun _ h9 => h9) rfl qd_M_find_31 ?_
      refine tq_if_ne (x := 1) (tgt := 66) hx hb qd_M_find_34 (by decide) (by omega) (fun c4 => ?_) (fun c9 => by omega)
      refine lv_aload_n hx hb qd_M_find_66 rfl (lv_at hl 1 rfl) ?_
      refine va_get (D := (dC, dI)) (ci := 1) (v := .int (nI 1)) (C := RX1) (T := TX1) (N := 8) hx hb hW inX1 hown hK hP 0 rfl rfl 0 (by decide) (hW _ qm_281) (fun _ h9 => h9) rfl qd_M_find_67 ?_
      refine tq_if_le (x := 1) (tgt := 77) hx hb qd_M_find_70 (by decide) (by omega) (fun c9 => by omega) (fun c9 => ?_)
      refine lv_iconst (v := nI 0) hx hb qd_M_find_73 (by decide +kernel) ?_
      refine lv_goto (tgt := 78) hx hb qd_M_find_74 (by decide) ?_
      exact W.iret hx hb hr (fun t ht hW9 => ⟨⟨_, (), rfl, rfl, by rw [ht]; exact hP, va_K.moved hW9.alike hK, hD⟩, hS.F ht⟩) hS.2.2 qd_M_find_78
set_option maxHeartbeats 4000000 in
set_option maxRecDepth 100000 in
theorem ct_M_count (l : Launch) (dC : Nat → ClassId) (dI : Nat → Nat → Nat) (o ca cb : Nat) (cA : ClassId) (w1 : Int32) (n k : Nat) (w4 : Int32) (z1 z2 : Int64) (f g : Nat → Int64) (sz : Nat) (q : Int32) (hn : n ≤ 600) : Met l qy_M_count qw_M_count ({ frames := 0, cells := 0, slots := 0, locals := 0 }) (va_Pc [.ref o, .int q] (tq_rw (dC, dI) [(o, .inr (1, [.int w1, .int (nI n), .int (nI k), .int w4, .ref ca, .ref cb, .long z1, .long z2])), (ca, .inl (cA, (600, .inr (.inl f)))), (cb, .inl (cA, (40, .inr (.inl g))))] [(cA, .long)] sz)) (va_Qi (fun r (_ : Unit) => r = tq_ct n k q) (fun _ t => tq_in (dC, dI) [(o, .inr (1, [.int (nI 0), .int (nI n), .int (nI k), .int w4, .ref ca, .ref cb, .long z1, .long z2])), (ca, .inl (cA, (600, .inr (.inl f)))), (cb, .inl (cA, (40, .inr (.inl g))))] [(cA, .long)] (va_A [(o, .inr (1, [.int w1, .int (nI n), .int (nI k), .int w4, .ref ca, .ref cb, .long z1, .long z2])), (ca, .inl (cA, (600, .inr (.inl f)))), (cb, .inl (cA, (40, .inr (.inl g))))] sz) t) (va_A [(o, .inr (1, [.int w1, .int (nI n), .int (nI k), .int w4, .ref ca, .ref cb, .long z1, .long z2])), (ca, .inl (cA, (600, .inr (.inl f)))), (cb, .inl (cA, (40, .inr (.inl g))))] sz)) 0 0 (va_A [(o, .inr (1, [.int w1, .int (nI n), .int (nI k), .int w4, .ref ca, .ref cb, .long z1, .long z2])), (ca, .inl (cA, (600, .inr (.inl f)))), (cb, .inl (cA, (40, .inr (.inl g))))] sz) := by
  refine Met.ofW (cc := qc_M_count) (maxL := 4) (ret := (some .int)) (by decide) rfl ?_
  intro p e s m args below meth c s₁ B hml hv
  obtain ⟨rfl, hsz, hP, hK, hD0⟩ := hv
  have hx := B.exec
  have hb := B.bytes
  have hr := B.returns
  have hts := atoms_spec (ws := qw_M_count) B.pre
  have hW : ∀ w ∈ tq_W, w.before ([.ref o, .int q] : List Value).toArray s = true := fun w h => hts w (List.mem_cons_of_mem _ h)
  have hown : s.vm.findClass RX1 = some m.cls := findClass_of_methodNamed B.named
  have hlocks := B.notSynchronized
  have hl := lv_entry ([.ref o, .int q]) (n := 4) (Nat.le_of_ble_eq_true rfl)
  rw [lg_entry_eq]
  generalize (lg_sl ([.ref o, .int q]) ++ List.replicate (4 - (lg_sl ([.ref o, .int q])).length) Slot.unset).toArray = ls at hl ⊢
  have hl : lv_has ls 4 [(0, .ref o), (1, .int q)] := hl
  subst hsz
  have hD := hD0.self (sz := s.heap.size)
  generalize hAe : va_A [(o, .inr (1, [.int w1, .int (nI n), .int (nI k), .int w4, .ref ca, .ref cb, .long z1, .long z2])), (ca, .inl (cA, (600, .inr (.inl f)))), (cb, .inl (cA, (40, .inr (.inl g))))] s.heap.size = A at hD ⊢
  have hA : ∀ q : Nat, s.heap.size ≤ q → A q := fun q h => by rw [← hAe]; exact Or.inr h
  have hS : va_S A s.heap s.heap [] := va_S.rf
  have loop : q = nI 2 → ∀ (t y i : Nat), y < 2 ^ t → y ≤ 600 → i + tq_pf t y = tq_pop n → ∀ (H : Heap) (locs : List Loc), va_P (dC, dI) tq_cl [(o, .inr (1, [.int (nI 0), .int (nI n), .int (nI k), .int w4, .ref ca, .ref cb, .long z1, .long z2])), (ca, .inl (cA, (600, .inr (.inl f)))), (cb, .inl (cA, (40, .inr (.inl g))))] H → va_D A [(o, .inr (1, [.int (nI 0), .int (nI n), .int (nI k), .int w4, .ref ca, .ref cb, .long z1, .long z2])), (ca, .inl (cA, (600, .inr (.inl f)))), (cb, .inl (cA, (40, .inr (.inl g))))] → va_S A s.heap H locs → ∀ ls : Array Slot, lv_has ls 4 [(3, .int (nI y)), (2, .int (nI i)), (0, .ref o)] → W p l e (headSpec qw_M_count ({ frames := 0, cells := 0, slots := 0, locals := 0 })).room s m ([.ref o, .int q] : List Value).toArray below meth c H locs 0 0 (MQ below (va_Qi (fun r (_ : Unit) => r = tq_ct n k q) (fun _ t => tq_in (dC, dI) [(o, .inr (1, [.int (nI 0), .int (nI n), .int (nI k), .int w4, .ref ca, .ref cb, .long z1, .long z2])), (ca, .inl (cA, (600, .inr (.inl f)))), (cb, .inl (cA, (40, .inr (.inl g))))] [(cA, .long)] A t) A) ([.ref o, .int q] : List Value).toArray s 0 0 A) (F0 m 38 ls []) := by
    intro hq2 t
    induction t with
    | zero =>
      intro y i hy hy6 hi H locs hP hD hS ls hl
      refine lv_iload_n hx hb qd_M_count_38 rfl (lv_at hl 0 rfl) ?_
      refine tq_if_le (x := y) (tgt := 55) hx hb qd_M_count_39 (by decide) (by omega) (fun c9 => ?_) (fun c9 => by omega)
      refine lv_iload_n hx hb qd_M_count_55 rfl (lv_at hl 1 rfl) ?_
      exact W.iret hx hb hr (fun t ht hW9 => ⟨⟨_, (), rfl, (by rw [hq2]; show nI i = nI (tq_pop n); rw [← hi]; rfl), by rw [ht]; exact hP, va_K.moved hW9.alike hK, hD⟩, hS.F ht⟩) hS.2.2 qd_M_count_56
    | succ t ih =>
      intro y i hy hy6 hi H locs hP hD hS ls hl
      refine lv_iload_n hx hb qd_M_count_38 rfl (lv_at hl 0 rfl) ?_
      refine tq_if_le (x := y) (tgt := 55) hx hb qd_M_count_39 (by decide) (by omega) (fun c9 => ?_) (fun c9 => ?_)
      · subst c9
        refine lv_iload_n hx hb qd_M_count_55 rfl (lv_at hl 1 rfl) ?_
        exact W.iret hx hb hr (fun t ht hW9 => ⟨⟨_, (), rfl, (by rw [hq2]; show nI i = nI (tq_pop n); rw [← hi]; congr 1; rw [tq_pf_0]; rfl), by rw [ht]; exact hP, va_K.moved hW9.alike hK, hD⟩, hS.F ht⟩) hS.2.2 qd_M_count_56
      · refine lv_iload_n hx hb qd_M_count_42 rfl (lv_at hl 1 rfl) ?_
        refine lv_iload_n hx hb qd_M_count_43 rfl (lv_at hl 0 rfl) ?_
        refine lv_iconst (v := nI 2) hx hb qd_M_count_44 (by decide +kernel) ?_
        refine lv_irem hx hb qd_M_count_45 (by decide +kernel) ?_
        refine tq_ti (y := nI (y % 2)) (pk_rem (by omega) (by omega) (by omega)) ?_
        refine lv_iadd hx hb qd_M_count_46 ?_
        refine tq_ti (y := nI (i + y % 2)) (nI_add _ _) ?_
        refine lv_istore_n (lv' := [(2, .int (nI (i + y % 2))), (3, .int (nI y)), (0, .ref o)]) hx hb qd_M_count_47 rfl hl (by decide) rfl (fun ls hl => ?_)
        refine lv_iload_n hx hb qd_M_count_48 rfl (lv_at hl 1 rfl) ?_
        refine lv_iconst (v := nI 2) hx hb qd_M_count_49 (by decide +kernel) ?_
        refine lv_idiv hx hb qd_M_count_50 (by decide +kernel) ?_
        refine tq_ti (y := nI (y / 2)) (pk_div (by omega) (by omega) (by omega)) ?_
        refine lv_istore_n (lv' := [(3, .int (nI (y / 2))), (2, .int (nI (i + y % 2))), (0, .ref o)]) hx hb qd_M_count_51 rfl hl (by decide) rfl (fun ls hl => ?_)
        refine lv_goto (tgt := 38) hx hb qd_M_count_52 (by decide) ?_
        exact ih (y / 2) (i + y % 2) (by rw [Nat.pow_succ] at hy; omega) (by omega) (by rw [← hi]; show _ = i + (y % 2 + tq_pf t (y / 2)); omega) _ _ hP hD hS ls (lv_sub hl [0, 1, 2] rfl)
  refine lv_aload_n hx hb qd_M_count_0 rfl (lv_at hl 0 rfl) ?_
  refine lv_iconst (v := nI 0) hx hb qd_M_count_1 (by decide +kernel) ?_
  refine va_put (D := (dC, dI)) (ci := 1) (v := .int (nI 0)) (ty := .int) (C := RX1) (T := TX1) (N := 8) hx hb hW inX1 tyX1 tyX1_ok nmX1 hown hK hP hD hS 0 rfl rfl 0 (by decide) (hW _ qm_281) (fun _ h9 => h9) rfl (by decide +kernel) rfl rfl (Nat.le_of_ble_eq_true rfl) qd_M_count_2 (fun H locs hP hD hS => ?_)
  have hP : va_P (dC, dI) tq_cl [(o, .inr (1, [.int (nI 0), .int (nI n), .int (nI k), .int w4, .ref ca, .ref cb, .long z1, .long z2])), (ca, .inl (cA, (600, .inr (.inl f)))), (cb, .inl (cA, (40, .inr (.inl g))))] H := hP
  have hD : va_D A [(o, .inr (1, [.int (nI 0), .int (nI n), .int (nI k), .int w4, .ref ca, .ref cb, .long z1, .long z2])), (ca, .inl (cA, (600, .inr (.inl f)))), (cb, .inl (cA, (40, .inr (.inl g))))] := hD
  refine lv_iload_n hx hb qd_M_count_5 rfl (lv_at hl 1 rfl) ?_
  refine lv_if_ne (tgt := 14) hx hb qd_M_count_6 (by decide) (fun c0 => ?_) (fun c0 => ?_)
  · refine lv_iload_n hx hb qd_M_count_14 rfl (lv_at hl 1 rfl) ?_
    refine lv_iconst (v := nI 1) hx hb qd_M_count_15 (by decide +kernel) ?_
    refine lv_icmp_ne (tgt := 24) hx hb qd_M_count_16 (by decide) (fun c1 => ?_) (fun c1 => ?_)
    · refine lv_iload_n hx hb qd_M_count_24 rfl (lv_at hl 1 rfl) ?_
      refine lv_iconst (v := nI 2) hx hb qd_M_count_25 (by decide +kernel) ?_
      refine lv_icmp_eq (tgt := 31) hx hb qd_M_count_26 (by decide) (fun c2 => ?_) (fun c2 => ?_)
      · refine lv_iconst (v := nI 0) hx hb qd_M_count_31 (by decide +kernel) ?_
        refine lv_istore_n (lv' := [(2, .int (nI 0)), (0, .ref o), (1, .int q)]) hx hb qd_M_count_32 rfl hl (by decide) rfl (fun ls hl => ?_)
        refine lv_aload_n hx hb qd_M_count_33 rfl (lv_at hl 1 rfl) ?_
        refine va_get (D := (dC, dI)) (ci := 1) (v := .int (nI n)) (C := RX1) (T := TX1) (N := 8) hx hb hW inX1 hown hK hP 0 rfl rfl 1 (by decide) (hW _ qm_282) (fun _ h9 => h9) rfl qd_M_count_34 ?_
        refine lv_istore_n (lv' := [(3, .int (nI n)), (2, .int (nI 0)), (0, .ref o), (1, .int q)]) hx hb qd_M_count_37 rfl hl (by decide) rfl (fun ls hl => ?_)
        exact loop c2 10 n 0 (by omega) hn (Nat.zero_add _) _ _ hP hD hS ls (lv_sub hl [0, 1, 2] rfl)
      · have c1 : ¬ q = 1 := c1
        have c2 : ¬ q = 2 := c2
        refine lv_iconst (v := (-1)) hx hb qd_M_count_29 (by decide +kernel) ?_
        exact W.iret hx hb hr (fun t ht hW9 => ⟨⟨_, (), rfl, (by unfold tq_ct; rw [if_neg c0, if_neg c1, if_neg c2]), by rw [ht]; exact hP, va_K.moved hW9.alike hK, hD⟩, hS.F ht⟩) hS.2.2 qd_M_count_30
    · have c1 : q = 1 := c1
      refine lv_aload_n hx hb qd_M_count_19 rfl (lv_at hl 0 rfl) ?_
      refine va_get (D := (dC, dI)) (ci := 1) (v := .int (nI k)) (C := RX1) (T := TX1) (N := 8) hx hb hW inX1 hown hK hP 0 rfl rfl 2 (by decide) (hW _ qm_283) (fun _ h9 => h9) rfl qd_M_count_20 ?_
      exact W.iret hx hb hr (fun t ht hW9 => ⟨⟨_, (), rfl, (by unfold tq_ct; rw [if_neg c0, if_pos c1]), by rw [ht]; exact hP, va_K.moved hW9.alike hK, hD⟩, hS.F ht⟩) hS.2.2 qd_M_count_23
  · refine lv_aload_n hx hb qd_M_count_9 rfl (lv_at hl 0 rfl) ?_
    refine va_get (D := (dC, dI)) (ci := 1) (v := .int (nI n)) (C := RX1) (T := TX1) (N := 8) hx hb hW inX1 hown hK hP 0 rfl rfl 1 (by decide) (hW _ qm_282) (fun _ h9 => h9) rfl qd_M_count_10 ?_
    exact W.iret hx hb hr (fun t ht hW9 => ⟨⟨_, (), rfl, (by unfold tq_ct; rw [if_pos c0]), by rw [ht]; exact hP, va_K.moved hW9.alike hK, hD⟩, hS.F ht⟩) hS.2.2 qd_M_count_13
end
section
set_option maxHeartbeats 4000000 in
set_option maxRecDepth 100000 in
theorem ct_M_put (l : Launch) (dC : Nat → ClassId) (dI : Nat → Nat → Nat) (o ca cb : Nat) (cA : ClassId) (w1 : Int32) (n k : Nat) (w4 : Int32) (z1 z2 : Int64) (f g : Nat → Int64) (sz : Nat) (v : Int64) (hk : k < 40) : Met l qy_M_put qw_M_put ({ frames := 0, cells := 0, slots := 0, locals := 0 }) (va_Pc [.ref o, .long v] (tq_rw (dC, dI) [(o, .inr (1, [.int w1, .int (nI n), .int (nI k), .int w4, .ref ca, .ref cb, .long z1, .long z2])), (ca, .inl (cA, (600, .inr (.inl f)))), (cb, .inl (cA, (40, .inr (.inl g))))] [(cA, .long)] sz)) (va_Qv (fun _ : Unit => True) (fun _ t => tq_in (dC, dI) [(o, .inr (1, [.int w1, .int (nI n), .int (nI (k + 1)), .int w4, .ref ca, .ref cb, .long z1, .long z2])), (ca, .inl (cA, (600, .inr (.inl f)))), (cb, .inl (cA, (40, .inr (.inl ((vp_updL g k v))))))] [(cA, .long)] (va_A [(o, .inr (1, [.int w1, .int (nI n), .int (nI k), .int w4, .ref ca, .ref cb, .long z1, .long z2])), (ca, .inl (cA, (600, .inr (.inl f)))), (cb, .inl (cA, (40, .inr (.inl g))))] sz) t) (va_A [(o, .inr (1, [.int w1, .int (nI n), .int (nI k), .int w4, .ref ca, .ref cb, .long z1, .long z2])), (ca, .inl (cA, (600, .inr (.inl f)))), (cb, .inl (cA, (40, .inr (.inl g))))] sz)) 0 0 (va_A [(o, .inr (1, [.int w1, .int (nI n), .int (nI k), .int w4, .ref ca, .ref cb, .long z1, .long z2])), (ca, .inl (cA, (600, .inr (.inl f)))), (cb, .inl (cA, (40, .inr (.inl g))))] sz) := by
  refine Met.ofW (cc := qc_M_put) (maxL := 3) (ret := none) (by decide) rfl ?_
  intro p e s m args below meth c s₁ B hml hv
  obtain ⟨rfl, hsz, hP, hK, hD0⟩ := hv
  have hx := B.exec
  have hb := B.bytes
  have hr := B.returns
  have hts := atoms_spec (ws := qw_M_put) B.pre
  have hW : ∀ w ∈ tq_W, w.before ([.ref o, .long v] : List Value).toArray s = true := fun w h => hts w (List.mem_cons_of_mem _ h)
  have hown : s.vm.findClass RX1 = some m.cls := findClass_of_methodNamed B.named
  have hlocks := B.notSynchronized
  have hl := lv_entry ([.ref o, .long v]) (n := 3) (Nat.le_of_ble_eq_true rfl)
  rw [lg_entry_eq]
  generalize (lg_sl ([.ref o, .long v]) ++ List.replicate (3 - (lg_sl ([.ref o, .long v])).length) Slot.unset).toArray = ls at hl ⊢
  have hl : lv_has ls 3 [(0, .ref o), (1, .long v)] := hl
  subst hsz
  have hD := hD0.self (sz := s.heap.size)
  generalize hAe : va_A [(o, .inr (1, [.int w1, .int (nI n), .int (nI k), .int w4, .ref ca, .ref cb, .long z1, .long z2])), (ca, .inl (cA, (600, .inr (.inl f)))), (cb, .inl (cA, (40, .inr (.inl g))))] s.heap.size = A at hD ⊢
  have hA : ∀ q : Nat, s.heap.size ≤ q → A q := fun q h => by rw [← hAe]; exact Or.inr h
  have hS : va_S A s.heap s.heap [] := va_S.rf
  refine lv_aload_n hx hb qd_M_put_0 rfl (lv_at hl 0 rfl) ?_
  refine va_get (D := (dC, dI)) (ci := 1) (v := .ref cb) (C := RX1) (T := TX1) (N := 8) hx hb hW inX1 hown hK hP 0 rfl rfl 5 (by decide) (hW _ qm_286) (fun _ h9 => h9) rfl qd_M_put_1 ?_
  refine lv_aload_n hx hb qd_M_put_4 rfl (lv_at hl 0 rfl) ?_
  refine va_get (D := (dC, dI)) (ci := 1) (v := .int (nI k)) (C := RX1) (T := TX1) (N := 8) hx hb hW inX1 hown hK hP 0 rfl rfl 2 (by decide) (hW _ qm_283) (fun _ h9 => h9) rfl qd_M_put_5 ?_
  refine lv_lload_n hx hb qd_M_put_8 rfl (lv_at hl 1 rfl) ?_
  refine tq_last hx hb hK hP hD hS 2 0 rfl rfl (j := k) (x := v) (by omega) (by decide) qd_M_put_9 (fun H locs hP hD hS => ?_)
  have hP : va_P (dC, dI) tq_cl [(o, .inr (1, [.int w1, .int (nI n), .int (nI k), .int w4, .ref ca, .ref cb, .long z1, .long z2])), (ca, .inl (cA, (600, .inr (.inl f)))), (cb, .inl (cA, (40, .inr (.inl (vp_updL g k v)))))] H := hP
  have hD : va_D A [(o, .inr (1, [.int w1, .int (nI n), .int (nI k), .int w4, .ref ca, .ref cb, .long z1, .long z2])), (ca, .inl (cA, (600, .inr (.inl f)))), (cb, .inl (cA, (40, .inr (.inl (vp_updL g k v)))))] := hD
  refine lv_aload_n hx hb qd_M_put_10 rfl (lv_at hl 0 rfl) ?_
  refine lv_dup hx hb qd_M_put_11 rfl ?_
  refine va_get (D := (dC, dI)) (ci := 1) (v := .int (nI k)) (C := RX1) (T := TX1) (N := 8) hx hb hW inX1 hown hK hP 0 rfl rfl 2 (by decide) (hW _ qm_283) (fun _ h9 => h9) rfl qd_M_put_12 ?_
  refine lv_iconst (v := nI 1) hx hb qd_M_put_15 (by decide +kernel) ?_
  refine lv_iadd hx hb qd_M_put_16 ?_
  refine tq_ti (y := nI (k + 1)) (nI_1 k) ?_
  refine va_put (D := (dC, dI)) (ci := 1) (v := .int (nI (k + 1))) (ty := .int) (C := RX1) (T := TX1) (N := 8) hx hb hW inX1 tyX1 tyX1_ok nmX1 hown hK hP hD hS 0 rfl rfl 2 (by decide) (hW _ qm_283) (fun _ h9 => h9) rfl (by decide +kernel) rfl rfl (Nat.le_of_ble_eq_true rfl) qd_M_put_17 (fun H locs hP hD hS => ?_)
  have hP : va_P (dC, dI) tq_cl [(o, .inr (1, [.int w1, .int (nI n), .int (nI (k + 1)), .int w4, .ref ca, .ref cb, .long z1, .long z2])), (ca, .inl (cA, (600, .inr (.inl f)))), (cb, .inl (cA, (40, .inr (.inl (vp_updL g k v)))))] H := hP
  have hD : va_D A [(o, .inr (1, [.int w1, .int (nI n), .int (nI (k + 1)), .int w4, .ref ca, .ref cb, .long z1, .long z2])), (ca, .inl (cA, (600, .inr (.inl f)))), (cb, .inl (cA, (40, .inr (.inl (vp_updL g k v)))))] := hD
  exact W.vret hx hb hr (fun t ht hW9 => ⟨⟨(), rfl, trivial, by rw [ht]; exact hP, va_K.moved hW9.alike hK, hD⟩, hS.F ht⟩) hS.2.2 qd_M_put_20
def tq_PO (l : Launch) (dC : Nat → ClassId) (dI : Nat → Nat → Nat) (o ca cb : Nat) (cA : ClassId) (w1 : Int32) (n : Nat) (w4 : Int32) (z1 z2 : Int64) (f : Nat → Int64) (d i y z k : Nat) (g : Nat → Int64) (sz : Nat) : Prop := Met l qy_M_pathOf qw_M_pathOf ({ frames := d + 13, cells := 0, slots := 0, locals := 24 * d + 325 }) (va_Pc [.ref o, .int (nI i), .int (nI y), .int (nI z)] (tq_rw (dC, dI) [(o, .inr (1, [.int w1, .int (nI n), .int (nI k), .int w4, .ref ca, .ref cb, .long z1, .long z2])), (ca, .inl (cA, (600, .inr (.inl f)))), (cb, .inl (cA, (40, .inr (.inl g))))] [(cA, .long)] sz)) (va_Qv (fun _ : Unit => True) (fun _ t => tq_in (dC, dI) [(o, .inr (1, [.int w1, .int (nI n), .int (nI (k + (tq_pt (fun j => tq_leaf (f j)) i y z).length)), .int w4, .ref ca, .ref cb, .long z1, .long z2])), (ca, .inl (cA, (600, .inr (.inl f)))), (cb, .inl (cA, (40, .inr (.inl ((tq_wr g k (tq_pt (fun j => tq_leaf (f j)) i y z)))))))] [(cA, .long)] (va_A [(o, .inr (1, [.int w1, .int (nI n), .int (nI k), .int w4, .ref ca, .ref cb, .long z1, .long z2])), (ca, .inl (cA, (600, .inr (.inl f)))), (cb, .inl (cA, (40, .inr (.inl g))))] sz) t) (va_A [(o, .inr (1, [.int w1, .int (nI n), .int (nI k), .int w4, .ref ca, .ref cb, .long z1, .long z2])), (ca, .inl (cA, (600, .inr (.inl f)))), (cb, .inl (cA, (40, .inr (.inl g))))] sz)) 0 0 (va_A [(o, .inr (1, [.int w1, .int (nI n), .int (nI k), .int w4, .ref ca, .ref cb, .long z1, .long z2])), (ca, .inl (cA, (600, .inr (.inl f)))), (cb, .inl (cA, (40, .inr (.inl g))))] sz)
set_option maxHeartbeats 4000000 in
set_option maxRecDepth 100000 in
/-- pathOf: the PATH comes behind what stands -/
theorem ct_M_pathOf_s (l : Launch) (dC : Nat → ClassId) (dI : Nat → Nat → Nat) (o ca cb : Nat) (cA : ClassId) (w1 : Int32) (n : Nat) (w4 : Int32) (z1 z2 : Int64) (f : Nat → Int64) (d i y z k : Nat) (g : Nat → Int64) (sz : Nat) (ih : ∀ d1, d = d1 + 1 → ∀ (i y z k : Nat) (g : Nat → Int64) (sz : Nat), y < z → i + z ≤ 600 → z ≤ 2 ^ d1 → k + tq_pl y z ≤ 40 → tq_PO l dC dI o ca cb cA w1 n w4 z1 z2 f d1 i y z k g sz) (h1 : y < z) (h3 : i + z ≤ 600) (h2 : z ≤ 2 ^ d) (h4 : k + tq_pl y z ≤ 40) : tq_PO l dC dI o ca cb cA w1 n w4 z1 z2 f d i y z k g sz := by
  refine Met.ofW (cc := qc_M_pathOf) (maxL := 5) (ret := none) (by decide) rfl ?_
  intro p e s m args below meth c s₁ B hml hv
  obtain ⟨rfl, hsz, hP, hK, hD0⟩ := hv
  have hx := B.exec
  have hb := B.bytes
  have hr := B.returns
  have hts := atoms_spec (ws := qw_M_pathOf) B.pre
  have hW : ∀ w ∈ tq_W, w.before ([.ref o, .int (nI i), .int (nI y), .int (nI z)] : List Value).toArray s = true := fun w h => hts w (List.mem_cons_of_mem _ h)
  have hown : s.vm.findClass RX1 = some m.cls := findClass_of_methodNamed B.named
  have hlocks := B.notSynchronized
  have hl := lv_entry ([.ref o, .int (nI i), .int (nI y), .int (nI z)]) (n := 5) (Nat.le_of_ble_eq_true rfl)
  rw [lg_entry_eq]
  generalize (lg_sl ([.ref o, .int (nI i), .int (nI y), .int (nI z)]) ++ List.replicate (5 - (lg_sl ([.ref o, .int (nI i), .int (nI y), .int (nI z)])).length) Slot.unset).toArray = ls at hl ⊢
  have hl : lv_has ls 5 [(0, .ref o), (1, .int (nI i)), (2, .int (nI y)), (3, .int (nI z))] := hl
  subst hsz
  have hD := hD0.self (sz := s.heap.size)
  generalize hAe : va_A [(o, .inr (1, [.int w1, .int (nI n), .int (nI k), .int w4, .ref ca, .ref cb, .long z1, .long z2])), (ca, .inl (cA, (600, .inr (.inl f)))), (cb, .inl (cA, (40, .inr (.inl g))))] s.heap.size = A at hD ⊢
  have hA : ∀ q : Nat, s.heap.size ≤ q → A q := fun q h => by rw [← hAe]; exact Or.inr h
  have hS : va_S A s.heap s.heap [] := va_S.rf
  refine lv_iload_n hx hb qd_M_pathOf_0 rfl (lv_at hl 3 rfl) ?_
  refine lv_iconst (v := nI 1) hx hb qd_M_pathOf_1 (by decide +kernel) ?_
  refine tq_icmp_ne (x := z) (y := 1) (tgt := 6) hx hb qd_M_pathOf_2 (by decide) (by omega) (by omega) (fun c9 => ?_) (fun c9 => ?_)
  · obtain ⟨d1, rfl⟩ : ∃ d1, d = d1 + 1 := by
      cases d with
      | zero => omega
      | succ d1 => exact ⟨d1, rfl⟩
    have hlt := tq_pb_lt (n := z) (by omega)
    have hps := tq_pb_pos z
    have hh := tq_pb_half h2 (by omega)
    have hrr := tq_pb_rest h2 (by omega)
    refine lv_iload_n hx hb qd_M_pathOf_6 rfl (lv_at hl 3 rfl) ?_
    refine vp_callSi (W.runS (As := [.int (nI z)]) (rest := []) ⟨hx, hb, hml, hown, hW⟩ (ct_M_below l z (by omega) (by omega)) (cwS 1 hW (tq_gS qm_335 qm_336 qm_2 qm_337) rfl rfl rfl (by decide +kernel) ⟨(show 0 + 1 ≤ d1 + 1 + 13 from by omega), (show 8 + (2 + 11) + (0) ≤ 24 * (d1 + 1) + 325 from by omega)⟩) ⟨tq_b0, fun U hU hW9 => ⟨rfl, trivial⟩⟩ rfl rfl hl.1 rfl (lv_room (Nat.le_of_ble_eq_true rfl)) qd_M_pathOf_7 ⟨Nat.le_of_ble_eq_true rfl, Nat.le_of_ble_eq_true rfl⟩) (fun r9 e9 => ?_)
    subst e9
    refine lv_istore (lv' := [(4, .int (nI (tq_pb z))), (0, .ref o), (1, .int (nI i)), (2, .int (nI y)), (3, .int (nI z))]) hx hb qd_M_pathOf_10 hl (by decide) rfl (fun ls hl => ?_)
    refine lv_iload_n hx hb qd_M_pathOf_12 rfl (lv_at hl 3 rfl) ?_
    refine lv_iload hx hb qd_M_pathOf_13 (lv_at hl 0 rfl) ?_
    refine tq_icmp_ge (x := y) (y := (tq_pb z)) (tgt := 45) hx hb qd_M_pathOf_15 (by decide) (by omega) (by omega) (fun c1 => ?_) (fun c1 => ?_)
    · have e4 := tq_pl_r (m := y) (n := z) (by omega) c1
      refine lv_aload_n hx hb qd_M_pathOf_45 rfl (lv_at hl 1 rfl) ?_
      refine lv_iload_n hx hb qd_M_pathOf_46 rfl (lv_at hl 2 rfl) ?_
      refine lv_iload hx hb qd_M_pathOf_47 (lv_at hl 0 rfl) ?_
      refine lv_iadd hx hb qd_M_pathOf_49 ?_
      refine tq_ti (y := nI (i + tq_pb z)) (nI_add _ _) ?_
      refine lv_iload_n hx hb qd_M_pathOf_50 rfl (lv_at hl 3 rfl) ?_
      refine lv_iload hx hb qd_M_pathOf_51 (lv_at hl 0 rfl) ?_
      refine lv_isub hx hb qd_M_pathOf_53 ?_
      refine tq_ti (y := nI (y - tq_pb z)) (pk_sub (by omega)) ?_
      refine lv_iload_n hx hb qd_M_pathOf_54 rfl (lv_at hl 4 rfl) ?_
      refine lv_iload hx hb qd_M_pathOf_55 (lv_at hl 0 rfl) ?_
      refine lv_isub hx hb qd_M_pathOf_57 ?_
      refine tq_ti (y := nI (z - tq_pb z)) (pk_sub (by omega)) ?_
      have hPc := hP.sub (ws' := [(o, .inr (1, [.int w1, .int (nI n), .int (nI k), .int w4, .ref ca, .ref cb, .long z1, .long z2])), (ca, .inl (cA, (600, .inr (.inl f)))), (cb, .inl (cA, (40, .inr (.inl g))))]) [0, 1, 2] rfl
      have hDc := hD.sub (ws' := [(o, .inr (1, [.int w1, .int (nI n), .int (nI k), .int w4, .ref ca, .ref cb, .long z1, .long z2])), (ca, .inl (cA, (600, .inr (.inl f)))), (cb, .inl (cA, (40, .inr (.inl g))))]) [0, 1, 2] (by decide) rfl
      have hKc := hK.sub (tys' := [(cA, .long)]) [0] rfl
      have hFc := va_free (wc := [(o, .inr (1, [.int w1, .int (nI n), .int (nI k), .int w4, .ref ca, .ref cb, .long z1, .long z2])), (ca, .inl (cA, (600, .inr (.inl f)))), (cb, .inl (cA, (40, .inr (.inl g))))]) hD hS hA [0, 1, 2] rfl
      refine va_callv (va_runV (As := [.int (nI (i + tq_pb z)), .int (nI (y - tq_pb z)), .int (nI (z - tq_pb z))]) (rest := []) ⟨hx, hb, hml, hown, hW⟩ (ih d1 rfl (i + tq_pb z) (y - tq_pb z) (z - tq_pb z) k g s.heap.size (by omega) (by omega) hrr (by omega)) (cwV 3 hW (tq_gV qm_350 qm_352 qs_M_pathOf qm_2 qm_353) rfl rfl rfl (by decide +kernel) ⟨(show d1 + 13 + 1 ≤ d1 + 1 + 13 from by omega), (show 8 + (5 + 11) + (24 * d1 + 325) ≤ 24 * (d1 + 1) + 325 from by omega)⟩) ⟨tq_b2, va_recv hKc hPc (ci := 1) (q0 := 0) rfl rfl, fun U hU hW9 => ⟨rfl, by rw [hU], by rw [hU]; exact hPc, va_K.moved hW9.alike hKc, hDc.weaken (fun _ _ _ _ => trivial)⟩⟩ rfl rfl hl.1 rfl (lv_room (Nat.le_of_ble_eq_true rfl)) qd_M_pathOf_58 ⟨Nat.le_of_ble_eq_true rfl, Nat.le_of_ble_eq_true rfl⟩) hS (fun q _ h => hFc q h) hFc (fun u t9 H1 locs ht9 hvm hw hB hz1 hk1 hS => ?_)
      obtain ⟨hP1, hK1, hD1⟩ := hB
      rw [ht9] at hP1
      obtain ⟨hP, hD⟩ := va_join (wr := []) (w1 := [(o, .inr (1, [.int w1, .int (nI n), .int (nI (k + (tq_pt (fun j => tq_leaf (f j)) (i + tq_pb z) (y - tq_pb z) (z - tq_pb z)).length)), .int w4, .ref ca, .ref cb, .long z1, .long z2])), (ca, .inl (cA, (600, .inr (.inl f)))), (cb, .inl (cA, (40, .inr (.inl (tq_wr g k (tq_pt (fun j => tq_leaf (f j)) (i + tq_pb z) (y - tq_pb z) (z - tq_pb z)))))))]) hP hD [0, 1, 2] [] rfl rfl (by decide) (by decide) hk1 hFc hP1 hD1
      generalize H1 = H at hP hS ⊢
      have hP : va_P (dC, dI) tq_cl [(o, .inr (1, [.int w1, .int (nI n), .int (nI (k + (tq_pt (fun j => tq_leaf (f j)) (i + tq_pb z) (y - tq_pb z) (z - tq_pb z)).length)), .int w4, .ref ca, .ref cb, .long z1, .long z2])), (ca, .inl (cA, (600, .inr (.inl f)))), (cb, .inl (cA, (40, .inr (.inl (tq_wr g k (tq_pt (fun j => tq_leaf (f j)) (i + tq_pb z) (y - tq_pb z) (z - tq_pb z)))))))] H := hP
      have hD : va_D A [(o, .inr (1, [.int w1, .int (nI n), .int (nI (k + (tq_pt (fun j => tq_leaf (f j)) (i + tq_pb z) (y - tq_pb z) (z - tq_pb z)).length)), .int w4, .ref ca, .ref cb, .long z1, .long z2])), (ca, .inl (cA, (600, .inr (.inl f)))), (cb, .inl (cA, (40, .inr (.inl (tq_wr g k (tq_pt (fun j => tq_leaf (f j)) (i + tq_pb z) (y - tq_pb z) (z - tq_pb z)))))))] := hD
      have e5 : (tq_pt (fun j => tq_leaf (f j)) (i + tq_pb z) (y - tq_pb z) (z - tq_pb z)).length = tq_pl (y - tq_pb z) (z - tq_pb z) := tq_pt_len _ _ _
      refine lv_aload_n hx hb qd_M_pathOf_61 rfl (lv_at hl 1 rfl) ?_
      refine lv_aload_n hx hb qd_M_pathOf_62 rfl (lv_at hl 1 rfl) ?_
      refine lv_iload_n hx hb qd_M_pathOf_63 rfl (lv_at hl 2 rfl) ?_
      refine lv_iload hx hb qd_M_pathOf_64 (lv_at hl 0 rfl) ?_
      refine vp_callSl (W.runV (As := [.int (nI i), .int (nI (tq_pb z))]) (rest := [.ref o]) ⟨hx, hb, hml, hown, hW⟩ (ct_M_headOf l dC dI o ca cb cA w1 (nI n) (nI (k + (tq_pt (fun j => tq_leaf (f j)) (i + tq_pb z) (y - tq_pb z) (z - tq_pb z)).length)) w4 z1 z2 f 10 i ((tq_pb z)) (by omega) (by omega)) (cwV 2 hW (tq_gV qm_326 qm_328 qs_M_headOf qm_2 qm_329) rfl rfl rfl (by decide +kernel) ⟨(show 12 + 1 ≤ d1 + 1 + 13 from by omega), (show 8 + (6 + 11) + (300) ≤ 24 * (d1 + 1) + 325 from by omega)⟩) ⟨tq_b1, va_recv hK hP (ci := 1) (q0 := 0) rfl rfl, fun U hU hW9 => ⟨rfl, by rw [hU]; exact hP.sub [0, 1] rfl, va_K.moved hW9.alike (hK.sub [0] rfl)⟩⟩ rfl rfl hl.1 rfl (lv_room (Nat.le_of_ble_eq_true rfl)) qd_M_pathOf_66 ⟨Nat.le_of_ble_eq_true rfl, Nat.le_of_ble_eq_true rfl⟩) (fun r9 e9 => ?_)
      subst e9
      have hPc := hP.sub (ws' := [(o, .inr (1, [.int w1, .int (nI n), .int (nI (k + (tq_pt (fun j => tq_leaf (f j)) (i + tq_pb z) (y - tq_pb z) (z - tq_pb z)).length)), .int w4, .ref ca, .ref cb, .long z1, .long z2])), (ca, .inl (cA, (600, .inr (.inl f)))), (cb, .inl (cA, (40, .inr (.inl (tq_wr g k (tq_pt (fun j => tq_leaf (f j)) (i + tq_pb z) (y - tq_pb z) (z - tq_pb z)))))))]) [0, 1, 2] rfl
      have hDc := hD.sub (ws' := [(o, .inr (1, [.int w1, .int (nI n), .int (nI (k + (tq_pt (fun j => tq_leaf (f j)) (i + tq_pb z) (y - tq_pb z) (z - tq_pb z)).length)), .int w4, .ref ca, .ref cb, .long z1, .long z2])), (ca, .inl (cA, (600, .inr (.inl f)))), (cb, .inl (cA, (40, .inr (.inl (tq_wr g k (tq_pt (fun j => tq_leaf (f j)) (i + tq_pb z) (y - tq_pb z) (z - tq_pb z)))))))]) [0, 1, 2] (by decide) rfl
      have hKc := hK.sub (tys' := [(cA, .long)]) [0] rfl
      have hFc := va_free (wc := [(o, .inr (1, [.int w1, .int (nI n), .int (nI (k + (tq_pt (fun j => tq_leaf (f j)) (i + tq_pb z) (y - tq_pb z) (z - tq_pb z)).length)), .int w4, .ref ca, .ref cb, .long z1, .long z2])), (ca, .inl (cA, (600, .inr (.inl f)))), (cb, .inl (cA, (40, .inr (.inl (tq_wr g k (tq_pt (fun j => tq_leaf (f j)) (i + tq_pb z) (y - tq_pb z) (z - tq_pb z)))))))]) hD hS hA [0, 1, 2] rfl
      refine va_callv (va_runV (As := [.long (tq_hd (fun j => tq_leaf (f j)) i ((tq_pb z)))]) (rest := []) ⟨hx, hb, hml, hown, hW⟩ (ct_M_put l dC dI o ca cb cA w1 n ((k + (tq_pt (fun j => tq_leaf (f j)) (i + tq_pb z) (y - tq_pb z) (z - tq_pb z)).length)) w4 z1 z2 f (tq_wr g k (tq_pt (fun j => tq_leaf (f j)) (i + tq_pb z) (y - tq_pb z) (z - tq_pb z))) H.size (tq_hd (fun j => tq_leaf (f j)) i ((tq_pb z))) (by omega)) (cwV 1 hW (tq_gV qm_354 qm_356 qs_M_put qm_2 qm_357) rfl rfl rfl (by decide +kernel) ⟨(show 0 + 1 ≤ d1 + 1 + 13 from by omega), (show 8 + (3 + 11) + (0) ≤ 24 * (d1 + 1) + 325 from by omega)⟩) ⟨tq_b2, va_recv hKc hPc (ci := 1) (q0 := 0) rfl rfl, fun U hU hW9 => ⟨rfl, by rw [hU], by rw [hU]; exact hPc, va_K.moved hW9.alike hKc, hDc.weaken (fun _ _ _ _ => trivial)⟩⟩ rfl rfl hl.1 rfl (lv_room (Nat.le_of_ble_eq_true rfl)) qd_M_pathOf_69 ⟨Nat.le_of_ble_eq_true rfl, Nat.le_of_ble_eq_true rfl⟩) hS (fun q _ h => hFc q h) hFc (fun u t9 H1 locs ht9 hvm hw hB hz1 hk1 hS => ?_)
      obtain ⟨hP1, hK1, hD1⟩ := hB
      rw [ht9] at hP1
      obtain ⟨hP, hD⟩ := va_join (wr := []) (w1 := [(o, .inr (1, [.int w1, .int (nI n), .int (nI (((k + (tq_pt (fun j => tq_leaf (f j)) (i + tq_pb z) (y - tq_pb z) (z - tq_pb z)).length)) + 1)), .int w4, .ref ca, .ref cb, .long z1, .long z2])), (ca, .inl (cA, (600, .inr (.inl f)))), (cb, .inl (cA, (40, .inr (.inl (vp_updL (tq_wr g k (tq_pt (fun j => tq_leaf (f j)) (i + tq_pb z) (y - tq_pb z) (z - tq_pb z))) ((k + (tq_pt (fun j => tq_leaf (f j)) (i + tq_pb z) (y - tq_pb z) (z - tq_pb z)).length)) (tq_hd (fun j => tq_leaf (f j)) i ((tq_pb z))))))))]) hP hD [0, 1, 2] [] rfl rfl (by decide) (by decide) hk1 hFc hP1 hD1
      generalize H1 = H at hP hS ⊢
      have hP : va_P (dC, dI) tq_cl [(o, .inr (1, [.int w1, .int (nI n), .int (nI (((k + (tq_pt (fun j => tq_leaf (f j)) (i + tq_pb z) (y - tq_pb z) (z - tq_pb z)).length)) + 1)), .int w4, .ref ca, .ref cb, .long z1, .long z2])), (ca, .inl (cA, (600, .inr (.inl f)))), (cb, .inl (cA, (40, .inr (.inl (vp_updL (tq_wr g k (tq_pt (fun j => tq_leaf (f j)) (i + tq_pb z) (y - tq_pb z) (z - tq_pb z))) ((k + (tq_pt (fun j => tq_leaf (f j)) (i + tq_pb z) (y - tq_pb z) (z - tq_pb z)).length)) (tq_hd (fun j => tq_leaf (f j)) i ((tq_pb z))))))))] H := hP
      have hD : va_D A [(o, .inr (1, [.int w1, .int (nI n), .int (nI (((k + (tq_pt (fun j => tq_leaf (f j)) (i + tq_pb z) (y - tq_pb z) (z - tq_pb z)).length)) + 1)), .int w4, .ref ca, .ref cb, .long z1, .long z2])), (ca, .inl (cA, (600, .inr (.inl f)))), (cb, .inl (cA, (40, .inr (.inl (vp_updL (tq_wr g k (tq_pt (fun j => tq_leaf (f j)) (i + tq_pb z) (y - tq_pb z) (z - tq_pb z))) ((k + (tq_pt (fun j => tq_leaf (f j)) (i + tq_pb z) (y - tq_pb z) (z - tq_pb z)).length)) (tq_hd (fun j => tq_leaf (f j)) i ((tq_pb z))))))))] := hD
      rw [tq_pt_r (by omega) c1, tq_wr_snoc, List.length_append, ← Nat.add_assoc]
      exact W.vret hx hb hr (fun t ht hW9 => ⟨⟨(), rfl, trivial, by rw [ht]; exact hP, va_K.moved hW9.alike hK, hD⟩, hS.F ht⟩) hS.2.2 qd_M_pathOf_72
    · have e4 := tq_pl_l (m := y) (n := z) (by omega) c1
      refine lv_aload_n hx hb qd_M_pathOf_18 rfl (lv_at hl 1 rfl) ?_
      refine lv_iload_n hx hb qd_M_pathOf_19 rfl (lv_at hl 2 rfl) ?_
      refine lv_iload_n hx hb qd_M_pathOf_20 rfl (lv_at hl 3 rfl) ?_
      refine lv_iload hx hb qd_M_pathOf_21 (lv_at hl 0 rfl) ?_
      have hPc := hP.sub (ws' := [(o, .inr (1, [.int w1, .int (nI n), .int (nI k), .int w4, .ref ca, .ref cb, .long z1, .long z2])), (ca, .inl (cA, (600, .inr (.inl f)))), (cb, .inl (cA, (40, .inr (.inl g))))]) [0, 1, 2] rfl
      have hDc := hD.sub (ws' := [(o, .inr (1, [.int w1, .int (nI n), .int (nI k), .int w4, .ref ca, .ref cb, .long z1, .long z2])), (ca, .inl (cA, (600, .inr (.inl f)))), (cb, .inl (cA, (40, .inr (.inl g))))]) [0, 1, 2] (by decide) rfl
      have hKc := hK.sub (tys' := [(cA, .long)]) [0] rfl
      have hFc := va_free (wc := [(o, .inr (1, [.int w1, .int (nI n), .int (nI k), .int w4, .ref ca, .ref cb, .long z1, .long z2])), (ca, .inl (cA, (600, .inr (.inl f)))), (cb, .inl (cA, (40, .inr (.inl g))))]) hD hS hA [0, 1, 2] rfl
      refine va_callv (va_runV (As := [.int (nI i), .int (nI y), .int (nI (tq_pb z))]) (rest := []) ⟨hx, hb, hml, hown, hW⟩ (ih d1 rfl i y (tq_pb z) k g s.heap.size c1 (by omega) hh (by omega)) (cwV 3 hW (tq_gV qm_350 qm_352 qs_M_pathOf qm_2 qm_353) rfl rfl rfl (by decide +kernel) ⟨(show d1 + 13 + 1 ≤ d1 + 1 + 13 from by omega), (show 8 + (5 + 11) + (24 * d1 + 325) ≤ 24 * (d1 + 1) + 325 from by omega)⟩) ⟨tq_b2, va_recv hKc hPc (ci := 1) (q0 := 0) rfl rfl, fun U hU hW9 => ⟨rfl, by rw [hU], by rw [hU]; exact hPc, va_K.moved hW9.alike hKc, hDc.weaken (fun _ _ _ _ => trivial)⟩⟩ rfl rfl hl.1 rfl (lv_room (Nat.le_of_ble_eq_true rfl)) qd_M_pathOf_23 ⟨Nat.le_of_ble_eq_true rfl, Nat.le_of_ble_eq_true rfl⟩) hS (fun q _ h => hFc q h) hFc (fun u t9 H1 locs ht9 hvm hw hB hz1 hk1 hS => ?_)
      obtain ⟨hP1, hK1, hD1⟩ := hB
      rw [ht9] at hP1
      obtain ⟨hP, hD⟩ := va_join (wr := []) (w1 := [(o, .inr (1, [.int w1, .int (nI n), .int (nI (k + (tq_pt (fun j => tq_leaf (f j)) i y (tq_pb z)).length)), .int w4, .ref ca, .ref cb, .long z1, .long z2])), (ca, .inl (cA, (600, .inr (.inl f)))), (cb, .inl (cA, (40, .inr (.inl (tq_wr g k (tq_pt (fun j => tq_leaf (f j)) i y (tq_pb z)))))))]) hP hD [0, 1, 2] [] rfl rfl (by decide) (by decide) hk1 hFc hP1 hD1
      generalize H1 = H at hP hS ⊢
      have hP : va_P (dC, dI) tq_cl [(o, .inr (1, [.int w1, .int (nI n), .int (nI (k + (tq_pt (fun j => tq_leaf (f j)) i y (tq_pb z)).length)), .int w4, .ref ca, .ref cb, .long z1, .long z2])), (ca, .inl (cA, (600, .inr (.inl f)))), (cb, .inl (cA, (40, .inr (.inl (tq_wr g k (tq_pt (fun j => tq_leaf (f j)) i y (tq_pb z)))))))] H := hP
      have hD : va_D A [(o, .inr (1, [.int w1, .int (nI n), .int (nI (k + (tq_pt (fun j => tq_leaf (f j)) i y (tq_pb z)).length)), .int w4, .ref ca, .ref cb, .long z1, .long z2])), (ca, .inl (cA, (600, .inr (.inl f)))), (cb, .inl (cA, (40, .inr (.inl (tq_wr g k (tq_pt (fun j => tq_leaf (f j)) i y (tq_pb z)))))))] := hD
      have e5 : (tq_pt (fun j => tq_leaf (f j)) i y (tq_pb z)).length = tq_pl y (tq_pb z) := tq_pt_len _ _ _
      refine lv_aload_n hx hb qd_M_pathOf_26 rfl (lv_at hl 1 rfl) ?_
      refine lv_aload_n hx hb qd_M_pathOf_27 rfl (lv_at hl 1 rfl) ?_
      refine lv_iload_n hx hb qd_M_pathOf_28 rfl (lv_at hl 2 rfl) ?_
      refine lv_iload hx hb qd_M_pathOf_29 (lv_at hl 0 rfl) ?_
      refine lv_iadd hx hb qd_M_pathOf_31 ?_
      refine tq_ti (y := nI (i + tq_pb z)) (nI_add _ _) ?_
      refine lv_iload_n hx hb qd_M_pathOf_32 rfl (lv_at hl 4 rfl) ?_
      refine lv_iload hx hb qd_M_pathOf_33 (lv_at hl 0 rfl) ?_
      refine lv_isub hx hb qd_M_pathOf_35 ?_
      refine tq_ti (y := nI (z - tq_pb z)) (pk_sub (by omega)) ?_
      refine vp_callSl (W.runV (As := [.int (nI (i + tq_pb z)), .int (nI (z - tq_pb z))]) (rest := [.ref o]) ⟨hx, hb, hml, hown, hW⟩ (ct_M_headOf l dC dI o ca cb cA w1 (nI n) (nI (k + (tq_pt (fun j => tq_leaf (f j)) i y (tq_pb z)).length)) w4 z1 z2 f 10 ((i + tq_pb z)) ((z - tq_pb z)) (by omega) (by omega)) (cwV 2 hW (tq_gV qm_326 qm_328 qs_M_headOf qm_2 qm_329) rfl rfl rfl (by decide +kernel) ⟨(show 12 + 1 ≤ d1 + 1 + 13 from by omega), (show 8 + (6 + 11) + (300) ≤ 24 * (d1 + 1) + 325 from by omega)⟩) ⟨tq_b1, va_recv hK hP (ci := 1) (q0 := 0) rfl rfl, fun U hU hW9 => ⟨rfl, by rw [hU]; exact hP.sub [0, 1] rfl, va_K.moved hW9.alike (hK.sub [0] rfl)⟩⟩ rfl rfl hl.1 rfl (lv_room (Nat.le_of_ble_eq_true rfl)) qd_M_pathOf_36 ⟨Nat.le_of_ble_eq_true rfl, Nat.le_of_ble_eq_true rfl⟩) (fun r9 e9 => ?_)
      subst e9
      have hPc := hP.sub (ws' := [(o, .inr (1, [.int w1, .int (nI n), .int (nI (k + (tq_pt (fun j => tq_leaf (f j)) i y (tq_pb z)).length)), .int w4, .ref ca, .ref cb, .long z1, .long z2])), (ca, .inl (cA, (600, .inr (.inl f)))), (cb, .inl (cA, (40, .inr (.inl (tq_wr g k (tq_pt (fun j => tq_leaf (f j)) i y (tq_pb z)))))))]) [0, 1, 2] rfl
      have hDc := hD.sub (ws' := [(o, .inr (1, [.int w1, .int (nI n), .int (nI (k + (tq_pt (fun j => tq_leaf (f j)) i y (tq_pb z)).length)), .int w4, .ref ca, .ref cb, .long z1, .long z2])), (ca, .inl (cA, (600, .inr (.inl f)))), (cb, .inl (cA, (40, .inr (.inl (tq_wr g k (tq_pt (fun j => tq_leaf (f j)) i y (tq_pb z)))))))]) [0, 1, 2] (by decide) rfl
      have hKc := hK.sub (tys' := [(cA, .long)]) [0] rfl
      have hFc := va_free (wc := [(o, .inr (1, [.int w1, .int (nI n), .int (nI (k + (tq_pt (fun j => tq_leaf (f j)) i y (tq_pb z)).length)), .int w4, .ref ca, .ref cb, .long z1, .long z2])), (ca, .inl (cA, (600, .inr (.inl f)))), (cb, .inl (cA, (40, .inr (.inl (tq_wr g k (tq_pt (fun j => tq_leaf (f j)) i y (tq_pb z)))))))]) hD hS hA [0, 1, 2] rfl
      refine va_callv (va_runV (As := [.long (tq_hd (fun j => tq_leaf (f j)) ((i + tq_pb z)) ((z - tq_pb z)))]) (rest := []) ⟨hx, hb, hml, hown, hW⟩ (ct_M_put l dC dI o ca cb cA w1 n ((k + (tq_pt (fun j => tq_leaf (f j)) i y (tq_pb z)).length)) w4 z1 z2 f (tq_wr g k (tq_pt (fun j => tq_leaf (f j)) i y (tq_pb z))) H.size (tq_hd (fun j => tq_leaf (f j)) ((i + tq_pb z)) ((z - tq_pb z))) (by omega)) (cwV 1 hW (tq_gV qm_354 qm_356 qs_M_put qm_2 qm_357) rfl rfl rfl (by decide +kernel) ⟨(show 0 + 1 ≤ d1 + 1 + 13 from by omega), (show 8 + (3 + 11) + (0) ≤ 24 * (d1 + 1) + 325 from by omega)⟩) ⟨tq_b2, va_recv hKc hPc (ci := 1) (q0 := 0) rfl rfl, fun U hU hW9 => ⟨rfl, by rw [hU], by rw [hU]; exact hPc, va_K.moved hW9.alike hKc, hDc.weaken (fun _ _ _ _ => trivial)⟩⟩ rfl rfl hl.1 rfl (lv_room (Nat.le_of_ble_eq_true rfl)) qd_M_pathOf_39 ⟨Nat.le_of_ble_eq_true rfl, Nat.le_of_ble_eq_true rfl⟩) hS (fun q _ h => hFc q h) hFc (fun u t9 H1 locs ht9 hvm hw hB hz1 hk1 hS => ?_)
      obtain ⟨hP1, hK1, hD1⟩ := hB
      rw [ht9] at hP1
      obtain ⟨hP, hD⟩ := va_join (wr := []) (w1 := [(o, .inr (1, [.int w1, .int (nI n), .int (nI (((k + (tq_pt (fun j => tq_leaf (f j)) i y (tq_pb z)).length)) + 1)), .int w4, .ref ca, .ref cb, .long z1, .long z2])), (ca, .inl (cA, (600, .inr (.inl f)))), (cb, .inl (cA, (40, .inr (.inl (vp_updL (tq_wr g k (tq_pt (fun j => tq_leaf (f j)) i y (tq_pb z))) ((k + (tq_pt (fun j => tq_leaf (f j)) i y (tq_pb z)).length)) (tq_hd (fun j => tq_leaf (f j)) ((i + tq_pb z)) ((z - tq_pb z))))))))]) hP hD [0, 1, 2] [] rfl rfl (by decide) (by decide) hk1 hFc hP1 hD1
      generalize H1 = H at hP hS ⊢
      have hP : va_P (dC, dI) tq_cl [(o, .inr (1, [.int w1, .int (nI n), .int (nI (((k + (tq_pt (fun j => tq_leaf (f j)) i y (tq_pb z)).length)) + 1)), .int w4, .ref ca, .ref cb, .long z1, .long z2])), (ca, .inl (cA, (600, .inr (.inl f)))), (cb, .inl (cA, (40, .inr (.inl (vp_updL (tq_wr g k (tq_pt (fun j => tq_leaf (f j)) i y (tq_pb z))) ((k + (tq_pt (fun j => tq_leaf (f j)) i y (tq_pb z)).length)) (tq_hd (fun j => tq_leaf (f j)) ((i + tq_pb z)) ((z - tq_pb z))))))))] H := hP
      have hD : va_D A [(o, .inr (1, [.int w1, .int (nI n), .int (nI (((k + (tq_pt (fun j => tq_leaf (f j)) i y (tq_pb z)).length)) + 1)), .int w4, .ref ca, .ref cb, .long z1, .long z2])), (ca, .inl (cA, (600, .inr (.inl f)))), (cb, .inl (cA, (40, .inr (.inl (vp_updL (tq_wr g k (tq_pt (fun j => tq_leaf (f j)) i y (tq_pb z))) ((k + (tq_pt (fun j => tq_leaf (f j)) i y (tq_pb z)).length)) (tq_hd (fun j => tq_leaf (f j)) ((i + tq_pb z)) ((z - tq_pb z))))))))] := hD
      refine lv_goto (tgt := 72) hx hb qd_M_pathOf_42 (by decide) ?_
      rw [tq_pt_l (by omega) c1, tq_wr_snoc, List.length_append, ← Nat.add_assoc]
      exact W.vret hx hb hr (fun t ht hW9 => ⟨⟨(), rfl, trivial, by rw [ht]; exact hP, va_K.moved hW9.alike hK, hD⟩, hS.F ht⟩) hS.2.2 qd_M_pathOf_72
  · rw [tq_pt_0 (by omega)]
    exact W.vret hx hb hr (fun t ht hW9 => ⟨⟨(), rfl, trivial, by rw [ht]; exact hP, va_K.moved hW9.alike hK, hD⟩, hS.F ht⟩) hS.2.2 qd_M_pathOf_5
theorem ct_M_pathOf (l : Launch) (dC : Nat → ClassId) (dI : Nat → Nat → Nat) (o ca cb : Nat) (cA : ClassId) (w1 : Int32) (n : Nat) (w4 : Int32) (z1 z2 : Int64) (f : Nat → Int64) : ∀ (d i y z k : Nat) (g : Nat → Int64) (sz : Nat), y < z → i + z ≤ 600 → z ≤ 2 ^ d → k + tq_pl y z ≤ 40 → tq_PO l dC dI o ca cb cA w1 n w4 z1 z2 f d i y z k g sz
  | 0, i, y, z, k, g, sz, h1, h2, h3, h4 => ct_M_pathOf_s l dC dI o ca cb cA w1 n w4 z1 z2 f 0 i y z k g sz (fun d1 h => by omega) h1 h2 h3 h4
  | d + 1, i, y, z, k, g, sz, h1, h2, h3, h4 => ct_M_pathOf_s l dC dI o ca cb cA w1 n w4 z1 z2 f (d + 1) i y z k g sz (fun d1 h i y z k g sz a1 a2 a3 a4 => by cases h; exact ct_M_pathOf l dC dI o ca cb cA w1 n w4 z1 z2 f d i y z k g sz a1 a2 a3 a4) h1 h2 h3 h4
set_option maxHeartbeats 4000000 in
set_option maxRecDepth 100000 in
theorem ct_M_path (l : Launch) (dC : Nat → ClassId) (dI : Nat → Nat → Nat) (o ca cb : Nat) (cA : ClassId) (w1 : Int32) (n k : Nat) (w4 : Int32) (z1 z2 : Int64) (f g : Nat → Int64) (sz : Nat) (mm j : Nat) (h1 : mm < j) (hj : j ≤ n) (hn : n ≤ 600) : Met l qy_M_path qw_M_path ({ frames := 24, cells := 0, slots := 0, locals := 600 }) (va_Pc [.ref o, .int (nI mm), .int (nI j)] (tq_rw (dC, dI) [(o, .inr (1, [.int w1, .int (nI n), .int (nI k), .int w4, .ref ca, .ref cb, .long z1, .long z2])), (ca, .inl (cA, (600, .inr (.inl f)))), (cb, .inl (cA, (40, .inr (.inl g))))] [(cA, .long)] sz)) (va_Qi (fun r (_ : Unit) => r = nI (tq_pl mm j)) (fun _ t => tq_in (dC, dI) [(o, .inr (1, [.int (nI 0), .int (nI n), .int (nI (tq_pl mm j)), .int w4, .ref ca, .ref cb, .long z1, .long z2])), (ca, .inl (cA, (600, .inr (.inl f)))), (cb, .inl (cA, (40, .inr (.inl ((tq_wr g 0 (tq_pt (fun j => tq_leaf (f j)) 0 mm j)))))))] [(cA, .long)] (va_A [(o, .inr (1, [.int w1, .int (nI n), .int (nI k), .int w4, .ref ca, .ref cb, .long z1, .long z2])), (ca, .inl (cA, (600, .inr (.inl f)))), (cb, .inl (cA, (40, .inr (.inl g))))] sz) t) (va_A [(o, .inr (1, [.int w1, .int (nI n), .int (nI k), .int w4, .ref ca, .ref cb, .long z1, .long z2])), (ca, .inl (cA, (600, .inr (.inl f)))), (cb, .inl (cA, (40, .inr (.inl g))))] sz)) 0 0 (va_A [(o, .inr (1, [.int w1, .int (nI n), .int (nI k), .int w4, .ref ca, .ref cb, .long z1, .long z2])), (ca, .inl (cA, (600, .inr (.inl f)))), (cb, .inl (cA, (40, .inr (.inl g))))] sz) := by
  refine Met.ofW (cc := qc_M_path) (maxL := 3) (ret := (some .int)) (by decide) rfl ?_
  intro p e s m args below meth c s₁ B hml hv
  obtain ⟨rfl, hsz, hP, hK, hD0⟩ := hv
  have hx := B.exec
  have hb := B.bytes
  have hr := B.returns
  have hts := atoms_spec (ws := qw_M_path) B.pre
  have hW : ∀ w ∈ tq_W, w.before ([.ref o, .int (nI mm), .int (nI j)] : List Value).toArray s = true := fun w h => hts w (List.mem_cons_of_mem _ h)
  have hown : s.vm.findClass RX1 = some m.cls := findClass_of_methodNamed B.named
  have hlocks := B.notSynchronized
  have hl := lv_entry ([.ref o, .int (nI mm), .int (nI j)]) (n := 3) (Nat.le_of_ble_eq_true rfl)
  rw [lg_entry_eq]
  generalize (lg_sl ([.ref o, .int (nI mm), .int (nI j)]) ++ List.replicate (3 - (lg_sl ([.ref o, .int (nI mm), .int (nI j)])).length) Slot.unset).toArray = ls at hl ⊢
  have hl : lv_has ls 3 [(0, .ref o), (1, .int (nI mm)), (2, .int (nI j))] := hl
  subst hsz
  have hD := hD0.self (sz := s.heap.size)
  generalize hAe : va_A [(o, .inr (1, [.int w1, .int (nI n), .int (nI k), .int w4, .ref ca, .ref cb, .long z1, .long z2])), (ca, .inl (cA, (600, .inr (.inl f)))), (cb, .inl (cA, (40, .inr (.inl g))))] s.heap.size = A at hD ⊢
  have hA : ∀ q : Nat, s.heap.size ≤ q → A q := fun q h => by rw [← hAe]; exact Or.inr h
  have hS : va_S A s.heap s.heap [] := va_S.rf
  have hpl := tq_pl_le 10 mm j (by omega)
  have e5 : 0 + (tq_pt (fun j => tq_leaf (f j)) 0 mm j).length = tq_pl mm j := by rw [Nat.zero_add]; exact tq_pt_len _ _ _
  refine lv_aload_n hx hb qd_M_path_0 rfl (lv_at hl 0 rfl) ?_
  refine lv_iload_n hx hb qd_M_path_1 rfl (lv_at hl 1 rfl) ?_
  refine tq_if_lt (x := mm) (tgt := 18) hx hb qd_M_path_2 (by decide) (by omega) ?_
  refine lv_iload_n hx hb qd_M_path_5 rfl (lv_at hl 1 rfl) ?_
  refine lv_iload_n hx hb qd_M_path_6 rfl (lv_at hl 2 rfl) ?_
  refine tq_icmp_ge (x := mm) (y := j) (tgt := 18) hx hb qd_M_path_7 (by decide) (by omega) (by omega) (fun c9 => by omega) (fun c9 => ?_)
  refine lv_iload_n hx hb qd_M_path_10 rfl (lv_at hl 2 rfl) ?_
  refine lv_aload_n hx hb qd_M_path_11 rfl (lv_at hl 0 rfl) ?_
  refine va_get (D := (dC, dI)) (ci := 1) (v := .int (nI n)) (C := RX1) (T := TX1) (N := 8) hx hb hW inX1 hown hK hP 0 rfl rfl 1 (by decide) (hW _ qm_282) (fun _ h9 => h9) rfl qd_M_path_12 ?_
  refine tq_icmp_le (x := j) (y := n) (tgt := 22) hx hb qd_M_path_15 (by decide) (by omega) (by omega) (fun c9 => ?_) (fun c9 => by omega)
  refine lv_iconst (v := nI 0) hx hb qd_M_path_22 (by decide +kernel) ?_
  refine va_put (D := (dC, dI)) (ci := 1) (v := .int (nI 0)) (ty := .int) (C := RX1) (T := TX1) (N := 8) hx hb hW inX1 tyX1 tyX1_ok nmX1 hown hK hP hD hS 0 rfl rfl 0 (by decide) (hW _ qm_281) (fun _ h9 => h9) rfl (by decide +kernel) rfl rfl (Nat.le_of_ble_eq_true rfl) qd_M_path_23 (fun H locs hP hD hS => ?_)
  have hP : va_P (dC, dI) tq_cl [(o, .inr (1, [.int (nI 0), .int (nI n), .int (nI k), .int w4, .ref ca, .ref cb, .long z1, .long z2])), (ca, .inl (cA, (600, .inr (.inl f)))), (cb, .inl (cA, (40, .inr (.inl g))))] H := hP
  have hD : va_D A [(o, .inr (1, [.int (nI 0), .int (nI n), .int (nI k), .int w4, .ref ca, .ref cb, .long z1, .long z2])), (ca, .inl (cA, (600, .inr (.inl f)))), (cb, .inl (cA, (40, .inr (.inl g))))] := hD
  refine lv_aload_n hx hb qd_M_path_26 rfl (lv_at hl 0 rfl) ?_
  refine va_get (D := (dC, dI)) (ci := 1) (v := .int (nI 0)) (C := RX1) (T := TX1) (N := 8) hx hb hW inX1 hown hK hP 0 rfl rfl 0 (by decide) (hW _ qm_281) (fun _ h9 => h9) rfl qd_M_path_27 ?_
  refine tq_if_le (x := 0) (tgt := 35) hx hb qd_M_path_30 (by decide) (by omega) (fun c9 => ?_) (fun c9 => by omega)
  refine lv_aload_n hx hb qd_M_path_35 rfl (lv_at hl 0 rfl) ?_
  refine lv_iconst (v := nI 0) hx hb qd_M_path_36 (by decide +kernel) ?_
  refine va_put (D := (dC, dI)) (ci := 1) (v := .int (nI 0)) (ty := .int) (C := RX1) (T := TX1) (N := 8) hx hb hW inX1 tyX1 tyX1_ok nmX1 hown hK hP hD hS 0 rfl rfl 2 (by decide) (hW _ qm_283) (fun _ h9 => h9) rfl (by decide +kernel) rfl rfl (Nat.le_of_ble_eq_true rfl) qd_M_path_37 (fun H locs hP hD hS => ?_)
  have hP : va_P (dC, dI) tq_cl [(o, .inr (1, [.int (nI 0), .int (nI n), .int (nI 0), .int w4, .ref ca, .ref cb, .long z1, .long z2])), (ca, .inl (cA, (600, .inr (.inl f)))), (cb, .inl (cA, (40, .inr (.inl g))))] H := hP
  have hD : va_D A [(o, .inr (1, [.int (nI 0), .int (nI n), .int (nI 0), .int w4, .ref ca, .ref cb, .long z1, .long z2])), (ca, .inl (cA, (600, .inr (.inl f)))), (cb, .inl (cA, (40, .inr (.inl g))))] := hD
  refine lv_aload_n hx hb qd_M_path_40 rfl (lv_at hl 0 rfl) ?_
  refine lv_iconst (v := nI 0) hx hb qd_M_path_41 (by decide +kernel) ?_
  refine lv_iload_n hx hb qd_M_path_42 rfl (lv_at hl 1 rfl) ?_
  refine lv_iload_n hx hb qd_M_path_43 rfl (lv_at hl 2 rfl) ?_
  have hPc := hP.sub (ws' := [(o, .inr (1, [.int (nI 0), .int (nI n), .int (nI 0), .int w4, .ref ca, .ref cb, .long z1, .long z2])), (ca, .inl (cA, (600, .inr (.inl f)))), (cb, .inl (cA, (40, .inr (.inl g))))]) [0, 1, 2] rfl
  have hDc := hD.sub (ws' := [(o, .inr (1, [.int (nI 0), .int (nI n), .int (nI 0), .int w4, .ref ca, .ref cb, .long z1, .long z2])), (ca, .inl (cA, (600, .inr (.inl f)))), (cb, .inl (cA, (40, .inr (.inl g))))]) [0, 1, 2] (by decide) rfl
  have hKc := hK.sub (tys' := [(cA, .long)]) [0] rfl
  have hFc := va_free (wc := [(o, .inr (1, [.int (nI 0), .int (nI n), .int (nI 0), .int w4, .ref ca, .ref cb, .long z1, .long z2])), (ca, .inl (cA, (600, .inr (.inl f)))), (cb, .inl (cA, (40, .inr (.inl g))))]) hD hS hA [0, 1, 2] rfl
  refine va_callv (va_runV (As := [.int (nI 0), .int (nI mm), .int (nI j)]) (rest := []) ⟨hx, hb, hml, hown, hW⟩ (ct_M_pathOf l dC dI o ca cb cA (nI 0) n w4 z1 z2 f 10 0 mm j 0 g H.size h1 (by omega) (by omega) (by omega)) (cwV 3 hW (tq_gV qm_350 qm_352 qs_M_pathOf qm_2 qm_353) rfl rfl rfl (by decide +kernel) ⟨Nat.le_of_ble_eq_true rfl, Nat.le_of_ble_eq_true rfl⟩) ⟨tq_b2, va_recv hKc hPc (ci := 1) (q0 := 0) rfl rfl, fun U hU hW9 => ⟨rfl, by rw [hU], by rw [hU]; exact hPc, va_K.moved hW9.alike hKc, hDc.weaken (fun _ _ _ _ => trivial)⟩⟩ rfl rfl hl.1 rfl (lv_room (Nat.le_of_ble_eq_true rfl)) qd_M_path_44 ⟨Nat.le_of_ble_eq_true rfl, Nat.le_of_ble_eq_true rfl⟩) hS (fun q _ h => hFc q h) hFc (fun u t9 H1 locs ht9 hvm hw hB hz1 hk1 hS => ?_)
  obtain ⟨hP1, hK1, hD1⟩ := hB
  rw [ht9] at hP1
  obtain ⟨hP, hD⟩ := va_join (wr := []) (w1 := [(o, .inr (1, [.int (nI 0), .int (nI n), .int (nI (0 + (tq_pt (fun j => tq_leaf (f j)) 0 mm j).length)), .int w4, .ref ca, .ref cb, .long z1, .long z2])), (ca, .inl (cA, (600, .inr (.inl f)))), (cb, .inl (cA, (40, .inr (.inl (tq_wr g 0 (tq_pt (fun j => tq_leaf (f j)) 0 mm j))))))]) hP hD [0, 1, 2] [] rfl rfl (by decide) (by decide) hk1 hFc hP1 hD1
  generalize H1 = H at hP hS ⊢
  have hP : va_P (dC, dI) tq_cl [(o, .inr (1, [.int (nI 0), .int (nI n), .int (nI (0 + (tq_pt (fun j => tq_leaf (f j)) 0 mm j).length)), .int w4, .ref ca, .ref cb, .long z1, .long z2])), (ca, .inl (cA, (600, .inr (.inl f)))), (cb, .inl (cA, (40, .inr (.inl (tq_wr g 0 (tq_pt (fun j => tq_leaf (f j)) 0 mm j))))))] H := hP
  have hD : va_D A [(o, .inr (1, [.int (nI 0), .int (nI n), .int (nI (0 + (tq_pt (fun j => tq_leaf (f j)) 0 mm j).length)), .int w4, .ref ca, .ref cb, .long z1, .long z2])), (ca, .inl (cA, (600, .inr (.inl f)))), (cb, .inl (cA, (40, .inr (.inl (tq_wr g 0 (tq_pt (fun j => tq_leaf (f j)) 0 mm j))))))] := hD
  rw [e5] at hP hD
  refine lv_aload_n hx hb qd_M_path_47 rfl (lv_at hl 0 rfl) ?_
  refine va_get (D := (dC, dI)) (ci := 1) (v := .int (nI (tq_pl mm j))) (C := RX1) (T := TX1) (N := 8) hx hb hW inX1 hown hK hP 0 rfl rfl 2 (by decide) (hW _ qm_283) (fun _ h9 => h9) rfl qd_M_path_48 ?_
  exact W.iret hx hb hr (fun t ht hW9 => ⟨⟨_, (), rfl, rfl, by rw [ht]; exact hP, va_K.moved hW9.alike hK, hD⟩, hS.F ht⟩) hS.2.2 qd_M_path_51
def tq_SO (l : Launch) (dC : Nat → ClassId) (dI : Nat → Nat → Nat) (o ca cb : Nat) (cA : ClassId) (w1 : Int32) (n : Nat) (w4 : Int32) (z1 z2 : Int64) (f : Nat → Int64) (d i y z k : Nat) (kn : Bool) (g : Nat → Int64) (sz : Nat) : Prop := Met l qy_M_stepsOf qw_M_stepsOf ({ frames := d + 13, cells := 0, slots := 0, locals := 25 * d + 325 }) (va_Pc [.ref o, .int (nI i), .int (nI y), .int (nI z), .int (tq_b kn)] (tq_rw (dC, dI) [(o, .inr (1, [.int w1, .int (nI n), .int (nI k), .int w4, .ref ca, .ref cb, .long z1, .long z2])), (ca, .inl (cA, (600, .inr (.inl f)))), (cb, .inl (cA, (40, .inr (.inl g))))] [(cA, .long)] sz)) (va_Qv (fun _ : Unit => True) (fun _ t => tq_in (dC, dI) [(o, .inr (1, [.int w1, .int (nI n), .int (nI (k + (tq_st (fun j => tq_leaf (f j)) kn i y z).length)), .int w4, .ref ca, .ref cb, .long z1, .long z2])), (ca, .inl (cA, (600, .inr (.inl f)))), (cb, .inl (cA, (40, .inr (.inl ((tq_wr g k (tq_st (fun j => tq_leaf (f j)) kn i y z)))))))] [(cA, .long)] (va_A [(o, .inr (1, [.int w1, .int (nI n), .int (nI k), .int w4, .ref ca, .ref cb, .long z1, .long z2])), (ca, .inl (cA, (600, .inr (.inl f)))), (cb, .inl (cA, (40, .inr (.inl g))))] sz) t) (va_A [(o, .inr (1, [.int w1, .int (nI n), .int (nI k), .int w4, .ref ca, .ref cb, .long z1, .long z2])), (ca, .inl (cA, (600, .inr (.inl f)))), (cb, .inl (cA, (40, .inr (.inl g))))] sz)) 0 0 (va_A [(o, .inr (1, [.int w1, .int (nI n), .int (nI k), .int w4, .ref ca, .ref cb, .long z1, .long z2])), (ca, .inl (cA, (600, .inr (.inl f)))), (cb, .inl (cA, (40, .inr (.inl g))))] sz)
set_option maxHeartbeats 4000000 in
set_option maxRecDepth 100000 in
/-- stepsOf: the STEPS come behind what stands -/
theorem ct_M_stepsOf_s (l : Launch) (dC : Nat → ClassId) (dI : Nat → Nat → Nat) (o ca cb : Nat) (cA : ClassId) (w1 : Int32) (n : Nat) (w4 : Int32) (z1 z2 : Int64) (f : Nat → Int64) (d i y z k : Nat) (kn : Bool) (g : Nat → Int64) (sz : Nat) (ih : ∀ d1, d = d1 + 1 → ∀ (i y z k : Nat) (kn : Bool) (g : Nat → Int64) (sz : Nat), 1 ≤ y → y ≤ z → i + z ≤ 600 → z ≤ 2 ^ d1 → k + tq_sl kn y z ≤ 40 → tq_SO l dC dI o ca cb cA w1 n w4 z1 z2 f d1 i y z k kn g sz) (h0 : 1 ≤ y) (h1 : y ≤ z) (h3 : i + z ≤ 600) (h2 : z ≤ 2 ^ d) (h4 : k + tq_sl kn y z ≤ 40) : tq_SO l dC dI o ca cb cA w1 n w4 z1 z2 f d i y z k kn g sz := by
  refine Met.ofW (cc := qc_M_stepsOf) (maxL := 6) (ret := none) (by decide) rfl ?_
  intro p e s m args below meth c s₁ B hml hv
  obtain ⟨rfl, hsz, hP, hK, hD0⟩ := hv
  have hx := B.exec
  have hb := B.bytes
  have hr := B.returns
  have hts := atoms_spec (ws := qw_M_stepsOf) B.pre
  have hW : ∀ w ∈ tq_W, w.before ([.ref o, .int (nI i), .int (nI y), .int (nI z), .int (tq_b kn)] : List Value).toArray s = true := fun w h => hts w (List.mem_cons_of_mem _ h)
  have hown : s.vm.findClass RX1 = some m.cls := findClass_of_methodNamed B.named
  have hlocks := B.notSynchronized
  have hl := lv_entry ([.ref o, .int (nI i), .int (nI y), .int (nI z), .int (tq_b kn)]) (n := 6) (Nat.le_of_ble_eq_true rfl)
  rw [lg_entry_eq]
  generalize (lg_sl ([.ref o, .int (nI i), .int (nI y), .int (nI z), .int (tq_b kn)]) ++ List.replicate (6 - (lg_sl ([.ref o, .int (nI i), .int (nI y), .int (nI z), .int (tq_b kn)])).length) Slot.unset).toArray = ls at hl ⊢
  have hl : lv_has ls 6 [(0, .ref o), (1, .int (nI i)), (2, .int (nI y)), (3, .int (nI z)), (4, .int (tq_b kn))] := hl
  subst hsz
  have hD := hD0.self (sz := s.heap.size)
  generalize hAe : va_A [(o, .inr (1, [.int w1, .int (nI n), .int (nI k), .int w4, .ref ca, .ref cb, .long z1, .long z2])), (ca, .inl (cA, (600, .inr (.inl f)))), (cb, .inl (cA, (40, .inr (.inl g))))] s.heap.size = A at hD ⊢
  have hA : ∀ q : Nat, s.heap.size ≤ q → A q := fun q h => by rw [← hAe]; exact Or.inr h
  have hS : va_S A s.heap s.heap [] := va_S.rf
  refine lv_iload_n hx hb qd_M_stepsOf_0 rfl (lv_at hl 2 rfl) ?_
  refine lv_iload_n hx hb qd_M_stepsOf_1 rfl (lv_at hl 3 rfl) ?_
  refine tq_icmp_ne (x := y) (y := z) (tgt := 21) hx hb qd_M_stepsOf_2 (by decide) (by omega) (by omega) (fun c9 => ?_) (fun c9 => ?_)
  · obtain ⟨d1, rfl⟩ : ∃ d1, d = d1 + 1 := by
      cases d with
      | zero => omega
      | succ d1 => exact ⟨d1, rfl⟩
    have hlt := tq_pb_lt (n := z) (by omega)
    have hps := tq_pb_pos z
    have hh := tq_pb_half h2 (by omega)
    have hrr := tq_pb_rest h2 (by omega)
    refine lv_iload_n hx hb qd_M_stepsOf_21 rfl (lv_at hl 3 rfl) ?_
    refine vp_callSi (W.runS (As := [.int (nI z)]) (rest := []) ⟨hx, hb, hml, hown, hW⟩ (ct_M_below l z (by omega) (by omega)) (cwS 1 hW (tq_gS qm_335 qm_336 qm_2 qm_337) rfl rfl rfl (by decide +kernel) ⟨(show 0 + 1 ≤ d1 + 1 + 13 from by omega), (show 8 + (2 + 11) + (0) ≤ 25 * (d1 + 1) + 325 from by omega)⟩) ⟨tq_b0, fun U hU hW9 => ⟨rfl, trivial⟩⟩ rfl rfl hl.1 rfl (lv_room (Nat.le_of_ble_eq_true rfl)) qd_M_stepsOf_22 ⟨Nat.le_of_ble_eq_true rfl, Nat.le_of_ble_eq_true rfl⟩) (fun r9 e9 => ?_)
    subst e9
    refine lv_istore (lv' := [(5, .int (nI (tq_pb z))), (0, .ref o), (1, .int (nI i)), (2, .int (nI y)), (3, .int (nI z)), (4, .int (tq_b kn))]) hx hb qd_M_stepsOf_25 hl (by decide) rfl (fun ls hl => ?_)
    refine lv_iload_n hx hb qd_M_stepsOf_27 rfl (lv_at hl 3 rfl) ?_
    refine lv_iload hx hb qd_M_stepsOf_28 (lv_at hl 0 rfl) ?_
    refine tq_icmp_gt (x := y) (y := (tq_pb z)) (tgt := 62) hx hb qd_M_stepsOf_30 (by decide) (by omega) (by omega) (fun c1 => ?_) (fun c1 => ?_)
    · have e4 := tq_sl_r (b := kn) (m := y) (n := z) (by omega) c1 c9
      refine lv_aload_n hx hb qd_M_stepsOf_62 rfl (lv_at hl 1 rfl) ?_
      refine lv_iload_n hx hb qd_M_stepsOf_63 rfl (lv_at hl 2 rfl) ?_
      refine lv_iload hx hb qd_M_stepsOf_64 (lv_at hl 0 rfl) ?_
      refine lv_iadd hx hb qd_M_stepsOf_66 ?_
      refine tq_ti (y := nI (i + tq_pb z)) (nI_add _ _) ?_
      refine lv_iload_n hx hb qd_M_stepsOf_67 rfl (lv_at hl 3 rfl) ?_
      refine lv_iload hx hb qd_M_stepsOf_68 (lv_at hl 0 rfl) ?_
      refine lv_isub hx hb qd_M_stepsOf_70 ?_
      refine tq_ti (y := nI (y - tq_pb z)) (pk_sub (by omega)) ?_
      refine lv_iload_n hx hb qd_M_stepsOf_71 rfl (lv_at hl 4 rfl) ?_
      refine lv_iload hx hb qd_M_stepsOf_72 (lv_at hl 0 rfl) ?_
      refine lv_isub hx hb qd_M_stepsOf_74 ?_
      refine tq_ti (y := nI (z - tq_pb z)) (pk_sub (by omega)) ?_
      refine lv_iconst (v := nI 0) hx hb qd_M_stepsOf_75 (by decide +kernel) ?_
      refine tq_ti (y := tq_b false) (rfl) ?_
      have hPc := hP.sub (ws' := [(o, .inr (1, [.int w1, .int (nI n), .int (nI k), .int w4, .ref ca, .ref cb, .long z1, .long z2])), (ca, .inl (cA, (600, .inr (.inl f)))), (cb, .inl (cA, (40, .inr (.inl g))))]) [0, 1, 2] rfl
      have hDc := hD.sub (ws' := [(o, .inr (1, [.int w1, .int (nI n), .int (nI k), .int w4, .ref ca, .ref cb, .long z1, .long z2])), (ca, .inl (cA, (600, .inr (.inl f)))), (cb, .inl (cA, (40, .inr (.inl g))))]) [0, 1, 2] (by decide) rfl
      have hKc := hK.sub (tys' := [(cA, .long)]) [0] rfl
      have hFc := va_free (wc := [(o, .inr (1, [.int w1, .int (nI n), .int (nI k), .int w4, .ref ca, .ref cb, .long z1, .long z2])), (ca, .inl (cA, (600, .inr (.inl f)))), (cb, .inl (cA, (40, .inr (.inl g))))]) hD hS hA [0, 1, 2] rfl
      refine va_callv (va_runV (As := [.int (nI (i + tq_pb z)), .int (nI (y - tq_pb z)), .int (nI (z - tq_pb z)), .int (tq_b false)]) (rest := []) ⟨hx, hb, hml, hown, hW⟩ (ih d1 rfl (i + tq_pb z) (y - tq_pb z) (z - tq_pb z) k false g s.heap.size (by omega) (by omega) (by omega) hrr (by omega)) (cwV 4 hW (tq_gV qm_362 qm_364 qs_M_stepsOf qm_2 qm_365) rfl rfl rfl (by decide +kernel) ⟨(show d1 + 13 + 1 ≤ d1 + 1 + 13 from by omega), (show 8 + (6 + 11) + (25 * d1 + 325) ≤ 25 * (d1 + 1) + 325 from by omega)⟩) ⟨tq_b2, va_recv hKc hPc (ci := 1) (q0 := 0) rfl rfl, fun U hU hW9 => ⟨rfl, by rw [hU], by rw [hU]; exact hPc, va_K.moved hW9.alike hKc, hDc.weaken (fun _ _ _ _ => trivial)⟩⟩ rfl rfl hl.1 rfl (lv_room (Nat.le_of_ble_eq_true rfl)) qd_M_stepsOf_76 ⟨Nat.le_of_ble_eq_true rfl, Nat.le_of_ble_eq_true rfl⟩) hS (fun q _ h => hFc q h) hFc (fun u t9 H1 locs ht9 hvm hw hB hz1 hk1 hS => ?_)
      obtain ⟨hP1, hK1, hD1⟩ := hB
      rw [ht9] at hP1
      obtain ⟨hP, hD⟩ := va_join (wr := []) (w1 := [(o, .inr (1, [.int w1, .int (nI n), .int (nI (k + (tq_st (fun j => tq_leaf (f j)) false (i + tq_pb z) (y - tq_pb z) (z - tq_pb z)).length)), .int w4, .ref ca, .ref cb, .long z1, .long z2])), (ca, .inl (cA, (600, .inr (.inl f)))), (cb, .inl (cA, (40, .inr (.inl (tq_wr g k (tq_st (fun j => tq_leaf (f j)) false (i + tq_pb z) (y - tq_pb z) (z - tq_pb z)))))))]) hP hD [0, 1, 2] [] rfl rfl (by decide) (by decide) hk1 hFc hP1 hD1
      generalize H1 = H at hP hS ⊢
      have hP : va_P (dC, dI) tq_cl [(o, .inr (1, [.int w1, .int (nI n), .int (nI (k + (tq_st (fun j => tq_leaf (f j)) false (i + tq_pb z) (y - tq_pb z) (z - tq_pb z)).length)), .int w4, .ref ca, .ref cb, .long z1, .long z2])), (ca, .inl (cA, (600, .inr (.inl f)))), (cb, .inl (cA, (40, .inr (.inl (tq_wr g k (tq_st (fun j => tq_leaf (f j)) false (i + tq_pb z) (y - tq_pb z) (z - tq_pb z)))))))] H := hP
      have hD : va_D A [(o, .inr (1, [.int w1, .int (nI n), .int (nI (k + (tq_st (fun j => tq_leaf (f j)) false (i + tq_pb z) (y - tq_pb z) (z - tq_pb z)).length)), .int w4, .ref ca, .ref cb, .long z1, .long z2])), (ca, .inl (cA, (600, .inr (.inl f)))), (cb, .inl (cA, (40, .inr (.inl (tq_wr g k (tq_st (fun j => tq_leaf (f j)) false (i + tq_pb z) (y - tq_pb z) (z - tq_pb z)))))))] := hD
      have e5 : (tq_st (fun j => tq_leaf (f j)) false (i + tq_pb z) (y - tq_pb z) (z - tq_pb z)).length = tq_sl false (y - tq_pb z) (z - tq_pb z) := tq_st_len _ _ _ _
      refine lv_aload_n hx hb qd_M_stepsOf_79 rfl (lv_at hl 1 rfl) ?_
      refine lv_aload_n hx hb qd_M_stepsOf_80 rfl (lv_at hl 1 rfl) ?_
      refine lv_iload_n hx hb qd_M_stepsOf_81 rfl (lv_at hl 2 rfl) ?_
      refine lv_iload hx hb qd_M_stepsOf_82 (lv_at hl 0 rfl) ?_
      refine vp_callSl (W.runV (As := [.int (nI i), .int (nI (tq_pb z))]) (rest := [.ref o]) ⟨hx, hb, hml, hown, hW⟩ (ct_M_headOf l dC dI o ca cb cA w1 (nI n) (nI (k + (tq_st (fun j => tq_leaf (f j)) false (i + tq_pb z) (y - tq_pb z) (z - tq_pb z)).length)) w4 z1 z2 f 10 i ((tq_pb z)) (by omega) (by omega)) (cwV 2 hW (tq_gV qm_326 qm_328 qs_M_headOf qm_2 qm_329) rfl rfl rfl (by decide +kernel) ⟨(show 12 + 1 ≤ d1 + 1 + 13 from by omega), (show 8 + (6 + 11) + (300) ≤ 25 * (d1 + 1) + 325 from by omega)⟩) ⟨tq_b1, va_recv hK hP (ci := 1) (q0 := 0) rfl rfl, fun U hU hW9 => ⟨rfl, by rw [hU]; exact hP.sub [0, 1] rfl, va_K.moved hW9.alike (hK.sub [0] rfl)⟩⟩ rfl rfl hl.1 rfl (lv_room (Nat.le_of_ble_eq_true rfl)) qd_M_stepsOf_84 ⟨Nat.le_of_ble_eq_true rfl, Nat.le_of_ble_eq_true rfl⟩) (fun r9 e9 => ?_)
      subst e9
      have hPc := hP.sub (ws' := [(o, .inr (1, [.int w1, .int (nI n), .int (nI (k + (tq_st (fun j => tq_leaf (f j)) false (i + tq_pb z) (y - tq_pb z) (z - tq_pb z)).length)), .int w4, .ref ca, .ref cb, .long z1, .long z2])), (ca, .inl (cA, (600, .inr (.inl f)))), (cb, .inl (cA, (40, .inr (.inl (tq_wr g k (tq_st (fun j => tq_leaf (f j)) false (i + tq_pb z) (y - tq_pb z) (z - tq_pb z)))))))]) [0, 1, 2] rfl
      have hDc := hD.sub (ws' := [(o, .inr (1, [.int w1, .int (nI n), .int (nI (k + (tq_st (fun j => tq_leaf (f j)) false (i + tq_pb z) (y - tq_pb z) (z - tq_pb z)).length)), .int w4, .ref ca, .ref cb, .long z1, .long z2])), (ca, .inl (cA, (600, .inr (.inl f)))), (cb, .inl (cA, (40, .inr (.inl (tq_wr g k (tq_st (fun j => tq_leaf (f j)) false (i + tq_pb z) (y - tq_pb z) (z - tq_pb z)))))))]) [0, 1, 2] (by decide) rfl
      have hKc := hK.sub (tys' := [(cA, .long)]) [0] rfl
      have hFc := va_free (wc := [(o, .inr (1, [.int w1, .int (nI n), .int (nI (k + (tq_st (fun j => tq_leaf (f j)) false (i + tq_pb z) (y - tq_pb z) (z - tq_pb z)).length)), .int w4, .ref ca, .ref cb, .long z1, .long z2])), (ca, .inl (cA, (600, .inr (.inl f)))), (cb, .inl (cA, (40, .inr (.inl (tq_wr g k (tq_st (fun j => tq_leaf (f j)) false (i + tq_pb z) (y - tq_pb z) (z - tq_pb z)))))))]) hD hS hA [0, 1, 2] rfl
      refine va_callv (va_runV (As := [.long (tq_hd (fun j => tq_leaf (f j)) i ((tq_pb z)))]) (rest := []) ⟨hx, hb, hml, hown, hW⟩ (ct_M_put l dC dI o ca cb cA w1 n ((k + (tq_st (fun j => tq_leaf (f j)) false (i + tq_pb z) (y - tq_pb z) (z - tq_pb z)).length)) w4 z1 z2 f (tq_wr g k (tq_st (fun j => tq_leaf (f j)) false (i + tq_pb z) (y - tq_pb z) (z - tq_pb z))) H.size (tq_hd (fun j => tq_leaf (f j)) i ((tq_pb z))) (by omega)) (cwV 1 hW (tq_gV qm_354 qm_356 qs_M_put qm_2 qm_357) rfl rfl rfl (by decide +kernel) ⟨(show 0 + 1 ≤ d1 + 1 + 13 from by omega), (show 8 + (3 + 11) + (0) ≤ 25 * (d1 + 1) + 325 from by omega)⟩) ⟨tq_b2, va_recv hKc hPc (ci := 1) (q0 := 0) rfl rfl, fun U hU hW9 => ⟨rfl, by rw [hU], by rw [hU]; exact hPc, va_K.moved hW9.alike hKc, hDc.weaken (fun _ _ _ _ => trivial)⟩⟩ rfl rfl hl.1 rfl (lv_room (Nat.le_of_ble_eq_true rfl)) qd_M_stepsOf_87 ⟨Nat.le_of_ble_eq_true rfl, Nat.le_of_ble_eq_true rfl⟩) hS (fun q _ h => hFc q h) hFc (fun u t9 H1 locs ht9 hvm hw hB hz1 hk1 hS => ?_)
      obtain ⟨hP1, hK1, hD1⟩ := hB
      rw [ht9] at hP1
      obtain ⟨hP, hD⟩ := va_join (wr := []) (w1 := [(o, .inr (1, [.int w1, .int (nI n), .int (nI (((k + (tq_st (fun j => tq_leaf (f j)) false (i + tq_pb z) (y - tq_pb z) (z - tq_pb z)).length)) + 1)), .int w4, .ref ca, .ref cb, .long z1, .long z2])), (ca, .inl (cA, (600, .inr (.inl f)))), (cb, .inl (cA, (40, .inr (.inl (vp_updL (tq_wr g k (tq_st (fun j => tq_leaf (f j)) false (i + tq_pb z) (y - tq_pb z) (z - tq_pb z))) ((k + (tq_st (fun j => tq_leaf (f j)) false (i + tq_pb z) (y - tq_pb z) (z - tq_pb z)).length)) (tq_hd (fun j => tq_leaf (f j)) i ((tq_pb z))))))))]) hP hD [0, 1, 2] [] rfl rfl (by decide) (by decide) hk1 hFc hP1 hD1
      generalize H1 = H at hP hS ⊢
      have hP : va_P (dC, dI) tq_cl [(o, .inr (1, [.int w1, .int (nI n), .int (nI (((k + (tq_st (fun j => tq_leaf (f j)) false (i + tq_pb z) (y - tq_pb z) (z - tq_pb z)).length)) + 1)), .int w4, .ref ca, .ref cb, .long z1, .long z2])), (ca, .inl (cA, (600, .inr (.inl f)))), (cb, .inl (cA, (40, .inr (.inl (vp_updL (tq_wr g k (tq_st (fun j => tq_leaf (f j)) false (i + tq_pb z) (y - tq_pb z) (z - tq_pb z))) ((k + (tq_st (fun j => tq_leaf (f j)) false (i + tq_pb z) (y - tq_pb z) (z - tq_pb z)).length)) (tq_hd (fun j => tq_leaf (f j)) i ((tq_pb z))))))))] H := hP
      have hD : va_D A [(o, .inr (1, [.int w1, .int (nI n), .int (nI (((k + (tq_st (fun j => tq_leaf (f j)) false (i + tq_pb z) (y - tq_pb z) (z - tq_pb z)).length)) + 1)), .int w4, .ref ca, .ref cb, .long z1, .long z2])), (ca, .inl (cA, (600, .inr (.inl f)))), (cb, .inl (cA, (40, .inr (.inl (vp_updL (tq_wr g k (tq_st (fun j => tq_leaf (f j)) false (i + tq_pb z) (y - tq_pb z) (z - tq_pb z))) ((k + (tq_st (fun j => tq_leaf (f j)) false (i + tq_pb z) (y - tq_pb z) (z - tq_pb z)).length)) (tq_hd (fun j => tq_leaf (f j)) i ((tq_pb z))))))))] := hD
      rw [tq_st_r (by omega) c1 c9, tq_wr_snoc, List.length_append, ← Nat.add_assoc]
      exact W.vret hx hb hr (fun t ht hW9 => ⟨⟨(), rfl, trivial, by rw [ht]; exact hP, va_K.moved hW9.alike hK, hD⟩, hS.F ht⟩) hS.2.2 qd_M_stepsOf_90
    · have e4 := tq_sl_l (b := kn) (m := y) (n := z) (by omega) c1
      refine lv_aload_n hx hb qd_M_stepsOf_33 rfl (lv_at hl 1 rfl) ?_
      refine lv_iload_n hx hb qd_M_stepsOf_34 rfl (lv_at hl 2 rfl) ?_
      refine lv_iload_n hx hb qd_M_stepsOf_35 rfl (lv_at hl 3 rfl) ?_
      refine lv_iload hx hb qd_M_stepsOf_36 (lv_at hl 0 rfl) ?_
      refine lv_iload hx hb qd_M_stepsOf_38 (lv_at hl 5 rfl) ?_
      have hPc := hP.sub (ws' := [(o, .inr (1, [.int w1, .int (nI n), .int (nI k), .int w4, .ref ca, .ref cb, .long z1, .long z2])), (ca, .inl (cA, (600, .inr (.inl f)))), (cb, .inl (cA, (40, .inr (.inl g))))]) [0, 1, 2] rfl
      have hDc := hD.sub (ws' := [(o, .inr (1, [.int w1, .int (nI n), .int (nI k), .int w4, .ref ca, .ref cb, .long z1, .long z2])), (ca, .inl (cA, (600, .inr (.inl f)))), (cb, .inl (cA, (40, .inr (.inl g))))]) [0, 1, 2] (by decide) rfl
      have hKc := hK.sub (tys' := [(cA, .long)]) [0] rfl
      have hFc := va_free (wc := [(o, .inr (1, [.int w1, .int (nI n), .int (nI k), .int w4, .ref ca, .ref cb, .long z1, .long z2])), (ca, .inl (cA, (600, .inr (.inl f)))), (cb, .inl (cA, (40, .inr (.inl g))))]) hD hS hA [0, 1, 2] rfl
      refine va_callv (va_runV (As := [.int (nI i), .int (nI y), .int (nI (tq_pb z)), .int (tq_b kn)]) (rest := []) ⟨hx, hb, hml, hown, hW⟩ (ih d1 rfl i y (tq_pb z) k kn g s.heap.size h0 c1 (by omega) hh (by omega)) (cwV 4 hW (tq_gV qm_362 qm_364 qs_M_stepsOf qm_2 qm_365) rfl rfl rfl (by decide +kernel) ⟨(show d1 + 13 + 1 ≤ d1 + 1 + 13 from by omega), (show 8 + (6 + 11) + (25 * d1 + 325) ≤ 25 * (d1 + 1) + 325 from by omega)⟩) ⟨tq_b2, va_recv hKc hPc (ci := 1) (q0 := 0) rfl rfl, fun U hU hW9 => ⟨rfl, by rw [hU], by rw [hU]; exact hPc, va_K.moved hW9.alike hKc, hDc.weaken (fun _ _ _ _ => trivial)⟩⟩ rfl rfl hl.1 rfl (lv_room (Nat.le_of_ble_eq_true rfl)) qd_M_stepsOf_40 ⟨Nat.le_of_ble_eq_true rfl, Nat.le_of_ble_eq_true rfl⟩) hS (fun q _ h => hFc q h) hFc (fun u t9 H1 locs ht9 hvm hw hB hz1 hk1 hS => ?_)
      obtain ⟨hP1, hK1, hD1⟩ := hB
      rw [ht9] at hP1
      obtain ⟨hP, hD⟩ := va_join (wr := []) (w1 := [(o, .inr (1, [.int w1, .int (nI n), .int (nI (k + (tq_st (fun j => tq_leaf (f j)) kn i y (tq_pb z)).length)), .int w4, .ref ca, .ref cb, .long z1, .long z2])), (ca, .inl (cA, (600, .inr (.inl f)))), (cb, .inl (cA, (40, .inr (.inl (tq_wr g k (tq_st (fun j => tq_leaf (f j)) kn i y (tq_pb z)))))))]) hP hD [0, 1, 2] [] rfl rfl (by decide) (by decide) hk1 hFc hP1 hD1
      generalize H1 = H at hP hS ⊢
      have hP : va_P (dC, dI) tq_cl [(o, .inr (1, [.int w1, .int (nI n), .int (nI (k + (tq_st (fun j => tq_leaf (f j)) kn i y (tq_pb z)).length)), .int w4, .ref ca, .ref cb, .long z1, .long z2])), (ca, .inl (cA, (600, .inr (.inl f)))), (cb, .inl (cA, (40, .inr (.inl (tq_wr g k (tq_st (fun j => tq_leaf (f j)) kn i y (tq_pb z)))))))] H := hP
      have hD : va_D A [(o, .inr (1, [.int w1, .int (nI n), .int (nI (k + (tq_st (fun j => tq_leaf (f j)) kn i y (tq_pb z)).length)), .int w4, .ref ca, .ref cb, .long z1, .long z2])), (ca, .inl (cA, (600, .inr (.inl f)))), (cb, .inl (cA, (40, .inr (.inl (tq_wr g k (tq_st (fun j => tq_leaf (f j)) kn i y (tq_pb z)))))))] := hD
      have e5 : (tq_st (fun j => tq_leaf (f j)) kn i y (tq_pb z)).length = tq_sl kn y (tq_pb z) := tq_st_len _ _ _ _
      refine lv_aload_n hx hb qd_M_stepsOf_43 rfl (lv_at hl 1 rfl) ?_
      refine lv_aload_n hx hb qd_M_stepsOf_44 rfl (lv_at hl 1 rfl) ?_
      refine lv_iload_n hx hb qd_M_stepsOf_45 rfl (lv_at hl 2 rfl) ?_
      refine lv_iload hx hb qd_M_stepsOf_46 (lv_at hl 0 rfl) ?_
      refine lv_iadd hx hb qd_M_stepsOf_48 ?_
      refine tq_ti (y := nI (i + tq_pb z)) (nI_add _ _) ?_
      refine lv_iload_n hx hb qd_M_stepsOf_49 rfl (lv_at hl 4 rfl) ?_
      refine lv_iload hx hb qd_M_stepsOf_50 (lv_at hl 0 rfl) ?_
      refine lv_isub hx hb qd_M_stepsOf_52 ?_
      refine tq_ti (y := nI (z - tq_pb z)) (pk_sub (by omega)) ?_
      refine vp_callSl (W.runV (As := [.int (nI (i + tq_pb z)), .int (nI (z - tq_pb z))]) (rest := [.ref o]) ⟨hx, hb, hml, hown, hW⟩ (ct_M_headOf l dC dI o ca cb cA w1 (nI n) (nI (k + (tq_st (fun j => tq_leaf (f j)) kn i y (tq_pb z)).length)) w4 z1 z2 f 10 ((i + tq_pb z)) ((z - tq_pb z)) (by omega) (by omega)) (cwV 2 hW (tq_gV qm_326 qm_328 qs_M_headOf qm_2 qm_329) rfl rfl rfl (by decide +kernel) ⟨(show 12 + 1 ≤ d1 + 1 + 13 from by omega), (show 8 + (6 + 11) + (300) ≤ 25 * (d1 + 1) + 325 from by omega)⟩) ⟨tq_b1, va_recv hK hP (ci := 1) (q0 := 0) rfl rfl, fun U hU hW9 => ⟨rfl, by rw [hU]; exact hP.sub [0, 1] rfl, va_K.moved hW9.alike (hK.sub [0] rfl)⟩⟩ rfl rfl hl.1 rfl (lv_room (Nat.le_of_ble_eq_true rfl)) qd_M_stepsOf_53 ⟨Nat.le_of_ble_eq_true rfl, Nat.le_of_ble_eq_true rfl⟩) (fun r9 e9 => ?_)
      subst e9
      have hPc := hP.sub (ws' := [(o, .inr (1, [.int w1, .int (nI n), .int (nI (k + (tq_st (fun j => tq_leaf (f j)) kn i y (tq_pb z)).length)), .int w4, .ref ca, .ref cb, .long z1, .long z2])), (ca, .inl (cA, (600, .inr (.inl f)))), (cb, .inl (cA, (40, .inr (.inl (tq_wr g k (tq_st (fun j => tq_leaf (f j)) kn i y (tq_pb z)))))))]) [0, 1, 2] rfl
      have hDc := hD.sub (ws' := [(o, .inr (1, [.int w1, .int (nI n), .int (nI (k + (tq_st (fun j => tq_leaf (f j)) kn i y (tq_pb z)).length)), .int w4, .ref ca, .ref cb, .long z1, .long z2])), (ca, .inl (cA, (600, .inr (.inl f)))), (cb, .inl (cA, (40, .inr (.inl (tq_wr g k (tq_st (fun j => tq_leaf (f j)) kn i y (tq_pb z)))))))]) [0, 1, 2] (by decide) rfl
      have hKc := hK.sub (tys' := [(cA, .long)]) [0] rfl
      have hFc := va_free (wc := [(o, .inr (1, [.int w1, .int (nI n), .int (nI (k + (tq_st (fun j => tq_leaf (f j)) kn i y (tq_pb z)).length)), .int w4, .ref ca, .ref cb, .long z1, .long z2])), (ca, .inl (cA, (600, .inr (.inl f)))), (cb, .inl (cA, (40, .inr (.inl (tq_wr g k (tq_st (fun j => tq_leaf (f j)) kn i y (tq_pb z)))))))]) hD hS hA [0, 1, 2] rfl
      refine va_callv (va_runV (As := [.long (tq_hd (fun j => tq_leaf (f j)) ((i + tq_pb z)) ((z - tq_pb z)))]) (rest := []) ⟨hx, hb, hml, hown, hW⟩ (ct_M_put l dC dI o ca cb cA w1 n ((k + (tq_st (fun j => tq_leaf (f j)) kn i y (tq_pb z)).length)) w4 z1 z2 f (tq_wr g k (tq_st (fun j => tq_leaf (f j)) kn i y (tq_pb z))) H.size (tq_hd (fun j => tq_leaf (f j)) ((i + tq_pb z)) ((z - tq_pb z))) (by omega)) (cwV 1 hW (tq_gV qm_354 qm_356 qs_M_put qm_2 qm_357) rfl rfl rfl (by decide +kernel) ⟨(show 0 + 1 ≤ d1 + 1 + 13 from by omega), (show 8 + (3 + 11) + (0) ≤ 25 * (d1 + 1) + 325 from by omega)⟩) ⟨tq_b2, va_recv hKc hPc (ci := 1) (q0 := 0) rfl rfl, fun U hU hW9 => ⟨rfl, by rw [hU], by rw [hU]; exact hPc, va_K.moved hW9.alike hKc, hDc.weaken (fun _ _ _ _ => trivial)⟩⟩ rfl rfl hl.1 rfl (lv_room (Nat.le_of_ble_eq_true rfl)) qd_M_stepsOf_56 ⟨Nat.le_of_ble_eq_true rfl, Nat.le_of_ble_eq_true rfl⟩) hS (fun q _ h => hFc q h) hFc (fun u t9 H1 locs ht9 hvm hw hB hz1 hk1 hS => ?_)
      obtain ⟨hP1, hK1, hD1⟩ := hB
      rw [ht9] at hP1
      obtain ⟨hP, hD⟩ := va_join (wr := []) (w1 := [(o, .inr (1, [.int w1, .int (nI n), .int (nI (((k + (tq_st (fun j => tq_leaf (f j)) kn i y (tq_pb z)).length)) + 1)), .int w4, .ref ca, .ref cb, .long z1, .long z2])), (ca, .inl (cA, (600, .inr (.inl f)))), (cb, .inl (cA, (40, .inr (.inl (vp_updL (tq_wr g k (tq_st (fun j => tq_leaf (f j)) kn i y (tq_pb z))) ((k + (tq_st (fun j => tq_leaf (f j)) kn i y (tq_pb z)).length)) (tq_hd (fun j => tq_leaf (f j)) ((i + tq_pb z)) ((z - tq_pb z))))))))]) hP hD [0, 1, 2] [] rfl rfl (by decide) (by decide) hk1 hFc hP1 hD1
      generalize H1 = H at hP hS ⊢
      have hP : va_P (dC, dI) tq_cl [(o, .inr (1, [.int w1, .int (nI n), .int (nI (((k + (tq_st (fun j => tq_leaf (f j)) kn i y (tq_pb z)).length)) + 1)), .int w4, .ref ca, .ref cb, .long z1, .long z2])), (ca, .inl (cA, (600, .inr (.inl f)))), (cb, .inl (cA, (40, .inr (.inl (vp_updL (tq_wr g k (tq_st (fun j => tq_leaf (f j)) kn i y (tq_pb z))) ((k + (tq_st (fun j => tq_leaf (f j)) kn i y (tq_pb z)).length)) (tq_hd (fun j => tq_leaf (f j)) ((i + tq_pb z)) ((z - tq_pb z))))))))] H := hP
      have hD : va_D A [(o, .inr (1, [.int w1, .int (nI n), .int (nI (((k + (tq_st (fun j => tq_leaf (f j)) kn i y (tq_pb z)).length)) + 1)), .int w4, .ref ca, .ref cb, .long z1, .long z2])), (ca, .inl (cA, (600, .inr (.inl f)))), (cb, .inl (cA, (40, .inr (.inl (vp_updL (tq_wr g k (tq_st (fun j => tq_leaf (f j)) kn i y (tq_pb z))) ((k + (tq_st (fun j => tq_leaf (f j)) kn i y (tq_pb z)).length)) (tq_hd (fun j => tq_leaf (f j)) ((i + tq_pb z)) ((z - tq_pb z))))))))] := hD
      refine lv_goto (tgt := 90) hx hb qd_M_stepsOf_59 (by decide) ?_
      rw [tq_st_l (by omega) c1, tq_wr_snoc, List.length_append, ← Nat.add_assoc]
      exact W.vret hx hb hr (fun t ht hW9 => ⟨⟨(), rfl, trivial, by rw [ht]; exact hP, va_K.moved hW9.alike hK, hD⟩, hS.F ht⟩) hS.2.2 qd_M_stepsOf_90
  · subst c9
    rw [tq_sl_e] at h4
    cases kn with
    | true =>
      refine lv_iload hx hb qd_M_stepsOf_5 (lv_at hl 4 rfl) ?_
      refine tq_ti (y := nI 1) (rfl) ?_
      refine tq_if_ne (x := 1) (tgt := 20) hx hb qd_M_stepsOf_7 (by decide) (by omega) (fun c9 => ?_) (fun c9 => by omega)
      rw [tq_st_e]
      exact W.vret hx hb hr (fun t ht hW9 => ⟨⟨(), rfl, trivial, by rw [ht]; exact hP, va_K.moved hW9.alike hK, hD⟩, hS.F ht⟩) hS.2.2 qd_M_stepsOf_20
    | false =>
      have h4 : k + 1 ≤ 40 := h4
      refine lv_iload hx hb qd_M_stepsOf_5 (lv_at hl 4 rfl) ?_
      refine tq_ti (y := nI 0) (rfl) ?_
      refine tq_if_ne (x := 0) (tgt := 20) hx hb qd_M_stepsOf_7 (by decide) (by omega) (fun c9 => by omega) (fun c9 => ?_)
      refine lv_aload_n hx hb qd_M_stepsOf_10 rfl (lv_at hl 0 rfl) ?_
      refine lv_aload_n hx hb qd_M_stepsOf_11 rfl (lv_at hl 0 rfl) ?_
      refine lv_iload_n hx hb qd_M_stepsOf_12 rfl (lv_at hl 1 rfl) ?_
      refine lv_iload_n hx hb qd_M_stepsOf_13 rfl (lv_at hl 3 rfl) ?_
      refine vp_callSl (W.runV (As := [.int (nI i), .int (nI y)]) (rest := [.ref o]) ⟨hx, hb, hml, hown, hW⟩ (ct_M_headOf l dC dI o ca cb cA w1 (nI n) (nI k) w4 z1 z2 f 10 i y (by omega) (by omega)) (cwV 2 hW (tq_gV qm_326 qm_328 qs_M_headOf qm_2 qm_329) rfl rfl rfl (by decide +kernel) ⟨(show 12 + 1 ≤ d + 13 from by omega), (show 8 + (6 + 11) + (300) ≤ 25 * d + 325 from by omega)⟩) ⟨tq_b1, va_recv hK hP (ci := 1) (q0 := 0) rfl rfl, fun U hU hW9 => ⟨rfl, by rw [hU]; exact hP.sub [0, 1] rfl, va_K.moved hW9.alike (hK.sub [0] rfl)⟩⟩ rfl rfl hl.1 rfl (lv_room (Nat.le_of_ble_eq_true rfl)) qd_M_stepsOf_14 ⟨Nat.le_of_ble_eq_true rfl, Nat.le_of_ble_eq_true rfl⟩) (fun r9 e9 => ?_)
      subst e9
      have hPc := hP.sub (ws' := [(o, .inr (1, [.int w1, .int (nI n), .int (nI k), .int w4, .ref ca, .ref cb, .long z1, .long z2])), (ca, .inl (cA, (600, .inr (.inl f)))), (cb, .inl (cA, (40, .inr (.inl g))))]) [0, 1, 2] rfl
      have hDc := hD.sub (ws' := [(o, .inr (1, [.int w1, .int (nI n), .int (nI k), .int w4, .ref ca, .ref cb, .long z1, .long z2])), (ca, .inl (cA, (600, .inr (.inl f)))), (cb, .inl (cA, (40, .inr (.inl g))))]) [0, 1, 2] (by decide) rfl
      have hKc := hK.sub (tys' := [(cA, .long)]) [0] rfl
      have hFc := va_free (wc := [(o, .inr (1, [.int w1, .int (nI n), .int (nI k), .int w4, .ref ca, .ref cb, .long z1, .long z2])), (ca, .inl (cA, (600, .inr (.inl f)))), (cb, .inl (cA, (40, .inr (.inl g))))]) hD hS hA [0, 1, 2] rfl
      refine va_callv (va_runV (As := [.long (tq_hd (fun j => tq_leaf (f j)) i y)]) (rest := []) ⟨hx, hb, hml, hown, hW⟩ (ct_M_put l dC dI o ca cb cA w1 n k w4 z1 z2 f g s.heap.size (tq_hd (fun j => tq_leaf (f j)) i y) (by omega)) (cwV 1 hW (tq_gV qm_354 qm_356 qs_M_put qm_2 qm_357) rfl rfl rfl (by decide +kernel) ⟨(show 0 + 1 ≤ d + 13 from by omega), (show 8 + (3 + 11) + (0) ≤ 25 * d + 325 from by omega)⟩) ⟨tq_b2, va_recv hKc hPc (ci := 1) (q0 := 0) rfl rfl, fun U hU hW9 => ⟨rfl, by rw [hU], by rw [hU]; exact hPc, va_K.moved hW9.alike hKc, hDc.weaken (fun _ _ _ _ => trivial)⟩⟩ rfl rfl hl.1 rfl (lv_room (Nat.le_of_ble_eq_true rfl)) qd_M_stepsOf_17 ⟨Nat.le_of_ble_eq_true rfl, Nat.le_of_ble_eq_true rfl⟩) hS (fun q _ h => hFc q h) hFc (fun u t9 H1 locs ht9 hvm hw hB hz1 hk1 hS => ?_)
      obtain ⟨hP1, hK1, hD1⟩ := hB
      rw [ht9] at hP1
      obtain ⟨hP, hD⟩ := va_join (wr := []) (w1 := [(o, .inr (1, [.int w1, .int (nI n), .int (nI (k + 1)), .int w4, .ref ca, .ref cb, .long z1, .long z2])), (ca, .inl (cA, (600, .inr (.inl f)))), (cb, .inl (cA, (40, .inr (.inl (vp_updL g k (tq_hd (fun j => tq_leaf (f j)) i y))))))]) hP hD [0, 1, 2] [] rfl rfl (by decide) (by decide) hk1 hFc hP1 hD1
      generalize H1 = H at hP hS ⊢
      have hP : va_P (dC, dI) tq_cl [(o, .inr (1, [.int w1, .int (nI n), .int (nI (k + 1)), .int w4, .ref ca, .ref cb, .long z1, .long z2])), (ca, .inl (cA, (600, .inr (.inl f)))), (cb, .inl (cA, (40, .inr (.inl (vp_updL g k (tq_hd (fun j => tq_leaf (f j)) i y))))))] H := hP
      have hD : va_D A [(o, .inr (1, [.int w1, .int (nI n), .int (nI (k + 1)), .int w4, .ref ca, .ref cb, .long z1, .long z2])), (ca, .inl (cA, (600, .inr (.inl f)))), (cb, .inl (cA, (40, .inr (.inl (vp_updL g k (tq_hd (fun j => tq_leaf (f j)) i y))))))] := hD
      rw [tq_st_e]
      exact W.vret hx hb hr (fun t ht hW9 => ⟨⟨(), rfl, trivial, by rw [ht]; exact hP, va_K.moved hW9.alike hK, hD⟩, hS.F ht⟩) hS.2.2 qd_M_stepsOf_20
theorem ct_M_stepsOf (l : Launch) (dC : Nat → ClassId) (dI : Nat → Nat → Nat) (o ca cb : Nat) (cA : ClassId) (w1 : Int32) (n : Nat) (w4 : Int32) (z1 z2 : Int64) (f : Nat → Int64) : ∀ (d i y z k : Nat) (kn : Bool) (g : Nat → Int64) (sz : Nat), 1 ≤ y → y ≤ z → i + z ≤ 600 → z ≤ 2 ^ d → k + tq_sl kn y z ≤ 40 → tq_SO l dC dI o ca cb cA w1 n w4 z1 z2 f d i y z k kn g sz
  | 0, i, y, z, k, kn, g, sz, h0, h1, h2, h3, h4 => ct_M_stepsOf_s l dC dI o ca cb cA w1 n w4 z1 z2 f 0 i y z k kn g sz (fun d1 h => by omega) h0 h1 h2 h3 h4
  | d + 1, i, y, z, k, kn, g, sz, h0, h1, h2, h3, h4 => ct_M_stepsOf_s l dC dI o ca cb cA w1 n w4 z1 z2 f (d + 1) i y z k kn g sz (fun d1 h i y z k kn g sz a0 a1 a2 a3 a4 => by cases h; exact ct_M_stepsOf l dC dI o ca cb cA w1 n w4 z1 z2 f d i y z k kn g sz a0 a1 a2 a3 a4) h0 h1 h2 h3 h4
set_option maxHeartbeats 4000000 in
set_option maxRecDepth 100000 in
theorem ct_M_steps (l : Launch) (dC : Nat → ClassId) (dI : Nat → Nat → Nat) (o ca cb : Nat) (cA : ClassId) (w1 : Int32) (n k : Nat) (w4 : Int32) (z1 z2 : Int64) (f g : Nat → Int64) (sz : Nat) (mm j : Nat) (h0 : 1 ≤ mm) (h1 : mm ≤ j) (hj : j ≤ n) (hn : n ≤ 600) : Met l qy_M_steps qw_M_steps ({ frames := 24, cells := 0, slots := 0, locals := 620 }) (va_Pc [.ref o, .int (nI mm), .int (nI j)] (tq_rw (dC, dI) [(o, .inr (1, [.int w1, .int (nI n), .int (nI k), .int w4, .ref ca, .ref cb, .long z1, .long z2])), (ca, .inl (cA, (600, .inr (.inl f)))), (cb, .inl (cA, (40, .inr (.inl g))))] [(cA, .long)] sz)) (va_Qi (fun r (_ : Unit) => r = nI (tq_sl true mm j)) (fun _ t => tq_in (dC, dI) [(o, .inr (1, [.int (nI 0), .int (nI n), .int (nI (tq_sl true mm j)), .int w4, .ref ca, .ref cb, .long z1, .long z2])), (ca, .inl (cA, (600, .inr (.inl f)))), (cb, .inl (cA, (40, .inr (.inl ((tq_wr g 0 (tq_st (fun j => tq_leaf (f j)) true 0 mm j)))))))] [(cA, .long)] (va_A [(o, .inr (1, [.int w1, .int (nI n), .int (nI k), .int w4, .ref ca, .ref cb, .long z1, .long z2])), (ca, .inl (cA, (600, .inr (.inl f)))), (cb, .inl (cA, (40, .inr (.inl g))))] sz) t) (va_A [(o, .inr (1, [.int w1, .int (nI n), .int (nI k), .int w4, .ref ca, .ref cb, .long z1, .long z2])), (ca, .inl (cA, (600, .inr (.inl f)))), (cb, .inl (cA, (40, .inr (.inl g))))] sz)) 0 0 (va_A [(o, .inr (1, [.int w1, .int (nI n), .int (nI k), .int w4, .ref ca, .ref cb, .long z1, .long z2])), (ca, .inl (cA, (600, .inr (.inl f)))), (cb, .inl (cA, (40, .inr (.inl g))))] sz) := by
  refine Met.ofW (cc := qc_M_steps) (maxL := 3) (ret := (some .int)) (by decide) rfl ?_
  intro p e s m args below meth c s₁ B hml hv
  obtain ⟨rfl, hsz, hP, hK, hD0⟩ := hv
  have hx := B.exec
  have hb := B.bytes
  have hr := B.returns
  have hts := atoms_spec (ws := qw_M_steps) B.pre
  have hW : ∀ w ∈ tq_W, w.before ([.ref o, .int (nI mm), .int (nI j)] : List Value).toArray s = true := fun w h => hts w (List.mem_cons_of_mem _ h)
  have hown : s.vm.findClass RX1 = some m.cls := findClass_of_methodNamed B.named
  have hlocks := B.notSynchronized
  have hl := lv_entry ([.ref o, .int (nI mm), .int (nI j)]) (n := 3) (Nat.le_of_ble_eq_true rfl)
  rw [lg_entry_eq]
  generalize (lg_sl ([.ref o, .int (nI mm), .int (nI j)]) ++ List.replicate (3 - (lg_sl ([.ref o, .int (nI mm), .int (nI j)])).length) Slot.unset).toArray = ls at hl ⊢
  have hl : lv_has ls 3 [(0, .ref o), (1, .int (nI mm)), (2, .int (nI j))] := hl
  subst hsz
  have hD := hD0.self (sz := s.heap.size)
  generalize hAe : va_A [(o, .inr (1, [.int w1, .int (nI n), .int (nI k), .int w4, .ref ca, .ref cb, .long z1, .long z2])), (ca, .inl (cA, (600, .inr (.inl f)))), (cb, .inl (cA, (40, .inr (.inl g))))] s.heap.size = A at hD ⊢
  have hA : ∀ q : Nat, s.heap.size ≤ q → A q := fun q h => by rw [← hAe]; exact Or.inr h
  have hS : va_S A s.heap s.heap [] := va_S.rf
  have hsl := tq_sl_le 10 true mm j (by omega)
  have e5 : 0 + (tq_st (fun j => tq_leaf (f j)) true 0 mm j).length = tq_sl true mm j := by rw [Nat.zero_add]; exact tq_st_len _ _ _ _
  refine lv_aload_n hx hb qd_M_steps_0 rfl (lv_at hl 0 rfl) ?_
  refine lv_iload_n hx hb qd_M_steps_1 rfl (lv_at hl 1 rfl) ?_
  refine lv_iconst (v := nI 1) hx hb qd_M_steps_2 (by decide +kernel) ?_
  refine tq_icmp_lt (x := mm) (y := 1) (tgt := 19) hx hb qd_M_steps_3 (by decide) (by omega) (by omega) (fun c9 => by omega) (fun c9 => ?_)
  refine lv_iload_n hx hb qd_M_steps_6 rfl (lv_at hl 1 rfl) ?_
  refine lv_iload_n hx hb qd_M_steps_7 rfl (lv_at hl 2 rfl) ?_
  refine tq_icmp_gt (x := mm) (y := j) (tgt := 19) hx hb qd_M_steps_8 (by decide) (by omega) (by omega) (fun c9 => by omega) (fun c9 => ?_)
  refine lv_iload_n hx hb qd_M_steps_11 rfl (lv_at hl 2 rfl) ?_
  refine lv_aload_n hx hb qd_M_steps_12 rfl (lv_at hl 0 rfl) ?_
  refine va_get (D := (dC, dI)) (ci := 1) (v := .int (nI n)) (C := RX1) (T := TX1) (N := 8) hx hb hW inX1 hown hK hP 0 rfl rfl 1 (by decide) (hW _ qm_282) (fun _ h9 => h9) rfl qd_M_steps_13 ?_
  refine tq_icmp_le (x := j) (y := n) (tgt := 23) hx hb qd_M_steps_16 (by decide) (by omega) (by omega) (fun c9 => ?_) (fun c9 => by omega)
  refine lv_iconst (v := nI 0) hx hb qd_M_steps_23 (by decide +kernel) ?_
  refine va_put (D := (dC, dI)) (ci := 1) (v := .int (nI 0)) (ty := .int) (C := RX1) (T := TX1) (N := 8) hx hb hW inX1 tyX1 tyX1_ok nmX1 hown hK hP hD hS 0 rfl rfl 0 (by decide) (hW _ qm_281) (fun _ h9 => h9) rfl (by decide +kernel) rfl rfl (Nat.le_of_ble_eq_true rfl) qd_M_steps_24 (fun H locs hP hD hS => ?_)
  have hP : va_P (dC, dI) tq_cl [(o, .inr (1, [.int (nI 0), .int (nI n), .int (nI k), .int w4, .ref ca, .ref cb, .long z1, .long z2])), (ca, .inl (cA, (600, .inr (.inl f)))), (cb, .inl (cA, (40, .inr (.inl g))))] H := hP
  have hD : va_D A [(o, .inr (1, [.int (nI 0), .int (nI n), .int (nI k), .int w4, .ref ca, .ref cb, .long z1, .long z2])), (ca, .inl (cA, (600, .inr (.inl f)))), (cb, .inl (cA, (40, .inr (.inl g))))] := hD
  refine lv_aload_n hx hb qd_M_steps_27 rfl (lv_at hl 0 rfl) ?_
  refine va_get (D := (dC, dI)) (ci := 1) (v := .int (nI 0)) (C := RX1) (T := TX1) (N := 8) hx hb hW inX1 hown hK hP 0 rfl rfl 0 (by decide) (hW _ qm_281) (fun _ h9 => h9) rfl qd_M_steps_28 ?_
  refine tq_if_le (x := 0) (tgt := 36) hx hb qd_M_steps_31 (by decide) (by omega) (fun c9 => ?_) (fun c9 => by omega)
  refine lv_aload_n hx hb qd_M_steps_36 rfl (lv_at hl 0 rfl) ?_
  refine lv_iconst (v := nI 0) hx hb qd_M_steps_37 (by decide +kernel) ?_
  refine va_put (D := (dC, dI)) (ci := 1) (v := .int (nI 0)) (ty := .int) (C := RX1) (T := TX1) (N := 8) hx hb hW inX1 tyX1 tyX1_ok nmX1 hown hK hP hD hS 0 rfl rfl 2 (by decide) (hW _ qm_283) (fun _ h9 => h9) rfl (by decide +kernel) rfl rfl (Nat.le_of_ble_eq_true rfl) qd_M_steps_38 (fun H locs hP hD hS => ?_)
  have hP : va_P (dC, dI) tq_cl [(o, .inr (1, [.int (nI 0), .int (nI n), .int (nI 0), .int w4, .ref ca, .ref cb, .long z1, .long z2])), (ca, .inl (cA, (600, .inr (.inl f)))), (cb, .inl (cA, (40, .inr (.inl g))))] H := hP
  have hD : va_D A [(o, .inr (1, [.int (nI 0), .int (nI n), .int (nI 0), .int w4, .ref ca, .ref cb, .long z1, .long z2])), (ca, .inl (cA, (600, .inr (.inl f)))), (cb, .inl (cA, (40, .inr (.inl g))))] := hD
  refine lv_aload_n hx hb qd_M_steps_41 rfl (lv_at hl 0 rfl) ?_
  refine lv_iconst (v := nI 0) hx hb qd_M_steps_42 (by decide +kernel) ?_
  refine lv_iload_n hx hb qd_M_steps_43 rfl (lv_at hl 1 rfl) ?_
  refine lv_iload_n hx hb qd_M_steps_44 rfl (lv_at hl 2 rfl) ?_
  refine lv_iconst (v := nI 1) hx hb qd_M_steps_45 (by decide +kernel) ?_
  refine tq_ti (y := tq_b true) (rfl) ?_
  have hPc := hP.sub (ws' := [(o, .inr (1, [.int (nI 0), .int (nI n), .int (nI 0), .int w4, .ref ca, .ref cb, .long z1, .long z2])), (ca, .inl (cA, (600, .inr (.inl f)))), (cb, .inl (cA, (40, .inr (.inl g))))]) [0, 1, 2] rfl
  have hDc := hD.sub (ws' := [(o, .inr (1, [.int (nI 0), .int (nI n), .int (nI 0), .int w4, .ref ca, .ref cb, .long z1, .long z2])), (ca, .inl (cA, (600, .inr (.inl f)))), (cb, .inl (cA, (40, .inr (.inl g))))]) [0, 1, 2] (by decide) rfl
  have hKc := hK.sub (tys' := [(cA, .long)]) [0] rfl
  have hFc := va_free (wc := [(o, .inr (1, [.int (nI 0), .int (nI n), .int (nI 0), .int w4, .ref ca, .ref cb, .long z1, .long z2])), (ca, .inl (cA, (600, .inr (.inl f)))), (cb, .inl (cA, (40, .inr (.inl g))))]) hD hS hA [0, 1, 2] rfl
  refine va_callv (va_runV (As := [.int (nI 0), .int (nI mm), .int (nI j), .int (tq_b true)]) (rest := []) ⟨hx, hb, hml, hown, hW⟩ (ct_M_stepsOf l dC dI o ca cb cA (nI 0) n w4 z1 z2 f 10 0 mm j 0 true g H.size h0 h1 (by omega) (by omega) (by omega)) (cwV 4 hW (tq_gV qm_362 qm_364 qs_M_stepsOf qm_2 qm_365) rfl rfl rfl (by decide +kernel) ⟨Nat.le_of_ble_eq_true rfl, Nat.le_of_ble_eq_true rfl⟩) ⟨tq_b2, va_recv hKc hPc (ci := 1) (q0 := 0) rfl rfl, fun U hU hW9 => ⟨rfl, by rw [hU], by rw [hU]; exact hPc, va_K.moved hW9.alike hKc, hDc.weaken (fun _ _ _ _ => trivial)⟩⟩ rfl rfl hl.1 rfl (lv_room (Nat.le_of_ble_eq_true rfl)) qd_M_steps_46 ⟨Nat.le_of_ble_eq_true rfl, Nat.le_of_ble_eq_true rfl⟩) hS (fun q _ h => hFc q h) hFc (fun u t9 H1 locs ht9 hvm hw hB hz1 hk1 hS => ?_)
  obtain ⟨hP1, hK1, hD1⟩ := hB
  rw [ht9] at hP1
  obtain ⟨hP, hD⟩ := va_join (wr := []) (w1 := [(o, .inr (1, [.int (nI 0), .int (nI n), .int (nI (0 + (tq_st (fun j => tq_leaf (f j)) true 0 mm j).length)), .int w4, .ref ca, .ref cb, .long z1, .long z2])), (ca, .inl (cA, (600, .inr (.inl f)))), (cb, .inl (cA, (40, .inr (.inl (tq_wr g 0 (tq_st (fun j => tq_leaf (f j)) true 0 mm j))))))]) hP hD [0, 1, 2] [] rfl rfl (by decide) (by decide) hk1 hFc hP1 hD1
  generalize H1 = H at hP hS ⊢
  have hP : va_P (dC, dI) tq_cl [(o, .inr (1, [.int (nI 0), .int (nI n), .int (nI (0 + (tq_st (fun j => tq_leaf (f j)) true 0 mm j).length)), .int w4, .ref ca, .ref cb, .long z1, .long z2])), (ca, .inl (cA, (600, .inr (.inl f)))), (cb, .inl (cA, (40, .inr (.inl (tq_wr g 0 (tq_st (fun j => tq_leaf (f j)) true 0 mm j))))))] H := hP
  have hD : va_D A [(o, .inr (1, [.int (nI 0), .int (nI n), .int (nI (0 + (tq_st (fun j => tq_leaf (f j)) true 0 mm j).length)), .int w4, .ref ca, .ref cb, .long z1, .long z2])), (ca, .inl (cA, (600, .inr (.inl f)))), (cb, .inl (cA, (40, .inr (.inl (tq_wr g 0 (tq_st (fun j => tq_leaf (f j)) true 0 mm j))))))] := hD
  rw [e5] at hP hD
  refine lv_aload_n hx hb qd_M_steps_49 rfl (lv_at hl 0 rfl) ?_
  refine va_get (D := (dC, dI)) (ci := 1) (v := .int (nI (tq_sl true mm j))) (C := RX1) (T := TX1) (N := 8) hx hb hW inX1 hown hK hP 0 rfl rfl 2 (by decide) (hW _ qm_283) (fun _ h9 => h9) rfl qd_M_steps_50 ?_
  exact W.iret hx hb hr (fun t ht hW9 => ⟨⟨_, (), rfl, rfl, by rw [ht]; exact hP, va_K.moved hW9.alike hK, hD⟩, hS.F ht⟩) hS.2.2 qd_M_steps_53
end
section
set_option maxHeartbeats 4000000 in
set_option maxRecDepth 100000 in
theorem ct_M_next (l : Launch) (dC : Nat → ClassId) (dI : Nat → Nat → Nat) (o ca cb : Nat) (cA : ClassId) (w1 : Int32) (n k : Nat) (z1 z2 : Int64) (f g : Nat → Int64) (sz : Nat) (q : Nat) (hq : q ≤ 200) (hk : k ≤ 40) : Met l qy_M_next qw_M_next ({ frames := 0, cells := 0, slots := 0, locals := 0 }) (va_Pc [.ref o] (tq_rw (dC, dI) [(o, .inr (1, [.int w1, .int (nI n), .int (nI k), .int (nI q), .ref ca, .ref cb, .long z1, .long z2])), (ca, .inl (cA, (600, .inr (.inl f)))), (cb, .inl (cA, (40, .inr (.inl g))))] [(cA, .long)] sz)) (va_Ql (fun r (_ : Unit) => r = tq_q g k q) (fun _ t => tq_in (dC, dI) [(o, .inr (1, [.int w1, .int (nI n), .int (nI k), .int (nI (q + 1)), .ref ca, .ref cb, .long z1, .long z2])), (ca, .inl (cA, (600, .inr (.inl f)))), (cb, .inl (cA, (40, .inr (.inl g))))] [(cA, .long)] (va_A [(o, .inr (1, [.int w1, .int (nI n), .int (nI k), .int (nI q), .ref ca, .ref cb, .long z1, .long z2])), (ca, .inl (cA, (600, .inr (.inl f)))), (cb, .inl (cA, (40, .inr (.inl g))))] sz) t) (va_A [(o, .inr (1, [.int w1, .int (nI n), .int (nI k), .int (nI q), .ref ca, .ref cb, .long z1, .long z2])), (ca, .inl (cA, (600, .inr (.inl f)))), (cb, .inl (cA, (40, .inr (.inl g))))] sz)) 0 0 (va_A [(o, .inr (1, [.int w1, .int (nI n), .int (nI k), .int (nI q), .ref ca, .ref cb, .long z1, .long z2])), (ca, .inl (cA, (600, .inr (.inl f)))), (cb, .inl (cA, (40, .inr (.inl g))))] sz) := by
  refine Met.ofW (cc := qc_M_next) (maxL := 1) (ret := (some .long)) (by decide) rfl ?_
  intro p e s m args below meth c s₁ B hml hv
  obtain ⟨rfl, hsz, hP, hK, hD0⟩ := hv
  have hx := B.exec
  have hb := B.bytes
  have hr := B.returns
  have hts := atoms_spec (ws := qw_M_next) B.pre
  have hW : ∀ w ∈ tq_W, w.before ([.ref o] : List Value).toArray s = true := fun w h => hts w (List.mem_cons_of_mem _ h)
  have hown : s.vm.findClass RX1 = some m.cls := findClass_of_methodNamed B.named
  have hlocks := B.notSynchronized
  have hl := lv_entry ([.ref o]) (n := 1) (Nat.le_of_ble_eq_true rfl)
  rw [lg_entry_eq]
  generalize (lg_sl ([.ref o]) ++ List.replicate (1 - (lg_sl ([.ref o])).length) Slot.unset).toArray = ls at hl ⊢
  have hl : lv_has ls 1 [(0, .ref o)] := hl
  subst hsz
  have hD := hD0.self (sz := s.heap.size)
  generalize hAe : va_A [(o, .inr (1, [.int w1, .int (nI n), .int (nI k), .int (nI q), .ref ca, .ref cb, .long z1, .long z2])), (ca, .inl (cA, (600, .inr (.inl f)))), (cb, .inl (cA, (40, .inr (.inl g))))] s.heap.size = A at hD ⊢
  have hA : ∀ q : Nat, s.heap.size ≤ q → A q := fun q h => by rw [← hAe]; exact Or.inr h
  have hS : va_S A s.heap s.heap [] := va_S.rf
  refine lv_aload_n hx hb qd_M_next_0 rfl (lv_at hl 0 rfl) ?_
  refine lv_dup hx hb qd_M_next_1 rfl ?_
  refine va_get (D := (dC, dI)) (ci := 1) (v := .int (nI q)) (C := RX1) (T := TX1) (N := 8) hx hb hW inX1 hown hK hP 0 rfl rfl 3 (by decide) (hW _ qm_284) (fun _ h9 => h9) rfl qd_M_next_2 ?_
  refine lv_iconst (v := nI 1) hx hb qd_M_next_5 (by decide +kernel) ?_
  refine lv_iadd hx hb qd_M_next_6 ?_
  refine tq_ti (y := nI (q + 1)) (nI_1 q) ?_
  refine va_put (D := (dC, dI)) (ci := 1) (v := .int (nI (q + 1))) (ty := .int) (C := RX1) (T := TX1) (N := 8) hx hb hW inX1 tyX1 tyX1_ok nmX1 hown hK hP hD hS 0 rfl rfl 3 (by decide) (hW _ qm_284) (fun _ h9 => h9) rfl (by decide +kernel) rfl rfl (Nat.le_of_ble_eq_true rfl) qd_M_next_7 (fun H locs hP hD hS => ?_)
  have hP : va_P (dC, dI) tq_cl [(o, .inr (1, [.int w1, .int (nI n), .int (nI k), .int (nI (q + 1)), .ref ca, .ref cb, .long z1, .long z2])), (ca, .inl (cA, (600, .inr (.inl f)))), (cb, .inl (cA, (40, .inr (.inl g))))] H := hP
  have hD : va_D A [(o, .inr (1, [.int w1, .int (nI n), .int (nI k), .int (nI (q + 1)), .ref ca, .ref cb, .long z1, .long z2])), (ca, .inl (cA, (600, .inr (.inl f)))), (cb, .inl (cA, (40, .inr (.inl g))))] := hD
  refine lv_aload_n hx hb qd_M_next_10 rfl (lv_at hl 0 rfl) ?_
  refine va_get (D := (dC, dI)) (ci := 1) (v := .int (nI (q + 1))) (C := RX1) (T := TX1) (N := 8) hx hb hW inX1 hown hK hP 0 rfl rfl 3 (by decide) (hW _ qm_284) (fun _ h9 => h9) rfl qd_M_next_11 ?_
  refine lv_aload_n hx hb qd_M_next_14 rfl (lv_at hl 0 rfl) ?_
  refine va_get (D := (dC, dI)) (ci := 1) (v := .int (nI k)) (C := RX1) (T := TX1) (N := 8) hx hb hW inX1 hown hK hP 0 rfl rfl 2 (by decide) (hW _ qm_283) (fun _ h9 => h9) rfl qd_M_next_15 ?_
  refine tq_icmp_gt (x := (q + 1)) (y := k) (tgt := 35) hx hb qd_M_next_18 (by decide) (by omega) (by omega) (fun c9 => ?_) (fun c9 => ?_)
  · refine lv_lconst (v := 0) hx hb qd_M_next_35 (by decide) ?_
    exact W.lret hx hb hr (fun t ht hW9 => ⟨⟨_, (), rfl, (by unfold tq_q; rw [if_neg (by omega)]), by rw [ht]; exact hP, va_K.moved hW9.alike hK, hD⟩, hS.F ht⟩) hS.2.2 qd_M_next_36
  · refine lv_aload_n hx hb qd_M_next_21 rfl (lv_at hl 0 rfl) ?_
    refine va_get (D := (dC, dI)) (ci := 1) (v := .ref cb) (C := RX1) (T := TX1) (N := 8) hx hb hW inX1 hown hK hP 0 rfl rfl 5 (by decide) (hW _ qm_286) (fun _ h9 => h9) rfl qd_M_next_22 ?_
    refine lv_aload_n hx hb qd_M_next_25 rfl (lv_at hl 0 rfl) ?_
    refine va_get (D := (dC, dI)) (ci := 1) (v := .int (nI (q + 1))) (C := RX1) (T := TX1) (N := 8) hx hb hW inX1 hown hK hP 0 rfl rfl 3 (by decide) (hW _ qm_284) (fun _ h9 => h9) rfl qd_M_next_26 ?_
    refine lv_iconst (v := nI 1) hx hb qd_M_next_29 (by decide +kernel) ?_
    refine lv_isub hx hb qd_M_next_30 ?_
    refine tq_ti (y := nI q) (by rw [pk_sub (by omega)]; rfl) ?_
    refine tq_lald hx hb hK hP 2 0 rfl rfl (j := q) (by omega) (by decide) qd_M_next_31 ?_
    refine lv_goto (tgt := 36) hx hb qd_M_next_32 (by decide) ?_
    exact W.lret hx hb hr (fun t ht hW9 => ⟨⟨_, (), rfl, (by unfold tq_q; rw [if_pos (by omega)]), by rw [ht]; exact hP, va_K.moved hW9.alike hK, hD⟩, hS.F ht⟩) hS.2.2 qd_M_next_36
def tq_RO (l : Launch) (dC : Nat → ClassId) (dI : Nat → Nat → Nat) (o ca cb : Nat) (cA : ClassId) (w1 : Int32) (n k : Nat) (z1 z2 : Int64) (f g : Nat → Int64) (v : Int64) (d y z q : Nat) (sz : Nat) : Prop := Met l qy_M_rootOf qw_M_rootOf ({ frames := d + 2, cells := 0, slots := 0, locals := 27 * d + 50 }) (va_Pc [.ref o, .int (nI y), .int (nI z), .long v] (tq_rw (dC, dI) [(o, .inr (1, [.int w1, .int (nI n), .int (nI k), .int (nI q), .ref ca, .ref cb, .long z1, .long z2])), (ca, .inl (cA, (600, .inr (.inl f)))), (cb, .inl (cA, (40, .inr (.inl g))))] [(cA, .long)] sz)) (va_Ql (fun r (_ : Unit) => r = tq_rt (fun j => tq_q g k (q + j)) y z (tq_leaf v)) (fun _ t => tq_in (dC, dI) [(o, .inr (1, [.int w1, .int (nI n), .int (nI k), .int (nI (q + tq_pl y z)), .ref ca, .ref cb, .long z1, .long z2])), (ca, .inl (cA, (600, .inr (.inl f)))), (cb, .inl (cA, (40, .inr (.inl g))))] [(cA, .long)] (va_A [(o, .inr (1, [.int w1, .int (nI n), .int (nI k), .int (nI q), .ref ca, .ref cb, .long z1, .long z2])), (ca, .inl (cA, (600, .inr (.inl f)))), (cb, .inl (cA, (40, .inr (.inl g))))] sz) t) (va_A [(o, .inr (1, [.int w1, .int (nI n), .int (nI k), .int (nI q), .ref ca, .ref cb, .long z1, .long z2])), (ca, .inl (cA, (600, .inr (.inl f)))), (cb, .inl (cA, (40, .inr (.inl g))))] sz)) 0 0 (va_A [(o, .inr (1, [.int w1, .int (nI n), .int (nI k), .int (nI q), .ref ca, .ref cb, .long z1, .long z2])), (ca, .inl (cA, (600, .inr (.inl f)))), (cb, .inl (cA, (40, .inr (.inl g))))] sz)
set_option maxHeartbeats 4000000 in
set_option maxRecDepth 100000 in
/-- rootOf: what the PROOF makes, read on from number q -/
theorem ct_M_rootOf_s (l : Launch) (dC : Nat → ClassId) (dI : Nat → Nat → Nat) (o ca cb : Nat) (cA : ClassId) (w1 : Int32) (n k : Nat) (z1 z2 : Int64) (f g : Nat → Int64) (v : Int64) (d y z q : Nat) (sz : Nat) (ih : ∀ d1, d = d1 + 1 → ∀ (y z q : Nat) (sz : Nat), y < z → z ≤ 2 ^ d1 → d1 ≤ 30 → q + tq_pl y z ≤ 100 → k ≤ 40 → tq_RO l dC dI o ca cb cA w1 n k z1 z2 f g v d1 y z q sz) (h1 : y < z) (h2 : z ≤ 2 ^ d) (h3 : d ≤ 30) (h4 : q + tq_pl y z ≤ 100) (hk : k ≤ 40) : tq_RO l dC dI o ca cb cA w1 n k z1 z2 f g v d y z q sz := by
  refine Met.ofW (cc := qc_M_rootOf) (maxL := 8) (ret := (some .long)) (by decide) rfl ?_
  intro p e s m args below meth c s₁ B hml hv
  obtain ⟨rfl, hsz, hP, hK, hD0⟩ := hv
  have hx := B.exec
  have hb := B.bytes
  have hr := B.returns
  have hts := atoms_spec (ws := qw_M_rootOf) B.pre
  have hW : ∀ w ∈ tq_W, w.before ([.ref o, .int (nI y), .int (nI z), .long v] : List Value).toArray s = true := fun w h => hts w (List.mem_cons_of_mem _ h)
  have hown : s.vm.findClass RX1 = some m.cls := findClass_of_methodNamed B.named
  have hlocks := B.notSynchronized
  have hl := lv_entry ([.ref o, .int (nI y), .int (nI z), .long v]) (n := 8) (Nat.le_of_ble_eq_true rfl)
  rw [lg_entry_eq]
  generalize (lg_sl ([.ref o, .int (nI y), .int (nI z), .long v]) ++ List.replicate (8 - (lg_sl ([.ref o, .int (nI y), .int (nI z), .long v])).length) Slot.unset).toArray = ls at hl ⊢
  have hl : lv_has ls 8 [(0, .ref o), (1, .int (nI y)), (2, .int (nI z)), (3, .long v)] := hl
  subst hsz
  have hD := hD0.self (sz := s.heap.size)
  generalize hAe : va_A [(o, .inr (1, [.int w1, .int (nI n), .int (nI k), .int (nI q), .ref ca, .ref cb, .long z1, .long z2])), (ca, .inl (cA, (600, .inr (.inl f)))), (cb, .inl (cA, (40, .inr (.inl g))))] s.heap.size = A at hD ⊢
  have hA : ∀ q : Nat, s.heap.size ≤ q → A q := fun q h => by rw [← hAe]; exact Or.inr h
  have hS : va_S A s.heap s.heap [] := va_S.rf
  have hn30 : z ≤ 2 ^ 30 := Nat.le_trans h2 (Nat.pow_le_pow_right (by decide) h3)
  refine lv_iload_n hx hb qd_M_rootOf_0 rfl (lv_at hl 2 rfl) ?_
  refine lv_iconst (v := nI 1) hx hb qd_M_rootOf_1 (by decide +kernel) ?_
  refine tq_icmp_ne (x := z) (y := 1) (tgt := 11) hx hb qd_M_rootOf_2 (by decide) (by omega) (by omega) (fun c9 => ?_) (fun c9 => ?_)
  · obtain ⟨d1, rfl⟩ : ∃ d1, d = d1 + 1 := by
      cases d with
      | zero => omega
      | succ d1 => exact ⟨d1, rfl⟩
    have hlt := tq_pb_lt (n := z) (by omega)
    have hps := tq_pb_pos z
    have hh := tq_pb_half h2 (by omega)
    have hrr := tq_pb_rest h2 (by omega)
    refine lv_iload_n hx hb qd_M_rootOf_11 rfl (lv_at hl 2 rfl) ?_
    refine vp_callSi (W.runS (As := [.int (nI z)]) (rest := []) ⟨hx, hb, hml, hown, hW⟩ (ct_M_below l z (by omega) (by omega)) (cwS 1 hW (tq_gS qm_335 qm_336 qm_2 qm_337) rfl rfl rfl (by decide +kernel) ⟨(show 0 + 1 ≤ d1 + 1 + 2 from by omega), (show 8 + (2 + 11) + (0) ≤ 27 * (d1 + 1) + 50 from by omega)⟩) ⟨tq_b0, fun U hU hW9 => ⟨rfl, trivial⟩⟩ rfl rfl hl.1 rfl (lv_room (Nat.le_of_ble_eq_true rfl)) qd_M_rootOf_12 ⟨Nat.le_of_ble_eq_true rfl, Nat.le_of_ble_eq_true rfl⟩) (fun r9 e9 => ?_)
    subst e9
    refine lv_istore (lv' := [(5, .int (nI (tq_pb z))), (0, .ref o), (1, .int (nI y)), (2, .int (nI z)), (3, .long v)]) hx hb qd_M_rootOf_15 hl (by decide) rfl (fun ls hl => ?_)
    refine lv_iload_n hx hb qd_M_rootOf_17 rfl (lv_at hl 2 rfl) ?_
    refine lv_iload hx hb qd_M_rootOf_18 (lv_at hl 0 rfl) ?_
    refine tq_icmp_ge (x := y) (y := (tq_pb z)) (tgt := 43) hx hb qd_M_rootOf_20 (by decide) (by omega) (by omega) (fun c1 => ?_) (fun c1 => ?_)
    · have e4 := tq_pl_r (m := y) (n := z) (by omega) c1
      refine lv_aload_n hx hb qd_M_rootOf_43 rfl (lv_at hl 1 rfl) ?_
      refine lv_iload_n hx hb qd_M_rootOf_44 rfl (lv_at hl 2 rfl) ?_
      refine lv_iload hx hb qd_M_rootOf_45 (lv_at hl 0 rfl) ?_
      refine lv_isub hx hb qd_M_rootOf_47 ?_
      refine tq_ti (y := nI (y - tq_pb z)) (pk_sub (by omega)) ?_
      refine lv_iload_n hx hb qd_M_rootOf_48 rfl (lv_at hl 3 rfl) ?_
      refine lv_iload hx hb qd_M_rootOf_49 (lv_at hl 0 rfl) ?_
      refine lv_isub hx hb qd_M_rootOf_51 ?_
      refine tq_ti (y := nI (z - tq_pb z)) (pk_sub (by omega)) ?_
      refine lv_lload_n hx hb qd_M_rootOf_52 rfl (lv_at hl 4 rfl) ?_
      have hPc := hP.sub (ws' := [(o, .inr (1, [.int w1, .int (nI n), .int (nI k), .int (nI q), .ref ca, .ref cb, .long z1, .long z2])), (ca, .inl (cA, (600, .inr (.inl f)))), (cb, .inl (cA, (40, .inr (.inl g))))]) [0, 1, 2] rfl
      have hDc := hD.sub (ws' := [(o, .inr (1, [.int w1, .int (nI n), .int (nI k), .int (nI q), .ref ca, .ref cb, .long z1, .long z2])), (ca, .inl (cA, (600, .inr (.inl f)))), (cb, .inl (cA, (40, .inr (.inl g))))]) [0, 1, 2] (by decide) rfl
      have hKc := hK.sub (tys' := [(cA, .long)]) [0] rfl
      have hFc := va_free (wc := [(o, .inr (1, [.int w1, .int (nI n), .int (nI k), .int (nI q), .ref ca, .ref cb, .long z1, .long z2])), (ca, .inl (cA, (600, .inr (.inl f)))), (cb, .inl (cA, (40, .inr (.inl g))))]) hD hS hA [0, 1, 2] rfl
      refine va_calll (va_runV (As := [.int (nI (y - tq_pb z)), .int (nI (z - tq_pb z)), .long v]) (rest := []) ⟨hx, hb, hml, hown, hW⟩ (ih d1 rfl (y - tq_pb z) (z - tq_pb z) q s.heap.size (by omega) hrr (by omega) (by omega) hk) (cwV 3 hW (tq_gV qm_383 qm_385 qs_M_rootOf qm_2 qm_386) rfl rfl rfl (by decide +kernel) ⟨(show d1 + 2 + 1 ≤ d1 + 1 + 2 from by omega), (show 8 + (8 + 11) + (27 * d1 + 50) ≤ 27 * (d1 + 1) + 50 from by omega)⟩) ⟨tq_b2, va_recv hKc hPc (ci := 1) (q0 := 0) rfl rfl, fun U hU hW9 => ⟨rfl, by rw [hU], by rw [hU]; exact hPc, va_K.moved hW9.alike hKc, hDc.weaken (fun _ _ _ _ => trivial)⟩⟩ rfl rfl hl.1 rfl (lv_room (Nat.le_of_ble_eq_true rfl)) qd_M_rootOf_53 ⟨Nat.le_of_ble_eq_true rfl, Nat.le_of_ble_eq_true rfl⟩) hS (fun q _ h => hFc q h) hFc (fun r9 u t9 H1 locs ht9 hvm hw hB hz1 hk1 hS => ?_)
      obtain ⟨hP1, hK1, hD1⟩ := hB
      rw [ht9] at hP1
      obtain ⟨hP, hD⟩ := va_join (wr := []) (w1 := [(o, .inr (1, [.int w1, .int (nI n), .int (nI k), .int (nI (q + tq_pl (y - tq_pb z) (z - tq_pb z))), .ref ca, .ref cb, .long z1, .long z2])), (ca, .inl (cA, (600, .inr (.inl f)))), (cb, .inl (cA, (40, .inr (.inl g))))]) hP hD [0, 1, 2] [] rfl rfl (by decide) (by decide) hk1 hFc hP1 hD1
      generalize H1 = H at hP hS ⊢
      have hP : va_P (dC, dI) tq_cl [(o, .inr (1, [.int w1, .int (nI n), .int (nI k), .int (nI (q + tq_pl (y - tq_pb z) (z - tq_pb z))), .ref ca, .ref cb, .long z1, .long z2])), (ca, .inl (cA, (600, .inr (.inl f)))), (cb, .inl (cA, (40, .inr (.inl g))))] H := hP
      have hD : va_D A [(o, .inr (1, [.int w1, .int (nI n), .int (nI k), .int (nI (q + tq_pl (y - tq_pb z) (z - tq_pb z))), .ref ca, .ref cb, .long z1, .long z2])), (ca, .inl (cA, (600, .inr (.inl f)))), (cb, .inl (cA, (40, .inr (.inl g))))] := hD
      have hw : r9 = tq_rt (fun j => tq_q g k (q + j)) (y - tq_pb z) (z - tq_pb z) (tq_leaf v) := hw
      subst hw
      refine lv_lstore (lv' := [(6, .long (tq_rt (fun j => tq_q g k (q + j)) (y - tq_pb z) (z - tq_pb z) (tq_leaf v))), (5, .int (nI (tq_pb z))), (0, .ref o), (1, .int (nI y)), (2, .int (nI z)), (3, .long v)]) hx hb qd_M_rootOf_56 hl (by decide) rfl (fun ls hl => ?_)
      refine lv_aload_n hx hb qd_M_rootOf_58 rfl (lv_at hl 2 rfl) ?_
      have hPc := hP.sub (ws' := [(o, .inr (1, [.int w1, .int (nI n), .int (nI k), .int (nI (q + tq_pl (y - tq_pb z) (z - tq_pb z))), .ref ca, .ref cb, .long z1, .long z2])), (ca, .inl (cA, (600, .inr (.inl f)))), (cb, .inl (cA, (40, .inr (.inl g))))]) [0, 1, 2] rfl
      have hDc := hD.sub (ws' := [(o, .inr (1, [.int w1, .int (nI n), .int (nI k), .int (nI (q + tq_pl (y - tq_pb z) (z - tq_pb z))), .ref ca, .ref cb, .long z1, .long z2])), (ca, .inl (cA, (600, .inr (.inl f)))), (cb, .inl (cA, (40, .inr (.inl g))))]) [0, 1, 2] (by decide) rfl
      have hKc := hK.sub (tys' := [(cA, .long)]) [0] rfl
      have hFc := va_free (wc := [(o, .inr (1, [.int w1, .int (nI n), .int (nI k), .int (nI (q + tq_pl (y - tq_pb z) (z - tq_pb z))), .ref ca, .ref cb, .long z1, .long z2])), (ca, .inl (cA, (600, .inr (.inl f)))), (cb, .inl (cA, (40, .inr (.inl g))))]) hD hS hA [0, 1, 2] rfl
      refine va_calll (va_runV (As := []) (rest := []) ⟨hx, hb, hml, hown, hW⟩ (ct_M_next l dC dI o ca cb cA w1 n k z1 z2 f g H.size ((q + tq_pl (y - tq_pb z) (z - tq_pb z))) (by omega) (by omega)) (cwV 0 hW (tq_gV qm_387 qm_389 qs_M_next qm_2 qm_390) rfl rfl rfl (by decide +kernel) ⟨(show 0 + 1 ≤ d1 + 1 + 2 from by omega), (show 8 + (1 + 11) + (0) ≤ 27 * (d1 + 1) + 50 from by omega)⟩) ⟨tq_b2, va_recv hKc hPc (ci := 1) (q0 := 0) rfl rfl, fun U hU hW9 => ⟨rfl, by rw [hU], by rw [hU]; exact hPc, va_K.moved hW9.alike hKc, hDc.weaken (fun _ _ _ _ => trivial)⟩⟩ rfl rfl hl.1 rfl (lv_room (Nat.le_of_ble_eq_true rfl)) qd_M_rootOf_59 ⟨Nat.le_of_ble_eq_true rfl, Nat.le_of_ble_eq_true rfl⟩) hS (fun q _ h => hFc q h) hFc (fun r9 u t9 H1 locs ht9 hvm hw hB hz1 hk1 hS => ?_)
      obtain ⟨hP1, hK1, hD1⟩ := hB
      rw [ht9] at hP1
      obtain ⟨hP, hD⟩ := va_join (wr := []) (w1 := [(o, .inr (1, [.int w1, .int (nI n), .int (nI k), .int (nI (((q + tq_pl (y - tq_pb z) (z - tq_pb z))) + 1)), .ref ca, .ref cb, .long z1, .long z2])), (ca, .inl (cA, (600, .inr (.inl f)))), (cb, .inl (cA, (40, .inr (.inl g))))]) hP hD [0, 1, 2] [] rfl rfl (by decide) (by decide) hk1 hFc hP1 hD1
      generalize H1 = H at hP hS ⊢
      have hP : va_P (dC, dI) tq_cl [(o, .inr (1, [.int w1, .int (nI n), .int (nI k), .int (nI (((q + tq_pl (y - tq_pb z) (z - tq_pb z))) + 1)), .ref ca, .ref cb, .long z1, .long z2])), (ca, .inl (cA, (600, .inr (.inl f)))), (cb, .inl (cA, (40, .inr (.inl g))))] H := hP
      have hD : va_D A [(o, .inr (1, [.int w1, .int (nI n), .int (nI k), .int (nI (((q + tq_pl (y - tq_pb z) (z - tq_pb z))) + 1)), .ref ca, .ref cb, .long z1, .long z2])), (ca, .inl (cA, (600, .inr (.inl f)))), (cb, .inl (cA, (40, .inr (.inl g))))] := hD
      have hw : r9 = tq_q g k ((q + tq_pl (y - tq_pb z) (z - tq_pb z))) := hw
      subst hw
      refine lv_lload hx hb qd_M_rootOf_62 (lv_at hl 0 rfl) ?_
      refine vp_callSl (W.runS (As := [.long (tq_q g k ((q + tq_pl (y - tq_pb z) (z - tq_pb z)))), .long (tq_rt (fun j => tq_q g k (q + j)) (y - tq_pb z) (z - tq_pb z) (tq_leaf v))]) (rest := []) ⟨hx, hb, hml, hown, hW⟩ (ct_M_node l (tq_q g k ((q + tq_pl (y - tq_pb z) (z - tq_pb z)))) (tq_rt (fun j => tq_q g k (q + j)) (y - tq_pb z) (z - tq_pb z) (tq_leaf v))) (cwS 2 hW (tq_gS qm_338 qm_339 qm_2 qm_340) rfl rfl rfl (by decide +kernel) ⟨(show 1 + 1 ≤ d1 + 1 + 2 from by omega), (show 8 + (4 + 11) + (27) ≤ 27 * (d1 + 1) + 50 from by omega)⟩) ⟨tq_b0, fun U hU hW9 => ⟨rfl, trivial⟩⟩ rfl rfl hl.1 rfl (lv_room (Nat.le_of_ble_eq_true rfl)) qd_M_rootOf_64 ⟨Nat.le_of_ble_eq_true rfl, Nat.le_of_ble_eq_true rfl⟩) (fun r9 e9 => ?_)
      subst e9
      rw [tq_pl_r (by omega) c1, ← Nat.add_assoc]
      exact W.lret hx hb hr (fun t ht hW9 => ⟨⟨_, (), rfl, (by rw [tq_rt_r (by omega) c1]), by rw [ht]; exact hP, va_K.moved hW9.alike hK, hD⟩, hS.F ht⟩) hS.2.2 qd_M_rootOf_67
    · have e4 := tq_pl_l (m := y) (n := z) (by omega) c1
      refine lv_aload_n hx hb qd_M_rootOf_23 rfl (lv_at hl 1 rfl) ?_
      refine lv_iload_n hx hb qd_M_rootOf_24 rfl (lv_at hl 2 rfl) ?_
      refine lv_iload hx hb qd_M_rootOf_25 (lv_at hl 0 rfl) ?_
      refine lv_lload_n hx hb qd_M_rootOf_27 rfl (lv_at hl 4 rfl) ?_
      have hPc := hP.sub (ws' := [(o, .inr (1, [.int w1, .int (nI n), .int (nI k), .int (nI q), .ref ca, .ref cb, .long z1, .long z2])), (ca, .inl (cA, (600, .inr (.inl f)))), (cb, .inl (cA, (40, .inr (.inl g))))]) [0, 1, 2] rfl
      have hDc := hD.sub (ws' := [(o, .inr (1, [.int w1, .int (nI n), .int (nI k), .int (nI q), .ref ca, .ref cb, .long z1, .long z2])), (ca, .inl (cA, (600, .inr (.inl f)))), (cb, .inl (cA, (40, .inr (.inl g))))]) [0, 1, 2] (by decide) rfl
      have hKc := hK.sub (tys' := [(cA, .long)]) [0] rfl
      have hFc := va_free (wc := [(o, .inr (1, [.int w1, .int (nI n), .int (nI k), .int (nI q), .ref ca, .ref cb, .long z1, .long z2])), (ca, .inl (cA, (600, .inr (.inl f)))), (cb, .inl (cA, (40, .inr (.inl g))))]) hD hS hA [0, 1, 2] rfl
      refine va_calll (va_runV (As := [.int (nI y), .int (nI (tq_pb z)), .long v]) (rest := []) ⟨hx, hb, hml, hown, hW⟩ (ih d1 rfl y (tq_pb z) q s.heap.size c1 hh (by omega) (by omega) hk) (cwV 3 hW (tq_gV qm_383 qm_385 qs_M_rootOf qm_2 qm_386) rfl rfl rfl (by decide +kernel) ⟨(show d1 + 2 + 1 ≤ d1 + 1 + 2 from by omega), (show 8 + (8 + 11) + (27 * d1 + 50) ≤ 27 * (d1 + 1) + 50 from by omega)⟩) ⟨tq_b2, va_recv hKc hPc (ci := 1) (q0 := 0) rfl rfl, fun U hU hW9 => ⟨rfl, by rw [hU], by rw [hU]; exact hPc, va_K.moved hW9.alike hKc, hDc.weaken (fun _ _ _ _ => trivial)⟩⟩ rfl rfl hl.1 rfl (lv_room (Nat.le_of_ble_eq_true rfl)) qd_M_rootOf_28 ⟨Nat.le_of_ble_eq_true rfl, Nat.le_of_ble_eq_true rfl⟩) hS (fun q _ h => hFc q h) hFc (fun r9 u t9 H1 locs ht9 hvm hw hB hz1 hk1 hS => ?_)
      obtain ⟨hP1, hK1, hD1⟩ := hB
      rw [ht9] at hP1
      obtain ⟨hP, hD⟩ := va_join (wr := []) (w1 := [(o, .inr (1, [.int w1, .int (nI n), .int (nI k), .int (nI (q + tq_pl y (tq_pb z))), .ref ca, .ref cb, .long z1, .long z2])), (ca, .inl (cA, (600, .inr (.inl f)))), (cb, .inl (cA, (40, .inr (.inl g))))]) hP hD [0, 1, 2] [] rfl rfl (by decide) (by decide) hk1 hFc hP1 hD1
      generalize H1 = H at hP hS ⊢
      have hP : va_P (dC, dI) tq_cl [(o, .inr (1, [.int w1, .int (nI n), .int (nI k), .int (nI (q + tq_pl y (tq_pb z))), .ref ca, .ref cb, .long z1, .long z2])), (ca, .inl (cA, (600, .inr (.inl f)))), (cb, .inl (cA, (40, .inr (.inl g))))] H := hP
      have hD : va_D A [(o, .inr (1, [.int w1, .int (nI n), .int (nI k), .int (nI (q + tq_pl y (tq_pb z))), .ref ca, .ref cb, .long z1, .long z2])), (ca, .inl (cA, (600, .inr (.inl f)))), (cb, .inl (cA, (40, .inr (.inl g))))] := hD
      have hw : r9 = tq_rt (fun j => tq_q g k (q + j)) y (tq_pb z) (tq_leaf v) := hw
      subst hw
      refine lv_lstore (lv' := [(6, .long (tq_rt (fun j => tq_q g k (q + j)) y (tq_pb z) (tq_leaf v))), (5, .int (nI (tq_pb z))), (0, .ref o), (1, .int (nI y)), (2, .int (nI z)), (3, .long v)]) hx hb qd_M_rootOf_31 hl (by decide) rfl (fun ls hl => ?_)
      refine lv_lload hx hb qd_M_rootOf_33 (lv_at hl 0 rfl) ?_
      refine lv_aload_n hx hb qd_M_rootOf_35 rfl (lv_at hl 2 rfl) ?_
      have hPc := hP.sub (ws' := [(o, .inr (1, [.int w1, .int (nI n), .int (nI k), .int (nI (q + tq_pl y (tq_pb z))), .ref ca, .ref cb, .long z1, .long z2])), (ca, .inl (cA, (600, .inr (.inl f)))), (cb, .inl (cA, (40, .inr (.inl g))))]) [0, 1, 2] rfl
      have hDc := hD.sub (ws' := [(o, .inr (1, [.int w1, .int (nI n), .int (nI k), .int (nI (q + tq_pl y (tq_pb z))), .ref ca, .ref cb, .long z1, .long z2])), (ca, .inl (cA, (600, .inr (.inl f)))), (cb, .inl (cA, (40, .inr (.inl g))))]) [0, 1, 2] (by decide) rfl
      have hKc := hK.sub (tys' := [(cA, .long)]) [0] rfl
      have hFc := va_free (wc := [(o, .inr (1, [.int w1, .int (nI n), .int (nI k), .int (nI (q + tq_pl y (tq_pb z))), .ref ca, .ref cb, .long z1, .long z2])), (ca, .inl (cA, (600, .inr (.inl f)))), (cb, .inl (cA, (40, .inr (.inl g))))]) hD hS hA [0, 1, 2] rfl
      refine va_calll (va_runV (As := []) (rest := [.long (tq_rt (fun j => tq_q g k (q + j)) y (tq_pb z) (tq_leaf v))]) ⟨hx, hb, hml, hown, hW⟩ (ct_M_next l dC dI o ca cb cA w1 n k z1 z2 f g H.size ((q + tq_pl y (tq_pb z))) (by omega) (by omega)) (cwV 0 hW (tq_gV qm_387 qm_389 qs_M_next qm_2 qm_390) rfl rfl rfl (by decide +kernel) ⟨(show 0 + 1 ≤ d1 + 1 + 2 from by omega), (show 8 + (1 + 11) + (0) ≤ 27 * (d1 + 1) + 50 from by omega)⟩) ⟨tq_b2, va_recv hKc hPc (ci := 1) (q0 := 0) rfl rfl, fun U hU hW9 => ⟨rfl, by rw [hU], by rw [hU]; exact hPc, va_K.moved hW9.alike hKc, hDc.weaken (fun _ _ _ _ => trivial)⟩⟩ rfl rfl hl.1 rfl (lv_room (Nat.le_of_ble_eq_true rfl)) qd_M_rootOf_36 ⟨Nat.le_of_ble_eq_true rfl, Nat.le_of_ble_eq_true rfl⟩) hS (fun q _ h => hFc q h) hFc (fun r9 u t9 H1 locs ht9 hvm hw hB hz1 hk1 hS => ?_)
      obtain ⟨hP1, hK1, hD1⟩ := hB
      rw [ht9] at hP1
      obtain ⟨hP, hD⟩ := va_join (wr := []) (w1 := [(o, .inr (1, [.int w1, .int (nI n), .int (nI k), .int (nI (((q + tq_pl y (tq_pb z))) + 1)), .ref ca, .ref cb, .long z1, .long z2])), (ca, .inl (cA, (600, .inr (.inl f)))), (cb, .inl (cA, (40, .inr (.inl g))))]) hP hD [0, 1, 2] [] rfl rfl (by decide) (by decide) hk1 hFc hP1 hD1
      generalize H1 = H at hP hS ⊢
      have hP : va_P (dC, dI) tq_cl [(o, .inr (1, [.int w1, .int (nI n), .int (nI k), .int (nI (((q + tq_pl y (tq_pb z))) + 1)), .ref ca, .ref cb, .long z1, .long z2])), (ca, .inl (cA, (600, .inr (.inl f)))), (cb, .inl (cA, (40, .inr (.inl g))))] H := hP
      have hD : va_D A [(o, .inr (1, [.int w1, .int (nI n), .int (nI k), .int (nI (((q + tq_pl y (tq_pb z))) + 1)), .ref ca, .ref cb, .long z1, .long z2])), (ca, .inl (cA, (600, .inr (.inl f)))), (cb, .inl (cA, (40, .inr (.inl g))))] := hD
      have hw : r9 = tq_q g k ((q + tq_pl y (tq_pb z))) := hw
      subst hw
      refine vp_callSl (W.runS (As := [.long (tq_rt (fun j => tq_q g k (q + j)) y (tq_pb z) (tq_leaf v)), .long (tq_q g k ((q + tq_pl y (tq_pb z))))]) (rest := []) ⟨hx, hb, hml, hown, hW⟩ (ct_M_node l (tq_rt (fun j => tq_q g k (q + j)) y (tq_pb z) (tq_leaf v)) (tq_q g k ((q + tq_pl y (tq_pb z))))) (cwS 2 hW (tq_gS qm_338 qm_339 qm_2 qm_340) rfl rfl rfl (by decide +kernel) ⟨(show 1 + 1 ≤ d1 + 1 + 2 from by omega), (show 8 + (4 + 11) + (27) ≤ 27 * (d1 + 1) + 50 from by omega)⟩) ⟨tq_b0, fun U hU hW9 => ⟨rfl, trivial⟩⟩ rfl rfl hl.1 rfl (lv_room (Nat.le_of_ble_eq_true rfl)) qd_M_rootOf_39 ⟨Nat.le_of_ble_eq_true rfl, Nat.le_of_ble_eq_true rfl⟩) (fun r9 e9 => ?_)
      subst e9
      rw [tq_pl_l (by omega) c1, ← Nat.add_assoc]
      exact W.lret hx hb hr (fun t ht hW9 => ⟨⟨_, (), rfl, (by rw [tq_rt_l (by omega) c1]), by rw [ht]; exact hP, va_K.moved hW9.alike hK, hD⟩, hS.F ht⟩) hS.2.2 qd_M_rootOf_42
  · refine lv_lconst (v := 1) hx hb qd_M_rootOf_5 (by decide) ?_
    refine lv_lload_n hx hb qd_M_rootOf_6 rfl (lv_at hl 3 rfl) ?_
    refine vp_callSl (W.runS (As := [.long 1, .long v]) (rest := []) ⟨hx, hb, hml, hown, hW⟩ (ct_M_mix l 1 v) (cwS 2 hW (tq_gS qm_330 qm_331 qm_2 qm_332) rfl rfl rfl (by decide +kernel) ⟨(show 0 + 1 ≤ d + 2 from by omega), (show 8 + (8 + 11) + (0) ≤ 27 * d + 50 from by omega)⟩) ⟨tq_b0, fun U hU hW9 => ⟨rfl, trivial⟩⟩ rfl rfl hl.1 rfl (lv_room (Nat.le_of_ble_eq_true rfl)) qd_M_rootOf_7 ⟨Nat.le_of_ble_eq_true rfl, Nat.le_of_ble_eq_true rfl⟩) (fun r9 e9 => ?_)
    subst e9
    rw [tq_pl_0 (by omega)]
    exact W.lret hx hb hr (fun t ht hW9 => ⟨⟨_, (), rfl, (by rw [tq_rt_0 (by omega)]; rfl), by rw [ht]; exact hP, va_K.moved hW9.alike hK, hD⟩, hS.F ht⟩) hS.2.2 qd_M_rootOf_10
theorem ct_M_rootOf (l : Launch) (dC : Nat → ClassId) (dI : Nat → Nat → Nat) (o ca cb : Nat) (cA : ClassId) (w1 : Int32) (n k : Nat) (z1 z2 : Int64) (f g : Nat → Int64) (v : Int64) : ∀ (d y z q sz : Nat), y < z → z ≤ 2 ^ d → d ≤ 30 → q + tq_pl y z ≤ 100 → k ≤ 40 → tq_RO l dC dI o ca cb cA w1 n k z1 z2 f g v d y z q sz
  | 0, y, z, q, sz, h1, h2, h3, h4, hk => ct_M_rootOf_s l dC dI o ca cb cA w1 n k z1 z2 f g v 0 y z q sz (fun d1 h => by omega) h1 h2 h3 h4 hk
  | d + 1, y, z, q, sz, h1, h2, h3, h4, hk => ct_M_rootOf_s l dC dI o ca cb cA w1 n k z1 z2 f g v (d + 1) y z q sz (fun d1 h y z q sz a1 a2 a3 a4 a5 => by cases h; exact ct_M_rootOf l dC dI o ca cb cA w1 n k z1 z2 f g v d y z q sz a1 a2 a3 a4 a5) h1 h2 h3 h4 hk
set_option maxHeartbeats 4000000 in
set_option maxRecDepth 100000 in
theorem ct_M_shows_no (l : Launch) (dC : Nat → ClassId) (dI : Nat → Nat → Nat) (o ca cb : Nat) (cA : ClassId) (w1 : Int32) (n k : Nat) (w4 : Int32) (z1 z2 : Int64) (f g : Nat → Int64) (sz : Nat) (pm pn : Int32) (v hd : Int64) (hbad : pm < 0 ∨ pn ≤ pm ∨ nI 1073741824 < pn) : Met l qy_M_shows qw_M_shows ({ frames := 0, cells := 0, slots := 0, locals := 0 }) (va_Pc [.ref o, .int pm, .int pn, .long v, .long hd] (tq_rw (dC, dI) [(o, .inr (1, [.int w1, .int (nI n), .int (nI k), .int w4, .ref ca, .ref cb, .long z1, .long z2])), (ca, .inl (cA, (600, .inr (.inl f)))), (cb, .inl (cA, (40, .inr (.inl g))))] [(cA, .long)] sz)) (va_Qi (fun r (_ : Unit) => r = nI 0) (fun _ t => tq_in (dC, dI) [(o, .inr (1, [.int (nI 0), .int (nI n), .int (nI k), .int w4, .ref ca, .ref cb, .long z1, .long z2])), (ca, .inl (cA, (600, .inr (.inl f)))), (cb, .inl (cA, (40, .inr (.inl g))))] [(cA, .long)] (va_A [(o, .inr (1, [.int w1, .int (nI n), .int (nI k), .int w4, .ref ca, .ref cb, .long z1, .long z2])), (ca, .inl (cA, (600, .inr (.inl f)))), (cb, .inl (cA, (40, .inr (.inl g))))] sz) t) (va_A [(o, .inr (1, [.int w1, .int (nI n), .int (nI k), .int w4, .ref ca, .ref cb, .long z1, .long z2])), (ca, .inl (cA, (600, .inr (.inl f)))), (cb, .inl (cA, (40, .inr (.inl g))))] sz)) 0 0 (va_A [(o, .inr (1, [.int w1, .int (nI n), .int (nI k), .int w4, .ref ca, .ref cb, .long z1, .long z2])), (ca, .inl (cA, (600, .inr (.inl f)))), (cb, .inl (cA, (40, .inr (.inl g))))] sz) := by
  refine Met.ofW (cc := qc_M_shows) (maxL := 9) (ret := (some .boolean)) (by decide) rfl ?_
  intro p e s m args below meth c s₁ B hml hv
  obtain ⟨rfl, hsz, hP, hK, hD0⟩ := hv
  have hx := B.exec
  have hb := B.bytes
  have hr := B.returns
  have hts := atoms_spec (ws := qw_M_shows) B.pre
  have hW : ∀ w ∈ tq_W, w.before ([.ref o, .int pm, .int pn, .long v, .long hd] : List Value).toArray s = true := fun w h => hts w (List.mem_cons_of_mem _ h)
  have hown : s.vm.findClass RX1 = some m.cls := findClass_of_methodNamed B.named
  have hlocks := B.notSynchronized
  have hl := lv_entry ([.ref o, .int pm, .int pn, .long v, .long hd]) (n := 9) (Nat.le_of_ble_eq_true rfl)
  rw [lg_entry_eq]
  generalize (lg_sl ([.ref o, .int pm, .int pn, .long v, .long hd]) ++ List.replicate (9 - (lg_sl ([.ref o, .int pm, .int pn, .long v, .long hd])).length) Slot.unset).toArray = ls at hl ⊢
  have hl : lv_has ls 9 [(0, .ref o), (1, .int pm), (2, .int pn), (3, .long v), (5, .long hd)] := hl
  subst hsz
  have hD := hD0.self (sz := s.heap.size)
  generalize hAe : va_A [(o, .inr (1, [.int w1, .int (nI n), .int (nI k), .int w4, .ref ca, .ref cb, .long z1, .long z2])), (ca, .inl (cA, (600, .inr (.inl f)))), (cb, .inl (cA, (40, .inr (.inl g))))] s.heap.size = A at hD ⊢
  have hA : ∀ q : Nat, s.heap.size ≤ q → A q := fun q h => by rw [← hAe]; exact Or.inr h
  have hS : va_S A s.heap s.heap [] := va_S.rf
  refine lv_aload_n hx hb qd_M_shows_0 rfl (lv_at hl 0 rfl) ?_
  refine lv_iconst (v := nI 0) hx hb qd_M_shows_1 (by decide +kernel) ?_
  refine va_put (D := (dC, dI)) (ci := 1) (v := .int (nI 0)) (ty := .int) (C := RX1) (T := TX1) (N := 8) hx hb hW inX1 tyX1 tyX1_ok nmX1 hown hK hP hD hS 0 rfl rfl 0 (by decide) (hW _ qm_281) (fun _ h9 => h9) rfl (by decide +kernel) rfl rfl (Nat.le_of_ble_eq_true rfl) qd_M_shows_2 (fun H locs hP hD hS => ?_)
  have hP : va_P (dC, dI) tq_cl [(o, .inr (1, [.int (nI 0), .int (nI n), .int (nI k), .int w4, .ref ca, .ref cb, .long z1, .long z2])), (ca, .inl (cA, (600, .inr (.inl f)))), (cb, .inl (cA, (40, .inr (.inl g))))] H := hP
  have hD : va_D A [(o, .inr (1, [.int (nI 0), .int (nI n), .int (nI k), .int w4, .ref ca, .ref cb, .long z1, .long z2])), (ca, .inl (cA, (600, .inr (.inl f)))), (cb, .inl (cA, (40, .inr (.inl g))))] := hD
  refine lv_iload_n hx hb qd_M_shows_5 rfl (lv_at hl 1 rfl) ?_
  refine lv_if_lt (tgt := 20) hx hb qd_M_shows_6 (by decide) (fun c1 => ?_) (fun c1 => ?_)
  · refine lv_iconst (v := nI 0) hx hb qd_M_shows_20 (by decide +kernel) ?_
    exact W.zret hx hb hr (by decide +kernel) (fun t ht hW9 => ⟨⟨_, (), rfl, rfl, by rw [ht]; exact hP, va_K.moved hW9.alike hK, hD⟩, hS.F ht⟩) hS.2.2 qd_M_shows_21
  · refine lv_iload_n hx hb qd_M_shows_9 rfl (lv_at hl 1 rfl) ?_
    refine lv_iload_n hx hb qd_M_shows_10 rfl (lv_at hl 2 rfl) ?_
    refine lv_icmp_ge (tgt := 20) hx hb qd_M_shows_11 (by decide) (fun c2 => ?_) (fun c2 => ?_)
    · refine lv_iconst (v := nI 0) hx hb qd_M_shows_20 (by decide +kernel) ?_
      exact W.zret hx hb hr (by decide +kernel) (fun t ht hW9 => ⟨⟨_, (), rfl, rfl, by rw [ht]; exact hP, va_K.moved hW9.alike hK, hD⟩, hS.F ht⟩) hS.2.2 qd_M_shows_21
    · have h9 : ¬ pn ≤ nI 1073741824 := tq_nle (hbad.elim (fun h => absurd h c1) (fun h => h.elim (fun h => absurd h c2) id))
      refine lv_iload_n hx hb qd_M_shows_14 rfl (lv_at hl 2 rfl) ?_
      refine lv_ldc (v := (1073741824)) hx hb hown (hW _ qm_382) qd_M_shows_15 ?_
      refine tq_ti (y := nI 1073741824) (by decide +kernel) ?_
      refine lv_icmp_le (tgt := 22) hx hb qd_M_shows_17 (by decide) (fun c9 => absurd c9 (h9)) (fun c3 => ?_)
      refine lv_iconst (v := nI 0) hx hb qd_M_shows_20 (by decide +kernel) ?_
      exact W.zret hx hb hr (by decide +kernel) (fun t ht hW9 => ⟨⟨_, (), rfl, rfl, by rw [ht]; exact hP, va_K.moved hW9.alike hK, hD⟩, hS.F ht⟩) hS.2.2 qd_M_shows_21
set_option maxHeartbeats 4000000 in
set_option maxRecDepth 100000 in
theorem ct_M_grew_no (l : Launch) (dC : Nat → ClassId) (dI : Nat → Nat → Nat) (o ca cb : Nat) (cA : ClassId) (w1 : Int32) (n k : Nat) (w4 : Int32) (z1 z2 : Int64) (f g : Nat → Int64) (sz : Nat) (pm pn : Int32) (v hd : Int64) (hbad : pm < nI 1 ∨ pn < pm ∨ nI 1073741824 < pn) : Met l qy_M_grew qw_M_grew ({ frames := 0, cells := 0, slots := 0, locals := 0 }) (va_Pc [.ref o, .int pm, .int pn, .long v, .long hd] (tq_rw (dC, dI) [(o, .inr (1, [.int w1, .int (nI n), .int (nI k), .int w4, .ref ca, .ref cb, .long z1, .long z2])), (ca, .inl (cA, (600, .inr (.inl f)))), (cb, .inl (cA, (40, .inr (.inl g))))] [(cA, .long)] sz)) (va_Qi (fun r (_ : Unit) => r = nI 0) (fun _ t => tq_in (dC, dI) [(o, .inr (1, [.int (nI 0), .int (nI n), .int (nI k), .int w4, .ref ca, .ref cb, .long z1, .long z2])), (ca, .inl (cA, (600, .inr (.inl f)))), (cb, .inl (cA, (40, .inr (.inl g))))] [(cA, .long)] (va_A [(o, .inr (1, [.int w1, .int (nI n), .int (nI k), .int w4, .ref ca, .ref cb, .long z1, .long z2])), (ca, .inl (cA, (600, .inr (.inl f)))), (cb, .inl (cA, (40, .inr (.inl g))))] sz) t) (va_A [(o, .inr (1, [.int w1, .int (nI n), .int (nI k), .int w4, .ref ca, .ref cb, .long z1, .long z2])), (ca, .inl (cA, (600, .inr (.inl f)))), (cb, .inl (cA, (40, .inr (.inl g))))] sz)) 0 0 (va_A [(o, .inr (1, [.int w1, .int (nI n), .int (nI k), .int w4, .ref ca, .ref cb, .long z1, .long z2])), (ca, .inl (cA, (600, .inr (.inl f)))), (cb, .inl (cA, (40, .inr (.inl g))))] sz) := by
  refine Met.ofW (cc := qc_M_grew) (maxL := 7) (ret := (some .boolean)) (by decide) rfl ?_
  intro p e s m args below meth c s₁ B hml hv
  obtain ⟨rfl, hsz, hP, hK, hD0⟩ := hv
  have hx := B.exec
  have hb := B.bytes
  have hr := B.returns
  have hts := atoms_spec (ws := qw_M_grew) B.pre
  have hW : ∀ w ∈ tq_W, w.before ([.ref o, .int pm, .int pn, .long v, .long hd] : List Value).toArray s = true := fun w h => hts w (List.mem_cons_of_mem _ h)
  have hown : s.vm.findClass RX1 = some m.cls := findClass_of_methodNamed B.named
  have hlocks := B.notSynchronized
  have hl := lv_entry ([.ref o, .int pm, .int pn, .long v, .long hd]) (n := 7) (Nat.le_of_ble_eq_true rfl)
  rw [lg_entry_eq]
  generalize (lg_sl ([.ref o, .int pm, .int pn, .long v, .long hd]) ++ List.replicate (7 - (lg_sl ([.ref o, .int pm, .int pn, .long v, .long hd])).length) Slot.unset).toArray = ls at hl ⊢
  have hl : lv_has ls 7 [(0, .ref o), (1, .int pm), (2, .int pn), (3, .long v), (5, .long hd)] := hl
  subst hsz
  have hD := hD0.self (sz := s.heap.size)
  generalize hAe : va_A [(o, .inr (1, [.int w1, .int (nI n), .int (nI k), .int w4, .ref ca, .ref cb, .long z1, .long z2])), (ca, .inl (cA, (600, .inr (.inl f)))), (cb, .inl (cA, (40, .inr (.inl g))))] s.heap.size = A at hD ⊢
  have hA : ∀ q : Nat, s.heap.size ≤ q → A q := fun q h => by rw [← hAe]; exact Or.inr h
  have hS : va_S A s.heap s.heap [] := va_S.rf
  refine lv_aload_n hx hb qd_M_grew_0 rfl (lv_at hl 0 rfl) ?_
  refine lv_iconst (v := nI 0) hx hb qd_M_grew_1 (by decide +kernel) ?_
  refine va_put (D := (dC, dI)) (ci := 1) (v := .int (nI 0)) (ty := .int) (C := RX1) (T := TX1) (N := 8) hx hb hW inX1 tyX1 tyX1_ok nmX1 hown hK hP hD hS 0 rfl rfl 0 (by decide) (hW _ qm_281) (fun _ h9 => h9) rfl (by decide +kernel) rfl rfl (Nat.le_of_ble_eq_true rfl) qd_M_grew_2 (fun H locs hP hD hS => ?_)
  have hP : va_P (dC, dI) tq_cl [(o, .inr (1, [.int (nI 0), .int (nI n), .int (nI k), .int w4, .ref ca, .ref cb, .long z1, .long z2])), (ca, .inl (cA, (600, .inr (.inl f)))), (cb, .inl (cA, (40, .inr (.inl g))))] H := hP
  have hD : va_D A [(o, .inr (1, [.int (nI 0), .int (nI n), .int (nI k), .int w4, .ref ca, .ref cb, .long z1, .long z2])), (ca, .inl (cA, (600, .inr (.inl f)))), (cb, .inl (cA, (40, .inr (.inl g))))] := hD
  refine lv_iload_n hx hb qd_M_grew_5 rfl (lv_at hl 1 rfl) ?_
  refine lv_iconst (v := nI 1) hx hb qd_M_grew_6 (by decide +kernel) ?_
  refine lv_icmp_lt (tgt := 21) hx hb qd_M_grew_7 (by decide) (fun c1 => ?_) (fun c1 => ?_)
  · refine lv_iconst (v := nI 0) hx hb qd_M_grew_21 (by decide +kernel) ?_
    exact W.zret hx hb hr (by decide +kernel) (fun t ht hW9 => ⟨⟨_, (), rfl, rfl, by rw [ht]; exact hP, va_K.moved hW9.alike hK, hD⟩, hS.F ht⟩) hS.2.2 qd_M_grew_22
  · refine lv_iload_n hx hb qd_M_grew_10 rfl (lv_at hl 1 rfl) ?_
    refine lv_iload_n hx hb qd_M_grew_11 rfl (lv_at hl 2 rfl) ?_
    refine lv_icmp_gt (tgt := 21) hx hb qd_M_grew_12 (by decide) (fun c2 => ?_) (fun c2 => ?_)
    · refine lv_iconst (v := nI 0) hx hb qd_M_grew_21 (by decide +kernel) ?_
      exact W.zret hx hb hr (by decide +kernel) (fun t ht hW9 => ⟨⟨_, (), rfl, rfl, by rw [ht]; exact hP, va_K.moved hW9.alike hK, hD⟩, hS.F ht⟩) hS.2.2 qd_M_grew_22
    · have h9 : ¬ pn ≤ nI 1073741824 := tq_nle (hbad.elim (fun h => absurd h c1) (fun h => h.elim (fun h => absurd h c2) id))
      refine lv_iload_n hx hb qd_M_grew_15 rfl (lv_at hl 2 rfl) ?_
      refine lv_ldc (v := (1073741824)) hx hb hown (hW _ qm_382) qd_M_grew_16 ?_
      refine tq_ti (y := nI 1073741824) (by decide +kernel) ?_
      refine lv_icmp_le (tgt := 23) hx hb qd_M_grew_18 (by decide) (fun c9 => absurd c9 (h9)) (fun c3 => ?_)
      refine lv_iconst (v := nI 0) hx hb qd_M_grew_21 (by decide +kernel) ?_
      exact W.zret hx hb hr (by decide +kernel) (fun t ht hW9 => ⟨⟨_, (), rfl, rfl, by rw [ht]; exact hP, va_K.moved hW9.alike hK, hD⟩, hS.F ht⟩) hS.2.2 qd_M_grew_22
set_option maxHeartbeats 4000000 in
set_option maxRecDepth 100000 in
theorem ct_M_shows (l : Launch) (dC : Nat → ClassId) (dI : Nat → Nat → Nat) (o ca cb : Nat) (cA : ClassId) (w1 : Int32) (n k : Nat) (w4 : Int32) (z1 z2 : Int64) (f g : Nat → Int64) (sz : Nat) (i j : Nat) (v hd : Int64) (h1 : i < j) (h2 : j ≤ 2 ^ 30) (hk : k ≤ 40) : Met l qy_M_shows qw_M_shows ({ frames := 33, cells := 0, slots := 0, locals := 900 }) (va_Pc [.ref o, .int (nI i), .int (nI j), .long v, .long hd] (tq_rw (dC, dI) [(o, .inr (1, [.int w1, .int (nI n), .int (nI k), .int w4, .ref ca, .ref cb, .long z1, .long z2])), (ca, .inl (cA, (600, .inr (.inl f)))), (cb, .inl (cA, (40, .inr (.inl g))))] [(cA, .long)] sz)) (va_Qi (fun r (_ : Unit) => r = tq_b (decide (0 + tq_pl i j = k) && decide (tq_rt (fun q => tq_q g k (0 + q)) i j (tq_leaf v) = hd))) (fun _ t => tq_in (dC, dI) [(o, .inr (1, [.int (nI 0), .int (nI n), .int (nI k), .int (nI (0 + tq_pl i j)), .ref ca, .ref cb, .long z1, .long z2])), (ca, .inl (cA, (600, .inr (.inl f)))), (cb, .inl (cA, (40, .inr (.inl g))))] [(cA, .long)] (va_A [(o, .inr (1, [.int w1, .int (nI n), .int (nI k), .int w4, .ref ca, .ref cb, .long z1, .long z2])), (ca, .inl (cA, (600, .inr (.inl f)))), (cb, .inl (cA, (40, .inr (.inl g))))] sz) t) (va_A [(o, .inr (1, [.int w1, .int (nI n), .int (nI k), .int w4, .ref ca, .ref cb, .long z1, .long z2])), (ca, .inl (cA, (600, .inr (.inl f)))), (cb, .inl (cA, (40, .inr (.inl g))))] sz)) 0 0 (va_A [(o, .inr (1, [.int w1, .int (nI n), .int (nI k), .int w4, .ref ca, .ref cb, .long z1, .long z2])), (ca, .inl (cA, (600, .inr (.inl f)))), (cb, .inl (cA, (40, .inr (.inl g))))] sz) := by
  refine Met.ofW (cc := qc_M_shows) (maxL := 9) (ret := (some .boolean)) (by decide) rfl ?_
  intro p e s m args below meth c s₁ B hml hv
  obtain ⟨rfl, hsz, hP, hK, hD0⟩ := hv
  have hx := B.exec
  have hb := B.bytes
  have hr := B.returns
  have hts := atoms_spec (ws := qw_M_shows) B.pre
  have hW : ∀ w ∈ tq_W, w.before ([.ref o, .int (nI i), .int (nI j), .long v, .long hd] : List Value).toArray s = true := fun w h => hts w (List.mem_cons_of_mem _ h)
  have hown : s.vm.findClass RX1 = some m.cls := findClass_of_methodNamed B.named
  have hlocks := B.notSynchronized
  have hl := lv_entry ([.ref o, .int (nI i), .int (nI j), .long v, .long hd]) (n := 9) (Nat.le_of_ble_eq_true rfl)
  rw [lg_entry_eq]
  generalize (lg_sl ([.ref o, .int (nI i), .int (nI j), .long v, .long hd]) ++ List.replicate (9 - (lg_sl ([.ref o, .int (nI i), .int (nI j), .long v, .long hd])).length) Slot.unset).toArray = ls at hl ⊢
  have hl : lv_has ls 9 [(0, .ref o), (1, .int (nI i)), (2, .int (nI j)), (3, .long v), (5, .long hd)] := hl
  subst hsz
  have hD := hD0.self (sz := s.heap.size)
  generalize hAe : va_A [(o, .inr (1, [.int w1, .int (nI n), .int (nI k), .int w4, .ref ca, .ref cb, .long z1, .long z2])), (ca, .inl (cA, (600, .inr (.inl f)))), (cb, .inl (cA, (40, .inr (.inl g))))] s.heap.size = A at hD ⊢
  have hA : ∀ q : Nat, s.heap.size ≤ q → A q := fun q h => by rw [← hAe]; exact Or.inr h
  have hS : va_S A s.heap s.heap [] := va_S.rf
  have hpl := tq_pl_le 30 i j h2
  refine lv_aload_n hx hb qd_M_shows_0 rfl (lv_at hl 0 rfl) ?_
  refine lv_iconst (v := nI 0) hx hb qd_M_shows_1 (by decide +kernel) ?_
  refine va_put (D := (dC, dI)) (ci := 1) (v := .int (nI 0)) (ty := .int) (C := RX1) (T := TX1) (N := 8) hx hb hW inX1 tyX1 tyX1_ok nmX1 hown hK hP hD hS 0 rfl rfl 0 (by decide) (hW _ qm_281) (fun _ h9 => h9) rfl (by decide +kernel) rfl rfl (Nat.le_of_ble_eq_true rfl) qd_M_shows_2 (fun H locs hP hD hS => ?_)
  have hP : va_P (dC, dI) tq_cl [(o, .inr (1, [.int (nI 0), .int (nI n), .int (nI k), .int w4, .ref ca, .ref cb, .long z1, .long z2])), (ca, .inl (cA, (600, .inr (.inl f)))), (cb, .inl (cA, (40, .inr (.inl g))))] H := hP
  have hD : va_D A [(o, .inr (1, [.int (nI 0), .int (nI n), .int (nI k), .int w4, .ref ca, .ref cb, .long z1, .long z2])), (ca, .inl (cA, (600, .inr (.inl f)))), (cb, .inl (cA, (40, .inr (.inl g))))] := hD
  refine lv_iload_n hx hb qd_M_shows_5 rfl (lv_at hl 1 rfl) ?_
  refine tq_if_lt (x := i) (tgt := 20) hx hb qd_M_shows_6 (by decide) (by omega) ?_
  refine lv_iload_n hx hb qd_M_shows_9 rfl (lv_at hl 1 rfl) ?_
  refine lv_iload_n hx hb qd_M_shows_10 rfl (lv_at hl 2 rfl) ?_
  refine tq_icmp_ge (x := i) (y := j) (tgt := 20) hx hb qd_M_shows_11 (by decide) (by omega) (by omega) (fun c9 => by omega) (fun c9 => ?_)
  refine lv_iload_n hx hb qd_M_shows_14 rfl (lv_at hl 2 rfl) ?_
  refine lv_ldc (v := (1073741824)) hx hb hown (hW _ qm_382) qd_M_shows_15 ?_
  refine tq_ti (y := nI 1073741824) (by decide +kernel) ?_
  refine tq_icmp_le (x := j) (y := 1073741824) (tgt := 22) hx hb qd_M_shows_17 (by decide) (by omega) (by omega) (fun c9 => ?_) (fun c9 => by omega)
  refine lv_aload_n hx hb qd_M_shows_22 rfl (lv_at hl 0 rfl) ?_
  refine lv_iconst (v := nI 0) hx hb qd_M_shows_23 (by decide +kernel) ?_
  refine va_put (D := (dC, dI)) (ci := 1) (v := .int (nI 0)) (ty := .int) (C := RX1) (T := TX1) (N := 8) hx hb hW inX1 tyX1 tyX1_ok nmX1 hown hK hP hD hS 0 rfl rfl 3 (by decide) (hW _ qm_284) (fun _ h9 => h9) rfl (by decide +kernel) rfl rfl (Nat.le_of_ble_eq_true rfl) qd_M_shows_24 (fun H locs hP hD hS => ?_)
  have hP : va_P (dC, dI) tq_cl [(o, .inr (1, [.int (nI 0), .int (nI n), .int (nI k), .int (nI 0), .ref ca, .ref cb, .long z1, .long z2])), (ca, .inl (cA, (600, .inr (.inl f)))), (cb, .inl (cA, (40, .inr (.inl g))))] H := hP
  have hD : va_D A [(o, .inr (1, [.int (nI 0), .int (nI n), .int (nI k), .int (nI 0), .ref ca, .ref cb, .long z1, .long z2])), (ca, .inl (cA, (600, .inr (.inl f)))), (cb, .inl (cA, (40, .inr (.inl g))))] := hD
  refine lv_aload_n hx hb qd_M_shows_27 rfl (lv_at hl 0 rfl) ?_
  refine lv_iload_n hx hb qd_M_shows_28 rfl (lv_at hl 1 rfl) ?_
  refine lv_iload_n hx hb qd_M_shows_29 rfl (lv_at hl 2 rfl) ?_
  refine lv_lload_n hx hb qd_M_shows_30 rfl (lv_at hl 3 rfl) ?_
  have hPc := hP.sub (ws' := [(o, .inr (1, [.int (nI 0), .int (nI n), .int (nI k), .int (nI 0), .ref ca, .ref cb, .long z1, .long z2])), (ca, .inl (cA, (600, .inr (.inl f)))), (cb, .inl (cA, (40, .inr (.inl g))))]) [0, 1, 2] rfl
  have hDc := hD.sub (ws' := [(o, .inr (1, [.int (nI 0), .int (nI n), .int (nI k), .int (nI 0), .ref ca, .ref cb, .long z1, .long z2])), (ca, .inl (cA, (600, .inr (.inl f)))), (cb, .inl (cA, (40, .inr (.inl g))))]) [0, 1, 2] (by decide) rfl
  have hKc := hK.sub (tys' := [(cA, .long)]) [0] rfl
  have hFc := va_free (wc := [(o, .inr (1, [.int (nI 0), .int (nI n), .int (nI k), .int (nI 0), .ref ca, .ref cb, .long z1, .long z2])), (ca, .inl (cA, (600, .inr (.inl f)))), (cb, .inl (cA, (40, .inr (.inl g))))]) hD hS hA [0, 1, 2] rfl
  refine va_calll (va_runV (As := [.int (nI i), .int (nI j), .long v]) (rest := []) ⟨hx, hb, hml, hown, hW⟩ (ct_M_rootOf l dC dI o ca cb cA (nI 0) n k z1 z2 f g v 30 i j 0 H.size h1 h2 (by omega) (by omega) hk) (cwV 3 hW (tq_gV qm_383 qm_385 qs_M_rootOf qm_2 qm_386) rfl rfl rfl (by decide +kernel) ⟨Nat.le_of_ble_eq_true rfl, Nat.le_of_ble_eq_true rfl⟩) ⟨tq_b2, va_recv hKc hPc (ci := 1) (q0 := 0) rfl rfl, fun U hU hW9 => ⟨rfl, by rw [hU], by rw [hU]; exact hPc, va_K.moved hW9.alike hKc, hDc.weaken (fun _ _ _ _ => trivial)⟩⟩ rfl rfl hl.1 rfl (lv_room (Nat.le_of_ble_eq_true rfl)) qd_M_shows_31 ⟨Nat.le_of_ble_eq_true rfl, Nat.le_of_ble_eq_true rfl⟩) hS (fun q _ h => hFc q h) hFc (fun r9 u t9 H1 locs ht9 hvm hw hB hz1 hk1 hS => ?_)
  obtain ⟨hP1, hK1, hD1⟩ := hB
  rw [ht9] at hP1
  obtain ⟨hP, hD⟩ := va_join (wr := []) (w1 := [(o, .inr (1, [.int (nI 0), .int (nI n), .int (nI k), .int (nI (0 + tq_pl i j)), .ref ca, .ref cb, .long z1, .long z2])), (ca, .inl (cA, (600, .inr (.inl f)))), (cb, .inl (cA, (40, .inr (.inl g))))]) hP hD [0, 1, 2] [] rfl rfl (by decide) (by decide) hk1 hFc hP1 hD1
  generalize H1 = H at hP hS ⊢
  have hP : va_P (dC, dI) tq_cl [(o, .inr (1, [.int (nI 0), .int (nI n), .int (nI k), .int (nI (0 + tq_pl i j)), .ref ca, .ref cb, .long z1, .long z2])), (ca, .inl (cA, (600, .inr (.inl f)))), (cb, .inl (cA, (40, .inr (.inl g))))] H := hP
  have hD : va_D A [(o, .inr (1, [.int (nI 0), .int (nI n), .int (nI k), .int (nI (0 + tq_pl i j)), .ref ca, .ref cb, .long z1, .long z2])), (ca, .inl (cA, (600, .inr (.inl f)))), (cb, .inl (cA, (40, .inr (.inl g))))] := hD
  have hw : r9 = tq_rt (fun q => tq_q g k (0 + q)) i j (tq_leaf v) := hw
  subst hw
  refine lv_lstore (lv' := [(7, .long (tq_rt (fun q => tq_q g k (0 + q)) i j (tq_leaf v))), (0, .ref o), (1, .int (nI i)), (2, .int (nI j)), (3, .long v), (5, .long hd)]) hx hb qd_M_shows_34 hl (by decide) rfl (fun ls hl => ?_)
  refine lv_aload_n hx hb qd_M_shows_36 rfl (lv_at hl 1 rfl) ?_
  refine va_get (D := (dC, dI)) (ci := 1) (v := .int (nI (0 + tq_pl i j))) (C := RX1) (T := TX1) (N := 8) hx hb hW inX1 hown hK hP 0 rfl rfl 3 (by decide) (hW _ qm_284) (fun _ h9 => h9) rfl qd_M_shows_37 ?_
  refine lv_aload_n hx hb qd_M_shows_40 rfl (lv_at hl 1 rfl) ?_
  refine va_get (D := (dC, dI)) (ci := 1) (v := .int (nI k)) (C := RX1) (T := TX1) (N := 8) hx hb hW inX1 hown hK hP 0 rfl rfl 2 (by decide) (hW _ qm_283) (fun _ h9 => h9) rfl qd_M_shows_41 ?_
  refine tq_icmp_ne (x := (0 + tq_pl i j)) (y := k) (tgt := 59) hx hb qd_M_shows_44 (by decide) (by omega) (by omega) (fun c9 => ?_) (fun c9 => ?_)
  · refine lv_iconst (v := nI 0) hx hb qd_M_shows_59 (by decide +kernel) ?_
    exact W.zret hx hb hr (by decide +kernel) (fun t ht hW9 => ⟨⟨_, (), rfl, (by rw [decide_eq_false c9]; rfl), by rw [ht]; exact hP, va_K.moved hW9.alike hK, hD⟩, hS.F ht⟩) hS.2.2 qd_M_shows_60
  · refine lv_lload hx hb qd_M_shows_47 (lv_at hl 0 rfl) ?_
    refine lv_lload hx hb qd_M_shows_49 (lv_at hl 5 rfl) ?_
    refine tq_lc_ne (tgt := 59) hx hb qd_M_shows_51 qd_M_shows_52 (by decide) (fun c1 => ?_) (fun c1 => ?_)
    · refine lv_iconst (v := nI 0) hx hb qd_M_shows_59 (by decide +kernel) ?_
      exact W.zret hx hb hr (by decide +kernel) (fun t ht hW9 => ⟨⟨_, (), rfl, (by rw [decide_eq_false c1, Bool.and_false]; rfl), by rw [ht]; exact hP, va_K.moved hW9.alike hK, hD⟩, hS.F ht⟩) hS.2.2 qd_M_shows_60
    · refine lv_iconst (v := nI 1) hx hb qd_M_shows_55 (by decide +kernel) ?_
      refine lv_goto (tgt := 60) hx hb qd_M_shows_56 (by decide) ?_
      exact W.zret hx hb hr (by decide +kernel) (fun t ht hW9 => ⟨⟨_, (), rfl, (by rw [decide_eq_true c1, decide_eq_true c9]; rfl), by rw [ht]; exact hP, va_K.moved hW9.alike hK, hD⟩, hS.F ht⟩) hS.2.2 qd_M_shows_60
def tq_BO (l : Launch) (dC : Nat → ClassId) (dI : Nat → Nat → Nat) (o ca cb : Nat) (cA : ClassId) (w1 : Int32) (n k : Nat) (f g : Nat → Int64) (v : Int64) (d y z q : Nat) (kn : Bool) (z1 z2 : Int64) (sz : Nat) : Prop := Met l qy_M_both qw_M_both ({ frames := d + 2, cells := 0, slots := 0, locals := 28 * d + 50 }) (va_Pc [.ref o, .int (nI y), .int (nI z), .int (tq_b kn), .long v] (tq_rw (dC, dI) [(o, .inr (1, [.int w1, .int (nI n), .int (nI k), .int (nI q), .ref ca, .ref cb, .long z1, .long z2])), (ca, .inl (cA, (600, .inr (.inl f)))), (cb, .inl (cA, (40, .inr (.inl g))))] [(cA, .long)] sz)) (va_Qv (fun _ : Unit => True) (fun _ t => tq_in (dC, dI) [(o, .inr (1, [.int w1, .int (nI n), .int (nI k), .int (nI (q + tq_sl kn y z)), .ref ca, .ref cb, .long (tq_od (fun j => tq_q g k (q + j)) kn y z v), .long (tq_nw (fun j => tq_q g k (q + j)) kn y z v)])), (ca, .inl (cA, (600, .inr (.inl f)))), (cb, .inl (cA, (40, .inr (.inl g))))] [(cA, .long)] (va_A [(o, .inr (1, [.int w1, .int (nI n), .int (nI k), .int (nI q), .ref ca, .ref cb, .long z1, .long z2])), (ca, .inl (cA, (600, .inr (.inl f)))), (cb, .inl (cA, (40, .inr (.inl g))))] sz) t) (va_A [(o, .inr (1, [.int w1, .int (nI n), .int (nI k), .int (nI q), .ref ca, .ref cb, .long z1, .long z2])), (ca, .inl (cA, (600, .inr (.inl f)))), (cb, .inl (cA, (40, .inr (.inl g))))] sz)) 0 0 (va_A [(o, .inr (1, [.int w1, .int (nI n), .int (nI k), .int (nI q), .ref ca, .ref cb, .long z1, .long z2])), (ca, .inl (cA, (600, .inr (.inl f)))), (cb, .inl (cA, (40, .inr (.inl g))))] sz)
set_option maxHeartbeats 4000000 in
set_option maxRecDepth 100000 in
/-- both: the old HEAD and the new one, read on from number q -/
theorem ct_M_both_s (l : Launch) (dC : Nat → ClassId) (dI : Nat → Nat → Nat) (o ca cb : Nat) (cA : ClassId) (w1 : Int32) (n k : Nat) (f g : Nat → Int64) (v : Int64) (d y z q : Nat) (kn : Bool) (z1 z2 : Int64) (sz : Nat) (ih : ∀ d1, d = d1 + 1 → ∀ (y z q : Nat) (kn : Bool) (z1 z2 : Int64) (sz : Nat), 1 ≤ y → y ≤ z → z ≤ 2 ^ d1 → d1 ≤ 30 → q + tq_sl kn y z ≤ 100 → k ≤ 40 → tq_BO l dC dI o ca cb cA w1 n k f g v d1 y z q kn z1 z2 sz) (h0 : 1 ≤ y) (h1 : y ≤ z) (h2 : z ≤ 2 ^ d) (h3 : d ≤ 30) (h4 : q + tq_sl kn y z ≤ 100) (hk : k ≤ 40) : tq_BO l dC dI o ca cb cA w1 n k f g v d y z q kn z1 z2 sz := by
  refine Met.ofW (cc := qc_M_both) (maxL := 9) (ret := none) (by decide) rfl ?_
  intro p e s m args below meth c s₁ B hml hv
  obtain ⟨rfl, hsz, hP, hK, hD0⟩ := hv
  have hx := B.exec
  have hb := B.bytes
  have hr := B.returns
  have hts := atoms_spec (ws := qw_M_both) B.pre
  have hW : ∀ w ∈ tq_W, w.before ([.ref o, .int (nI y), .int (nI z), .int (tq_b kn), .long v] : List Value).toArray s = true := fun w h => hts w (List.mem_cons_of_mem _ h)
  have hown : s.vm.findClass RX1 = some m.cls := findClass_of_methodNamed B.named
  have hlocks := B.notSynchronized
  have hl := lv_entry ([.ref o, .int (nI y), .int (nI z), .int (tq_b kn), .long v]) (n := 9) (Nat.le_of_ble_eq_true rfl)
  rw [lg_entry_eq]
  generalize (lg_sl ([.ref o, .int (nI y), .int (nI z), .int (tq_b kn), .long v]) ++ List.replicate (9 - (lg_sl ([.ref o, .int (nI y), .int (nI z), .int (tq_b kn), .long v])).length) Slot.unset).toArray = ls at hl ⊢
  have hl : lv_has ls 9 [(0, .ref o), (1, .int (nI y)), (2, .int (nI z)), (3, .int (tq_b kn)), (4, .long v)] := hl
  subst hsz
  have hD := hD0.self (sz := s.heap.size)
  generalize hAe : va_A [(o, .inr (1, [.int w1, .int (nI n), .int (nI k), .int (nI q), .ref ca, .ref cb, .long z1, .long z2])), (ca, .inl (cA, (600, .inr (.inl f)))), (cb, .inl (cA, (40, .inr (.inl g))))] s.heap.size = A at hD ⊢
  have hA : ∀ q : Nat, s.heap.size ≤ q → A q := fun q h => by rw [← hAe]; exact Or.inr h
  have hS : va_S A s.heap s.heap [] := va_S.rf
  have hn30 : z ≤ 2 ^ 30 := Nat.le_trans h2 (Nat.pow_le_pow_right (by decide) h3)
  refine lv_iload_n hx hb qd_M_both_0 rfl (lv_at hl 1 rfl) ?_
  refine lv_iload_n hx hb qd_M_both_1 rfl (lv_at hl 2 rfl) ?_
  refine tq_icmp_ne (x := y) (y := z) (tgt := 31) hx hb qd_M_both_2 (by decide) (by omega) (by omega) (fun c9 => ?_) (fun c9 => ?_)
  · obtain ⟨d1, rfl⟩ : ∃ d1, d = d1 + 1 := by
      cases d with
      | zero => omega
      | succ d1 => exact ⟨d1, rfl⟩
    have hlt := tq_pb_lt (n := z) (by omega)
    have hps := tq_pb_pos z
    have hh := tq_pb_half h2 (by omega)
    have hrr := tq_pb_rest h2 (by omega)
    refine lv_iload_n hx hb qd_M_both_31 rfl (lv_at hl 2 rfl) ?_
    refine vp_callSi (W.runS (As := [.int (nI z)]) (rest := []) ⟨hx, hb, hml, hown, hW⟩ (ct_M_below l z (by omega) (by omega)) (cwS 1 hW (tq_gS qm_335 qm_336 qm_2 qm_337) rfl rfl rfl (by decide +kernel) ⟨(show 0 + 1 ≤ d1 + 1 + 2 from by omega), (show 8 + (2 + 11) + (0) ≤ 28 * (d1 + 1) + 50 from by omega)⟩) ⟨tq_b0, fun U hU hW9 => ⟨rfl, trivial⟩⟩ rfl rfl hl.1 rfl (lv_room (Nat.le_of_ble_eq_true rfl)) qd_M_both_32 ⟨Nat.le_of_ble_eq_true rfl, Nat.le_of_ble_eq_true rfl⟩) (fun r9 e9 => ?_)
    subst e9
    refine lv_istore (lv' := [(6, .int (nI (tq_pb z))), (0, .ref o), (1, .int (nI y)), (2, .int (nI z)), (3, .int (tq_b kn)), (4, .long v)]) hx hb qd_M_both_35 hl (by decide) rfl (fun ls hl => ?_)
    refine lv_iload_n hx hb qd_M_both_37 rfl (lv_at hl 2 rfl) ?_
    refine lv_iload hx hb qd_M_both_38 (lv_at hl 0 rfl) ?_
    refine tq_icmp_gt (x := y) (y := (tq_pb z)) (tgt := 71) hx hb qd_M_both_40 (by decide) (by omega) (by omega) (fun c1 => ?_) (fun c1 => ?_)
    · have e4 := tq_sl_r (b := kn) (m := y) (n := z) (by omega) c1 c9
      refine lv_aload_n hx hb qd_M_both_71 rfl (lv_at hl 1 rfl) ?_
      refine lv_iload_n hx hb qd_M_both_72 rfl (lv_at hl 2 rfl) ?_
      refine lv_iload hx hb qd_M_both_73 (lv_at hl 0 rfl) ?_
      refine lv_isub hx hb qd_M_both_75 ?_
      refine tq_ti (y := nI (y - tq_pb z)) (pk_sub (by omega)) ?_
      refine lv_iload_n hx hb qd_M_both_76 rfl (lv_at hl 3 rfl) ?_
      refine lv_iload hx hb qd_M_both_77 (lv_at hl 0 rfl) ?_
      refine lv_isub hx hb qd_M_both_79 ?_
      refine tq_ti (y := nI (z - tq_pb z)) (pk_sub (by omega)) ?_
      refine lv_iconst (v := nI 0) hx hb qd_M_both_80 (by decide +kernel) ?_
      refine tq_ti (y := tq_b false) (rfl) ?_
      refine lv_lload hx hb qd_M_both_81 (lv_at hl 5 rfl) ?_
      have hPc := hP.sub (ws' := [(o, .inr (1, [.int w1, .int (nI n), .int (nI k), .int (nI q), .ref ca, .ref cb, .long z1, .long z2])), (ca, .inl (cA, (600, .inr (.inl f)))), (cb, .inl (cA, (40, .inr (.inl g))))]) [0, 1, 2] rfl
      have hDc := hD.sub (ws' := [(o, .inr (1, [.int w1, .int (nI n), .int (nI k), .int (nI q), .ref ca, .ref cb, .long z1, .long z2])), (ca, .inl (cA, (600, .inr (.inl f)))), (cb, .inl (cA, (40, .inr (.inl g))))]) [0, 1, 2] (by decide) rfl
      have hKc := hK.sub (tys' := [(cA, .long)]) [0] rfl
      have hFc := va_free (wc := [(o, .inr (1, [.int w1, .int (nI n), .int (nI k), .int (nI q), .ref ca, .ref cb, .long z1, .long z2])), (ca, .inl (cA, (600, .inr (.inl f)))), (cb, .inl (cA, (40, .inr (.inl g))))]) hD hS hA [0, 1, 2] rfl
      refine va_callv (va_runV (As := [.int (nI (y - tq_pb z)), .int (nI (z - tq_pb z)), .int (tq_b false), .long v]) (rest := []) ⟨hx, hb, hml, hown, hW⟩ (ih d1 rfl (y - tq_pb z) (z - tq_pb z) q false z1 z2 s.heap.size (by omega) (by omega) hrr (by omega) (by omega) hk) (cwV 4 hW (tq_gV qm_395 qm_397 qs_M_both qm_2 qm_398) rfl rfl rfl (by decide +kernel) ⟨(show d1 + 2 + 1 ≤ d1 + 1 + 2 from by omega), (show 8 + (9 + 11) + (28 * d1 + 50) ≤ 28 * (d1 + 1) + 50 from by omega)⟩) ⟨tq_b2, va_recv hKc hPc (ci := 1) (q0 := 0) rfl rfl, fun U hU hW9 => ⟨rfl, by rw [hU], by rw [hU]; exact hPc, va_K.moved hW9.alike hKc, hDc.weaken (fun _ _ _ _ => trivial)⟩⟩ rfl rfl hl.1 rfl (lv_room (Nat.le_of_ble_eq_true rfl)) qd_M_both_83 ⟨Nat.le_of_ble_eq_true rfl, Nat.le_of_ble_eq_true rfl⟩) hS (fun q _ h => hFc q h) hFc (fun u t9 H1 locs ht9 hvm hw hB hz1 hk1 hS => ?_)
      obtain ⟨hP1, hK1, hD1⟩ := hB
      rw [ht9] at hP1
      obtain ⟨hP, hD⟩ := va_join (wr := []) (w1 := [(o, .inr (1, [.int w1, .int (nI n), .int (nI k), .int (nI (q + tq_sl false (y - tq_pb z) (z - tq_pb z))), .ref ca, .ref cb, .long (tq_od (fun j => tq_q g k (q + j)) false (y - tq_pb z) (z - tq_pb z) v), .long (tq_nw (fun j => tq_q g k (q + j)) false (y - tq_pb z) (z - tq_pb z) v)])), (ca, .inl (cA, (600, .inr (.inl f)))), (cb, .inl (cA, (40, .inr (.inl g))))]) hP hD [0, 1, 2] [] rfl rfl (by decide) (by decide) hk1 hFc hP1 hD1
      generalize H1 = H at hP hS ⊢
      have hP : va_P (dC, dI) tq_cl [(o, .inr (1, [.int w1, .int (nI n), .int (nI k), .int (nI (q + tq_sl false (y - tq_pb z) (z - tq_pb z))), .ref ca, .ref cb, .long (tq_od (fun j => tq_q g k (q + j)) false (y - tq_pb z) (z - tq_pb z) v), .long (tq_nw (fun j => tq_q g k (q + j)) false (y - tq_pb z) (z - tq_pb z) v)])), (ca, .inl (cA, (600, .inr (.inl f)))), (cb, .inl (cA, (40, .inr (.inl g))))] H := hP
      have hD : va_D A [(o, .inr (1, [.int w1, .int (nI n), .int (nI k), .int (nI (q + tq_sl false (y - tq_pb z) (z - tq_pb z))), .ref ca, .ref cb, .long (tq_od (fun j => tq_q g k (q + j)) false (y - tq_pb z) (z - tq_pb z) v), .long (tq_nw (fun j => tq_q g k (q + j)) false (y - tq_pb z) (z - tq_pb z) v)])), (ca, .inl (cA, (600, .inr (.inl f)))), (cb, .inl (cA, (40, .inr (.inl g))))] := hD
      refine lv_aload_n hx hb qd_M_both_86 rfl (lv_at hl 1 rfl) ?_
      have hPc := hP.sub (ws' := [(o, .inr (1, [.int w1, .int (nI n), .int (nI k), .int (nI (q + tq_sl false (y - tq_pb z) (z - tq_pb z))), .ref ca, .ref cb, .long (tq_od (fun j => tq_q g k (q + j)) false (y - tq_pb z) (z - tq_pb z) v), .long (tq_nw (fun j => tq_q g k (q + j)) false (y - tq_pb z) (z - tq_pb z) v)])), (ca, .inl (cA, (600, .inr (.inl f)))), (cb, .inl (cA, (40, .inr (.inl g))))]) [0, 1, 2] rfl
      have hDc := hD.sub (ws' := [(o, .inr (1, [.int w1, .int (nI n), .int (nI k), .int (nI (q + tq_sl false (y - tq_pb z) (z - tq_pb z))), .ref ca, .ref cb, .long (tq_od (fun j => tq_q g k (q + j)) false (y - tq_pb z) (z - tq_pb z) v), .long (tq_nw (fun j => tq_q g k (q + j)) false (y - tq_pb z) (z - tq_pb z) v)])), (ca, .inl (cA, (600, .inr (.inl f)))), (cb, .inl (cA, (40, .inr (.inl g))))]) [0, 1, 2] (by decide) rfl
      have hKc := hK.sub (tys' := [(cA, .long)]) [0] rfl
      have hFc := va_free (wc := [(o, .inr (1, [.int w1, .int (nI n), .int (nI k), .int (nI (q + tq_sl false (y - tq_pb z) (z - tq_pb z))), .ref ca, .ref cb, .long (tq_od (fun j => tq_q g k (q + j)) false (y - tq_pb z) (z - tq_pb z) v), .long (tq_nw (fun j => tq_q g k (q + j)) false (y - tq_pb z) (z - tq_pb z) v)])), (ca, .inl (cA, (600, .inr (.inl f)))), (cb, .inl (cA, (40, .inr (.inl g))))]) hD hS hA [0, 1, 2] rfl
      refine va_calll (va_runV (As := []) (rest := []) ⟨hx, hb, hml, hown, hW⟩ (ct_M_next l dC dI o ca cb cA w1 n k (tq_od (fun j => tq_q g k (q + j)) false (y - tq_pb z) (z - tq_pb z) v) (tq_nw (fun j => tq_q g k (q + j)) false (y - tq_pb z) (z - tq_pb z) v) f g H.size ((q + tq_sl false (y - tq_pb z) (z - tq_pb z))) (by omega) (by omega)) (cwV 0 hW (tq_gV qm_387 qm_389 qs_M_next qm_2 qm_390) rfl rfl rfl (by decide +kernel) ⟨(show 0 + 1 ≤ d1 + 1 + 2 from by omega), (show 8 + (1 + 11) + (0) ≤ 28 * (d1 + 1) + 50 from by omega)⟩) ⟨tq_b2, va_recv hKc hPc (ci := 1) (q0 := 0) rfl rfl, fun U hU hW9 => ⟨rfl, by rw [hU], by rw [hU]; exact hPc, va_K.moved hW9.alike hKc, hDc.weaken (fun _ _ _ _ => trivial)⟩⟩ rfl rfl hl.1 rfl (lv_room (Nat.le_of_ble_eq_true rfl)) qd_M_both_87 ⟨Nat.le_of_ble_eq_true rfl, Nat.le_of_ble_eq_true rfl⟩) hS (fun q _ h => hFc q h) hFc (fun r9 u t9 H1 locs ht9 hvm hw hB hz1 hk1 hS => ?_)
      obtain ⟨hP1, hK1, hD1⟩ := hB
      rw [ht9] at hP1
      obtain ⟨hP, hD⟩ := va_join (wr := []) (w1 := [(o, .inr (1, [.int w1, .int (nI n), .int (nI k), .int (nI (((q + tq_sl false (y - tq_pb z) (z - tq_pb z))) + 1)), .ref ca, .ref cb, .long (tq_od (fun j => tq_q g k (q + j)) false (y - tq_pb z) (z - tq_pb z) v), .long (tq_nw (fun j => tq_q g k (q + j)) false (y - tq_pb z) (z - tq_pb z) v)])), (ca, .inl (cA, (600, .inr (.inl f)))), (cb, .inl (cA, (40, .inr (.inl g))))]) hP hD [0, 1, 2] [] rfl rfl (by decide) (by decide) hk1 hFc hP1 hD1
      generalize H1 = H at hP hS ⊢
      have hP : va_P (dC, dI) tq_cl [(o, .inr (1, [.int w1, .int (nI n), .int (nI k), .int (nI (((q + tq_sl false (y - tq_pb z) (z - tq_pb z))) + 1)), .ref ca, .ref cb, .long (tq_od (fun j => tq_q g k (q + j)) false (y - tq_pb z) (z - tq_pb z) v), .long (tq_nw (fun j => tq_q g k (q + j)) false (y - tq_pb z) (z - tq_pb z) v)])), (ca, .inl (cA, (600, .inr (.inl f)))), (cb, .inl (cA, (40, .inr (.inl g))))] H := hP
      have hD : va_D A [(o, .inr (1, [.int w1, .int (nI n), .int (nI k), .int (nI (((q + tq_sl false (y - tq_pb z) (z - tq_pb z))) + 1)), .ref ca, .ref cb, .long (tq_od (fun j => tq_q g k (q + j)) false (y - tq_pb z) (z - tq_pb z) v), .long (tq_nw (fun j => tq_q g k (q + j)) false (y - tq_pb z) (z - tq_pb z) v)])), (ca, .inl (cA, (600, .inr (.inl f)))), (cb, .inl (cA, (40, .inr (.inl g))))] := hD
      have hw : r9 = tq_q g k ((q + tq_sl false (y - tq_pb z) (z - tq_pb z))) := hw
      subst hw
      refine lv_lstore (lv' := [(7, .long (tq_q g k ((q + tq_sl false (y - tq_pb z) (z - tq_pb z))))), (6, .int (nI (tq_pb z))), (0, .ref o), (1, .int (nI y)), (2, .int (nI z)), (3, .int (tq_b kn)), (4, .long v)]) hx hb qd_M_both_90 hl (by decide) rfl (fun ls hl => ?_)
      refine lv_aload_n hx hb qd_M_both_92 rfl (lv_at hl 2 rfl) ?_
      refine lv_lload hx hb qd_M_both_93 (lv_at hl 0 rfl) ?_
      refine lv_aload_n hx hb qd_M_both_95 rfl (lv_at hl 2 rfl) ?_
      refine va_get (D := (dC, dI)) (ci := 1) (v := .long (tq_od (fun j => tq_q g k (q + j)) false (y - tq_pb z) (z - tq_pb z) v)) (C := RX1) (T := TX1) (N := 8) hx hb hW inX1 hown hK hP 0 rfl rfl 6 (by decide) (hW _ qm_287) (fun _ h9 => h9) rfl qd_M_both_96 ?_
      refine vp_callSl (W.runS (As := [.long (tq_q g k ((q + tq_sl false (y - tq_pb z) (z - tq_pb z)))), .long (tq_od (fun j => tq_q g k (q + j)) false (y - tq_pb z) (z - tq_pb z) v)]) (rest := [.ref o]) ⟨hx, hb, hml, hown, hW⟩ (ct_M_node l (tq_q g k ((q + tq_sl false (y - tq_pb z) (z - tq_pb z)))) (tq_od (fun j => tq_q g k (q + j)) false (y - tq_pb z) (z - tq_pb z) v)) (cwS 2 hW (tq_gS qm_338 qm_339 qm_2 qm_340) rfl rfl rfl (by decide +kernel) ⟨(show 1 + 1 ≤ d1 + 1 + 2 from by omega), (show 8 + (4 + 11) + (27) ≤ 28 * (d1 + 1) + 50 from by omega)⟩) ⟨tq_b0, fun U hU hW9 => ⟨rfl, trivial⟩⟩ rfl rfl hl.1 rfl (lv_room (Nat.le_of_ble_eq_true rfl)) qd_M_both_99 ⟨Nat.le_of_ble_eq_true rfl, Nat.le_of_ble_eq_true rfl⟩) (fun r9 e9 => ?_)
      subst e9
      refine va_put (D := (dC, dI)) (ci := 1) (v := .long (tq_node (tq_q g k ((q + tq_sl false (y - tq_pb z) (z - tq_pb z)))) (tq_od (fun j => tq_q g k (q + j)) false (y - tq_pb z) (z - tq_pb z) v))) (ty := .long) (C := RX1) (T := TX1) (N := 8) hx hb hW inX1 tyX1 tyX1_ok nmX1 hown hK hP hD hS 0 rfl rfl 6 (by decide) (hW _ qm_287) (fun _ h9 => h9) rfl (by decide +kernel) rfl rfl (Nat.le_of_ble_eq_true rfl) qd_M_both_102 (fun H locs hP hD hS => ?_)
      have hP : va_P (dC, dI) tq_cl [(o, .inr (1, [.int w1, .int (nI n), .int (nI k), .int (nI (((q + tq_sl false (y - tq_pb z) (z - tq_pb z))) + 1)), .ref ca, .ref cb, .long (tq_node (tq_q g k ((q + tq_sl false (y - tq_pb z) (z - tq_pb z)))) (tq_od (fun j => tq_q g k (q + j)) false (y - tq_pb z) (z - tq_pb z) v)), .long (tq_nw (fun j => tq_q g k (q + j)) false (y - tq_pb z) (z - tq_pb z) v)])), (ca, .inl (cA, (600, .inr (.inl f)))), (cb, .inl (cA, (40, .inr (.inl g))))] H := hP
      have hD : va_D A [(o, .inr (1, [.int w1, .int (nI n), .int (nI k), .int (nI (((q + tq_sl false (y - tq_pb z) (z - tq_pb z))) + 1)), .ref ca, .ref cb, .long (tq_node (tq_q g k ((q + tq_sl false (y - tq_pb z) (z - tq_pb z)))) (tq_od (fun j => tq_q g k (q + j)) false (y - tq_pb z) (z - tq_pb z) v)), .long (tq_nw (fun j => tq_q g k (q + j)) false (y - tq_pb z) (z - tq_pb z) v)])), (ca, .inl (cA, (600, .inr (.inl f)))), (cb, .inl (cA, (40, .inr (.inl g))))] := hD
      refine lv_aload_n hx hb qd_M_both_105 rfl (lv_at hl 2 rfl) ?_
      refine lv_lload hx hb qd_M_both_106 (lv_at hl 0 rfl) ?_
      refine lv_aload_n hx hb qd_M_both_108 rfl (lv_at hl 2 rfl) ?_
      refine va_get (D := (dC, dI)) (ci := 1) (v := .long (tq_nw (fun j => tq_q g k (q + j)) false (y - tq_pb z) (z - tq_pb z) v)) (C := RX1) (T := TX1) (N := 8) hx hb hW inX1 hown hK hP 0 rfl rfl 7 (by decide) (hW _ qm_288) (fun _ h9 => h9) rfl qd_M_both_109 ?_
      refine vp_callSl (W.runS (As := [.long (tq_q g k ((q + tq_sl false (y - tq_pb z) (z - tq_pb z)))), .long (tq_nw (fun j => tq_q g k (q + j)) false (y - tq_pb z) (z - tq_pb z) v)]) (rest := [.ref o]) ⟨hx, hb, hml, hown, hW⟩ (ct_M_node l (tq_q g k ((q + tq_sl false (y - tq_pb z) (z - tq_pb z)))) (tq_nw (fun j => tq_q g k (q + j)) false (y - tq_pb z) (z - tq_pb z) v)) (cwS 2 hW (tq_gS qm_338 qm_339 qm_2 qm_340) rfl rfl rfl (by decide +kernel) ⟨(show 1 + 1 ≤ d1 + 1 + 2 from by omega), (show 8 + (4 + 11) + (27) ≤ 28 * (d1 + 1) + 50 from by omega)⟩) ⟨tq_b0, fun U hU hW9 => ⟨rfl, trivial⟩⟩ rfl rfl hl.1 rfl (lv_room (Nat.le_of_ble_eq_true rfl)) qd_M_both_112 ⟨Nat.le_of_ble_eq_true rfl, Nat.le_of_ble_eq_true rfl⟩) (fun r9 e9 => ?_)
      subst e9
      refine va_put (D := (dC, dI)) (ci := 1) (v := .long (tq_node (tq_q g k ((q + tq_sl false (y - tq_pb z) (z - tq_pb z)))) (tq_nw (fun j => tq_q g k (q + j)) false (y - tq_pb z) (z - tq_pb z) v))) (ty := .long) (C := RX1) (T := TX1) (N := 8) hx hb hW inX1 tyX1 tyX1_ok nmX1 hown hK hP hD hS 0 rfl rfl 7 (by decide) (hW _ qm_288) (fun _ h9 => h9) rfl (by decide +kernel) rfl rfl (Nat.le_of_ble_eq_true rfl) qd_M_both_115 (fun H locs hP hD hS => ?_)
      have hP : va_P (dC, dI) tq_cl [(o, .inr (1, [.int w1, .int (nI n), .int (nI k), .int (nI (((q + tq_sl false (y - tq_pb z) (z - tq_pb z))) + 1)), .ref ca, .ref cb, .long (tq_node (tq_q g k ((q + tq_sl false (y - tq_pb z) (z - tq_pb z)))) (tq_od (fun j => tq_q g k (q + j)) false (y - tq_pb z) (z - tq_pb z) v)), .long (tq_node (tq_q g k ((q + tq_sl false (y - tq_pb z) (z - tq_pb z)))) (tq_nw (fun j => tq_q g k (q + j)) false (y - tq_pb z) (z - tq_pb z) v))])), (ca, .inl (cA, (600, .inr (.inl f)))), (cb, .inl (cA, (40, .inr (.inl g))))] H := hP
      have hD : va_D A [(o, .inr (1, [.int w1, .int (nI n), .int (nI k), .int (nI (((q + tq_sl false (y - tq_pb z) (z - tq_pb z))) + 1)), .ref ca, .ref cb, .long (tq_node (tq_q g k ((q + tq_sl false (y - tq_pb z) (z - tq_pb z)))) (tq_od (fun j => tq_q g k (q + j)) false (y - tq_pb z) (z - tq_pb z) v)), .long (tq_node (tq_q g k ((q + tq_sl false (y - tq_pb z) (z - tq_pb z)))) (tq_nw (fun j => tq_q g k (q + j)) false (y - tq_pb z) (z - tq_pb z) v))])), (ca, .inl (cA, (600, .inr (.inl f)))), (cb, .inl (cA, (40, .inr (.inl g))))] := hD
      rw [tq_sl_r (by omega) c1 c9, ← Nat.add_assoc, tq_od_r (by omega) c1 c9, tq_nw_r (by omega) c1 c9]
      exact W.vret hx hb hr (fun t ht hW9 => ⟨⟨(), rfl, trivial, by rw [ht]; exact hP, va_K.moved hW9.alike hK, hD⟩, hS.F ht⟩) hS.2.2 qd_M_both_118
    · have e4 := tq_sl_l (b := kn) (m := y) (n := z) (by omega) c1
      refine lv_aload_n hx hb qd_M_both_43 rfl (lv_at hl 1 rfl) ?_
      refine lv_iload_n hx hb qd_M_both_44 rfl (lv_at hl 2 rfl) ?_
      refine lv_iload hx hb qd_M_both_45 (lv_at hl 0 rfl) ?_
      refine lv_iload_n hx hb qd_M_both_47 rfl (lv_at hl 4 rfl) ?_
      refine lv_lload hx hb qd_M_both_48 (lv_at hl 5 rfl) ?_
      have hPc := hP.sub (ws' := [(o, .inr (1, [.int w1, .int (nI n), .int (nI k), .int (nI q), .ref ca, .ref cb, .long z1, .long z2])), (ca, .inl (cA, (600, .inr (.inl f)))), (cb, .inl (cA, (40, .inr (.inl g))))]) [0, 1, 2] rfl
      have hDc := hD.sub (ws' := [(o, .inr (1, [.int w1, .int (nI n), .int (nI k), .int (nI q), .ref ca, .ref cb, .long z1, .long z2])), (ca, .inl (cA, (600, .inr (.inl f)))), (cb, .inl (cA, (40, .inr (.inl g))))]) [0, 1, 2] (by decide) rfl
      have hKc := hK.sub (tys' := [(cA, .long)]) [0] rfl
      have hFc := va_free (wc := [(o, .inr (1, [.int w1, .int (nI n), .int (nI k), .int (nI q), .ref ca, .ref cb, .long z1, .long z2])), (ca, .inl (cA, (600, .inr (.inl f)))), (cb, .inl (cA, (40, .inr (.inl g))))]) hD hS hA [0, 1, 2] rfl
      refine va_callv (va_runV (As := [.int (nI y), .int (nI (tq_pb z)), .int (tq_b kn), .long v]) (rest := []) ⟨hx, hb, hml, hown, hW⟩ (ih d1 rfl y (tq_pb z) q kn z1 z2 s.heap.size h0 c1 hh (by omega) (by omega) hk) (cwV 4 hW (tq_gV qm_395 qm_397 qs_M_both qm_2 qm_398) rfl rfl rfl (by decide +kernel) ⟨(show d1 + 2 + 1 ≤ d1 + 1 + 2 from by omega), (show 8 + (9 + 11) + (28 * d1 + 50) ≤ 28 * (d1 + 1) + 50 from by omega)⟩) ⟨tq_b2, va_recv hKc hPc (ci := 1) (q0 := 0) rfl rfl, fun U hU hW9 => ⟨rfl, by rw [hU], by rw [hU]; exact hPc, va_K.moved hW9.alike hKc, hDc.weaken (fun _ _ _ _ => trivial)⟩⟩ rfl rfl hl.1 rfl (lv_room (Nat.le_of_ble_eq_true rfl)) qd_M_both_50 ⟨Nat.le_of_ble_eq_true rfl, Nat.le_of_ble_eq_true rfl⟩) hS (fun q _ h => hFc q h) hFc (fun u t9 H1 locs ht9 hvm hw hB hz1 hk1 hS => ?_)
      obtain ⟨hP1, hK1, hD1⟩ := hB
      rw [ht9] at hP1
      obtain ⟨hP, hD⟩ := va_join (wr := []) (w1 := [(o, .inr (1, [.int w1, .int (nI n), .int (nI k), .int (nI (q + tq_sl kn y (tq_pb z))), .ref ca, .ref cb, .long (tq_od (fun j => tq_q g k (q + j)) kn y (tq_pb z) v), .long (tq_nw (fun j => tq_q g k (q + j)) kn y (tq_pb z) v)])), (ca, .inl (cA, (600, .inr (.inl f)))), (cb, .inl (cA, (40, .inr (.inl g))))]) hP hD [0, 1, 2] [] rfl rfl (by decide) (by decide) hk1 hFc hP1 hD1
      generalize H1 = H at hP hS ⊢
      have hP : va_P (dC, dI) tq_cl [(o, .inr (1, [.int w1, .int (nI n), .int (nI k), .int (nI (q + tq_sl kn y (tq_pb z))), .ref ca, .ref cb, .long (tq_od (fun j => tq_q g k (q + j)) kn y (tq_pb z) v), .long (tq_nw (fun j => tq_q g k (q + j)) kn y (tq_pb z) v)])), (ca, .inl (cA, (600, .inr (.inl f)))), (cb, .inl (cA, (40, .inr (.inl g))))] H := hP
      have hD : va_D A [(o, .inr (1, [.int w1, .int (nI n), .int (nI k), .int (nI (q + tq_sl kn y (tq_pb z))), .ref ca, .ref cb, .long (tq_od (fun j => tq_q g k (q + j)) kn y (tq_pb z) v), .long (tq_nw (fun j => tq_q g k (q + j)) kn y (tq_pb z) v)])), (ca, .inl (cA, (600, .inr (.inl f)))), (cb, .inl (cA, (40, .inr (.inl g))))] := hD
      refine lv_aload_n hx hb qd_M_both_53 rfl (lv_at hl 1 rfl) ?_
      refine lv_aload_n hx hb qd_M_both_54 rfl (lv_at hl 1 rfl) ?_
      refine va_get (D := (dC, dI)) (ci := 1) (v := .long (tq_nw (fun j => tq_q g k (q + j)) kn y (tq_pb z) v)) (C := RX1) (T := TX1) (N := 8) hx hb hW inX1 hown hK hP 0 rfl rfl 7 (by decide) (hW _ qm_288) (fun _ h9 => h9) rfl qd_M_both_55 ?_
      refine lv_aload_n hx hb qd_M_both_58 rfl (lv_at hl 1 rfl) ?_
      have hPc := hP.sub (ws' := [(o, .inr (1, [.int w1, .int (nI n), .int (nI k), .int (nI (q + tq_sl kn y (tq_pb z))), .ref ca, .ref cb, .long (tq_od (fun j => tq_q g k (q + j)) kn y (tq_pb z) v), .long (tq_nw (fun j => tq_q g k (q + j)) kn y (tq_pb z) v)])), (ca, .inl (cA, (600, .inr (.inl f)))), (cb, .inl (cA, (40, .inr (.inl g))))]) [0, 1, 2] rfl
      have hDc := hD.sub (ws' := [(o, .inr (1, [.int w1, .int (nI n), .int (nI k), .int (nI (q + tq_sl kn y (tq_pb z))), .ref ca, .ref cb, .long (tq_od (fun j => tq_q g k (q + j)) kn y (tq_pb z) v), .long (tq_nw (fun j => tq_q g k (q + j)) kn y (tq_pb z) v)])), (ca, .inl (cA, (600, .inr (.inl f)))), (cb, .inl (cA, (40, .inr (.inl g))))]) [0, 1, 2] (by decide) rfl
      have hKc := hK.sub (tys' := [(cA, .long)]) [0] rfl
      have hFc := va_free (wc := [(o, .inr (1, [.int w1, .int (nI n), .int (nI k), .int (nI (q + tq_sl kn y (tq_pb z))), .ref ca, .ref cb, .long (tq_od (fun j => tq_q g k (q + j)) kn y (tq_pb z) v), .long (tq_nw (fun j => tq_q g k (q + j)) kn y (tq_pb z) v)])), (ca, .inl (cA, (600, .inr (.inl f)))), (cb, .inl (cA, (40, .inr (.inl g))))]) hD hS hA [0, 1, 2] rfl
      refine va_calll (va_runV (As := []) (rest := [.long (tq_nw (fun j => tq_q g k (q + j)) kn y (tq_pb z) v), .ref o]) ⟨hx, hb, hml, hown, hW⟩ (ct_M_next l dC dI o ca cb cA w1 n k (tq_od (fun j => tq_q g k (q + j)) kn y (tq_pb z) v) (tq_nw (fun j => tq_q g k (q + j)) kn y (tq_pb z) v) f g H.size ((q + tq_sl kn y (tq_pb z))) (by omega) (by omega)) (cwV 0 hW (tq_gV qm_387 qm_389 qs_M_next qm_2 qm_390) rfl rfl rfl (by decide +kernel) ⟨(show 0 + 1 ≤ d1 + 1 + 2 from by omega), (show 8 + (1 + 11) + (0) ≤ 28 * (d1 + 1) + 50 from by omega)⟩) ⟨tq_b2, va_recv hKc hPc (ci := 1) (q0 := 0) rfl rfl, fun U hU hW9 => ⟨rfl, by rw [hU], by rw [hU]; exact hPc, va_K.moved hW9.alike hKc, hDc.weaken (fun _ _ _ _ => trivial)⟩⟩ rfl rfl hl.1 rfl (lv_room (Nat.le_of_ble_eq_true rfl)) qd_M_both_59 ⟨Nat.le_of_ble_eq_true rfl, Nat.le_of_ble_eq_true rfl⟩) hS (fun q _ h => hFc q h) hFc (fun r9 u t9 H1 locs ht9 hvm hw hB hz1 hk1 hS => ?_)
      obtain ⟨hP1, hK1, hD1⟩ := hB
      rw [ht9] at hP1
      obtain ⟨hP, hD⟩ := va_join (wr := []) (w1 := [(o, .inr (1, [.int w1, .int (nI n), .int (nI k), .int (nI (((q + tq_sl kn y (tq_pb z))) + 1)), .ref ca, .ref cb, .long (tq_od (fun j => tq_q g k (q + j)) kn y (tq_pb z) v), .long (tq_nw (fun j => tq_q g k (q + j)) kn y (tq_pb z) v)])), (ca, .inl (cA, (600, .inr (.inl f)))), (cb, .inl (cA, (40, .inr (.inl g))))]) hP hD [0, 1, 2] [] rfl rfl (by decide) (by decide) hk1 hFc hP1 hD1
      generalize H1 = H at hP hS ⊢
      have hP : va_P (dC, dI) tq_cl [(o, .inr (1, [.int w1, .int (nI n), .int (nI k), .int (nI (((q + tq_sl kn y (tq_pb z))) + 1)), .ref ca, .ref cb, .long (tq_od (fun j => tq_q g k (q + j)) kn y (tq_pb z) v), .long (tq_nw (fun j => tq_q g k (q + j)) kn y (tq_pb z) v)])), (ca, .inl (cA, (600, .inr (.inl f)))), (cb, .inl (cA, (40, .inr (.inl g))))] H := hP
      have hD : va_D A [(o, .inr (1, [.int w1, .int (nI n), .int (nI k), .int (nI (((q + tq_sl kn y (tq_pb z))) + 1)), .ref ca, .ref cb, .long (tq_od (fun j => tq_q g k (q + j)) kn y (tq_pb z) v), .long (tq_nw (fun j => tq_q g k (q + j)) kn y (tq_pb z) v)])), (ca, .inl (cA, (600, .inr (.inl f)))), (cb, .inl (cA, (40, .inr (.inl g))))] := hD
      have hw : r9 = tq_q g k ((q + tq_sl kn y (tq_pb z))) := hw
      subst hw
      refine vp_callSl (W.runS (As := [.long (tq_nw (fun j => tq_q g k (q + j)) kn y (tq_pb z) v), .long (tq_q g k ((q + tq_sl kn y (tq_pb z))))]) (rest := [.ref o]) ⟨hx, hb, hml, hown, hW⟩ (ct_M_node l (tq_nw (fun j => tq_q g k (q + j)) kn y (tq_pb z) v) (tq_q g k ((q + tq_sl kn y (tq_pb z))))) (cwS 2 hW (tq_gS qm_338 qm_339 qm_2 qm_340) rfl rfl rfl (by decide +kernel) ⟨(show 1 + 1 ≤ d1 + 1 + 2 from by omega), (show 8 + (4 + 11) + (27) ≤ 28 * (d1 + 1) + 50 from by omega)⟩) ⟨tq_b0, fun U hU hW9 => ⟨rfl, trivial⟩⟩ rfl rfl hl.1 rfl (lv_room (Nat.le_of_ble_eq_true rfl)) qd_M_both_62 ⟨Nat.le_of_ble_eq_true rfl, Nat.le_of_ble_eq_true rfl⟩) (fun r9 e9 => ?_)
      subst e9
      refine va_put (D := (dC, dI)) (ci := 1) (v := .long (tq_node (tq_nw (fun j => tq_q g k (q + j)) kn y (tq_pb z) v) (tq_q g k ((q + tq_sl kn y (tq_pb z)))))) (ty := .long) (C := RX1) (T := TX1) (N := 8) hx hb hW inX1 tyX1 tyX1_ok nmX1 hown hK hP hD hS 0 rfl rfl 7 (by decide) (hW _ qm_288) (fun _ h9 => h9) rfl (by decide +kernel) rfl rfl (Nat.le_of_ble_eq_true rfl) qd_M_both_65 (fun H locs hP hD hS => ?_)
      have hP : va_P (dC, dI) tq_cl [(o, .inr (1, [.int w1, .int (nI n), .int (nI k), .int (nI (((q + tq_sl kn y (tq_pb z))) + 1)), .ref ca, .ref cb, .long (tq_od (fun j => tq_q g k (q + j)) kn y (tq_pb z) v), .long (tq_node (tq_nw (fun j => tq_q g k (q + j)) kn y (tq_pb z) v) (tq_q g k ((q + tq_sl kn y (tq_pb z)))))])), (ca, .inl (cA, (600, .inr (.inl f)))), (cb, .inl (cA, (40, .inr (.inl g))))] H := hP
      have hD : va_D A [(o, .inr (1, [.int w1, .int (nI n), .int (nI k), .int (nI (((q + tq_sl kn y (tq_pb z))) + 1)), .ref ca, .ref cb, .long (tq_od (fun j => tq_q g k (q + j)) kn y (tq_pb z) v), .long (tq_node (tq_nw (fun j => tq_q g k (q + j)) kn y (tq_pb z) v) (tq_q g k ((q + tq_sl kn y (tq_pb z)))))])), (ca, .inl (cA, (600, .inr (.inl f)))), (cb, .inl (cA, (40, .inr (.inl g))))] := hD
      refine lv_goto (tgt := 118) hx hb qd_M_both_68 (by decide) ?_
      rw [tq_sl_l (by omega) c1, ← Nat.add_assoc, tq_od_l (by omega) c1, tq_nw_l (by omega) c1]
      exact W.vret hx hb hr (fun t ht hW9 => ⟨⟨(), rfl, trivial, by rw [ht]; exact hP, va_K.moved hW9.alike hK, hD⟩, hS.F ht⟩) hS.2.2 qd_M_both_118
  · subst c9
    cases kn with
    | true =>
      refine lv_aload_n hx hb qd_M_both_5 rfl (lv_at hl 0 rfl) ?_
      refine lv_iload_n hx hb qd_M_both_6 rfl (lv_at hl 3 rfl) ?_
      refine tq_ti (y := nI 1) (rfl) ?_
      refine tq_if_eq (x := 1) (tgt := 15) hx hb qd_M_both_7 (by decide) (by omega) (fun c9 => by omega) (fun c9 => ?_)
      refine lv_lload hx hb qd_M_both_10 (lv_at hl 4 rfl) ?_
      refine lv_goto (tgt := 19) hx hb qd_M_both_12 (by decide) ?_
      refine va_put (D := (dC, dI)) (ci := 1) (v := .long v) (ty := .long) (C := RX1) (T := TX1) (N := 8) hx hb hW inX1 tyX1 tyX1_ok nmX1 hown hK hP hD hS 0 rfl rfl 6 (by decide) (hW _ qm_287) (fun _ h9 => h9) rfl (by decide +kernel) rfl rfl (Nat.le_of_ble_eq_true rfl) qd_M_both_19 (fun H locs hP hD hS => ?_)
      have hP : va_P (dC, dI) tq_cl [(o, .inr (1, [.int w1, .int (nI n), .int (nI k), .int (nI q), .ref ca, .ref cb, .long v, .long z2])), (ca, .inl (cA, (600, .inr (.inl f)))), (cb, .inl (cA, (40, .inr (.inl g))))] H := hP
      have hD : va_D A [(o, .inr (1, [.int w1, .int (nI n), .int (nI k), .int (nI q), .ref ca, .ref cb, .long v, .long z2])), (ca, .inl (cA, (600, .inr (.inl f)))), (cb, .inl (cA, (40, .inr (.inl g))))] := hD
      refine lv_aload_n hx hb qd_M_both_22 rfl (lv_at hl 0 rfl) ?_
      refine lv_aload_n hx hb qd_M_both_23 rfl (lv_at hl 0 rfl) ?_
      refine va_get (D := (dC, dI)) (ci := 1) (v := .long v) (C := RX1) (T := TX1) (N := 8) hx hb hW inX1 hown hK hP 0 rfl rfl 6 (by decide) (hW _ qm_287) (fun _ h9 => h9) rfl qd_M_both_24 ?_
      refine va_put (D := (dC, dI)) (ci := 1) (v := .long v) (ty := .long) (C := RX1) (T := TX1) (N := 8) hx hb hW inX1 tyX1 tyX1_ok nmX1 hown hK hP hD hS 0 rfl rfl 7 (by decide) (hW _ qm_288) (fun _ h9 => h9) rfl (by decide +kernel) rfl rfl (Nat.le_of_ble_eq_true rfl) qd_M_both_27 (fun H locs hP hD hS => ?_)
      have hP : va_P (dC, dI) tq_cl [(o, .inr (1, [.int w1, .int (nI n), .int (nI k), .int (nI q), .ref ca, .ref cb, .long v, .long v])), (ca, .inl (cA, (600, .inr (.inl f)))), (cb, .inl (cA, (40, .inr (.inl g))))] H := hP
      have hD : va_D A [(o, .inr (1, [.int w1, .int (nI n), .int (nI k), .int (nI q), .ref ca, .ref cb, .long v, .long v])), (ca, .inl (cA, (600, .inr (.inl f)))), (cb, .inl (cA, (40, .inr (.inl g))))] := hD
      rw [tq_sl_e, tq_od_e, tq_nw_e]
      exact W.vret hx hb hr (fun t ht hW9 => ⟨⟨(), rfl, trivial, by rw [ht]; exact hP, va_K.moved hW9.alike hK, hD⟩, hS.F ht⟩) hS.2.2 qd_M_both_30
    | false =>
      rw [tq_sl_e] at h4
      have h4 : q + 1 ≤ 100 := h4
      refine lv_aload_n hx hb qd_M_both_5 rfl (lv_at hl 0 rfl) ?_
      refine lv_iload_n hx hb qd_M_both_6 rfl (lv_at hl 3 rfl) ?_
      refine tq_ti (y := nI 0) (rfl) ?_
      refine tq_if_eq (x := 0) (tgt := 15) hx hb qd_M_both_7 (by decide) (by omega) (fun c9 => ?_) (fun c9 => by omega)
      refine lv_aload_n hx hb qd_M_both_15 rfl (lv_at hl 0 rfl) ?_
      have hPc := hP.sub (ws' := [(o, .inr (1, [.int w1, .int (nI n), .int (nI k), .int (nI q), .ref ca, .ref cb, .long z1, .long z2])), (ca, .inl (cA, (600, .inr (.inl f)))), (cb, .inl (cA, (40, .inr (.inl g))))]) [0, 1, 2] rfl
      have hDc := hD.sub (ws' := [(o, .inr (1, [.int w1, .int (nI n), .int (nI k), .int (nI q), .ref ca, .ref cb, .long z1, .long z2])), (ca, .inl (cA, (600, .inr (.inl f)))), (cb, .inl (cA, (40, .inr (.inl g))))]) [0, 1, 2] (by decide) rfl
      have hKc := hK.sub (tys' := [(cA, .long)]) [0] rfl
      have hFc := va_free (wc := [(o, .inr (1, [.int w1, .int (nI n), .int (nI k), .int (nI q), .ref ca, .ref cb, .long z1, .long z2])), (ca, .inl (cA, (600, .inr (.inl f)))), (cb, .inl (cA, (40, .inr (.inl g))))]) hD hS hA [0, 1, 2] rfl
      refine va_calll (va_runV (As := []) (rest := [.ref o]) ⟨hx, hb, hml, hown, hW⟩ (ct_M_next l dC dI o ca cb cA w1 n k z1 z2 f g s.heap.size q (by omega) (by omega)) (cwV 0 hW (tq_gV qm_387 qm_389 qs_M_next qm_2 qm_390) rfl rfl rfl (by decide +kernel) ⟨(show 0 + 1 ≤ d + 2 from by omega), (show 8 + (1 + 11) + (0) ≤ 28 * d + 50 from by omega)⟩) ⟨tq_b2, va_recv hKc hPc (ci := 1) (q0 := 0) rfl rfl, fun U hU hW9 => ⟨rfl, by rw [hU], by rw [hU]; exact hPc, va_K.moved hW9.alike hKc, hDc.weaken (fun _ _ _ _ => trivial)⟩⟩ rfl rfl hl.1 rfl (lv_room (Nat.le_of_ble_eq_true rfl)) qd_M_both_16 ⟨Nat.le_of_ble_eq_true rfl, Nat.le_of_ble_eq_true rfl⟩) hS (fun q _ h => hFc q h) hFc (fun r9 u t9 H1 locs ht9 hvm hw hB hz1 hk1 hS => ?_)
      obtain ⟨hP1, hK1, hD1⟩ := hB
      rw [ht9] at hP1
      obtain ⟨hP, hD⟩ := va_join (wr := []) (w1 := [(o, .inr (1, [.int w1, .int (nI n), .int (nI k), .int (nI (q + 1)), .ref ca, .ref cb, .long z1, .long z2])), (ca, .inl (cA, (600, .inr (.inl f)))), (cb, .inl (cA, (40, .inr (.inl g))))]) hP hD [0, 1, 2] [] rfl rfl (by decide) (by decide) hk1 hFc hP1 hD1
      generalize H1 = H at hP hS ⊢
      have hP : va_P (dC, dI) tq_cl [(o, .inr (1, [.int w1, .int (nI n), .int (nI k), .int (nI (q + 1)), .ref ca, .ref cb, .long z1, .long z2])), (ca, .inl (cA, (600, .inr (.inl f)))), (cb, .inl (cA, (40, .inr (.inl g))))] H := hP
      have hD : va_D A [(o, .inr (1, [.int w1, .int (nI n), .int (nI k), .int (nI (q + 1)), .ref ca, .ref cb, .long z1, .long z2])), (ca, .inl (cA, (600, .inr (.inl f)))), (cb, .inl (cA, (40, .inr (.inl g))))] := hD
      have hw : r9 = tq_q g k q := hw
      subst hw
      refine va_put (D := (dC, dI)) (ci := 1) (v := .long (tq_q g k q)) (ty := .long) (C := RX1) (T := TX1) (N := 8) hx hb hW inX1 tyX1 tyX1_ok nmX1 hown hK hP hD hS 0 rfl rfl 6 (by decide) (hW _ qm_287) (fun _ h9 => h9) rfl (by decide +kernel) rfl rfl (Nat.le_of_ble_eq_true rfl) qd_M_both_19 (fun H locs hP hD hS => ?_)
      have hP : va_P (dC, dI) tq_cl [(o, .inr (1, [.int w1, .int (nI n), .int (nI k), .int (nI (q + 1)), .ref ca, .ref cb, .long (tq_q g k q), .long z2])), (ca, .inl (cA, (600, .inr (.inl f)))), (cb, .inl (cA, (40, .inr (.inl g))))] H := hP
      have hD : va_D A [(o, .inr (1, [.int w1, .int (nI n), .int (nI k), .int (nI (q + 1)), .ref ca, .ref cb, .long (tq_q g k q), .long z2])), (ca, .inl (cA, (600, .inr (.inl f)))), (cb, .inl (cA, (40, .inr (.inl g))))] := hD
      refine lv_aload_n hx hb qd_M_both_22 rfl (lv_at hl 0 rfl) ?_
      refine lv_aload_n hx hb qd_M_both_23 rfl (lv_at hl 0 rfl) ?_
      refine va_get (D := (dC, dI)) (ci := 1) (v := .long (tq_q g k q)) (C := RX1) (T := TX1) (N := 8) hx hb hW inX1 hown hK hP 0 rfl rfl 6 (by decide) (hW _ qm_287) (fun _ h9 => h9) rfl qd_M_both_24 ?_
      refine va_put (D := (dC, dI)) (ci := 1) (v := .long (tq_q g k q)) (ty := .long) (C := RX1) (T := TX1) (N := 8) hx hb hW inX1 tyX1 tyX1_ok nmX1 hown hK hP hD hS 0 rfl rfl 7 (by decide) (hW _ qm_288) (fun _ h9 => h9) rfl (by decide +kernel) rfl rfl (Nat.le_of_ble_eq_true rfl) qd_M_both_27 (fun H locs hP hD hS => ?_)
      have hP : va_P (dC, dI) tq_cl [(o, .inr (1, [.int w1, .int (nI n), .int (nI k), .int (nI (q + 1)), .ref ca, .ref cb, .long (tq_q g k q), .long (tq_q g k q)])), (ca, .inl (cA, (600, .inr (.inl f)))), (cb, .inl (cA, (40, .inr (.inl g))))] H := hP
      have hD : va_D A [(o, .inr (1, [.int w1, .int (nI n), .int (nI k), .int (nI (q + 1)), .ref ca, .ref cb, .long (tq_q g k q), .long (tq_q g k q)])), (ca, .inl (cA, (600, .inr (.inl f)))), (cb, .inl (cA, (40, .inr (.inl g))))] := hD
      rw [tq_sl_e, tq_od_e, tq_nw_e]
      exact W.vret hx hb hr (fun t ht hW9 => ⟨⟨(), rfl, trivial, by rw [ht]; exact hP, va_K.moved hW9.alike hK, hD⟩, hS.F ht⟩) hS.2.2 qd_M_both_30
theorem ct_M_both (l : Launch) (dC : Nat → ClassId) (dI : Nat → Nat → Nat) (o ca cb : Nat) (cA : ClassId) (w1 : Int32) (n k : Nat) (f g : Nat → Int64) (v : Int64) : ∀ (d y z q : Nat) (kn : Bool) (z1 z2 : Int64) (sz : Nat), 1 ≤ y → y ≤ z → z ≤ 2 ^ d → d ≤ 30 → q + tq_sl kn y z ≤ 100 → k ≤ 40 → tq_BO l dC dI o ca cb cA w1 n k f g v d y z q kn z1 z2 sz
  | 0, y, z, q, kn, z1, z2, sz, h0, h1, h2, h3, h4, hk => ct_M_both_s l dC dI o ca cb cA w1 n k f g v 0 y z q kn z1 z2 sz (fun d1 h => by omega) h0 h1 h2 h3 h4 hk
  | d + 1, y, z, q, kn, z1, z2, sz, h0, h1, h2, h3, h4, hk => ct_M_both_s l dC dI o ca cb cA w1 n k f g v (d + 1) y z q kn z1 z2 sz (fun d1 h y z q kn z1 z2 sz a0 a1 a2 a3 a4 a5 => by cases h; exact ct_M_both l dC dI o ca cb cA w1 n k f g v d y z q kn z1 z2 sz a0 a1 a2 a3 a4 a5) h0 h1 h2 h3 h4 hk
set_option maxHeartbeats 4000000 in
set_option maxRecDepth 100000 in
theorem ct_M_grew (l : Launch) (dC : Nat → ClassId) (dI : Nat → Nat → Nat) (o ca cb : Nat) (cA : ClassId) (w1 : Int32) (n k : Nat) (w4 : Int32) (z1 z2 : Int64) (f g : Nat → Int64) (sz : Nat) (i j : Nat) (v hd : Int64) (h0 : 1 ≤ i) (h1 : i ≤ j) (h2 : j ≤ 2 ^ 30) (hk : k ≤ 40) : Met l qy_M_grew qw_M_grew ({ frames := 33, cells := 0, slots := 0, locals := 930 }) (va_Pc [.ref o, .int (nI i), .int (nI j), .long v, .long hd] (tq_rw (dC, dI) [(o, .inr (1, [.int w1, .int (nI n), .int (nI k), .int w4, .ref ca, .ref cb, .long z1, .long z2])), (ca, .inl (cA, (600, .inr (.inl f)))), (cb, .inl (cA, (40, .inr (.inl g))))] [(cA, .long)] sz)) (va_Qi (fun r (_ : Unit) => r = tq_b (decide (0 + tq_sl true i j = k) && (decide (tq_od (fun q => tq_q g k (0 + q)) true i j v = v) && decide (tq_nw (fun q => tq_q g k (0 + q)) true i j v = hd)))) (fun _ t => tq_in (dC, dI) [(o, .inr (1, [.int (nI 0), .int (nI n), .int (nI k), .int (nI (0 + tq_sl true i j)), .ref ca, .ref cb, .long (tq_od (fun q => tq_q g k (0 + q)) true i j v), .long (tq_nw (fun q => tq_q g k (0 + q)) true i j v)])), (ca, .inl (cA, (600, .inr (.inl f)))), (cb, .inl (cA, (40, .inr (.inl g))))] [(cA, .long)] (va_A [(o, .inr (1, [.int w1, .int (nI n), .int (nI k), .int w4, .ref ca, .ref cb, .long z1, .long z2])), (ca, .inl (cA, (600, .inr (.inl f)))), (cb, .inl (cA, (40, .inr (.inl g))))] sz) t) (va_A [(o, .inr (1, [.int w1, .int (nI n), .int (nI k), .int w4, .ref ca, .ref cb, .long z1, .long z2])), (ca, .inl (cA, (600, .inr (.inl f)))), (cb, .inl (cA, (40, .inr (.inl g))))] sz)) 0 0 (va_A [(o, .inr (1, [.int w1, .int (nI n), .int (nI k), .int w4, .ref ca, .ref cb, .long z1, .long z2])), (ca, .inl (cA, (600, .inr (.inl f)))), (cb, .inl (cA, (40, .inr (.inl g))))] sz) := by
  refine Met.ofW (cc := qc_M_grew) (maxL := 7) (ret := (some .boolean)) (by decide) rfl ?_
  intro p e s m args below meth c s₁ B hml hv
  obtain ⟨rfl, hsz, hP, hK, hD0⟩ := hv
  have hx := B.exec
  have hb := B.bytes
  have hr := B.returns
  have hts := atoms_spec (ws := qw_M_grew) B.pre
  have hW : ∀ w ∈ tq_W, w.before ([.ref o, .int (nI i), .int (nI j), .long v, .long hd] : List Value).toArray s = true := fun w h => hts w (List.mem_cons_of_mem _ h)
  have hown : s.vm.findClass RX1 = some m.cls := findClass_of_methodNamed B.named
  have hlocks := B.notSynchronized
  have hl := lv_entry ([.ref o, .int (nI i), .int (nI j), .long v, .long hd]) (n := 7) (Nat.le_of_ble_eq_true rfl)
  rw [lg_entry_eq]
  generalize (lg_sl ([.ref o, .int (nI i), .int (nI j), .long v, .long hd]) ++ List.replicate (7 - (lg_sl ([.ref o, .int (nI i), .int (nI j), .long v, .long hd])).length) Slot.unset).toArray = ls at hl ⊢
  have hl : lv_has ls 7 [(0, .ref o), (1, .int (nI i)), (2, .int (nI j)), (3, .long v), (5, .long hd)] := hl
  subst hsz
  have hD := hD0.self (sz := s.heap.size)
  generalize hAe : va_A [(o, .inr (1, [.int w1, .int (nI n), .int (nI k), .int w4, .ref ca, .ref cb, .long z1, .long z2])), (ca, .inl (cA, (600, .inr (.inl f)))), (cb, .inl (cA, (40, .inr (.inl g))))] s.heap.size = A at hD ⊢
  have hA : ∀ q : Nat, s.heap.size ≤ q → A q := fun q h => by rw [← hAe]; exact Or.inr h
  have hS : va_S A s.heap s.heap [] := va_S.rf
  have hsl := tq_sl_le 30 true i j h2
  refine lv_aload_n hx hb qd_M_grew_0 rfl (lv_at hl 0 rfl) ?_
  refine lv_iconst (v := nI 0) hx hb qd_M_grew_1 (by decide +kernel) ?_
  refine va_put (D := (dC, dI)) (ci := 1) (v := .int (nI 0)) (ty := .int) (C := RX1) (T := TX1) (N := 8) hx hb hW inX1 tyX1 tyX1_ok nmX1 hown hK hP hD hS 0 rfl rfl 0 (by decide) (hW _ qm_281) (fun _ h9 => h9) rfl (by decide +kernel) rfl rfl (Nat.le_of_ble_eq_true rfl) qd_M_grew_2 (fun H locs hP hD hS => ?_)
  have hP : va_P (dC, dI) tq_cl [(o, .inr (1, [.int (nI 0), .int (nI n), .int (nI k), .int w4, .ref ca, .ref cb, .long z1, .long z2])), (ca, .inl (cA, (600, .inr (.inl f)))), (cb, .inl (cA, (40, .inr (.inl g))))] H := hP
  have hD : va_D A [(o, .inr (1, [.int (nI 0), .int (nI n), .int (nI k), .int w4, .ref ca, .ref cb, .long z1, .long z2])), (ca, .inl (cA, (600, .inr (.inl f)))), (cb, .inl (cA, (40, .inr (.inl g))))] := hD
  refine lv_iload_n hx hb qd_M_grew_5 rfl (lv_at hl 1 rfl) ?_
  refine lv_iconst (v := nI 1) hx hb qd_M_grew_6 (by decide +kernel) ?_
  refine tq_icmp_lt (x := i) (y := 1) (tgt := 21) hx hb qd_M_grew_7 (by decide) (by omega) (by omega) (fun c9 => by omega) (fun c9 => ?_)
  refine lv_iload_n hx hb qd_M_grew_10 rfl (lv_at hl 1 rfl) ?_
  refine lv_iload_n hx hb qd_M_grew_11 rfl (lv_at hl 2 rfl) ?_
  refine tq_icmp_gt (x := i) (y := j) (tgt := 21) hx hb qd_M_grew_12 (by decide) (by omega) (by omega) (fun c9 => by omega) (fun c9 => ?_)
  refine lv_iload_n hx hb qd_M_grew_15 rfl (lv_at hl 2 rfl) ?_
  refine lv_ldc (v := (1073741824)) hx hb hown (hW _ qm_382) qd_M_grew_16 ?_
  refine tq_ti (y := nI 1073741824) (by decide +kernel) ?_
  refine tq_icmp_le (x := j) (y := 1073741824) (tgt := 23) hx hb qd_M_grew_18 (by decide) (by omega) (by omega) (fun c9 => ?_) (fun c9 => by omega)
  refine lv_aload_n hx hb qd_M_grew_23 rfl (lv_at hl 0 rfl) ?_
  refine lv_iconst (v := nI 0) hx hb qd_M_grew_24 (by decide +kernel) ?_
  refine va_put (D := (dC, dI)) (ci := 1) (v := .int (nI 0)) (ty := .int) (C := RX1) (T := TX1) (N := 8) hx hb hW inX1 tyX1 tyX1_ok nmX1 hown hK hP hD hS 0 rfl rfl 3 (by decide) (hW _ qm_284) (fun _ h9 => h9) rfl (by decide +kernel) rfl rfl (Nat.le_of_ble_eq_true rfl) qd_M_grew_25 (fun H locs hP hD hS => ?_)
  have hP : va_P (dC, dI) tq_cl [(o, .inr (1, [.int (nI 0), .int (nI n), .int (nI k), .int (nI 0), .ref ca, .ref cb, .long z1, .long z2])), (ca, .inl (cA, (600, .inr (.inl f)))), (cb, .inl (cA, (40, .inr (.inl g))))] H := hP
  have hD : va_D A [(o, .inr (1, [.int (nI 0), .int (nI n), .int (nI k), .int (nI 0), .ref ca, .ref cb, .long z1, .long z2])), (ca, .inl (cA, (600, .inr (.inl f)))), (cb, .inl (cA, (40, .inr (.inl g))))] := hD
  refine lv_aload_n hx hb qd_M_grew_28 rfl (lv_at hl 0 rfl) ?_
  refine lv_iload_n hx hb qd_M_grew_29 rfl (lv_at hl 1 rfl) ?_
  refine lv_iload_n hx hb qd_M_grew_30 rfl (lv_at hl 2 rfl) ?_
  refine lv_iconst (v := nI 1) hx hb qd_M_grew_31 (by decide +kernel) ?_
  refine tq_ti (y := tq_b true) (rfl) ?_
  refine lv_lload_n hx hb qd_M_grew_32 rfl (lv_at hl 3 rfl) ?_
  have hPc := hP.sub (ws' := [(o, .inr (1, [.int (nI 0), .int (nI n), .int (nI k), .int (nI 0), .ref ca, .ref cb, .long z1, .long z2])), (ca, .inl (cA, (600, .inr (.inl f)))), (cb, .inl (cA, (40, .inr (.inl g))))]) [0, 1, 2] rfl
  have hDc := hD.sub (ws' := [(o, .inr (1, [.int (nI 0), .int (nI n), .int (nI k), .int (nI 0), .ref ca, .ref cb, .long z1, .long z2])), (ca, .inl (cA, (600, .inr (.inl f)))), (cb, .inl (cA, (40, .inr (.inl g))))]) [0, 1, 2] (by decide) rfl
  have hKc := hK.sub (tys' := [(cA, .long)]) [0] rfl
  have hFc := va_free (wc := [(o, .inr (1, [.int (nI 0), .int (nI n), .int (nI k), .int (nI 0), .ref ca, .ref cb, .long z1, .long z2])), (ca, .inl (cA, (600, .inr (.inl f)))), (cb, .inl (cA, (40, .inr (.inl g))))]) hD hS hA [0, 1, 2] rfl
  refine va_callv (va_runV (As := [.int (nI i), .int (nI j), .int (tq_b true), .long v]) (rest := []) ⟨hx, hb, hml, hown, hW⟩ (ct_M_both l dC dI o ca cb cA (nI 0) n k f g v 30 i j 0 true z1 z2 H.size h0 h1 h2 (by omega) (by omega) hk) (cwV 4 hW (tq_gV qm_395 qm_397 qs_M_both qm_2 qm_398) rfl rfl rfl (by decide +kernel) ⟨Nat.le_of_ble_eq_true rfl, Nat.le_of_ble_eq_true rfl⟩) ⟨tq_b2, va_recv hKc hPc (ci := 1) (q0 := 0) rfl rfl, fun U hU hW9 => ⟨rfl, by rw [hU], by rw [hU]; exact hPc, va_K.moved hW9.alike hKc, hDc.weaken (fun _ _ _ _ => trivial)⟩⟩ rfl rfl hl.1 rfl (lv_room (Nat.le_of_ble_eq_true rfl)) qd_M_grew_33 ⟨Nat.le_of_ble_eq_true rfl, Nat.le_of_ble_eq_true rfl⟩) hS (fun q _ h => hFc q h) hFc (fun u t9 H1 locs ht9 hvm hw hB hz1 hk1 hS => ?_)
  obtain ⟨hP1, hK1, hD1⟩ := hB
  rw [ht9] at hP1
  obtain ⟨hP, hD⟩ := va_join (wr := []) (w1 := [(o, .inr (1, [.int (nI 0), .int (nI n), .int (nI k), .int (nI (0 + tq_sl true i j)), .ref ca, .ref cb, .long (tq_od (fun q => tq_q g k (0 + q)) true i j v), .long (tq_nw (fun q => tq_q g k (0 + q)) true i j v)])), (ca, .inl (cA, (600, .inr (.inl f)))), (cb, .inl (cA, (40, .inr (.inl g))))]) hP hD [0, 1, 2] [] rfl rfl (by decide) (by decide) hk1 hFc hP1 hD1
  generalize H1 = H at hP hS ⊢
  have hP : va_P (dC, dI) tq_cl [(o, .inr (1, [.int (nI 0), .int (nI n), .int (nI k), .int (nI (0 + tq_sl true i j)), .ref ca, .ref cb, .long (tq_od (fun q => tq_q g k (0 + q)) true i j v), .long (tq_nw (fun q => tq_q g k (0 + q)) true i j v)])), (ca, .inl (cA, (600, .inr (.inl f)))), (cb, .inl (cA, (40, .inr (.inl g))))] H := hP
  have hD : va_D A [(o, .inr (1, [.int (nI 0), .int (nI n), .int (nI k), .int (nI (0 + tq_sl true i j)), .ref ca, .ref cb, .long (tq_od (fun q => tq_q g k (0 + q)) true i j v), .long (tq_nw (fun q => tq_q g k (0 + q)) true i j v)])), (ca, .inl (cA, (600, .inr (.inl f)))), (cb, .inl (cA, (40, .inr (.inl g))))] := hD
  refine lv_aload_n hx hb qd_M_grew_36 rfl (lv_at hl 0 rfl) ?_
  refine va_get (D := (dC, dI)) (ci := 1) (v := .int (nI (0 + tq_sl true i j))) (C := RX1) (T := TX1) (N := 8) hx hb hW inX1 hown hK hP 0 rfl rfl 3 (by decide) (hW _ qm_284) (fun _ h9 => h9) rfl qd_M_grew_37 ?_
  refine lv_aload_n hx hb qd_M_grew_40 rfl (lv_at hl 0 rfl) ?_
  refine va_get (D := (dC, dI)) (ci := 1) (v := .int (nI k)) (C := RX1) (T := TX1) (N := 8) hx hb hW inX1 hown hK hP 0 rfl rfl 2 (by decide) (hW _ qm_283) (fun _ h9 => h9) rfl qd_M_grew_41 ?_
  refine tq_icmp_ne (x := (0 + tq_sl true i j)) (y := k) (tgt := 70) hx hb qd_M_grew_44 (by decide) (by omega) (by omega) (fun c9 => ?_) (fun c9 => ?_)
  · refine lv_iconst (v := nI 0) hx hb qd_M_grew_70 (by decide +kernel) ?_
    exact W.zret hx hb hr (by decide +kernel) (fun t ht hW9 => ⟨⟨_, (), rfl, (by rw [decide_eq_false c9]; rfl), by rw [ht]; exact hP, va_K.moved hW9.alike hK, hD⟩, hS.F ht⟩) hS.2.2 qd_M_grew_71
  · refine lv_aload_n hx hb qd_M_grew_47 rfl (lv_at hl 0 rfl) ?_
    refine va_get (D := (dC, dI)) (ci := 1) (v := .long (tq_od (fun q => tq_q g k (0 + q)) true i j v)) (C := RX1) (T := TX1) (N := 8) hx hb hW inX1 hown hK hP 0 rfl rfl 6 (by decide) (hW _ qm_287) (fun _ h9 => h9) rfl qd_M_grew_48 ?_
    refine lv_lload_n hx hb qd_M_grew_51 rfl (lv_at hl 3 rfl) ?_
    refine tq_lc_ne (tgt := 70) hx hb qd_M_grew_52 qd_M_grew_53 (by decide) (fun c1 => ?_) (fun c1 => ?_)
    · refine lv_iconst (v := nI 0) hx hb qd_M_grew_70 (by decide +kernel) ?_
      exact W.zret hx hb hr (by decide +kernel) (fun t ht hW9 => ⟨⟨_, (), rfl, (by rw [decide_eq_false c1, Bool.false_and, Bool.and_false]; rfl), by rw [ht]; exact hP, va_K.moved hW9.alike hK, hD⟩, hS.F ht⟩) hS.2.2 qd_M_grew_71
    · refine lv_aload_n hx hb qd_M_grew_56 rfl (lv_at hl 0 rfl) ?_
      refine va_get (D := (dC, dI)) (ci := 1) (v := .long (tq_nw (fun q => tq_q g k (0 + q)) true i j v)) (C := RX1) (T := TX1) (N := 8) hx hb hW inX1 hown hK hP 0 rfl rfl 7 (by decide) (hW _ qm_288) (fun _ h9 => h9) rfl qd_M_grew_57 ?_
      refine lv_lload hx hb qd_M_grew_60 (lv_at hl 4 rfl) ?_
      refine tq_lc_ne (tgt := 70) hx hb qd_M_grew_62 qd_M_grew_63 (by decide) (fun c2 => ?_) (fun c2 => ?_)
      · refine lv_iconst (v := nI 0) hx hb qd_M_grew_70 (by decide +kernel) ?_
        exact W.zret hx hb hr (by decide +kernel) (fun t ht hW9 => ⟨⟨_, (), rfl, (by rw [decide_eq_false c2, Bool.and_false, Bool.and_false]; rfl), by rw [ht]; exact hP, va_K.moved hW9.alike hK, hD⟩, hS.F ht⟩) hS.2.2 qd_M_grew_71
      · refine lv_iconst (v := nI 1) hx hb qd_M_grew_66 (by decide +kernel) ?_
        refine lv_goto (tgt := 71) hx hb qd_M_grew_67 (by decide) ?_
        exact W.zret hx hb hr (by decide +kernel) (fun t ht hW9 => ⟨⟨_, (), rfl, (by rw [decide_eq_true c1, decide_eq_true c2, decide_eq_true c9]; rfl), by rw [ht]; exact hP, va_K.moved hW9.alike hK, hD⟩, hS.F ht⟩) hS.2.2 qd_M_grew_71
end
