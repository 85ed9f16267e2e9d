section
/-- a private method of a class that the tables say can be made, by its rows of tables_1 -/
def lw_okq (q : MethodName × Nat) : Prop := (q.1.cls ≠ "java/lang/invoke/MethodHandle" ∧ q.1.cls ≠ "java/lang/invoke/VarHandle") ∧ Cond.instantiable q.1.cls q.2 ∈ tables_1 ∧ Cond.privateMethod q.1 ∈ tables_1 ∧ Cond.instanceMethod q.1 ∈ tables_1
theorem lw_p0 : lw_okq (⟨"java/lang/Throwable", "fillInStackTrace", "(I)Ljava/lang/Throwable;"⟩, 6) := ⟨⟨by decide +kernel, by decide +kernel⟩, List.mem_of_getElem? (i := 170) (by decide +kernel), List.mem_of_getElem? (i := 168) (by decide +kernel), List.mem_of_getElem? (i := 169) (by decide +kernel)⟩
theorem lw_p1 : lw_okq (⟨"Whichbox", "settleAll", "()V"⟩, 9) := ⟨⟨by decide +kernel, by decide +kernel⟩, List.mem_of_getElem? (i := 13) (by decide +kernel), List.mem_of_getElem? (i := 287) (by decide +kernel), List.mem_of_getElem? (i := 288) (by decide +kernel)⟩
theorem lw_p2 : lw_okq (⟨"Whichbox", "settle", "(LWhichbox$Box;)V"⟩, 9) := ⟨⟨by decide +kernel, by decide +kernel⟩, List.mem_of_getElem? (i := 13) (by decide +kernel), List.mem_of_getElem? (i := 291) (by decide +kernel), List.mem_of_getElem? (i := 292) (by decide +kernel)⟩
theorem lw_p3 : lw_okq (⟨"Whichbox", "weighScans", "(LWhichbox$Box;)V"⟩, 9) := ⟨⟨by decide +kernel, by decide +kernel⟩, List.mem_of_getElem? (i := 13) (by decide +kernel), List.mem_of_getElem? (i := 295) (by decide +kernel), List.mem_of_getElem? (i := 296) (by decide +kernel)⟩
theorem lw_p4 : lw_okq (⟨"Whichbox", "trustOf", "(I)I"⟩, 9) := ⟨⟨by decide +kernel, by decide +kernel⟩, List.mem_of_getElem? (i := 13) (by decide +kernel), List.mem_of_getElem? (i := 299) (by decide +kernel), List.mem_of_getElem? (i := 300) (by decide +kernel)⟩
theorem lw_p5 : lw_okq (⟨"Whichbox", "boxAt", "(I)LWhichbox$Box;"⟩, 9) := ⟨⟨by decide +kernel, by decide +kernel⟩, List.mem_of_getElem? (i := 13) (by decide +kernel), List.mem_of_getElem? (i := 352) (by decide +kernel), List.mem_of_getElem? (i := 353) (by decide +kernel)⟩
theorem lw_p6 : lw_okq (⟨"Whichbox", "doorAt", "(I)LWhichbox$Door;"⟩, 9) := ⟨⟨by decide +kernel, by decide +kernel⟩, List.mem_of_getElem? (i := 13) (by decide +kernel), List.mem_of_getElem? (i := 357) (by decide +kernel), List.mem_of_getElem? (i := 358) (by decide +kernel)⟩
theorem lw_p7 : lw_okq (⟨"Whichbox", "addScan", "(LWhichbox$Box;II)I"⟩, 9) := ⟨⟨by decide +kernel, by decide +kernel⟩, List.mem_of_getElem? (i := 13) (by decide +kernel), List.mem_of_getElem? (i := 367) (by decide +kernel), List.mem_of_getElem? (i := 368) (by decide +kernel)⟩
theorem lw_p8 : lw_okq (⟨"Whichbox$Box", "scansAheadOf", "(II)I"⟩, 11) := ⟨⟨by decide +kernel, by decide +kernel⟩, List.mem_of_getElem? (i := 215) (by decide +kernel), List.mem_of_getElem? (i := 375) (by decide +kernel), List.mem_of_getElem? (i := 376) (by decide +kernel)⟩
theorem lw_p9 : lw_okq (⟨"Whichbox", "countWrongCode", "(LWhichbox$Door;)V"⟩, 9) := ⟨⟨by decide +kernel, by decide +kernel⟩, List.mem_of_getElem? (i := 13) (by decide +kernel), List.mem_of_getElem? (i := 414) (by decide +kernel), List.mem_of_getElem? (i := 415) (by decide +kernel)⟩
def lw_privs_1 : List (MethodName × Nat) := [(⟨"java/lang/Throwable", "fillInStackTrace", "(I)Ljava/lang/Throwable;"⟩, 6), (⟨"Whichbox", "settleAll", "()V"⟩, 9), (⟨"Whichbox", "settle", "(LWhichbox$Box;)V"⟩, 9), (⟨"Whichbox", "weighScans", "(LWhichbox$Box;)V"⟩, 9), (⟨"Whichbox", "trustOf", "(I)I"⟩, 9), (⟨"Whichbox", "boxAt", "(I)LWhichbox$Box;"⟩, 9), (⟨"Whichbox", "doorAt", "(I)LWhichbox$Door;"⟩, 9), (⟨"Whichbox", "addScan", "(LWhichbox$Box;II)I"⟩, 9), (⟨"Whichbox$Box", "scansAheadOf", "(II)I"⟩, 11), (⟨"Whichbox", "countWrongCode", "(LWhichbox$Door;)V"⟩, 9)]
theorem lw_r1 : ∀ q ∈ lw_privs_1, lw_okq q := List.forall_mem_cons.mpr ⟨lw_p0, List.forall_mem_cons.mpr ⟨lw_p1, List.forall_mem_cons.mpr ⟨lw_p2, List.forall_mem_cons.mpr ⟨lw_p3, List.forall_mem_cons.mpr ⟨lw_p4, List.forall_mem_cons.mpr ⟨lw_p5, List.forall_mem_cons.mpr ⟨lw_p6, List.forall_mem_cons.mpr ⟨lw_p7, List.forall_mem_cons.mpr ⟨lw_p8, List.forall_mem_cons.mpr ⟨lw_p9, fun _ h => absurd h List.not_mem_nil⟩⟩⟩⟩⟩⟩⟩⟩⟩⟩
def lw_privs : List (MethodName × Nat) := lw_privs_1
def lw_tbl : List Cond := k2_sels lw_privs ++ tables_1
theorem lw_privs_ok : ∀ q ∈ lw_privs, lw_okq q := lw_r1
end
section
/-! ===== BEGIN words of one list among another's, by their places ===== -/
theorem goodIn_r {big : List Cond} (ws : List Cond) (ps : List Nat) (hp : ws = ps.filterMap (fun i => big[i]?)) (h : ws.all goodWord = true) : GoodIn big ws := by
  intro w hw
  have h1 := List.all_eq_true.mp h w hw
  rw [hp] at hw
  obtain ⟨i, -, hi⟩ := List.mem_filterMap.mp hw
  have hm : w ∈ big := by first | exact List.mem_of_getElem? hi | exact List.getElem?_mem hi
  exact ⟨hm, good_of_word h1⟩
theorem goodIn_app {big a b : List Cond} (ha : GoodIn big a) (hb : GoodIn big b) : GoodIn big (a ++ b) := fun w h => (List.mem_append.mp h).elim (ha w) (hb w)
theorem goodIn_ca {big a b : List Cond} {c : Cond} (ha : GoodIn big (c :: a)) (hb : GoodIn big b) : GoodIn big (c :: (a ++ b)) := fun w h => (List.mem_cons.mp h).elim (fun e => ha w (List.mem_cons.mpr (Or.inl e))) (fun h => (List.mem_append.mp h).elim (fun h => ha w (List.mem_cons.mpr (Or.inr h))) (hb w))
theorem goodIn_sub {big ws : List Cond} (hm : ∀ w ∈ ws, w ∈ big) (h : ws.all goodWord = true) : GoodIn big ws := fun w hw => ⟨hm w hw, good_of_word (List.all_eq_true.mp h w hw)⟩
/-! ===== END ===== -/

/-! ===== BEGIN exceptions that leave a method, and their catching by the caller (launches without stack traces) ===== -/
section VXA
/-! The laws vx_back, vx_callV, vx_callS, vx_callSW, vx_throw0, vx_throwS follow proofs of the library, with one case more: JvmDerived/Free/Laws.lean (Back.of_free), Shelf42/LK1.lean (callV, callS), Shelf/KitTraced.lean (throwNew0V, throwNewS). -/
/-- where a method has thrown q: the class by its name, the cell, what was written, the world -/
def vx_T (XC : String → State → State → Prop) (st : State) (q : Addr) (t : State) (mc ms : Nat) (free : Addr → Prop) : Prop :=
  ∃ (E : String) (ce : Cell) (L : List Loc), XC E st t ∧ t.heap[q]? = some ce ∧ ce.vm = .none ∧ st.vm.findClass E = some ce.cls ∧ st.WarmedH t.vm ∧ st.sameButNew ({ t with vm := st.vm } : State) L mc ms ∧ ∀ z ∈ L, free z.base
def vx_Q (Qc : Array Value → State → Outcome → State → Prop) (XC : String → State → State → Prop) (mc ms : Nat) (free : Addr → Prop) : Array Value → State → Outcome → State → Prop := fun a st o t =>
  (Qc a st o t ∧ ∃ L, FrameEnd st o t L mc ms ∧ ∀ q ∈ L, free q.base) ∨ ∃ q, o = .threw q ∧ vx_T XC st q t mc ms free
/-- a callee that returns or throws -/
def vx_Met (l : Launch) (y : MethodName) (ws : List Cond) (rm : Room) (Pc : Array Value → State → Prop) (Qc : Array Value → State → Outcome → State → Prop) (XC : String → State → State → Prop) (mc ms : Nat) (free : Addr → Prop) : Prop :=
  MetFree l y (headSpec ws rm) Pc (fun _ _ _ _ _ => True) (vx_Q Qc XC mc ms free)
def vx_Post (XC : String → State → State → Prop) (mc ms : Nat) (free : Addr → Prop) : Pt → Array Value → Addr → Pt → Prop := fun A a q B =>
  ∃ (g : JFrame) (mk : MethodId) (t : State) (L : List Loc) (E : String) (ce : Cell), B.U.heap = t.heap ∧ B.U.vm = t.vm ∧ XC E (A.U.calling g mk a) t ∧ t.heap[q]? = some ce ∧ ce.vm = .none ∧ A.U.vm.findClass E = some ce.cls ∧ B.locs = A.locs ++ L ∧ (∀ z ∈ L, free z.base) ∧ B.cells = A.cells + mc ∧ B.slots = A.slots + ms
def vx_Back (l : Launch) (R : Room) (p : Program) (e : Env) (below : List Frame) (s : State) (sargs : Array Value) (y : MethodName) (len W9 : Nat)
    (Pre : Pt → Array Value → Prop) (Post : Pt → Array Value → Option Value → Pt → Prop) (PostX : Pt → Array Value → Addr → Pt → Prop) : Prop :=
  ∀ (m : MethodId) (meth : Method) (c : Code) (A : Pt) (g : JFrame) (ig : Instr) (mk : MethodId) (a : Array Value),
    Stand p l e R s m sargs below meth c A.U A.locs A.cells A.slots → g.method = m → g.locals.size = c.maxLocals → decode c.code g.pc = .ok (ig, len) →
    2 * g.monitorRoom + (g.stack.map fun v => v.category).sum ≤ W9 → A.U.methodNamed? y = some mk → Pre A a →
    (∃ (v : Option Value) (B : Pt), Stand p l e R s m sargs below meth c B.U B.locs B.cells B.slots ∧ Post A a v B ∧
      Steps p.tables e below (doInvoke e (A.U.setTop g) [] mk a).1 (B.U.setTop { g with pc := g.pc + len, stack := v.toList ++ g.stack })) ∨
    (∃ (q : Addr) (B : Pt), Stand p l e R s m sargs below meth c B.U B.locs B.cells B.slots ∧ PostX A a q B ∧
      Steps p.tables e below (doInvoke e (A.U.setTop g) [] mk a).1 ((B.U.setTop g).pushFrame (.throwing q)))
section Payer
variable {l : Launch} {R : Room} {p : Program} {e : Env} {below : List Frame} {s : State} {sargs : Array Value} {y : MethodName} {len W9 : Nat}
theorem vx_back {ws : List Cond} {rm : Room} {Pc : Array Value → State → Prop} {Qc : Array Value → State → Outcome → State → Prop} {XC : String → State → State → Prop} {mc ms : Nat} {free : Addr → Prop} {bytes : ByteArray} {maxL : Nat} {ret : Option FieldType}
    (hM : vx_Met l y ws rm Pc Qc XC mc ms free) (hblind : FrameBlind Pc) (hrc : rm.cells = mc) (hrs : rm.slots = ms)
    (hframes : rm.frames + 1 ≤ R.frames) (hlocals : W9 + (maxL + 11) + rm.locals ≤ R.locals)
    (hws : ∀ w ∈ ws, ∀ a' U, s.WarmedH U.vm → w.before a' U = true) (hcode : Cond.code y bytes maxL ret ∈ ws) (hinit : ∀ a' U, s.WarmedH U.vm → (Cond.initialized y.cls).before a' U = true) :
    vx_Back l R p e below s sargs y len W9 (PreOf R mc ms Pc) (PostOf Qc mc ms free) (vx_Post XC mc ms free) := by
  intro m meth c A g ig mk a X hg hsize hdg hW hn hp
  have h1 : (headSpec ws rm).pre.before a A.U = true := atoms_intro fun w hw => hws w hw _ _ X.warmed
  have h2 : (Cond.code y bytes maxL ret).before a A.U = true := hws _ hcode _ _ X.warmed
  have h3 : (Cond.initialized y.cls).before a A.U = true := hinit _ _ X.warmed
  have h4 : A.cells + (headSpec ws rm).room.cells ≤ R.cells := by rw [show (headSpec ws rm).room.cells = mc from hrc]; exact hp.1
  have h5 : A.slots + (headSpec ws rm).room.slots ≤ R.slots := by rw [show (headSpec ws rm).room.slots = ms from hrs]; exact hp.2.1
  have hPc : Pc a (A.U.calling g mk a) := hblind _ _ _ _ hp.2.2
  obtain ⟨U, Ls, c0, s0⟩ := A
  dsimp only [Pt.U, Pt.locs, Pt.cells, Pt.slots] at h1 h2 h3 h4 h5 X hn hPc ⊢
  obtain ⟨methY, cY, hmY, hcY, -, hlY, -, -, -, -⟩ := Cond.code_spec hn h2
  obtain ⟨kY, hkY, -⟩ := className_of_methodNamed hn
  have hinitY : kY.init = .initialized := Cond.initialized_spec (findClass_of_methodNamed hn) hkY h3
  have h : At U g.method c below := by rw [hg]; exact X.here
  have hlocals9 : W9 + (maxL + 11) + (headSpec ws rm).room.locals ≤ R.locals := hlocals
  have happ : (headSpec ws rm).appliesLoose y e.platform (U.calling g mk a) = true :=
    Spec.appliesLoose_calling (g := g) h hdg hn hkY hinitY
      (X.room_calling (g := g) (R' := (headSpec ws rm).room) hsize hmY hcY hframes (by rw [hlY]; omega) h4 h5) h1
  obtain ⟨mid, hmid⟩ := h.above
  have hfr : (U.setTop g).frames = (.java g :: mid) ++ below := by rw [State.frames_setTop' g h.top, hmid]; rfl
  obtain ⟨o, s₂, hsteps, -, hend, hq⟩ := Steps.callFree hM p X.admits X.cas X.clock (acts := []) hfr happ hPc trivial
  have hq' : vx_Q Qc XC mc ms free a (U.calling g mk a) o s₂ := hq
  rw [State.frames_setTop' g h.top] at hend
  obtain ⟨g₀, hg0⟩ := Option.isSome_iff_exists.mp h.top
  obtain ⟨r, hr⟩ := State.topJava?_eq_some.mp hg0
  have hr' : (({ U with heap := s₂.heap, slotsUsed := s₂.slotsUsed } : State).setVm s₂.vm).frames = .java g₀ :: r := hr
  rcases hq' with ⟨hqc, L, hfe, hL⟩ | ⟨q, rfl, E, ce, L, hx, hce, hcv, hcl, hW₂, hsm, hL⟩
  · obtain ⟨⟨v, rfl⟩, hW₂, e2, q2, q3, q4, q5, q6⟩ := id hfe
    have e3 : s₂ = ({ (U.calling g mk a).setFrames s₂.frames with heap := s₂.heap, slotsUsed := s₂.slotsUsed } : State).setVm s₂.vm := by
      have : s₂ = ({ s₂ with vm := (U.calling g mk a).vm } : State).setVm s₂.vm := rfl
      rw [e2] at this
      exact this
    obtain ⟨c₂, i₂, len₂, hc₂, hd₂, hf₂⟩ := hend
    have hW' : U.WarmedH s₂.vm := hW₂
    have hcc : c₂ = c := by
      have h1 : s₂.code? g.method = U.code? g.method := by
        rw [State.code?_eq, State.code?_eq, hW'.alike.method?]
      exact Option.some.inj (hc₂.symm.trans (h1.trans h.code))
    subst hcc
    have hlen : len₂ = len := by rw [hdg] at hd₂; cases hd₂; rfl
    subst hlen
    have hs₂ : s₂ = (({ U with heap := s₂.heap, slotsUsed := s₂.slotsUsed } : State).setVm s₂.vm).setTop { g with pc := g.pc + len₂, stack := v.toList ++ g.stack } := by
      refine e3.trans ?_
      rw [hf₂, State.calling_eq h.top, State.setFrames_setFrames, State.setTop_of_frames _ hr', hr]
      rfl
    have hsame : U.sameButNew ({ U with heap := s₂.heap, slotsUsed := s₂.slotsUsed } : State) L mc ms := by
      refine ⟨?_, q2, q3, q4, q5, q6⟩
      obtain ⟨t, ht, -⟩ := State.frames_cons hr
      show ({ U with heap := s₂.heap, slotsUsed := s₂.slotsUsed } : State) = { U.setFrames U.frames with heap := s₂.heap, slotsUsed := s₂.slotsUsed }
      rw [State.setFrames_self ht]
    subst hg
    refine Or.inl ⟨v, ⟨(({ U with heap := s₂.heap, slotsUsed := s₂.slotsUsed } : State).setVm s₂.vm), Ls ++ L, c0 + mc, s0 + ms⟩,
      ⟨X.admits, X.cas, X.clock, X.frames, X.room, X.hears, X.method, X.code, (X.here.setHeapUsed s₂.heap s₂.slotsUsed).setVm hW'.alike, X.tail, State.WarmedH.trans X.warmed hW', X.limits, X.bytes, X.same.trans (hsame.setVm s.vm)⟩,
      ⟨g, mk, s₂, L, rfl, rfl, hqc, rfl, hL, rfl, rfl⟩, ?_⟩
    show Steps p.tables e below _ ((({ U with heap := s₂.heap, slotsUsed := s₂.slotsUsed } : State).setVm s₂.vm).setTop { g with pc := g.pc + len₂, stack := v.toList ++ g.stack })
    rw [← hs₂]
    exact hsteps
  · obtain ⟨e2, q2, q3, q4, q5, q6⟩ := id hsm
    have e3 : s₂ = ({ (U.calling g mk a).setFrames s₂.frames with heap := s₂.heap, slotsUsed := s₂.slotsUsed } : State).setVm s₂.vm := by
      have : s₂ = ({ s₂ with vm := (U.calling g mk a).vm } : State).setVm s₂.vm := rfl
      rw [e2] at this
      exact this
    have hf₂ : s₂.frames = .throwing q :: .java g :: U.frames.tail := hend
    have hW' : U.WarmedH s₂.vm := hW₂
    have hs₂ : s₂ = ((({ U with heap := s₂.heap, slotsUsed := s₂.slotsUsed } : State).setVm s₂.vm).setTop g).pushFrame (.throwing q) := by
      refine e3.trans ?_
      rw [hf₂, State.calling_eq h.top, State.setFrames_setFrames, State.pushFrame, State.frames_setTop _ hr', State.setTop_of_frames _ hr', State.setFrames_setFrames, hr]
      rfl
    have hsame : U.sameButNew ({ U with heap := s₂.heap, slotsUsed := s₂.slotsUsed } : State) L mc ms := by
      refine ⟨?_, q2, q3, q4, q5, q6⟩
      obtain ⟨t, ht, -⟩ := State.frames_cons hr
      show ({ U with heap := s₂.heap, slotsUsed := s₂.slotsUsed } : State) = { U.setFrames U.frames with heap := s₂.heap, slotsUsed := s₂.slotsUsed }
      rw [State.setFrames_self ht]
    subst hg
    refine Or.inr ⟨q, ⟨(({ U with heap := s₂.heap, slotsUsed := s₂.slotsUsed } : State).setVm s₂.vm), Ls ++ L, c0 + mc, s0 + ms⟩,
      ⟨X.admits, X.cas, X.clock, X.frames, X.room, X.hears, X.method, X.code, (X.here.setHeapUsed s₂.heap s₂.slotsUsed).setVm hW'.alike, X.tail, State.WarmedH.trans X.warmed hW', X.limits, X.bytes, X.same.trans (hsame.setVm s.vm)⟩,
      ⟨g, mk, s₂, L, E, ce, rfl, rfl, hx, hce, hcv, hcl, rfl, hL, rfl, rfl⟩, ?_⟩
    show Steps p.tables e below _ (((({ U with heap := s₂.heap, slotsUsed := s₂.slotsUsed } : State).setVm s₂.vm).setTop g).pushFrame (.throwing q))
    rw [← hs₂]
    exact hsteps
end Payer
section Calls
variable {p : Program} {l : Launch} {e : Env} {R : Room} {s : State} {m : MethodId} {args : Array Value} {below : List Frame} {meth : Method} {c : Code} {T : State} {locs : List Loc} {cells slots : Nat}
theorem vx_callV (X : Stand p l e R s m args below meth c T locs cells slots) (hexec : p.tables.exec = Jvm.exec) {own C : String} {index : Nat} {y : MethodName} {bytes : ByteArray} {maxL : Nat} {ret : Option FieldType}
    (hown : s.vm.findClass own = some m.cls) (hlink : (Cond.methodLink own index y).before args s = true) (hinst : (Cond.instanceMethod y).before args s = true) (hsel : (Cond.selects C y y).before args s = true)
    (hcode : (Cond.code y bytes maxL ret).before args s = true) (hy : y.cls ≠ "java/lang/invoke/MethodHandle" ∧ y.cls ≠ "java/lang/invoke/VarHandle")
    {W9 : Nat} {Pre : Pt → Array Value → Prop} {Post : Pt → Array Value → Option Value → Pt → Prop} {PostX : Pt → Array Value → Addr → Pt → Prop} (hK : vx_Back l R p e below s args y 3 W9 Pre Post PostX)
    {b : Addr} {cellB : Cell} (hcell : T.heap[b]? = some cellB) (hobj : cellB.vm.isStatics = false) (hcls : s.vm.findClass C = some cellB.cls)
    {g : JFrame} (hg : g.method = m) (hsize : g.locals.size = c.maxLocals) {argsL rest : List Value} (hlen : ∀ sig, parseMethodDescriptor y.desc = some sig → argsL.length = sig.parameters.length)
    (hstack : g.stack = argsL.reverse ++ .ref b :: rest) (hW : 2 * g.monitorRoom + (rest.map fun v => v.category).sum ≤ W9) (hdg : decode c.code g.pc = .ok (.invokevirtual index, 3))
    (hpre : ∀ vm₁, s.WarmedH vm₁ → Pre ⟨T.setVm vm₁, locs, cells, slots⟩ (Value.ref b :: argsL).toArray) :
    (∃ (v : Option Value) (vm₁ : Vm) (B : Pt), s.WarmedH vm₁ ∧ Stand p l e R s m args below meth c B.U B.locs B.cells B.slots ∧ Post ⟨T.setVm vm₁, locs, cells, slots⟩ (Value.ref b :: argsL).toArray v B ∧
      ∀ target, Steps p.tables e below (B.U.setTop { g with pc := g.pc + 3, stack := v.toList ++ rest }) target → Steps p.tables e below (T.setTop g) target) ∨
    (∃ (q : Addr) (vm₁ : Vm) (B : Pt), s.WarmedH vm₁ ∧ Stand p l e R s m args below meth c B.U B.locs B.cells B.slots ∧ PostX ⟨T.setVm vm₁, locs, cells, slots⟩ (Value.ref b :: argsL).toArray q B ∧
      Steps p.tables e below (T.setTop g) ((B.U.setTop { g with stack := rest }).pushFrame (.throwing q))) := by
  obtain ⟨mk, methM, hnamed, hmethM, hstM, habM⟩ := Cond.instanceMethod_spec hinst
  obtain ⟨methM', cM, hmethM', -, -, -, -, -, -, hsigM⟩ := Cond.code_spec hnamed hcode
  cases hmethM.symm.trans hmethM'
  obtain ⟨c2, r2, m2, q1, q2, q3, q4, kP, hkP, hkPi⟩ := Cond.selects_spec hsel
  cases hcls.symm.trans q1
  cases (State.methodFound?_of_named hnamed hy).symm.trans q2
  cases hnamed.symm.trans q3
  have hselP : selectMethod e.platform s.vm cellB.cls mk = .method mk := by rw [Launch.admits_selectMethod X.admits]; exact q4
  obtain ⟨vm₁, X₁, hstep₁⟩ := X.invokevirtual hexec hown hlink hnamed hmethM hstM hkP hkPi hy (a := b) (cell := cellB) hcell
    (fun z h => by rw [h] at hobj; cases hobj) hselP hmethM habM hkP hkPi (g := g) hg (argsL := argsL) (rest := rest) (hlen _ hsigM) hstack hdg
  rcases hK m meth c ⟨T.setVm vm₁, locs, cells, slots⟩ { g with stack := rest } (.invokevirtual index) mk (Value.ref b :: argsL).toArray X₁ hg hsize hdg hW (X₁.named hnamed) (hpre vm₁ X₁.warmed) with ⟨v, B, X', hpost, hsteps⟩ | ⟨q, B, X', hpost, hsteps⟩
  · exact Or.inl ⟨v, vm₁, B, X₁.warmed, X', hpost, fun target h => hstep₁ _ fun acts => by rw [doInvoke_state]; exact hsteps.trans h⟩
  · exact Or.inr ⟨q, vm₁, B, X₁.warmed, X', hpost, hstep₁ _ fun acts => by rw [doInvoke_state]; exact hsteps⟩
theorem vx_callS (X : Stand p l e R s m args below meth c T locs cells slots) (hexec : p.tables.exec = Jvm.exec) {own : String} {index : Nat} {y : MethodName} {bytes : ByteArray} {maxL : Nat} {ret : Option FieldType}
    (hown : s.vm.findClass own = some m.cls) (hlink : (Cond.methodLink own index y).before args s = true) (hstat : (Cond.static y).before args s = true) (hinit : (Cond.initialized y.cls).before args s = true)
    (hcode : (Cond.code y bytes maxL ret).before args s = true) (hy : y.cls ≠ "java/lang/invoke/MethodHandle" ∧ y.cls ≠ "java/lang/invoke/VarHandle")
    {W9 : Nat} {Pre : Pt → Array Value → Prop} {Post : Pt → Array Value → Option Value → Pt → Prop} {PostX : Pt → Array Value → Addr → Pt → Prop} (hK : vx_Back l R p e below s args y 3 W9 Pre Post PostX)
    {g : JFrame} (hg : g.method = m) (hsize : g.locals.size = c.maxLocals) {argsL rest : List Value} (hlen : ∀ sig, parseMethodDescriptor y.desc = some sig → argsL.length = sig.parameters.length)
    (hstack : g.stack = argsL.reverse ++ rest) (hW : 2 * g.monitorRoom + (rest.map fun v => v.category).sum ≤ W9) (hdg : decode c.code g.pc = .ok (.invokestatic index, 3))
    (hpre : ∀ vm₁, s.WarmedH vm₁ → Pre ⟨T.setVm vm₁, locs, cells, slots⟩ argsL.toArray) :
    (∃ (v : Option Value) (vm₁ : Vm) (B : Pt), s.WarmedH vm₁ ∧ Stand p l e R s m args below meth c B.U B.locs B.cells B.slots ∧ Post ⟨T.setVm vm₁, locs, cells, slots⟩ argsL.toArray v B ∧
      ∀ target, Steps p.tables e below (B.U.setTop { g with pc := g.pc + 3, stack := v.toList ++ rest }) target → Steps p.tables e below (T.setTop g) target) ∨
    (∃ (q : Addr) (vm₁ : Vm) (B : Pt), s.WarmedH vm₁ ∧ Stand p l e R s m args below meth c B.U B.locs B.cells B.slots ∧ PostX ⟨T.setVm vm₁, locs, cells, slots⟩ argsL.toArray q B ∧
      Steps p.tables e below (T.setTop g) ((B.U.setTop { g with stack := rest }).pushFrame (.throwing q))) := by
  obtain ⟨mk, hnamed⟩ := Cond.code_named hcode
  obtain ⟨methM, cM, hmethM, -, -, -, -, -, -, hsigM⟩ := Cond.code_spec hnamed hcode
  have hstatic : methM.isStatic = true := Cond.static_spec hnamed hmethM hstat
  obtain ⟨kP, hkP, -⟩ := className_of_methodNamed hnamed
  have hinitP : kP.init = .initialized := Cond.initialized_spec (findClass_of_methodNamed hnamed) hkP hinit
  obtain ⟨vm₁, X₁, hstep₁⟩ := X.invokestatic hexec hown hlink hnamed hmethM hstatic hkP hinitP hy (g := g) hg (argsL := argsL) (rest := rest) (hlen _ hsigM) hstack hdg
  rcases hK m meth c ⟨T.setVm vm₁, locs, cells, slots⟩ { g with stack := rest } (.invokestatic index) mk argsL.toArray X₁ hg hsize hdg hW (X₁.named hnamed) (hpre vm₁ X₁.warmed) with ⟨v, B, X', hpost, hsteps⟩ | ⟨q, B, X', hpost, hsteps⟩
  · exact Or.inl ⟨v, vm₁, B, X₁.warmed, X', hpost, fun target h => hstep₁ _ fun acts => by rw [doInvoke_state]; exact hsteps.trans h⟩
  · exact Or.inr ⟨q, vm₁, B, X₁.warmed, X', hpost, hstep₁ _ fun acts => by rw [doInvoke_state]; exact hsteps⟩
end Calls
theorem vx_cls {s : State} {T : State} {vm₁ : Vm} {E : String} {k : ClassId} (hW : s.WarmedH vm₁) (h : (T.setVm vm₁).vm.findClass E = some k) : s.vm.findClass E = some k := by
  have h1 : vm₁.findClass E = some k := h
  rw [hW.alike.findClass] at h1
  exact h1
/-- the method's frame g, with q thrown over it -/
def vx_W (p : Program) (l : Launch) (e : Env) (R : Room) (s : State) (m : MethodId) (args : Array Value) (below : List Frame) (meth : Method) (c : Code) (H : Heap) (locs : List Loc) (cells slots : Nat) (Q : State → Prop) (g : JFrame) (q : Addr) : Prop :=
  ∀ T : State, T.heap = H → Stand p l e R s m args below meth c T locs cells slots → ∃ t, Steps p.tables e below ((T.setTop g).pushFrame (.throwing q)) t ∧ Q t
def vx_Run (p : Program) (l : Launch) (e : Env) (R : Room) (s : State) (m : MethodId) (args : Array Value) (below : List Frame) (meth : Method) (c : Code) (H : Heap) (locs : List Loc) (cells slots mc ms : Nat) (g : JFrame) (rest : List Value) (Qa : State → Outcome → State → Prop) (XC : String → State → State → Prop) (free : Addr → Prop) : Prop :=
  ∀ T : State, T.heap = H → Stand p l e R s m args below meth c T locs cells slots →
    (∃ (v : Option Value) (st₀ t T' : State) (L : List Loc), st₀.heap = H ∧ Stand p l e R s m args below meth c T' (locs ++ L) (cells + mc) (slots + ms) ∧ (∀ q ∈ L, free q.base) ∧ T'.heap = t.heap ∧ T'.vm = t.vm ∧ Qa st₀ (.returned v) t ∧
      Goes p e below T g T' { g with pc := g.pc + 3, stack := v.toList ++ rest }) ∨
    (∃ (q : Addr) (st₀ t T' : State) (L : List Loc) (E : String) (ce : Cell), st₀.heap = H ∧ Stand p l e R s m args below meth c T' (locs ++ L) (cells + mc) (slots + ms) ∧ (∀ z ∈ L, free z.base) ∧ T'.heap = t.heap ∧ T'.vm = t.vm ∧ XC E st₀ t ∧ t.heap[q]? = some ce ∧ ce.vm = .none ∧ s.vm.findClass E = some ce.cls ∧
      Steps p.tables e below (T.setTop g) ((T'.setTop { g with stack := rest }).pushFrame (.throwing q)))
def vx_X {S : Type} (px : S → Prop) (B : String → S → State → Prop) (A : Nat → Prop) : String → State → State → Prop := fun E st t => ∃ u : S, px u ∧ B E u t ∧ va_F A st t
section Runs
variable {p : Program} {l : Launch} {e : Env} {R : Room} {s : State} {m : MethodId} {args : Array Value} {below : List Frame} {meth : Method} {c : Code} {H : Heap} {locs : List Loc} {cells slots : Nat}
variable {y : MethodName} {bytes cc : ByteArray} {maxL nL mc ms n index : Nat} {ret : Option FieldType} {ws : List Cond} {rm : Room} {Pc : Array Value → State → Prop} {Qc : Array Value → State → Outcome → State → Prop} {XC : String → State → State → Prop} {free : Addr → Prop} {Ts : List Cond} {own C : String} {b : Addr} {As rest : List Value} {g : JFrame}
theorem vx_callBack (cb : CallB R s args own index y bytes maxL ret ws rm mc ms n) (hM : vx_Met l y ws rm Pc Qc XC mc ms free) (hbl : FrameBlind Pc) : vx_Back l R p e below s args y 3 8 (PreOf R mc ms Pc) (PostOf Qc mc ms free) (vx_Post XC mc ms free) := by
  obtain ⟨hrc, hrs, hfr, hlo, hws, hcw, -, hini, -⟩ := cb
  exact vx_back (bytes := bytes) (maxL := maxL) (ret := ret) hM hbl hrc hrs hfr hlo hws hcw (fun a' U hW => word_at hW (Or.inl (by first | rfl | simp [Cond.onTables, Cond.keeps, Cond.steady])) hini)
theorem vx_runV (S : CallFix p m c cc nL s args Ts own) (hM : vx_Met l y ws rm Pc Qc XC mc ms free) (cw : CallW R s args own C index y bytes maxL ret ws rm mc ms n) (hp : PreV s H C b Pc As)
    (hg : g.method = m) (hn : As.length = n) (hsize : g.locals.size = nL) (hstack : g.stack = As.reverse ++ .ref b :: rest) (hW : 2 * g.monitorRoom + (rest.map fun v => v.category).sum ≤ 8) (hdg : decode cc g.pc = .ok (.invokevirtual index, 3)) (hf : cells + mc ≤ R.cells ∧ slots + ms ≤ R.slots) :
    vx_Run p l e R s m args below meth c H locs cells slots mc ms g rest (Qc (Value.ref b :: As).toArray) XC free := by
  have hK : vx_Back l R p e below s args y 3 8 (PreOf R mc ms Pc) (PostOf Qc mc ms free) (vx_Post XC mc ms free) := vx_callBack cw.1 hM hp.1
  obtain ⟨⟨-, -, -, -, -, -, hcode, -, hy, hlen, hl⟩, hin, hse⟩ := cw
  obtain ⟨hx, hb, hml, ho, -⟩ := S
  obtain ⟨-, ⟨cellB, hcB, hoB, hclB⟩, hPc⟩ := hp
  intro T hT X
  rcases vx_callV X hx (C := C) (bytes := bytes) (maxL := maxL) (ret := ret) ho hl hin hse hcode hy hK (by rw [hT]; exact hcB) hoB hclB hg (hsize.trans hml.symm) (argsL := As) (rest := rest) (fun sig h => hn.trans (hlen sig h)) hstack hW (by rw [hb]; exact hdg)
    (fun vm₁ hW₁ => ⟨hf.1, hf.2, hPc (T.setVm vm₁) hT hW₁⟩) with ⟨v, vm₁, ⟨U', l2, c2, s2⟩, hW₁, X', ⟨g', mk, t, L, e1, e2, hq, h1, hL, h2, h3⟩, st⟩ | ⟨q, vm₁, ⟨U', l2, c2, s2⟩, hW₁, X', ⟨g', mk, t, L, E, ce, e1, e2, hq, hce, hcv, hcl, h1, hL, h2, h3⟩, st⟩
  · dsimp only [Pt.U, Pt.locs, Pt.cells, Pt.slots] at X' e1 e2 h1 h2 h3 st
    subst h1; subst h2; subst h3
    exact Or.inl ⟨v, (T.setVm vm₁).calling g' mk (Value.ref b :: As).toArray, t, U', L, hT, X', hL, e1, e2, hq, st⟩
  · dsimp only [Pt.U, Pt.locs, Pt.cells, Pt.slots] at X' e1 e2 h1 h2 h3 st hcl
    subst h1; subst h2; subst h3
    exact Or.inr ⟨q, (T.setVm vm₁).calling g' mk (Value.ref b :: As).toArray, t, U', L, E, ce, hT, X', hL, e1, e2, hq, hce, hcv, vx_cls hW₁ hcl, st⟩
theorem vx_runS (S : CallFix p m c cc nL s args Ts own) (hM : vx_Met l y ws rm Pc Qc XC mc ms free) (cw : CallB R s args own index y bytes maxL ret ws rm mc ms n ∧ (Cond.static y).before args s = true) (hp : PreS s H Pc As)
    (hg : g.method = m) (hn : As.length = n) (hsize : g.locals.size = nL) (hstack : g.stack = As.reverse ++ rest) (hW : 2 * g.monitorRoom + (rest.map fun v => v.category).sum ≤ 8) (hdg : decode cc g.pc = .ok (.invokestatic index, 3)) (hf : cells + mc ≤ R.cells ∧ slots + ms ≤ R.slots) :
    vx_Run p l e R s m args below meth c H locs cells slots mc ms g rest (Qc As.toArray) XC free := by
  have hK : vx_Back l R p e below s args y 3 8 (PreOf R mc ms Pc) (PostOf Qc mc ms free) (vx_Post XC mc ms free) := vx_callBack cw.1 hM hp.1
  obtain ⟨⟨-, -, -, -, -, -, hcode, hini, hy, hlen, hl⟩, hstt⟩ := cw
  obtain ⟨hx, hb, hml, ho, -⟩ := S
  intro T hT X
  rcases vx_callS X hx (bytes := bytes) (maxL := maxL) (ret := ret) ho hl hstt hini hcode hy hK hg (hsize.trans hml.symm) (argsL := As) (rest := rest) (fun sig h => hn.trans (hlen sig h)) hstack hW (by rw [hb]; exact hdg)
    (fun vm₁ hW₁ => ⟨hf.1, hf.2, hp.2 (T.setVm vm₁) hT hW₁⟩) with ⟨v, vm₁, ⟨U', l2, c2, s2⟩, hW₁, X', ⟨g', mk, t, L, e1, e2, hq, h1, hL, h2, h3⟩, st⟩ | ⟨q, vm₁, ⟨U', l2, c2, s2⟩, hW₁, X', ⟨g', mk, t, L, E, ce, e1, e2, hq, hce, hcv, hcl, h1, hL, h2, h3⟩, st⟩
  · dsimp only [Pt.U, Pt.locs, Pt.cells, Pt.slots] at X' e1 e2 h1 h2 h3 st
    subst h1; subst h2; subst h3
    exact Or.inl ⟨v, (T.setVm vm₁).calling g' mk As.toArray, t, U', L, hT, X', hL, e1, e2, hq, st⟩
  · dsimp only [Pt.U, Pt.locs, Pt.cells, Pt.slots] at X' e1 e2 h1 h2 h3 st hcl
    subst h1; subst h2; subst h3
    exact Or.inr ⟨q, (T.setVm vm₁).calling g' mk As.toArray, t, U', L, E, ce, hT, X', hL, e1, e2, hq, hce, hcv, vx_cls hW₁ hcl, st⟩
end Runs
section Rows
variable {p : Program} {l : Launch} {e : Env} {R : Room} {s : State} {m : MethodId} {args : Array Value} {below : List Frame} {meth : Method} {c : Code} {H : Heap} {locs : List Loc} {cells slots : Nat} {Q : State → Prop}
variable {mc ms : Nat} {free : Addr → Prop} {A0 A1 : Nat → Prop} {H0 : Heap} {a : Array Value} {pc : Nat} {ls : Array Slot} {st0 rest : List Value}
theorem vx_keep {st₀ t T' : State} {L : List Loc} (h0 : st₀.heap = H) (e1 : T'.heap = t.heap) (hS : va_S A0 H0 H locs) (hA : ∀ q, q < H.size → A1 q → A0 q) (hf : ∀ q, free q → A0 q) (hL : ∀ q ∈ L, free q.base) (hF : va_F A1 st₀ t) :
    H.size ≤ T'.heap.size ∧ (∀ q : Nat, q < H.size → ¬ A1 q → T'.heap[q]? = H[q]?) ∧ va_S A0 H0 T'.heap (locs ++ L) := by
  obtain ⟨hz, hk⟩ := hF
  rw [h0] at hz hk
  exact ⟨by rw [e1]; exact hz, fun q h1 h2 => by rw [e1]; exact hk q h1 h2,
    ⟨Nat.le_trans hS.1 (by rw [e1]; exact hz), fun q h1 h2 => by rw [e1, hk q (Nat.lt_of_lt_of_le h1 hS.1) (fun z => h2 (hA q (Nat.lt_of_lt_of_le h1 hS.1) z))]; exact hS.2.1 q h1 h2, fun q hq => by
      rcases List.mem_append.mp hq with h | h
      · exact hS.2.2 q h
      · exact hf _ (hL q h)⟩⟩
theorem vx_calli {S SX : Type} {post : Int32 → S → Prop} {px : SX → Prop} {B : S → State → Prop} {BX : String → SX → State → Prop} {AX : Nat → Prop} (hr : vx_Run p l e R s m args below meth c H locs cells slots mc ms (F0 m pc ls st0) rest (va_Qi post B A1 a) (vx_X px BX AX) free) (hS : va_S A0 H0 H locs) (hA : ∀ q, q < H.size → A1 q → A0 q) (hf : ∀ q, free q → A0 q) (hAX : ∀ q, q < H.size → AX q → A0 q)
    (kx : ∀ (E : String) (ce : Cell) (q9 : Addr) (u : SX) (t : State) (H1 : Heap) (locs1 : List Loc), t.heap = H1 → s.vm.Alike t.vm → px u → BX E u t → H.size ≤ H1.size → (∀ q : Nat, q < H.size → ¬ AX q → H1[q]? = H[q]?) → va_S A0 H0 H1 locs1 → H1[q9]? = some ce → ce.vm = .none → s.vm.findClass E = some ce.cls → vx_W p l e R s m args below meth c H1 locs1 (cells + mc) (slots + ms) Q (F0 m pc ls rest) q9)
    (kk : ∀ (r : Int32) (u : S) (t : State) (H1 : Heap) (locs1 : List Loc), t.heap = H1 → s.vm.Alike t.vm → post r u → B u t → H.size ≤ H1.size → (∀ q : Nat, q < H.size → ¬ A1 q → H1[q]? = H[q]?) → va_S A0 H0 H1 locs1 → W p l e R s m args below meth c H1 locs1 (cells + mc) (slots + ms) Q (F0 m (pc + 3) ls (.int r :: rest))) : W p l e R s m args below meth c H locs cells slots Q (F0 m pc ls st0) := by
  intro T hT X
  rcases hr T hT X with ⟨v, st₀, t, T', L, h0, X', hL, e1, e2, ⟨⟨r, u, hv, hp, hb⟩, hF⟩, st⟩ | ⟨q, st₀, t, T', L, E, ce, h0, X', hL, e1, e2, ⟨u, hp, hb, hF⟩, hce, hcv, hcl, st⟩
  · cases hv
    obtain ⟨k1, k2, k3⟩ := vx_keep h0 e1 hS hA hf hL hF
    obtain ⟨t2, a1, b1⟩ := kk r u t T'.heap (locs ++ L) e1.symm (by rw [← e2]; exact X'.warmed.alike) hp hb k1 k2 k3 T' rfl X'
    exact ⟨t2, st t2 a1, b1⟩
  · obtain ⟨k1, k2, k3⟩ := vx_keep h0 e1 hS hAX hf hL hF
    obtain ⟨t2, a1, b1⟩ := kx E ce q u t T'.heap (locs ++ L) e1.symm (by rw [← e2]; exact X'.warmed.alike) hp hb k1 k2 k3 (by rw [e1]; exact hce) hcv hcl T' rfl X'
    exact ⟨t2, st.trans a1, b1⟩
theorem vx_calll {S SX : Type} {post : Int64 → S → Prop} {px : SX → Prop} {B : S → State → Prop} {BX : String → SX → State → Prop} {AX : Nat → Prop} (hr : vx_Run p l e R s m args below meth c H locs cells slots mc ms (F0 m pc ls st0) rest (va_Ql post B A1 a) (vx_X px BX AX) free) (hS : va_S A0 H0 H locs) (hA : ∀ q, q < H.size → A1 q → A0 q) (hf : ∀ q, free q → A0 q) (hAX : ∀ q, q < H.size → AX q → A0 q)
    (kx : ∀ (E : String) (ce : Cell) (q9 : Addr) (u : SX) (t : State) (H1 : Heap) (locs1 : List Loc), t.heap = H1 → s.vm.Alike t.vm → px u → BX E u t → H.size ≤ H1.size → (∀ q : Nat, q < H.size → ¬ AX q → H1[q]? = H[q]?) → va_S A0 H0 H1 locs1 → H1[q9]? = some ce → ce.vm = .none → s.vm.findClass E = some ce.cls → vx_W p l e R s m args below meth c H1 locs1 (cells + mc) (slots + ms) Q (F0 m pc ls rest) q9)
    (kk : ∀ (r : Int64) (u : S) (t : State) (H1 : Heap) (locs1 : List Loc), t.heap = H1 → s.vm.Alike t.vm → post r u → B u t → H.size ≤ H1.size → (∀ q : Nat, q < H.size → ¬ A1 q → H1[q]? = H[q]?) → va_S A0 H0 H1 locs1 → W p l e R s m args below meth c H1 locs1 (cells + mc) (slots + ms) Q (F0 m (pc + 3) ls (.long r :: rest))) : W p l e R s m args below meth c H locs cells slots Q (F0 m pc ls st0) := by
  intro T hT X
  rcases hr T hT X with ⟨v, st₀, t, T', L, h0, X', hL, e1, e2, ⟨⟨r, u, hv, hp, hb⟩, hF⟩, st⟩ | ⟨q, st₀, t, T', L, E, ce, h0, X', hL, e1, e2, ⟨u, hp, hb, hF⟩, hce, hcv, hcl, st⟩
  · cases hv
    obtain ⟨k1, k2, k3⟩ := vx_keep h0 e1 hS hA hf hL hF
    obtain ⟨t2, a1, b1⟩ := kk r u t T'.heap (locs ++ L) e1.symm (by rw [← e2]; exact X'.warmed.alike) hp hb k1 k2 k3 T' rfl X'
    exact ⟨t2, st t2 a1, b1⟩
  · obtain ⟨k1, k2, k3⟩ := vx_keep h0 e1 hS hAX hf hL hF
    obtain ⟨t2, a1, b1⟩ := kx E ce q u t T'.heap (locs ++ L) e1.symm (by rw [← e2]; exact X'.warmed.alike) hp hb k1 k2 k3 (by rw [e1]; exact hce) hcv hcl T' rfl X'
    exact ⟨t2, st.trans a1, b1⟩
theorem vx_callf {S SX : Type} {post : UInt32 → S → Prop} {px : SX → Prop} {B : S → State → Prop} {BX : String → SX → State → Prop} {AX : Nat → Prop} (hr : vx_Run p l e R s m args below meth c H locs cells slots mc ms (F0 m pc ls st0) rest (va_Qf post B A1 a) (vx_X px BX AX) free) (hS : va_S A0 H0 H locs) (hA : ∀ q, q < H.size → A1 q → A0 q) (hf : ∀ q, free q → A0 q) (hAX : ∀ q, q < H.size → AX q → A0 q)
    (kx : ∀ (E : String) (ce : Cell) (q9 : Addr) (u : SX) (t : State) (H1 : Heap) (locs1 : List Loc), t.heap = H1 → s.vm.Alike t.vm → px u → BX E u t → H.size ≤ H1.size → (∀ q : Nat, q < H.size → ¬ AX q → H1[q]? = H[q]?) → va_S A0 H0 H1 locs1 → H1[q9]? = some ce → ce.vm = .none → s.vm.findClass E = some ce.cls → vx_W p l e R s m args below meth c H1 locs1 (cells + mc) (slots + ms) Q (F0 m pc ls rest) q9)
    (kk : ∀ (r : UInt32) (u : S) (t : State) (H1 : Heap) (locs1 : List Loc), t.heap = H1 → s.vm.Alike t.vm → post r u → B u t → H.size ≤ H1.size → (∀ q : Nat, q < H.size → ¬ A1 q → H1[q]? = H[q]?) → va_S A0 H0 H1 locs1 → W p l e R s m args below meth c H1 locs1 (cells + mc) (slots + ms) Q (F0 m (pc + 3) ls (.float r :: rest))) : W p l e R s m args below meth c H locs cells slots Q (F0 m pc ls st0) := by
  intro T hT X
  rcases hr T hT X with ⟨v, st₀, t, T', L, h0, X', hL, e1, e2, ⟨⟨r, u, hv, hp, hb⟩, hF⟩, st⟩ | ⟨q, st₀, t, T', L, E, ce, h0, X', hL, e1, e2, ⟨u, hp, hb, hF⟩, hce, hcv, hcl, st⟩
  · cases hv
    obtain ⟨k1, k2, k3⟩ := vx_keep h0 e1 hS hA hf hL hF
    obtain ⟨t2, a1, b1⟩ := kk r u t T'.heap (locs ++ L) e1.symm (by rw [← e2]; exact X'.warmed.alike) hp hb k1 k2 k3 T' rfl X'
    exact ⟨t2, st t2 a1, b1⟩
  · obtain ⟨k1, k2, k3⟩ := vx_keep h0 e1 hS hAX hf hL hF
    obtain ⟨t2, a1, b1⟩ := kx E ce q u t T'.heap (locs ++ L) e1.symm (by rw [← e2]; exact X'.warmed.alike) hp hb k1 k2 k3 (by rw [e1]; exact hce) hcv hcl T' rfl X'
    exact ⟨t2, st.trans a1, b1⟩
theorem vx_calld {S SX : Type} {post : UInt64 → S → Prop} {px : SX → Prop} {B : S → State → Prop} {BX : String → SX → State → Prop} {AX : Nat → Prop} (hr : vx_Run p l e R s m args below meth c H locs cells slots mc ms (F0 m pc ls st0) rest (va_Qd post B A1 a) (vx_X px BX AX) free) (hS : va_S A0 H0 H locs) (hA : ∀ q, q < H.size → A1 q → A0 q) (hf : ∀ q, free q → A0 q) (hAX : ∀ q, q < H.size → AX q → A0 q)
    (kx : ∀ (E : String) (ce : Cell) (q9 : Addr) (u : SX) (t : State) (H1 : Heap) (locs1 : List Loc), t.heap = H1 → s.vm.Alike t.vm → px u → BX E u t → H.size ≤ H1.size → (∀ q : Nat, q < H.size → ¬ AX q → H1[q]? = H[q]?) → va_S A0 H0 H1 locs1 → H1[q9]? = some ce → ce.vm = .none → s.vm.findClass E = some ce.cls → vx_W p l e R s m args below meth c H1 locs1 (cells + mc) (slots + ms) Q (F0 m pc ls rest) q9)
    (kk : ∀ (r : UInt64) (u : S) (t : State) (H1 : Heap) (locs1 : List Loc), t.heap = H1 → s.vm.Alike t.vm → post r u → B u t → H.size ≤ H1.size → (∀ q : Nat, q < H.size → ¬ A1 q → H1[q]? = H[q]?) → va_S A0 H0 H1 locs1 → W p l e R s m args below meth c H1 locs1 (cells + mc) (slots + ms) Q (F0 m (pc + 3) ls (.double r :: rest))) : W p l e R s m args below meth c H locs cells slots Q (F0 m pc ls st0) := by
  intro T hT X
  rcases hr T hT X with ⟨v, st₀, t, T', L, h0, X', hL, e1, e2, ⟨⟨r, u, hv, hp, hb⟩, hF⟩, st⟩ | ⟨q, st₀, t, T', L, E, ce, h0, X', hL, e1, e2, ⟨u, hp, hb, hF⟩, hce, hcv, hcl, st⟩
  · cases hv
    obtain ⟨k1, k2, k3⟩ := vx_keep h0 e1 hS hA hf hL hF
    obtain ⟨t2, a1, b1⟩ := kk r u t T'.heap (locs ++ L) e1.symm (by rw [← e2]; exact X'.warmed.alike) hp hb k1 k2 k3 T' rfl X'
    exact ⟨t2, st t2 a1, b1⟩
  · obtain ⟨k1, k2, k3⟩ := vx_keep h0 e1 hS hAX hf hL hF
    obtain ⟨t2, a1, b1⟩ := kx E ce q u t T'.heap (locs ++ L) e1.symm (by rw [← e2]; exact X'.warmed.alike) hp hb k1 k2 k3 (by rw [e1]; exact hce) hcv hcl T' rfl X'
    exact ⟨t2, st.trans a1, b1⟩
theorem vx_callv {S SX : Type} {post : S → Prop} {px : SX → Prop} {B : S → State → Prop} {BX : String → SX → State → Prop} {AX : Nat → Prop} (hr : vx_Run p l e R s m args below meth c H locs cells slots mc ms (F0 m pc ls st0) rest (va_Qv post B A1 a) (vx_X px BX AX) free) (hS : va_S A0 H0 H locs) (hA : ∀ q, q < H.size → A1 q → A0 q) (hf : ∀ q, free q → A0 q) (hAX : ∀ q, q < H.size → AX q → A0 q)
    (kx : ∀ (E : String) (ce : Cell) (q9 : Addr) (u : SX) (t : State) (H1 : Heap) (locs1 : List Loc), t.heap = H1 → s.vm.Alike t.vm → px u → BX E u t → H.size ≤ H1.size → (∀ q : Nat, q < H.size → ¬ AX q → H1[q]? = H[q]?) → va_S A0 H0 H1 locs1 → H1[q9]? = some ce → ce.vm = .none → s.vm.findClass E = some ce.cls → vx_W p l e R s m args below meth c H1 locs1 (cells + mc) (slots + ms) Q (F0 m pc ls rest) q9)
    (kk : ∀ (u : S) (t : State) (H1 : Heap) (locs1 : List Loc), t.heap = H1 → s.vm.Alike t.vm → post u → B u t → H.size ≤ H1.size → (∀ q : Nat, q < H.size → ¬ A1 q → H1[q]? = H[q]?) → va_S A0 H0 H1 locs1 → W p l e R s m args below meth c H1 locs1 (cells + mc) (slots + ms) Q (F0 m (pc + 3) ls (rest))) : W p l e R s m args below meth c H locs cells slots Q (F0 m pc ls st0) := by
  intro T hT X
  rcases hr T hT X with ⟨v, st₀, t, T', L, h0, X', hL, e1, e2, ⟨⟨u, hv, hp, hb⟩, hF⟩, st⟩ | ⟨q, st₀, t, T', L, E, ce, h0, X', hL, e1, e2, ⟨u, hp, hb, hF⟩, hce, hcv, hcl, st⟩
  · cases hv
    obtain ⟨k1, k2, k3⟩ := vx_keep h0 e1 hS hA hf hL hF
    obtain ⟨t2, a1, b1⟩ := kk u t T'.heap (locs ++ L) e1.symm (by rw [← e2]; exact X'.warmed.alike) hp hb k1 k2 k3 T' rfl X'
    exact ⟨t2, st t2 a1, b1⟩
  · obtain ⟨k1, k2, k3⟩ := vx_keep h0 e1 hS hAX hf hL hF
    obtain ⟨t2, a1, b1⟩ := kx E ce q u t T'.heap (locs ++ L) e1.symm (by rw [← e2]; exact X'.warmed.alike) hp hb k1 k2 k3 (by rw [e1]; exact hce) hcv hcl T' rfl X'
    exact ⟨t2, st.trans a1, b1⟩
/-- caught by the row x of this method's table; the rows ahead don't take it -/
theorem vx_catch {own name : String} {E : String} {ce : Cell} {q : Addr} (hown : s.vm.findClass own = some m.cls) (pre : List ExceptionTableEntry) (x : ExceptionTableEntry) (suf : List ExceptionTableEntry) (hsplit : c.exceptionTable.toList = pre ++ x :: suf)
    (hpass : ∀ z ∈ pre, covers z pc = false ∨ (z.catchType ≠ 0 ∧ ∃ nm : String, (Cond.classLink own z.catchType nm).before args s = true ∧ va_Nc E nm s)) (hx : covers x pc = true) (h0 : x.catchType ≠ 0)
    (hlink : (Cond.classLink own x.catchType name).before args s = true) (hcast : (Cond.castable E name).before args s = true) (hcell : H[q]? = some ce) (hv : ce.vm = .none) (hcl : s.vm.findClass E = some ce.cls)
    (kk : W p l e R s m args below meth c H locs cells slots Q (F0 m x.handlerPc ls [.ref q])) : vx_W p l e R s m args below meth c H locs cells slots Q (F0 m pc ls rest) q := by
  intro T hT X
  have hpl : e.platform.magicAccessors = ({} : Platform).magicAccessors := by rw [X.admits.platform]
  obtain ⟨c3, c4, hc3, hc4, hasg⟩ := Cond.castable_spec hcast
  cases Option.some.inj (hc3.symm.trans hcl)
  obtain ⟨c5, hc5, hcl5⟩ := Cond.classLink_spec hown hlink e.platform hpl
  cases Option.some.inj (hc4.symm.trans hc5)
  obtain ⟨vm', X', st⟩ := X.thenCaughtThrough q (g := F0 m pc ls rest) rfl (Steps.refl _) (by rw [hT]; exact hcell) (by rw [hv]; rfl) (by obtain ⟨k9, h9, -⟩ := Vm.findClass_spec hcl; exact ⟨k9, h9⟩) pre x suf hsplit
    (fun z hz => by
      rcases hpass z hz with h | ⟨hz0, nm, hl1, hn1⟩
      · exact Or.inl h
      · obtain ⟨c6, hc6, hcl6⟩ := Cond.classLink_spec hown hl1 e.platform hpl
        obtain ⟨a8, b8, h1, h2, h3⟩ := hn1
        cases Option.some.inj (h1.symm.trans hcl)
        cases Option.some.inj (h2.symm.trans hc6)
        exact Or.inr ⟨hz0, _, hcl6, h3⟩) hx (Or.inr ⟨h0, c4, hcl5, hasg⟩)
  obtain ⟨t, a1, b1⟩ := kk (T.setVm vm') hT X'
  exact ⟨t, st.trans a1, b1⟩
end Rows
section Ends
variable {p : Program} {l : Launch} {e : Env} {R : Room} {s : State} {m : MethodId} {args : Array Value} {below : List Frame} {meth : Method} {c : Code} {H : Heap} {locs : List Loc} {cells slots : Nat} {Q : State → Prop}
variable {mc ms : Nat} {free : Addr → Prop} {A0 A1 : Nat → Prop} {H0 : Heap} {a : Array Value} {ls : Array Slot} {st0 rest : List Value}
variable {Qc : Array Value → State → Outcome → State → Prop} {XC : String → State → State → Prop}
/-- what a body that may throw owes at its end -/
def vx_MQ (below : List Frame) (Qc : Array Value → State → Outcome → State → Prop) (XC : String → State → State → Prop) (a : Array Value) (s : State) (mc ms : Nat) (free : Addr → Prop) : State → Prop := fun t =>
  ∃ o, t.status = .running ∧ Ended t below o ∧ vx_Q Qc XC mc ms free a s o t
theorem vx_ret {g : JFrame} {mc ms : Nat} (k : W p l e R s m args below meth c H locs cells slots (MQ below Qc args s mc ms free) g) : W p l e R s m args below meth c H locs cells slots (vx_MQ below Qc XC args s mc ms free) g := by
  intro T hT X
  obtain ⟨t, a1, o, b1, b2, b3, b4⟩ := k T hT X
  exact ⟨t, a1, o, b1, b2, Or.inl ⟨b3, b4⟩⟩
/-- not caught here: it goes on to the caller -/
theorem vx_widen {g : JFrame} {q : Addr} {k n : Nat} (h1 : cells ≤ k) (h2 : slots ≤ n) (kk : vx_W p l e R s m args below meth c H locs k n Q g q) : vx_W p l e R s m args below meth c H locs cells slots Q g q := fun T hT X => kk T hT (stand_widen X h1 h2)
theorem vx_out {pc : Nat} {E : String} {ce : Cell} {q : Addr} {mc ms : Nat} (hout : ∀ x ∈ c.exceptionTable.toList, covers x pc = false) (hlocks : meth.locks = false) (hcell : H[q]? = some ce) (hv : ce.vm = .none) (hcl : s.vm.findClass E = some ce.cls)
    (hx : ∀ t : State, t.heap = H → s.vm.Alike t.vm → XC E s t) (hf : ∀ z ∈ locs, free z.base) (hc : cells ≤ mc) (hs : slots ≤ ms) :
    vx_W p l e R s m args below meth c H locs cells slots (vx_MQ below Qc XC args s mc ms free) (F0 m pc ls rest) q := by
  intro T hT X
  obtain ⟨st1, hrun, hend, hW, hsm⟩ := X.leaveThrown q (g := F0 m pc ls rest) rfl rfl rfl hout hlocks
  have hcell9 : (T.setFrames (.throwing q :: below)).heap[q]? = some ce := by
    show T.heap[q]? = some ce
    rw [hT]; exact hcell
  exact ⟨_, st1, .threw q, hrun, hend, Or.inr ⟨q, rfl, E, ce, locs, hx _ hT hW.alike, hcell9, hv, hcl, hW, hsm.mono hc hs, hf⟩⟩
theorem vx_frame {U : State} {k n : Nat} (h : s.sameButNew ({ U with vm := s.vm } : State) locs k n) : s.heap.size ≤ U.heap.size ∧ ∀ q : Nat, q < s.heap.size → (∀ z ∈ locs, z.base ≠ q) → U.heap[q]? = s.heap[q]? := by
  obtain ⟨-, h2, -, -, -, h6⟩ := h
  refine ⟨h2, fun q hq hz => ?_⟩
  obtain ⟨c9, e1, e2, e3, e4⟩ := h6 q _ (Array.getElem?_eq_getElem hq)
  have hs : c9.slots = (s.heap[q]).slots := Array.ext_getElem? fun i => e4 i fun hm => hz _ hm rfl
  have h9 : c9 = s.heap[q] := by
    rw [hs] at e2
    exact e2
  have e5 : U.heap[q]? = some c9 := e1
  rw [e5, h9, Array.getElem?_eq_getElem hq]
/-- the words of a throw but the four that speak of the heap -/
def vx_no (w : Cond) : Bool := decide (w ≠ .isRef (.static Bundle.tN "UNASSIGNED_STACK" Bundle.steD)) && decide (w ≠ .isRef (.static Bundle.tN "SUPPRESSED_SENTINEL" Bundle.listD)) && decide (w ≠ .laysStatic Bundle.tN "UNASSIGNED_STACK" Bundle.steD) && decide (w ≠ .laysStatic Bundle.tN "SUPPRESSED_SENTINEL" Bundle.listD)
def vx_at0 (own : String) (ic : Nat) (X : String) (names : List String) : List Cond := (Bundle.ownAtoms0 own ic X names).filter vx_no
def vx_atS (own : String) (ic : Nat) (X : String) (names : List String) : List Cond := (Bundle.ownAtoms own ic X names).filter vx_no
/-- a word that the tables alone decide, or a good one -/
def vx_ot (w : Cond) : Bool := w.onTables || goodWord w
theorem vx_ot_at {args a' : Array Value} {s U : State} {w : Cond} (hW : s.WarmedH U.vm) (hvm : s.vm = U.vm) (hg : vx_ot w = true) (h : w.before args s = true) : w.before a' U = true := by
  simp only [vx_ot, Bool.or_eq_true] at hg
  rcases hg with hg | hg
  · exact va_tabs hg hvm h
  · exact word_at hW (good_of_word hg) h
/-- a list's words: the good ones out of the method's own list, the others by premises of their own -/
theorem vx_hat {args : Array Value} {s : State} {L B : List Cond} (h1 : ∀ w ∈ L.filter goodWord, w.before args s = true) (h2 : ∀ w ∈ L.filter (fun w => !goodWord w), w ∈ B) (h3 : ∀ w ∈ B, w.before args s = true) : ∀ w ∈ L, w.before args s = true := by
  intro w hw
  by_cases g : goodWord w = true
  · exact h1 w (List.mem_filter.mpr ⟨hw, g⟩)
  · refine h3 w (h2 w (List.mem_filter.mpr ⟨hw, ?_⟩))
    show (!goodWord w) = true
    cases hgw : goodWord w
    · rfl
    · exact absurd hgw g
theorem vx_c {args : Array Value} {s : State} {w : Cond} {B : List Cond} (h : w.before args s = true) (t : ∀ w ∈ B, w.before args s = true) : ∀ w' ∈ w :: B, w'.before args s = true := fun w' h' => (List.mem_cons.mp h').elim (fun e => by rw [e]; exact h) (t w')
theorem vx_n {args : Array Value} {s : State} : ∀ w ∈ ([] : List Cond), w.before args s = true := fun _ h => nomatch h
theorem vx_own {args : Array Value} {s : State} {L : List Cond} (h1 : ∀ w ∈ L.filter vx_no, w.before args s = true)
    (hU : (Cond.isRef (.static Bundle.tN "UNASSIGNED_STACK" Bundle.steD)).before args s = true) (hN : (Cond.isRef (.static Bundle.tN "SUPPRESSED_SENTINEL" Bundle.listD)).before args s = true)
    (lU : (Cond.laysStatic Bundle.tN "UNASSIGNED_STACK" Bundle.steD).before args s = true) (lN : (Cond.laysStatic Bundle.tN "SUPPRESSED_SENTINEL" Bundle.listD).before args s = true) : ∀ w ∈ L, w.before args s = true := by
  intro w hw
  by_cases e1 : w = .isRef (.static Bundle.tN "UNASSIGNED_STACK" Bundle.steD)
  · rw [e1]; exact hU
  · by_cases e2 : w = .isRef (.static Bundle.tN "SUPPRESSED_SENTINEL" Bundle.listD)
    · rw [e2]; exact hN
    · by_cases e3 : w = .laysStatic Bundle.tN "UNASSIGNED_STACK" Bundle.steD
      · rw [e3]; exact lU
      · by_cases e4 : w = .laysStatic Bundle.tN "SUPPRESSED_SENTINEL" Bundle.listD
        · rw [e4]; exact lN
        · exact h1 w (List.mem_filter.mpr ⟨hw, by unfold vx_no; rw [decide_eq_true e1, decide_eq_true e2, decide_eq_true e3, decide_eq_true e4]; rfl⟩)
/-- where a static field lies, its class's statics cell in H -/
def vx_L (C n d : String) (A : Nat → Prop) (U : State) (H : Heap) : Prop := ∃ (c : ClassId) (k : Class) (i : Nat) (f : Field) (a : Nat) (cell : Cell), U.vm.findClass C = some c ∧ U.fieldFound? C n d = some (c, k, i, f) ∧ f.isStatic = true ∧ k.statics = some a ∧ H[a]? = some cell ∧ cell.vm.isStatics = true ∧ cell.cls = c ∧ f.slot < cell.slots.size ∧ k.staticTypes[f.slot]? = some f.type ∧ ¬ A a
theorem vx_L.moved {C n d : String} {A : Nat → Prop} {u U : State} {H : Heap} (hvm : u.vm.Alike U.vm) (h : vx_L C n d A u H) : vx_L C n d A U H := by
  obtain ⟨c, k, i, f, a, cell, h1, h2, h3, h4, h5, h6, h7, h8, h9, h10⟩ := h
  obtain ⟨k', hi', he⟩ := State.fieldFound?_setVm hvm h2
  exact ⟨c, k', i, f, a, cell, by rw [hvm.findClass]; exact h1, hi', h3, by rw [he]; exact h4, h5, h6, h7, h8, by rw [he]; exact h9, h10⟩
theorem vx_L.kept {C n d : String} {A : Nat → Prop} {U : State} {H H1 : Heap} (h : vx_L C n d A U H) (hq : ∀ a : Nat, a < H.size → ¬ A a → H1[a]? = H[a]?) : vx_L C n d A U H1 := by
  obtain ⟨c, k, i, f, a, cell, h1, h2, h3, h4, h5, h6, h7, h8, h9, h10⟩ := h
  exact ⟨c, k, i, f, a, cell, h1, h2, h3, h4, by rw [hq a (Array.getElem?_eq_some_iff.mp h5).1 h10]; exact h5, h6, h7, h8, h9, h10⟩
theorem vx_L.narrow {C n d : String} {A B : Nat → Prop} {U : State} {H : Heap} (h : vx_L C n d A U H) (hAB : ∀ q, B q → A q) : vx_L C n d B U H := by
  obtain ⟨c, k, i, f, a, cell, h1, h2, h3, h4, h5, h6, h7, h8, h9, h10⟩ := h
  exact ⟨c, k, i, f, a, cell, h1, h2, h3, h4, h5, h6, h7, h8, h9, fun z => h10 (hAB _ z)⟩
theorem vx_L.word {C n d : String} {A : Nat → Prop} {s : State} {args : Array Value} (h : vx_L C n d A s s.heap) : (Cond.laysStatic C n d).before args s = true := by
  obtain ⟨c, k, i, f, a, cell, h1, h2, h3, h4, h5, h6, h7, h8, h9, -⟩ := h
  show (Cond.laysStatic C n d).holds args s none s [] = true
  exact Cond.laysStatic_of h1 h2 h3 h4 h5 h6 h7 h8 h9
/-- .. and what it holds: null or some reference -/
def vx_Zq (C n d : String) (A : Nat → Prop) (U : State) (H : Heap) : Prop := va_Zq C n d A U H ∧ vx_L C n d A U H
theorem vx_Zq.moved {C n d : String} {A : Nat → Prop} {u U : State} {H : Heap} (hvm : u.vm.Alike U.vm) (h : vx_Zq C n d A u H) : vx_Zq C n d A U H := ⟨va_Zq.moved hvm h.1, vx_L.moved hvm h.2⟩
theorem vx_Zq.kept {C n d : String} {A : Nat → Prop} {U : State} {H H1 : Heap} (h : vx_Zq C n d A U H) (hq : ∀ a : Nat, a < H.size → ¬ A a → H1[a]? = H[a]?) : vx_Zq C n d A U H1 := ⟨va_Zq.kept h.1 hq, vx_L.kept h.2 hq⟩
theorem vx_Zq.narrow {C n d : String} {A B : Nat → Prop} {U : State} {H : Heap} (h : vx_Zq C n d A U H) (hAB : ∀ q, B q → A q) : vx_Zq C n d B U H := ⟨va_Zq.narrow h.1 hAB, vx_L.narrow h.2 hAB⟩
theorem vx_Zqof {args : Array Value} {s : State} {C n d : String} {A : Nat → Prop} (hl : (Cond.laysStatic C n d).before args s = true) (hini : (Cond.initialized C).before args s = true) (h : (Cond.isRef (.static C n d)).before args s = true) (hA : ∀ a : Nat, a < s.heap.size → ¬ A a) : vx_Zq C n d A s s.heap := by
  refine ⟨va_Zqof hl hini h hA, ?_⟩
  obtain ⟨c, k, i, f, a, cell, h1, h2, h3, h4, h5, h6, h7, h8, h9⟩ := Cond.laysStatic_spec hl
  exact ⟨c, k, i, f, a, cell, h1, h2, h3, h4, h5, h6, h7, h8, h9, hA a (Array.getElem?_eq_some_iff.mp h5).1⟩
theorem vx_isRef {C n d : String} {v : Value} {A : Nat → Prop} {s : State} {args : Array Value} (h : va_Z C n d v A s s.heap) (hv : v.isRef = true) : (Cond.isRef (.static C n d)).before args s = true := by
  obtain ⟨cf, kf, fi, f, a, cell, h1, h2, h3, h4, h5, h6, h7, -⟩ := h
  have he : (Term.static C n d).eval args s none [] s = some v := by
    simp [Term.eval, State.fieldNamed?, h1, h2, h4, h5, h6, h7]
  simp only [Cond.before, Cond.holds, Cond.value, he]
  cases v <;> simp_all [Value.isRef]
theorem vx_isRefq {C n d : String} {A : Nat → Prop} {s : State} {args : Array Value} (h : va_Zq C n d A s s.heap) : (Cond.isRef (.static C n d)).before args s = true := by
  rcases h with h | ⟨t, h⟩
  · exact vx_isRef h rfl
  · exact vx_isRef h rfl
/-- the same frame, seen from here: as if the method were called anew in this heap -/
theorem vx_rebase {T : State} (X : Stand p l e R s m args below meth c T locs cells slots) {R' : Room} (hf : R'.frames ≤ R.frames) (hl : R'.locals ≤ R.locals) (hc : cells + R'.cells ≤ R.cells) (hs : slots + R'.slots ≤ R.slots) :
    Stand p l e R' ((T.setVm s.vm).setFrames (.invoking m args :: below)) m args below meth c T [] 0 0 := by
  have htop : (T.setVm s.vm).topJava?.isSome := X.here.top
  have hF : ((T.setVm s.vm).setFrames (.invoking m args :: below)).frames = .invoking m args :: below := State.frames_setFrames _ (State.cur_lt_of_top htop)
  obtain ⟨g₀, hg0⟩ := Option.isSome_iff_exists.mp htop
  obtain ⟨r, hr⟩ := State.topJava?_eq_some.mp hg0
  have hl9 : e.platform.stackLimits (T.setVm s.vm).me = e.platform.stackLimits s.me := X.limits
  have hb9 : (T.setVm s.vm).me.stackBytes = s.me.stackBytes := X.bytes
  refine ⟨X.admits, X.cas, X.clock, hF, ?_, X.hears, X.method, X.code, X.here, X.tail, X.warmed, ?_, ?_, ?_⟩
  · have h := X.room
    have hU : ((T.setVm s.vm).setFrames (.invoking m args :: below)).localsInUse = s.localsInUse := by
      rw [State.localsInUse_invoking hF (meth := meth) (c := c) X.method X.code, State.localsInUse_invoking X.frames X.method X.code]
    simp only [State.hasRoom, Bool.and_eq_true, decide_eq_true_eq] at h ⊢
    obtain ⟨⟨⟨⟨h1, h2, h3, h4, h5, h6⟩, h7⟩, h8⟩, h9⟩ := h
    rw [X.frames, List.length_cons] at h2 h3
    have q1 := X.heapSize
    have q2 := X.used
    simp only [hF, hU, List.length_cons, State.stackLimits_setFrames, State.stackBytes_setFrames, hl9, hb9]
    refine ⟨⟨⟨⟨by omega, by omega, by omega, by omega, by omega, h6⟩, ?_⟩, ?_⟩, X.book⟩
    · show T.heap.size + R'.cells ≤ e.platform.maxCells
      omega
    · show T.slotsUsed + R'.slots ≤ e.platform.maxSlots
      omega
  · rw [State.stackLimits_setFrames]; rfl
  · rw [State.stackBytes_setFrames]; rfl
  · refine ⟨?_, Nat.le_refl _, Nat.le_refl _, ?_, ?_, fun a c9 h9 => ⟨c9, h9, rfl, rfl, fun _ _ => rfl⟩⟩
    · obtain ⟨t, ht, -⟩ := State.frames_cons hr
      show T.setVm s.vm = { ((T.setVm s.vm).setFrames (.invoking m args :: below)).setFrames (T.setVm s.vm).frames with heap := T.heap, slotsUsed := T.slotsUsed }
      rw [State.setFrames_setFrames, State.setFrames_self ht]
      rfl
    · show T.slotsUsed = T.slotsUsed + ((T.heap.toList.drop T.heap.size).map (·.slots.size)).sum
      rw [List.drop_eq_nil_of_le (Nat.le_of_eq Array.length_toList)]
      rfl
    · show ((T.heap.toList.drop T.heap.size).map (·.slots.size)).sum ≤ 0
      rw [List.drop_eq_nil_of_le (Nat.le_of_eq Array.length_toList)]
      exact Nat.le_refl _
/-- 'throw new E()': new; dup; invokespecial; athrow -/
theorem vx_throw0 {cc : ByteArray} {pc : Nat} (hexec : p.tables.exec = Jvm.exec) (hb : c.code = cc) (hl : l.stackTraces = false) {own cls : String} {names : List String} {ik ic mc ms : Nat} {A : Nat → Prop}
    (hown : s.vm.findClass own = some m.cls) (hcls : Bundle.fit cls = true) (hnames : ∀ n ∈ names, Bundle.fit n = true)
    (hk : (Cond.classLink own ik cls).before args s = true) (hini : (Cond.initialized cls).before args s = true) (hat : ∀ w ∈ vx_at0 own ic cls names, w.before args s = true)
    (hgood : ∀ w ∈ Cond.classLink own ik cls :: Cond.initialized cls :: vx_at0 own ic cls names, vx_ot w = true)
    (hU : vx_Zq Bundle.tN "UNASSIGNED_STACK" Bundle.steD A s s.heap) (hN : vx_Zq Bundle.tN "SUPPRESSED_SENTINEL" Bundle.listD A s s.heap) (hS : va_S A s.heap H locs) (hsize : ls.size = c.maxLocals)
    (d0 : decode cc pc = .ok (.new ik, 3)) (d3 : decode cc (pc + 3) = .ok (.dup, 1)) (d4 : decode cc (pc + 4) = .ok (.invokespecial ic, 3)) (d7 : decode cc (pc + 7) = .ok (.athrow, 1))
    (hout : ∀ x ∈ c.exceptionTable.toList, covers x (pc + 7) = false)
    (hRframes : names.length + 3 < R.frames) (hRlocals : (rest.map fun v => v.category).sum + (13 * (names.length + 1) + 42) ≤ R.locals) (hRcells : cells + 1 ≤ R.cells) (hRslots : slots + 6 ≤ R.slots) (hlocks : meth.locks = false)
    (hx : ∀ t : State, s.vm.Alike t.vm → H.size ≤ t.heap.size → (∀ q : Nat, q < H.size → t.heap[q]? = H[q]?) → XC cls s t)
    (hf : ∀ z ∈ locs, free z.base) (hc : cells + 1 ≤ mc) (hs : slots + 6 ≤ ms) :
    W p l e R s m args below meth c H locs cells slots (vx_MQ below Qc XC args s mc ms free) (F0 m pc ls rest) := by
  intro T hT X
  have htr : e.platform.stackTraces = false := (show e.platform.stackTraces = l.stackTraces by rw [X.admits.platform]).trans hl
  have Y := vx_rebase X (R' := { frames := R.frames, locals := R.locals, cells := 1, slots := 6 }) (Nat.le_refl _) (Nat.le_refl _) hRcells hRslots
  obtain ⟨s', hA⟩ : ∃ z, z = (T.setVm s.vm).setFrames (.invoking m args :: below) := ⟨_, rfl⟩
  rw [← hA] at Y
  have hvm : s'.vm = s.vm := by rw [hA]; rfl
  have hhp : s'.heap = H := by rw [hA]; exact hT
  have hW0 : s.WarmedH s'.vm := by rw [hvm]; exact State.WarmedH.refl s
  have hat' : ∀ w ∈ vx_at0 own ic cls names, w.before args s' = true := fun w hw => vx_ot_at hW0 hvm.symm (hgood w (List.mem_cons_of_mem _ (List.mem_cons_of_mem _ hw))) (hat w hw)
  have hk' : (Cond.classLink own ik cls).before args s' = true := vx_ot_at hW0 hvm.symm (hgood _ List.mem_cons_self) hk
  have hini' : (Cond.initialized cls).before args s' = true := vx_ot_at hW0 hvm.symm (hgood _ (List.mem_cons_of_mem _ List.mem_cons_self)) hini
  have hU' : vx_Zq Bundle.tN "UNASSIGNED_STACK" Bundle.steD A s' s'.heap := by rw [hhp]; exact vx_Zq.moved hW0.alike (hU.kept hS.2.1)
  have hN' : vx_Zq Bundle.tN "SUPPRESSED_SENTINEL" Bundle.listD A s' s'.heap := by rw [hhp]; exact vx_Zq.moved hW0.alike (hN.kept hS.2.1)
  have h : ∀ w ∈ Bundle.ownAtoms0 own ic cls names, w.before args s' = true := vx_own hat' (vx_isRefq hU'.1) (vx_isRefq hN'.1) hU'.2.word hN'.2.word
  have hown' : s'.vm.findClass own = some m.cls := by rw [hvm]; exact hown
  have hins : (Cond.instantiable cls 6).before args s' = true := h _ (by simp [Bundle.ownAtoms0])
  obtain ⟨vm₁, cX, kX, hfX, hkX, -, -, X₁, st1⟩ := Y.newCold hexec (own := own) (C := cls) (index := ik) (n := 6) hown' hk' hins hini'
    (g := F0 m pc ls rest) rfl (by rw [hb]; exact d0) (Nat.le_refl _) (Nat.le_refl _)
  generalize hT1 : (T.setVm vm₁).pushCell { cls := cX, slots := kX.instanceTypes.map defaultValue, vm := .none } = T1 at X₁ st1
  have hcat : (Value.ref T.heap.size).category = 1 := rfl
  have hcellA : T1.heap[T.heap.size]? = some (freshCell cX kX) := by rw [← hT1]; exact State.heap_pushCell_size _ _
  have d3' : decode c.code (pc + 3) = .ok (.dup, 1) := by rw [hb]; exact d3
  obtain ⟨U, hsteps, hrun, hend, hW, hsame, ce, hce, hO⟩ := X₁.ctorThrow0 hexec htr (own := own) (cls := cls) (names := names) (ic := ic) hown' hcls hnames h (fun x hx => nomatch hx) hfX hkX hcellA (by rw [hhp, hT]; exact Nat.le_refl _)
    (g := { method := m, pc := pc + 4, locals := ls, stack := .ref T.heap.size :: .ref T.heap.size :: rest, locked := none }) rfl hsize rfl rfl (rest := rest) rfl
    (by rw [hb]; exact d4) (by rw [hb]; exact d7) hout hRframes (by simp only [List.map_cons, List.sum_cons, hcat]; omega) hlocks
  obtain ⟨f1, f2⟩ := vx_frame hsame
  rw [hhp] at f1 f2
  have hWs : s.WarmedH U.vm := State.WarmedH.trans hW0 hW
  have hcl : s.vm.findClass cls = some ce.cls := by
    have h9 := hO.cls
    rw [hvm] at h9
    exact h9
  have hall : s.sameButNew ({ U with vm := s.vm } : State) locs mc ms := by
    subst hA
    obtain ⟨e1, e2⟩ := hsame
    rw [State.setFrames_setFrames] at e1
    have h2 : (T.setVm s.vm).sameButNew ({ U with vm := s.vm } : State) [] (0 + 1) (0 + 6) := ⟨e1, e2⟩
    have h3 := X.same.trans h2
    rw [List.append_nil] at h3
    exact h3.mono hc hs
  refine ⟨U, ?_, .threw T.heap.size, hrun, hend, Or.inr ⟨T.heap.size, rfl, cls, ce, locs, hx U hWs.alike f1 (fun q hq => f2 q hq (fun z hz => nomatch hz)), hce, hO.vm, hcl, hWs, hall, hf⟩⟩
  refine st1 _ ?_
  show Steps p.tables e below (T1.setTop { method := m, pc := pc + 3, locals := ls, stack := .ref T.heap.size :: rest, locked := none }) _
  jvm_step X₁.here [X₁.here.top, hexec, d3', Value.category]
  exact hsteps
/-- 'throw new E("text")': new; dup; ldc; invokespecial; athrow -/
theorem vx_throwS {cc : ByteArray} {pc : Nat} (hexec : p.tables.exec = Jvm.exec) (hb : c.code = cc) (hl : l.stackTraces = false) {own cls text : String} {names : List String} {ik is ic mc ms sa : Nat} {A : Nat → Prop}
    (hown : s.vm.findClass own = some m.cls) (hcls : Bundle.fit cls = true) (hnames : ∀ n ∈ names, Bundle.fit n = true)
    (hk : (Cond.classLink own ik cls).before args s = true) (hini : (Cond.initialized cls).before args s = true) (hstr : vk_R own is text sa s) (hat : ∀ w ∈ vx_atS own ic cls names, w.before args s = true)
    (hgood : ∀ w ∈ Cond.classLink own ik cls :: Cond.initialized cls :: vx_atS own ic cls names, vx_ot w = true)
    (hU : vx_Zq Bundle.tN "UNASSIGNED_STACK" Bundle.steD A s s.heap) (hN : vx_Zq Bundle.tN "SUPPRESSED_SENTINEL" Bundle.listD A s s.heap) (hS : va_S A s.heap H locs) (hsize : ls.size = c.maxLocals)
    (d0 : decode cc pc = .ok (.new ik, 3)) (d3 : decode cc (pc + 3) = .ok (.dup, 1)) (d4 : decode cc (pc + 4) = .ok (.ldc is, 2)) (d6 : decode cc (pc + 6) = .ok (.invokespecial ic, 3)) (d9 : decode cc (pc + 9) = .ok (.athrow, 1))
    (hout : ∀ x ∈ c.exceptionTable.toList, covers x (pc + 9) = false)
    (hRframes : names.length + 3 < R.frames) (hRlocals : (rest.map fun v => v.category).sum + (13 * (names.length + 1) + 43) ≤ R.locals) (hRcells : cells + 1 ≤ R.cells) (hRslots : slots + 6 ≤ R.slots) (hlocks : meth.locks = false)
    (hx : ∀ t : State, s.vm.Alike t.vm → H.size ≤ t.heap.size → (∀ q : Nat, q < H.size → t.heap[q]? = H[q]?) → XC cls s t)
    (hf : ∀ z ∈ locs, free z.base) (hc : cells + 1 ≤ mc) (hs : slots + 6 ≤ ms) :
    W p l e R s m args below meth c H locs cells slots (vx_MQ below Qc XC args s mc ms free) (F0 m pc ls rest) := by
  intro T hT X
  have htr : e.platform.stackTraces = false := (show e.platform.stackTraces = l.stackTraces by rw [X.admits.platform]).trans hl
  have Y := vx_rebase X (R' := { frames := R.frames, locals := R.locals, cells := 1, slots := 6 }) (Nat.le_refl _) (Nat.le_refl _) hRcells hRslots
  obtain ⟨s', hA⟩ : ∃ z, z = (T.setVm s.vm).setFrames (.invoking m args :: below) := ⟨_, rfl⟩
  rw [← hA] at Y
  have hvm : s'.vm = s.vm := by rw [hA]; rfl
  have hhp : s'.heap = H := by rw [hA]; exact hT
  have hW0 : s.WarmedH s'.vm := by rw [hvm]; exact State.WarmedH.refl s
  have hat' : ∀ w ∈ vx_atS own ic cls names, w.before args s' = true := fun w hw => vx_ot_at hW0 hvm.symm (hgood w (List.mem_cons_of_mem _ (List.mem_cons_of_mem _ hw))) (hat w hw)
  have hk' : (Cond.classLink own ik cls).before args s' = true := vx_ot_at hW0 hvm.symm (hgood _ List.mem_cons_self) hk
  have hini' : (Cond.initialized cls).before args s' = true := vx_ot_at hW0 hvm.symm (hgood _ (List.mem_cons_of_mem _ List.mem_cons_self)) hini
  have hU' : vx_Zq Bundle.tN "UNASSIGNED_STACK" Bundle.steD A s' s'.heap := by rw [hhp]; exact vx_Zq.moved hW0.alike (hU.kept hS.2.1)
  have hN' : vx_Zq Bundle.tN "SUPPRESSED_SENTINEL" Bundle.listD A s' s'.heap := by rw [hhp]; exact vx_Zq.moved hW0.alike (hN.kept hS.2.1)
  have h : ∀ w ∈ Bundle.ownAtoms own ic cls names, w.before args s' = true := vx_own hat' (vx_isRefq hU'.1) (vx_isRefq hN'.1) hU'.2.word hN'.2.word
  have hown' : s'.vm.findClass own = some m.cls := by rw [hvm]; exact hown
  have hins : (Cond.instantiable cls 6).before args s' = true := h _ (by simp [Bundle.ownAtoms])
  obtain ⟨vm₁, cX, kX, hfX, hkX, -, -, X₁, st1⟩ := Y.newCold hexec (own := own) (C := cls) (index := ik) (n := 6) hown' hk' hins hini'
    (g := F0 m pc ls rest) rfl (by rw [hb]; exact d0) (Nat.le_refl _) (Nat.le_refl _)
  generalize hT1 : (T.setVm vm₁).pushCell { cls := cX, slots := kX.instanceTypes.map defaultValue, vm := .none } = T1 at X₁ st1
  have hcat : (Value.ref T.heap.size).category = 1 := rfl
  have hcellA : T1.heap[T.heap.size]? = some (freshCell cX kX) := by rw [← hT1]; exact State.heap_pushCell_size _ _
  have d3' : decode c.code (pc + 3) = .ok (.dup, 1) := by rw [hb]; exact d3
  have d4' : decode c.code (pc + 4) = .ok (.ldc is, 2) := by rw [hb]; exact d4
  have hstr' : vk_R own is text sa s' := vk_R.warm hW0 hstr
  obtain ⟨U, hsteps, hrun, hend, hW, hsame, ce, hce, hO⟩ := X₁.ctorThrowS hexec htr (own := own) (cls := cls) (names := names) (ic := ic) hown' hcls hnames h (fun x hx => nomatch hx) hfX hkX hcellA (by rw [hhp, hT]; exact Nat.le_refl _) (msg := .ref sa) rfl
    (g := { method := m, pc := pc + 6, locals := ls, stack := .ref sa :: .ref T.heap.size :: .ref T.heap.size :: rest, locked := none }) rfl hsize rfl rfl (rest := rest) rfl
    (by rw [hb]; exact d6) (by rw [hb]; exact d9) hout hRframes (by simp only [List.map_cons, List.sum_cons, hcat]; omega) hlocks
  obtain ⟨f1, f2⟩ := vx_frame hsame
  rw [hhp] at f1 f2
  have hWs : s.WarmedH U.vm := State.WarmedH.trans hW0 hW
  have hcl : s.vm.findClass cls = some ce.cls := by
    have h9 := hO.cls
    rw [hvm] at h9
    exact h9
  have hall : s.sameButNew ({ U with vm := s.vm } : State) locs mc ms := by
    subst hA
    obtain ⟨e1, e2⟩ := hsame
    rw [State.setFrames_setFrames] at e1
    have h2 : (T.setVm s.vm).sameButNew ({ U with vm := s.vm } : State) [] (0 + 1) (0 + 6) := ⟨e1, e2⟩
    have h3 := X.same.trans h2
    rw [List.append_nil] at h3
    exact h3.mono hc hs
  refine ⟨U, ?_, .threw T.heap.size, hrun, hend, Or.inr ⟨T.heap.size, rfl, cls, ce, locs, hx U hWs.alike f1 (fun q hq => f2 q hq (fun z hz => nomatch hz)), hce, hO.vm, hcl, hWs, hall, hf⟩⟩
  refine st1 _ ?_
  show Steps p.tables e below (T1.setTop { method := m, pc := pc + 3, locals := ls, stack := .ref T.heap.size :: rest, locked := none }) _
  jvm_step X₁.here [X₁.here.top, hexec, d3', Value.category]
  exact X₁.ldcString hexec (own := own) (text := text) (index := is) (a := sa) hown' hstr'.1 hstr'.2
    (g := { method := m, pc := pc + 4, locals := ls, stack := .ref T.heap.size :: .ref T.heap.size :: rest, locked := none }) rfl d4' _ hsteps
/-- 'throw new E("text")', the text by a wide index -/
theorem vx_throwSW {cc : ByteArray} {pc : Nat} (hexec : p.tables.exec = Jvm.exec) (hb : c.code = cc) (hl : l.stackTraces = false) {own cls text : String} {names : List String} {ik is ic mc ms sa : Nat} {A : Nat → Prop}
    (hown : s.vm.findClass own = some m.cls) (hcls : Bundle.fit cls = true) (hnames : ∀ n ∈ names, Bundle.fit n = true)
    (hk : (Cond.classLink own ik cls).before args s = true) (hini : (Cond.initialized cls).before args s = true) (hstr : vk_R own is text sa s) (hat : ∀ w ∈ vx_atS own ic cls names, w.before args s = true)
    (hgood : ∀ w ∈ Cond.classLink own ik cls :: Cond.initialized cls :: vx_atS own ic cls names, vx_ot w = true)
    (hU : vx_Zq Bundle.tN "UNASSIGNED_STACK" Bundle.steD A s s.heap) (hN : vx_Zq Bundle.tN "SUPPRESSED_SENTINEL" Bundle.listD A s s.heap) (hS : va_S A s.heap H locs) (hsize : ls.size = c.maxLocals)
    (d0 : decode cc pc = .ok (.new ik, 3)) (d3 : decode cc (pc + 3) = .ok (.dup, 1)) (d4 : decode cc (pc + 4) = .ok (.ldc_w is, 3)) (d7 : decode cc (pc + 7) = .ok (.invokespecial ic, 3)) (d10 : decode cc (pc + 10) = .ok (.athrow, 1))
    (hout : ∀ x ∈ c.exceptionTable.toList, covers x (pc + 10) = false)
    (hRframes : names.length + 3 < R.frames) (hRlocals : (rest.map fun v => v.category).sum + (13 * (names.length + 1) + 43) ≤ R.locals) (hRcells : cells + 1 ≤ R.cells) (hRslots : slots + 6 ≤ R.slots) (hlocks : meth.locks = false)
    (hx : ∀ t : State, s.vm.Alike t.vm → H.size ≤ t.heap.size → (∀ q : Nat, q < H.size → t.heap[q]? = H[q]?) → XC cls s t)
    (hf : ∀ z ∈ locs, free z.base) (hc : cells + 1 ≤ mc) (hs : slots + 6 ≤ ms) :
    W p l e R s m args below meth c H locs cells slots (vx_MQ below Qc XC args s mc ms free) (F0 m pc ls rest) := by
  intro T hT X
  have htr : e.platform.stackTraces = false := (show e.platform.stackTraces = l.stackTraces by rw [X.admits.platform]).trans hl
  have Y := vx_rebase X (R' := { frames := R.frames, locals := R.locals, cells := 1, slots := 6 }) (Nat.le_refl _) (Nat.le_refl _) hRcells hRslots
  obtain ⟨s', hA⟩ : ∃ z, z = (T.setVm s.vm).setFrames (.invoking m args :: below) := ⟨_, rfl⟩
  rw [← hA] at Y
  have hvm : s'.vm = s.vm := by rw [hA]; rfl
  have hhp : s'.heap = H := by rw [hA]; exact hT
  have hW0 : s.WarmedH s'.vm := by rw [hvm]; exact State.WarmedH.refl s
  have hat' : ∀ w ∈ vx_atS own ic cls names, w.before args s' = true := fun w hw => vx_ot_at hW0 hvm.symm (hgood w (List.mem_cons_of_mem _ (List.mem_cons_of_mem _ hw))) (hat w hw)
  have hk' : (Cond.classLink own ik cls).before args s' = true := vx_ot_at hW0 hvm.symm (hgood _ List.mem_cons_self) hk
  have hini' : (Cond.initialized cls).before args s' = true := vx_ot_at hW0 hvm.symm (hgood _ (List.mem_cons_of_mem _ List.mem_cons_self)) hini
  have hU' : vx_Zq Bundle.tN "UNASSIGNED_STACK" Bundle.steD A s' s'.heap := by rw [hhp]; exact vx_Zq.moved hW0.alike (hU.kept hS.2.1)
  have hN' : vx_Zq Bundle.tN "SUPPRESSED_SENTINEL" Bundle.listD A s' s'.heap := by rw [hhp]; exact vx_Zq.moved hW0.alike (hN.kept hS.2.1)
  have h : ∀ w ∈ Bundle.ownAtoms own ic cls names, w.before args s' = true := vx_own hat' (vx_isRefq hU'.1) (vx_isRefq hN'.1) hU'.2.word hN'.2.word
  have hown' : s'.vm.findClass own = some m.cls := by rw [hvm]; exact hown
  have hins : (Cond.instantiable cls 6).before args s' = true := h _ (by simp [Bundle.ownAtoms])
  obtain ⟨vm₁, cX, kX, hfX, hkX, -, -, X₁, st1⟩ := Y.newCold hexec (own := own) (C := cls) (index := ik) (n := 6) hown' hk' hins hini'
    (g := F0 m pc ls rest) rfl (by rw [hb]; exact d0) (Nat.le_refl _) (Nat.le_refl _)
  generalize hT1 : (T.setVm vm₁).pushCell { cls := cX, slots := kX.instanceTypes.map defaultValue, vm := .none } = T1 at X₁ st1
  have hcat : (Value.ref T.heap.size).category = 1 := rfl
  have hcellA : T1.heap[T.heap.size]? = some (freshCell cX kX) := by rw [← hT1]; exact State.heap_pushCell_size _ _
  have d3' : decode c.code (pc + 3) = .ok (.dup, 1) := by rw [hb]; exact d3
  have d4' : decode c.code (pc + 4) = .ok (.ldc_w is, 3) := by rw [hb]; exact d4
  have hstr' : vk_R own is text sa s' := vk_R.warm hW0 hstr
  obtain ⟨U, hsteps, hrun, hend, hW, hsame, ce, hce, hO⟩ := X₁.ctorThrowS hexec htr (own := own) (cls := cls) (names := names) (ic := ic) hown' hcls hnames h (fun x hx => nomatch hx) hfX hkX hcellA (by rw [hhp, hT]; exact Nat.le_refl _) (msg := .ref sa) rfl
    (g := { method := m, pc := pc + 7, locals := ls, stack := .ref sa :: .ref T.heap.size :: .ref T.heap.size :: rest, locked := none }) rfl hsize rfl rfl (rest := rest) rfl
    (by rw [hb]; exact d7) (by rw [hb]; exact d10) hout hRframes (by simp only [List.map_cons, List.sum_cons, hcat]; omega) hlocks
  obtain ⟨f1, f2⟩ := vx_frame hsame
  rw [hhp] at f1 f2
  have hWs : s.WarmedH U.vm := State.WarmedH.trans hW0 hW
  have hcl : s.vm.findClass cls = some ce.cls := by
    have h9 := hO.cls
    rw [hvm] at h9
    exact h9
  have hall : s.sameButNew ({ U with vm := s.vm } : State) locs mc ms := by
    subst hA
    obtain ⟨e1, e2⟩ := hsame
    rw [State.setFrames_setFrames] at e1
    have h2 : (T.setVm s.vm).sameButNew ({ U with vm := s.vm } : State) [] (0 + 1) (0 + 6) := ⟨e1, e2⟩
    have h3 := X.same.trans h2
    rw [List.append_nil] at h3
    exact h3.mono hc hs
  refine ⟨U, ?_, .threw T.heap.size, hrun, hend, Or.inr ⟨T.heap.size, rfl, cls, ce, locs, hx U hWs.alike f1 (fun q hq => f2 q hq (fun z hz => nomatch hz)), hce, hO.vm, hcl, hWs, hall, hf⟩⟩
  refine st1 _ ?_
  show Steps p.tables e below (T1.setTop { method := m, pc := pc + 3, locals := ls, stack := .ref T.heap.size :: rest, locked := none }) _
  jvm_step X₁.here [X₁.here.top, hexec, d3', Value.category]
  exact X₁.ldcStringW hexec (own := own) (text := text) (index := is) (a := sa) hown' hstr'.1 hstr'.2
    (g := { method := m, pc := pc + 4, locals := ls, stack := .ref T.heap.size :: .ref T.heap.size :: rest, locked := none }) rfl d4' _ hsteps
end Ends
section Bodies
variable {l : Launch}
theorem vx_ofW {y : MethodName} {ws ws' : List Cond} {rm : Room} {Pc : Array Value → State → Prop} {Qc : Array Value → State → Outcome → State → Prop} {XC : String → State → State → Prop} {mc ms : Nat} {free : Addr → Prop} {cc : ByteArray} {maxL : Nat} {ret : Option FieldType}
    (hy : plainName y.cls = true) (hw : ws = Cond.code y cc maxL ret :: ws')
    (body : ∀ p e s m args below meth c s₁, BodyLoose p l y (headSpec ws rm) cc maxL ret e s m args below meth c s₁ → c.maxLocals = maxL → (∀ x ∈ c.exceptionTable.toList, False) → Pc args s →
      W p l e (headSpec ws rm).room s m args below meth c s.heap [] 0 0 (vx_MQ below Qc XC args s mc ms free) (entryFrame m args maxL)) : vx_Met l y ws rm Pc Qc XC mc ms free := by
  refine MetFree.of_bodyS (code := cc) (maxLocals := maxL) (ret := ret) hy ?_ ?_
  · intro args s m h hn
    obtain ⟨meth, c, h1, h2, h3, h4, h5, h6, -, -⟩ := Cond.code_spec hn (atoms_spec (ws := ws) h _ (by rw [hw]; exact List.mem_cons_self))
    exact ⟨meth, c, h1, h2, h3, h4, h5, h6⟩
  · intro p e s m args below meth c s₁ B hml hP _
    have hh0 : s₁.heap = s.heap := by rw [B.state]; rfl
    have ht : ∀ x ∈ c.exceptionTable.toList, False := by
      obtain ⟨meth9, c9, h1, h2, -, -, -, -, h7, -⟩ := Cond.code_spec B.named (atoms_spec (ws := ws) B.pre _ (by rw [hw]; exact List.mem_cons_self))
      cases Option.some.inj (h1.symm.trans B.method)
      cases Option.some.inj (h2.symm.trans (Stand.of_body B).code)
      intro x hx
      rw [Array.isEmpty_iff.mp h7] at hx
      cases hx
    obtain ⟨t, a1, o, b1, b2, b3⟩ := body p e s m args below meth c s₁ B hml ht hP s₁ hh0 (Stand.of_body B)
    exact ⟨t, o, a1, b1, b2, b3⟩
/-- the table of a body with handlers -/
theorem vx_table {p : Program} {x y : MethodName} {S : Spec} {cc bytes : ByteArray} {maxL maxL' : Nat} {ret ret' : Option FieldType} {e : Env} {s s₁ : State} {m : MethodId} {args : Array Value} {below : List Frame} {meth : Method} {c : Code} {hh : List (Nat × Nat × Nat × Nat)}
    (B : BodyLoose p l y S cc maxL ret e s m args below meth c s₁) (h : (Cond.codeWith y bytes maxL' ret' hh).before args s = true) : c.exceptionTable.toList = tableOf hh := by
  obtain ⟨m9, meth9, c9, hn9, h1, h2, -, -, h6, -⟩ := Cond.codeWith_spec h
  cases Option.some.inj (hn9.symm.trans B.named)
  cases Option.some.inj (h1.symm.trans B.method)
  cases Option.some.inj (h2.symm.trans (Stand.of_body B).code)
  rw [← h6, table_eq]
end Bodies
end VXA
/-! ===== END ===== -/
/-! ===== BEGIN a static call of a method with an exception table ===== -/
section VXS
variable {p : Program} {l : Launch} {e : Env} {R : Room} {s : State} {m : MethodId} {args : Array Value} {below : List Frame} {meth : Method} {c : Code} {T : State} {H : Heap} {locs : List Loc} {cells slots : Nat}
abbrev vx_CSW (R : Room) (s : State) (args : Array Value) (own : String) (index : Nat) (y : MethodName) (bytes : ByteArray) (maxL : Nat) (ret : Option FieldType) (hh : List (Nat × Nat × Nat × Nat)) (ws : List Cond) (rm : Room) (mc ms n : Nat) : Prop :=
  (rm.cells = mc ∧ rm.slots = ms ∧ rm.frames + 1 ≤ R.frames ∧ 8 + (maxL + 11) + rm.locals ≤ R.locals ∧ (∀ w ∈ ws, ∀ (a' : Array Value) (U : State), s.WarmedH U.vm → w.before a' U = true) ∧ Cond.codeWith y bytes maxL ret hh ∈ ws) ∧
  (Cond.codeWith y bytes maxL ret hh).before args s = true ∧ (Cond.initialized y.cls).before args s = true ∧ (y.cls ≠ "java/lang/invoke/MethodHandle" ∧ y.cls ≠ "java/lang/invoke/VarHandle") ∧
  (∀ sig, parseMethodDescriptor y.desc = some sig → n = sig.parameters.length) ∧ (Cond.methodLink own index y).before args s = true ∧ (Cond.static y).before args s = true
theorem vx_cwSW {own : String} {index maxL mc ms : Nat} {y : MethodName} {bytes : ByteArray} {ret : Option FieldType} {hh : List (Nat × Nat × Nat × Nat)} {Ts ws ws' : List Cond} {rm : Room} (n : Nat) (ht : ∀ w ∈ Ts, w.before args s = true) (hT : GoodIn Ts (va_wsS own index y ws)) (hw : ws = Cond.codeWith y bytes maxL ret hh :: ws') (hrc : rm.cells = mc) (hrs : rm.slots = ms)
    (hd : y.cls ≠ "java/lang/invoke/MethodHandle" ∧ y.cls ≠ "java/lang/invoke/VarHandle" ∧ (parseMethodDescriptor y.desc).map (fun d => d.parameters.length) = some n) (hR : rm.frames + 1 ≤ R.frames ∧ 8 + (maxL + 11) + rm.locals ≤ R.locals) :
    vx_CSW R s args own index y bytes maxL ret hh ws rm mc ms n := by
  have ok : ∀ w ∈ va_wsS own index y ws, w.before args s = true := fun w h => ht w (hT w h).1
  have hG : GoodIn Ts ws := fun w h => hT w (by unfold va_wsS; exact List.mem_append_right _ h)
  have hc : Cond.codeWith y bytes maxL ret hh ∈ ws := by rw [hw]; exact List.mem_cons_self
  refine ⟨⟨hrc, hrs, hR.1, hR.2, pay_in ht hG, hc⟩, ht _ (hG _ hc).1, ok _ (by simp [va_wsS]), ⟨hd.1, hd.2.1⟩, fun sig h => ?_, ok _ (by simp [va_wsS]), ok _ (by simp [va_wsS])⟩
  have h2 := hd.2.2
  rw [h] at h2
  exact (Option.some.inj h2).symm
theorem vx_callSW (X : Stand p l e R s m args below meth c T locs cells slots) (hexec : p.tables.exec = Jvm.exec) {own : String} {index : Nat} {y : MethodName} {bytes : ByteArray} {maxL : Nat} {ret : Option FieldType} {hh : List (Nat × Nat × Nat × Nat)}
    (hown : s.vm.findClass own = some m.cls) (hlink : (Cond.methodLink own index y).before args s = true) (hstat : (Cond.static y).before args s = true) (hinit : (Cond.initialized y.cls).before args s = true)
    (hcode : (Cond.codeWith y bytes maxL ret hh).before args s = true) (hy : y.cls ≠ "java/lang/invoke/MethodHandle" ∧ y.cls ≠ "java/lang/invoke/VarHandle")
    {W9 : Nat} {Pre : Pt → Array Value → Prop} {Post : Pt → Array Value → Option Value → Pt → Prop} (hK : Back l R p e below s args y 3 W9 Pre Post)
    {g : JFrame} (hg : g.method = m) (hsize : g.locals.size = c.maxLocals) {argsL rest : List Value} (hlen : ∀ sig, parseMethodDescriptor y.desc = some sig → argsL.length = sig.parameters.length)
    (hstack : g.stack = argsL.reverse ++ rest) (hW : 2 * g.monitorRoom + (rest.map fun v => v.category).sum ≤ W9) (hdg : decode c.code g.pc = .ok (.invokestatic index, 3))
    (hpre : ∀ vm₁, s.WarmedH vm₁ → Pre ⟨T.setVm vm₁, locs, cells, slots⟩ argsL.toArray) :
    ∃ (v : Option Value) (vm₁ : Vm) (B : Pt), s.WarmedH vm₁ ∧ Stand p l e R s m args below meth c B.U B.locs B.cells B.slots ∧ Post ⟨T.setVm vm₁, locs, cells, slots⟩ argsL.toArray v B ∧
      ∀ target, Steps p.tables e below (B.U.setTop { g with pc := g.pc + 3, stack := v.toList ++ rest }) target → Steps p.tables e below (T.setTop g) target := by
  obtain ⟨mk, methM, cM, hnamed, hmethM, -, -, -, -, -, -, hsigM⟩ := Cond.codeWith_spec hcode
  have hstatic : methM.isStatic = true := Cond.static_spec hnamed hmethM hstat
  obtain ⟨kP, hkP, -⟩ := className_of_methodNamed hnamed
  have hinitP : kP.init = .initialized := Cond.initialized_spec (findClass_of_methodNamed hnamed) hkP hinit
  obtain ⟨vm₁, X₁, hstep₁⟩ := X.invokestatic hexec hown hlink hnamed hmethM hstatic hkP hinitP hy (g := g) hg (argsL := argsL) (rest := rest) (hlen _ hsigM) hstack hdg
  obtain ⟨v, B, X', hpost, hsteps⟩ := hK m meth c ⟨T.setVm vm₁, locs, cells, slots⟩ { g with stack := rest } (.invokestatic index) mk argsL.toArray X₁ hg hsize hdg hW (X₁.named hnamed) (hpre vm₁ X₁.warmed)
  exact ⟨v, vm₁, B, X₁.warmed, X', hpost, fun target h => hstep₁ _ fun acts => by rw [doInvoke_state]; exact hsteps.trans h⟩
theorem vx_runSW {y : MethodName} {bytes cc : ByteArray} {maxL nL mc ms n index : Nat} {ret : Option FieldType} {hh : List (Nat × Nat × Nat × Nat)} {ws : List Cond} {rm : Room} {Pc : Array Value → State → Prop} {Qc : Array Value → State → Outcome → State → Prop} {free : Addr → Prop} {Ts : List Cond} {own : String} {As rest : List Value} {g : JFrame}
    (S : CallFix p m c cc nL s args Ts own) (hM : Met l y ws rm Pc Qc mc ms free) (cw : vx_CSW R s args own index y bytes maxL ret hh ws rm mc ms n) (hp : PreS s H Pc As)
    (hg : g.method = m) (hn : As.length = n) (hsize : g.locals.size = nL) (hstack : g.stack = As.reverse ++ rest) (hW : 2 * g.monitorRoom + (rest.map fun v => v.category).sum ≤ 8) (hdg : decode cc g.pc = .ok (.invokestatic index, 3)) (hf : cells + mc ≤ R.cells ∧ slots + ms ≤ R.slots) :
    va_Run p l e R s m args below meth c H locs cells slots mc ms g rest (Qc As.toArray) (free) := by
  obtain ⟨⟨hrc, hrs, hfr, hlo, hws, hcw⟩, hcode, hini, hy, hlen, hl, hstt⟩ := cw
  have hK : Back l R p e below s args y 3 8 (PreOf R mc ms Pc) (PostOf Qc mc ms free) := va_backW (hh := hh) (bytes := bytes) (maxL := maxL) (ret := ret) hM hp.1 hrc hrs hfr hlo hws hcw (fun a' U hW => word_at hW (Or.inl (by first | rfl | simp [Cond.onTables, Cond.keeps, Cond.steady])) hini)
  obtain ⟨hx, hb, hml, ho, -⟩ := S
  intro T hT X
  obtain ⟨v, vm₁, ⟨U', l2, c2, s2⟩, hW₁, X', ⟨g', mk, t, L, e1, e2, hq, h1, hL, h2, h3⟩, st⟩ := vx_callSW X hx (hh := hh) (bytes := bytes) (maxL := maxL) (ret := ret) ho hl hstt hini hcode hy hK hg (hsize.trans hml.symm) (argsL := As) (rest := rest) (fun sig h => hn.trans (hlen sig h)) hstack hW (by rw [hb]; exact hdg)
    (fun vm₁ hW₁ => ⟨hf.1, hf.2, hp.2 (T.setVm vm₁) hT hW₁⟩)
  dsimp only [Pt.U, Pt.locs, Pt.cells, Pt.slots] at X' e1 e2 h1 h2 h3 st
  subst h1; subst h2; subst h3
  exact ⟨v, (T.setVm vm₁).calling g' mk As.toArray, t, U', L, hT, X', hL, e1, e2, hq, st⟩
/-- not caught here, past rows that name other classes: it goes on to the caller -/
theorem vx_outP {p : Program} {l : Launch} {e : Env} {R : Room} {s : State} {m : MethodId} {args : Array Value} {below : List Frame} {meth : Method} {c : Code} {H : Heap} {locs : List Loc} {cells slots : Nat} {free : Addr → Prop} {ls : Array Slot} {rest : List Value} {Qc : Array Value → State → Outcome → State → Prop} {XC : String → State → State → Prop}
    {pc : Nat} {own E : String} {ce : Cell} {q : Addr} {mc ms : Nat} (hown : s.vm.findClass own = some m.cls) (hlocks : meth.locks = false)
    (hpass : ∀ z ∈ c.exceptionTable.toList, covers z pc = false ∨ (z.catchType ≠ 0 ∧ ∃ nm : String, (Cond.classLink own z.catchType nm).before args s = true ∧ va_Nc E nm s)) (hcell : H[q]? = some ce) (hv : ce.vm = .none) (hcl : s.vm.findClass E = some ce.cls)
    (hx : ∀ t : State, t.heap = H → s.vm.Alike t.vm → XC E s t) (hf : ∀ z ∈ locs, free z.base) (hc : cells ≤ mc) (hs : slots ≤ ms) :
    vx_W p l e R s m args below meth c H locs cells slots (vx_MQ below Qc XC args s mc ms free) (F0 m pc ls rest) q := by
  intro T hT X
  have hpl : e.platform.magicAccessors = ({} : Platform).magicAccessors := by rw [X.admits.platform]
  obtain ⟨vm', hW', X', st⟩ := X.outThrough hlocks q (g := F0 m pc ls rest) rfl rfl rfl (cell := ce) (by rw [hT]; exact hcell) (by rw [hv]; rfl)
    (by obtain ⟨k9, h9, -⟩ := Vm.findClass_spec hcl; exact ⟨k9, h9⟩) (fun z hz => by
      rcases hpass z hz with h | ⟨hz0, nm, hl1, hn1⟩
      · exact Or.inl h
      · obtain ⟨c6, hc6, hcl6⟩ := Cond.classLink_spec hown hl1 e.platform hpl
        obtain ⟨a8, b8, h1, h2, h3⟩ := hn1
        cases Option.some.inj (h1.symm.trans hcl)
        cases Option.some.inj (h2.symm.trans hc6)
        exact Or.inr ⟨hz0, _, hcl6, h3⟩)
  obtain ⟨g₀, hfr⟩ := X'.frames_eq
  have hcell9 : ((T.setVm vm').setFrames (.throwing q :: below)).heap[q]? = some ce := by
    show T.heap[q]? = some ce
    rw [hT]; exact hcell
  have hend : Ended ((T.setVm vm').setFrames (.throwing q :: below)) below (.threw q) := State.frames_setFrames _ (State.cur_lt_of_frames hfr)
  refine ⟨(T.setVm vm').setFrames (.throwing q :: below), ?_, .threw q, X'.here.running, hend, Or.inr ⟨q, rfl, E, ce, locs, hx _ hT (X'.ends _).1.alike, hcell9, hv, hcl, (X'.ends _).1, (X'.ends _).2.mono hc hs, hf⟩⟩
  rw [X.pushThrowing_eq]
  exact st
/-- a thing of a world lies in the heap -/
theorem vx_lt {D : va_G} {cl : List vw_C} {ws : va_W} {H1 : Heap} (h : va_P D cl ws H1) {k : Nat} {q : Nat × va_E} (hk : ws[k]? = some q) : q.1 < H1.size := (h k q hk).lt
end VXS
/-! ===== END ===== -/
/-! ===== BEGIN methods with a table of their own: called by a name, returning or throwing ===== -/
section VXH
/-! vx_backW, vx_callVX, vx_callSX, vx_callVW, vx_runVW, vx_runVX, vx_runSX, vx_ofWH follow the same proofs as their sisters above (Free/Laws.lean, Shelf42/LK1.lean); vx_outP calls Shelf42/NT130.lean (outThrough). -/
section
variable {l : Launch} {R : Room} {p : Program} {e : Env} {below : List Frame} {s : State} {sargs : Array Value} {y : MethodName} {len W9 : Nat}
theorem vx_backW {ws : List Cond} {rm : Room} {Pc : Array Value → State → Prop} {Qc : Array Value → State → Outcome → State → Prop} {XC : String → State → State → Prop} {mc ms : Nat} {free : Addr → Prop} {bytes : ByteArray} {maxL : Nat} {ret : Option FieldType} {hh : List (Nat × Nat × Nat × Nat)}
    (hM : vx_Met l y ws rm Pc Qc XC mc ms free) (hblind : FrameBlind Pc) (hrc : rm.cells = mc) (hrs : rm.slots = ms)
    (hframes : rm.frames + 1 ≤ R.frames) (hlocals : W9 + (maxL + 11) + rm.locals ≤ R.locals)
    (hws : ∀ w ∈ ws, ∀ a' U, s.WarmedH U.vm → w.before a' U = true) (hcode : Cond.codeWith y bytes maxL ret hh ∈ ws) (hinit : ∀ a' U, s.WarmedH U.vm → (Cond.initialized y.cls).before a' U = true) :
    vx_Back l R p e below s sargs y len W9 (PreOf R mc ms Pc) (PostOf Qc mc ms free) (vx_Post XC mc ms free) := by
  intro m meth c A g ig mk a X hg hsize hdg hW hn hp
  have h1 : (headSpec ws rm).pre.before a A.U = true := atoms_intro fun w hw => hws w hw _ _ X.warmed
  have h2 : (Cond.codeWith y bytes maxL ret hh).before a A.U = true := hws _ hcode _ _ X.warmed
  have h3 : (Cond.initialized y.cls).before a A.U = true := hinit _ _ X.warmed
  have h4 : A.cells + (headSpec ws rm).room.cells ≤ R.cells := by rw [show (headSpec ws rm).room.cells = mc from hrc]; exact hp.1
  have h5 : A.slots + (headSpec ws rm).room.slots ≤ R.slots := by rw [show (headSpec ws rm).room.slots = ms from hrs]; exact hp.2.1
  have hPc : Pc a (A.U.calling g mk a) := hblind _ _ _ _ hp.2.2
  obtain ⟨U, Ls, c0, s0⟩ := A
  dsimp only [Pt.U, Pt.locs, Pt.cells, Pt.slots] at h1 h2 h3 h4 h5 X hn hPc ⊢
  obtain ⟨m9, methY, cY, hn9, hmY, hcY, -, hlY, -⟩ := Cond.codeWith_spec h2
  cases Option.some.inj (hn9.symm.trans hn)
  obtain ⟨kY, hkY, -⟩ := className_of_methodNamed hn
  have hinitY : kY.init = .initialized := Cond.initialized_spec (findClass_of_methodNamed hn) hkY h3
  have h : At U g.method c below := by rw [hg]; exact X.here
  have hlocals9 : W9 + (maxL + 11) + (headSpec ws rm).room.locals ≤ R.locals := hlocals
  have happ : (headSpec ws rm).appliesLoose y e.platform (U.calling g mk a) = true :=
    Spec.appliesLoose_calling (g := g) h hdg hn hkY hinitY
      (X.room_calling (g := g) (R' := (headSpec ws rm).room) hsize hmY hcY hframes (by rw [hlY]; omega) h4 h5) h1
  obtain ⟨mid, hmid⟩ := h.above
  have hfr : (U.setTop g).frames = (.java g :: mid) ++ below := by rw [State.frames_setTop' g h.top, hmid]; rfl
  obtain ⟨o, s₂, hsteps, -, hend, hq⟩ := Steps.callFree hM p X.admits X.cas X.clock (acts := []) hfr happ hPc trivial
  have hq' : vx_Q Qc XC mc ms free a (U.calling g mk a) o s₂ := hq
  rw [State.frames_setTop' g h.top] at hend
  obtain ⟨g₀, hg0⟩ := Option.isSome_iff_exists.mp h.top
  obtain ⟨r, hr⟩ := State.topJava?_eq_some.mp hg0
  have hr' : (({ U with heap := s₂.heap, slotsUsed := s₂.slotsUsed } : State).setVm s₂.vm).frames = .java g₀ :: r := hr
  rcases hq' with ⟨hqc, L, hfe, hL⟩ | ⟨q, rfl, E, ce, L, hx, hce, hcv, hcl, hW₂, hsm, hL⟩
  · obtain ⟨⟨v, rfl⟩, hW₂, e2, q2, q3, q4, q5, q6⟩ := id hfe
    have e3 : s₂ = ({ (U.calling g mk a).setFrames s₂.frames with heap := s₂.heap, slotsUsed := s₂.slotsUsed } : State).setVm s₂.vm := by
      have : s₂ = ({ s₂ with vm := (U.calling g mk a).vm } : State).setVm s₂.vm := rfl
      rw [e2] at this
      exact this
    obtain ⟨c₂, i₂, len₂, hc₂, hd₂, hf₂⟩ := hend
    have hW' : U.WarmedH s₂.vm := hW₂
    have hcc : c₂ = c := by
      have h1 : s₂.code? g.method = U.code? g.method := by
        rw [State.code?_eq, State.code?_eq, hW'.alike.method?]
      exact Option.some.inj (hc₂.symm.trans (h1.trans h.code))
    subst hcc
    have hlen : len₂ = len := by rw [hdg] at hd₂; cases hd₂; rfl
    subst hlen
    have hs₂ : s₂ = (({ U with heap := s₂.heap, slotsUsed := s₂.slotsUsed } : State).setVm s₂.vm).setTop { g with pc := g.pc + len₂, stack := v.toList ++ g.stack } := by
      refine e3.trans ?_
      rw [hf₂, State.calling_eq h.top, State.setFrames_setFrames, State.setTop_of_frames _ hr', hr]
      rfl
    have hsame : U.sameButNew ({ U with heap := s₂.heap, slotsUsed := s₂.slotsUsed } : State) L mc ms := by
      refine ⟨?_, q2, q3, q4, q5, q6⟩
      obtain ⟨t, ht, -⟩ := State.frames_cons hr
      show ({ U with heap := s₂.heap, slotsUsed := s₂.slotsUsed } : State) = { U.setFrames U.frames with heap := s₂.heap, slotsUsed := s₂.slotsUsed }
      rw [State.setFrames_self ht]
    subst hg
    refine Or.inl ⟨v, ⟨(({ U with heap := s₂.heap, slotsUsed := s₂.slotsUsed } : State).setVm s₂.vm), Ls ++ L, c0 + mc, s0 + ms⟩,
      ⟨X.admits, X.cas, X.clock, X.frames, X.room, X.hears, X.method, X.code, (X.here.setHeapUsed s₂.heap s₂.slotsUsed).setVm hW'.alike, X.tail, State.WarmedH.trans X.warmed hW', X.limits, X.bytes, X.same.trans (hsame.setVm s.vm)⟩,
      ⟨g, mk, s₂, L, rfl, rfl, hqc, rfl, hL, rfl, rfl⟩, ?_⟩
    show Steps p.tables e below _ ((({ U with heap := s₂.heap, slotsUsed := s₂.slotsUsed } : State).setVm s₂.vm).setTop { g with pc := g.pc + len₂, stack := v.toList ++ g.stack })
    rw [← hs₂]
    exact hsteps
  · obtain ⟨e2, q2, q3, q4, q5, q6⟩ := id hsm
    have e3 : s₂ = ({ (U.calling g mk a).setFrames s₂.frames with heap := s₂.heap, slotsUsed := s₂.slotsUsed } : State).setVm s₂.vm := by
      have : s₂ = ({ s₂ with vm := (U.calling g mk a).vm } : State).setVm s₂.vm := rfl
      rw [e2] at this
      exact this
    have hf₂ : s₂.frames = .throwing q :: .java g :: U.frames.tail := hend
    have hW' : U.WarmedH s₂.vm := hW₂
    have hs₂ : s₂ = ((({ U with heap := s₂.heap, slotsUsed := s₂.slotsUsed } : State).setVm s₂.vm).setTop g).pushFrame (.throwing q) := by
      refine e3.trans ?_
      rw [hf₂, State.calling_eq h.top, State.setFrames_setFrames, State.pushFrame, State.frames_setTop _ hr', State.setTop_of_frames _ hr', State.setFrames_setFrames, hr]
      rfl
    have hsame : U.sameButNew ({ U with heap := s₂.heap, slotsUsed := s₂.slotsUsed } : State) L mc ms := by
      refine ⟨?_, q2, q3, q4, q5, q6⟩
      obtain ⟨t, ht, -⟩ := State.frames_cons hr
      show ({ U with heap := s₂.heap, slotsUsed := s₂.slotsUsed } : State) = { U.setFrames U.frames with heap := s₂.heap, slotsUsed := s₂.slotsUsed }
      rw [State.setFrames_self ht]
    subst hg
    refine Or.inr ⟨q, ⟨(({ U with heap := s₂.heap, slotsUsed := s₂.slotsUsed } : State).setVm s₂.vm), Ls ++ L, c0 + mc, s0 + ms⟩,
      ⟨X.admits, X.cas, X.clock, X.frames, X.room, X.hears, X.method, X.code, (X.here.setHeapUsed s₂.heap s₂.slotsUsed).setVm hW'.alike, X.tail, State.WarmedH.trans X.warmed hW', X.limits, X.bytes, X.same.trans (hsame.setVm s.vm)⟩,
      ⟨g, mk, s₂, L, E, ce, rfl, rfl, hx, hce, hcv, hcl, rfl, hL, rfl, rfl⟩, ?_⟩
    show Steps p.tables e below _ (((({ U with heap := s₂.heap, slotsUsed := s₂.slotsUsed } : State).setVm s₂.vm).setTop g).pushFrame (.throwing q))
    rw [← hs₂]
    exact hsteps
end
variable {p : Program} {l : Launch} {e : Env} {R : Room} {s : State} {m : MethodId} {args : Array Value} {below : List Frame} {meth : Method} {c : Code} {T : State} {H : Heap} {locs : List Loc} {cells slots : Nat}
theorem vx_callVX (X : Stand p l e R s m args below meth c T locs cells slots) (hexec : p.tables.exec = Jvm.exec) {own C : String} {index : Nat} {y : MethodName} {bytes : ByteArray} {maxL : Nat} {ret : Option FieldType} {hh : List (Nat × Nat × Nat × Nat)}
    (hown : s.vm.findClass own = some m.cls) (hlink : (Cond.methodLink own index y).before args s = true) (hinst : (Cond.instanceMethod y).before args s = true) (hsel : (Cond.selects C y y).before args s = true)
    (hcode : (Cond.codeWith y bytes maxL ret hh).before args s = true) (hy : y.cls ≠ "java/lang/invoke/MethodHandle" ∧ y.cls ≠ "java/lang/invoke/VarHandle")
    {W9 : Nat} {Pre : Pt → Array Value → Prop} {Post : Pt → Array Value → Option Value → Pt → Prop} {PostX : Pt → Array Value → Addr → Pt → Prop} (hK : vx_Back l R p e below s args y 3 W9 Pre Post PostX)
    {b : Addr} {cellB : Cell} (hcell : T.heap[b]? = some cellB) (hobj : cellB.vm.isStatics = false) (hcls : s.vm.findClass C = some cellB.cls)
    {g : JFrame} (hg : g.method = m) (hsize : g.locals.size = c.maxLocals) {argsL rest : List Value} (hlen : ∀ sig, parseMethodDescriptor y.desc = some sig → argsL.length = sig.parameters.length)
    (hstack : g.stack = argsL.reverse ++ .ref b :: rest) (hW : 2 * g.monitorRoom + (rest.map fun v => v.category).sum ≤ W9) (hdg : decode c.code g.pc = .ok (.invokevirtual index, 3))
    (hpre : ∀ vm₁, s.WarmedH vm₁ → Pre ⟨T.setVm vm₁, locs, cells, slots⟩ (Value.ref b :: argsL).toArray) :
    (∃ (v : Option Value) (vm₁ : Vm) (B : Pt), s.WarmedH vm₁ ∧ Stand p l e R s m args below meth c B.U B.locs B.cells B.slots ∧ Post ⟨T.setVm vm₁, locs, cells, slots⟩ (Value.ref b :: argsL).toArray v B ∧
      ∀ target, Steps p.tables e below (B.U.setTop { g with pc := g.pc + 3, stack := v.toList ++ rest }) target → Steps p.tables e below (T.setTop g) target) ∨
    (∃ (q : Addr) (vm₁ : Vm) (B : Pt), s.WarmedH vm₁ ∧ Stand p l e R s m args below meth c B.U B.locs B.cells B.slots ∧ PostX ⟨T.setVm vm₁, locs, cells, slots⟩ (Value.ref b :: argsL).toArray q B ∧
      Steps p.tables e below (T.setTop g) ((B.U.setTop { g with stack := rest }).pushFrame (.throwing q))) := by
  obtain ⟨mk, methM, hnamed, hmethM, hstM, habM⟩ := Cond.instanceMethod_spec hinst
  obtain ⟨m8, methM', cM, hn8, hmethM', -, -, -, -, -, -, hsigM⟩ := Cond.codeWith_spec hcode
  cases Option.some.inj (hn8.symm.trans hnamed)
  cases hmethM.symm.trans hmethM'
  obtain ⟨c2, r2, m2, q1, q2, q3, q4, kP, hkP, hkPi⟩ := Cond.selects_spec hsel
  cases hcls.symm.trans q1
  cases (State.methodFound?_of_named hnamed hy).symm.trans q2
  cases hnamed.symm.trans q3
  have hselP : selectMethod e.platform s.vm cellB.cls mk = .method mk := by rw [Launch.admits_selectMethod X.admits]; exact q4
  obtain ⟨vm₁, X₁, hstep₁⟩ := X.invokevirtual hexec hown hlink hnamed hmethM hstM hkP hkPi hy (a := b) (cell := cellB) hcell
    (fun z h => by rw [h] at hobj; cases hobj) hselP hmethM habM hkP hkPi (g := g) hg (argsL := argsL) (rest := rest) (hlen _ hsigM) hstack hdg
  rcases hK m meth c ⟨T.setVm vm₁, locs, cells, slots⟩ { g with stack := rest } (.invokevirtual index) mk (Value.ref b :: argsL).toArray X₁ hg hsize hdg hW (X₁.named hnamed) (hpre vm₁ X₁.warmed) with ⟨v, B, X', hpost, hsteps⟩ | ⟨q, B, X', hpost, hsteps⟩
  · exact Or.inl ⟨v, vm₁, B, X₁.warmed, X', hpost, fun target h => hstep₁ _ fun acts => by rw [doInvoke_state]; exact hsteps.trans h⟩
  · exact Or.inr ⟨q, vm₁, B, X₁.warmed, X', hpost, hstep₁ _ fun acts => by rw [doInvoke_state]; exact hsteps⟩
theorem vx_callSX (X : Stand p l e R s m args below meth c T locs cells slots) (hexec : p.tables.exec = Jvm.exec) {own : String} {index : Nat} {y : MethodName} {bytes : ByteArray} {maxL : Nat} {ret : Option FieldType} {hh : List (Nat × Nat × Nat × Nat)}
    (hown : s.vm.findClass own = some m.cls) (hlink : (Cond.methodLink own index y).before args s = true) (hstat : (Cond.static y).before args s = true) (hinit : (Cond.initialized y.cls).before args s = true)
    (hcode : (Cond.codeWith y bytes maxL ret hh).before args s = true) (hy : y.cls ≠ "java/lang/invoke/MethodHandle" ∧ y.cls ≠ "java/lang/invoke/VarHandle")
    {W9 : Nat} {Pre : Pt → Array Value → Prop} {Post : Pt → Array Value → Option Value → Pt → Prop} {PostX : Pt → Array Value → Addr → Pt → Prop} (hK : vx_Back l R p e below s args y 3 W9 Pre Post PostX)
    {g : JFrame} (hg : g.method = m) (hsize : g.locals.size = c.maxLocals) {argsL rest : List Value} (hlen : ∀ sig, parseMethodDescriptor y.desc = some sig → argsL.length = sig.parameters.length)
    (hstack : g.stack = argsL.reverse ++ rest) (hW : 2 * g.monitorRoom + (rest.map fun v => v.category).sum ≤ W9) (hdg : decode c.code g.pc = .ok (.invokestatic index, 3))
    (hpre : ∀ vm₁, s.WarmedH vm₁ → Pre ⟨T.setVm vm₁, locs, cells, slots⟩ argsL.toArray) :
    (∃ (v : Option Value) (vm₁ : Vm) (B : Pt), s.WarmedH vm₁ ∧ Stand p l e R s m args below meth c B.U B.locs B.cells B.slots ∧ Post ⟨T.setVm vm₁, locs, cells, slots⟩ argsL.toArray v B ∧
      ∀ target, Steps p.tables e below (B.U.setTop { g with pc := g.pc + 3, stack := v.toList ++ rest }) target → Steps p.tables e below (T.setTop g) target) ∨
    (∃ (q : Addr) (vm₁ : Vm) (B : Pt), s.WarmedH vm₁ ∧ Stand p l e R s m args below meth c B.U B.locs B.cells B.slots ∧ PostX ⟨T.setVm vm₁, locs, cells, slots⟩ argsL.toArray q B ∧
      Steps p.tables e below (T.setTop g) ((B.U.setTop { g with stack := rest }).pushFrame (.throwing q))) := by
  obtain ⟨mk, methM, cM, hnamed, hmethM, -, -, -, -, -, -, hsigM⟩ := Cond.codeWith_spec hcode
  have hstatic : methM.isStatic = true := Cond.static_spec hnamed hmethM hstat
  obtain ⟨kP, hkP, -⟩ := className_of_methodNamed hnamed
  have hinitP : kP.init = .initialized := Cond.initialized_spec (findClass_of_methodNamed hnamed) hkP hinit
  obtain ⟨vm₁, X₁, hstep₁⟩ := X.invokestatic hexec hown hlink hnamed hmethM hstatic hkP hinitP hy (g := g) hg (argsL := argsL) (rest := rest) (hlen _ hsigM) hstack hdg
  rcases hK m meth c ⟨T.setVm vm₁, locs, cells, slots⟩ { g with stack := rest } (.invokestatic index) mk argsL.toArray X₁ hg hsize hdg hW (X₁.named hnamed) (hpre vm₁ X₁.warmed) with ⟨v, B, X', hpost, hsteps⟩ | ⟨q, B, X', hpost, hsteps⟩
  · exact Or.inl ⟨v, vm₁, B, X₁.warmed, X', hpost, fun target h => hstep₁ _ fun acts => by rw [doInvoke_state]; exact hsteps.trans h⟩
  · exact Or.inr ⟨q, vm₁, B, X₁.warmed, X', hpost, hstep₁ _ fun acts => by rw [doInvoke_state]; exact hsteps⟩
theorem vx_callVW (X : Stand p l e R s m args below meth c T locs cells slots) (hexec : p.tables.exec = Jvm.exec) {own C : String} {index : Nat} {y : MethodName} {bytes : ByteArray} {maxL : Nat} {ret : Option FieldType} {hh : List (Nat × Nat × Nat × Nat)}
    (hown : s.vm.findClass own = some m.cls) (hlink : (Cond.methodLink own index y).before args s = true) (hinst : (Cond.instanceMethod y).before args s = true) (hsel : (Cond.selects C y y).before args s = true)
    (hcode : (Cond.codeWith y bytes maxL ret hh).before args s = true) (hy : y.cls ≠ "java/lang/invoke/MethodHandle" ∧ y.cls ≠ "java/lang/invoke/VarHandle")
    {W9 : Nat} {Pre : Pt → Array Value → Prop} {Post : Pt → Array Value → Option Value → Pt → Prop} (hK : Back l R p e below s args y 3 W9 Pre Post)
    {b : Addr} {cellB : Cell} (hcell : T.heap[b]? = some cellB) (hobj : cellB.vm.isStatics = false) (hcls : s.vm.findClass C = some cellB.cls)
    {g : JFrame} (hg : g.method = m) (hsize : g.locals.size = c.maxLocals) {argsL rest : List Value} (hlen : ∀ sig, parseMethodDescriptor y.desc = some sig → argsL.length = sig.parameters.length)
    (hstack : g.stack = argsL.reverse ++ .ref b :: rest) (hW : 2 * g.monitorRoom + (rest.map fun v => v.category).sum ≤ W9) (hdg : decode c.code g.pc = .ok (.invokevirtual index, 3))
    (hpre : ∀ vm₁, s.WarmedH vm₁ → Pre ⟨T.setVm vm₁, locs, cells, slots⟩ (Value.ref b :: argsL).toArray) :
    ∃ (v : Option Value) (vm₁ : Vm) (B : Pt), s.WarmedH vm₁ ∧ Stand p l e R s m args below meth c B.U B.locs B.cells B.slots ∧ Post ⟨T.setVm vm₁, locs, cells, slots⟩ (Value.ref b :: argsL).toArray v B ∧
      ∀ target, Steps p.tables e below (B.U.setTop { g with pc := g.pc + 3, stack := v.toList ++ rest }) target → Steps p.tables e below (T.setTop g) target := by
  obtain ⟨mk, methM, hnamed, hmethM, hstM, habM⟩ := Cond.instanceMethod_spec hinst
  obtain ⟨m8, methM', cM, hn8, hmethM', -, -, -, -, -, -, hsigM⟩ := Cond.codeWith_spec hcode
  cases Option.some.inj (hn8.symm.trans hnamed)
  cases hmethM.symm.trans hmethM'
  obtain ⟨c2, r2, m2, q1, q2, q3, q4, kP, hkP, hkPi⟩ := Cond.selects_spec hsel
  cases hcls.symm.trans q1
  cases (State.methodFound?_of_named hnamed hy).symm.trans q2
  cases hnamed.symm.trans q3
  have hselP : selectMethod e.platform s.vm cellB.cls mk = .method mk := by rw [Launch.admits_selectMethod X.admits]; exact q4
  obtain ⟨vm₁, X₁, hstep₁⟩ := X.invokevirtual hexec hown hlink hnamed hmethM hstM hkP hkPi hy (a := b) (cell := cellB) hcell
    (fun z h => by rw [h] at hobj; cases hobj) hselP hmethM habM hkP hkPi (g := g) hg (argsL := argsL) (rest := rest) (hlen _ hsigM) hstack hdg
  obtain ⟨v, B, X', hpost, hsteps⟩ := hK m meth c ⟨T.setVm vm₁, locs, cells, slots⟩ { g with stack := rest } (.invokevirtual index) mk (Value.ref b :: argsL).toArray X₁ hg hsize hdg hW (X₁.named hnamed) (hpre vm₁ X₁.warmed)
  exact ⟨v, vm₁, B, X₁.warmed, X', hpost, fun target h => hstep₁ _ fun acts => by rw [doInvoke_state]; exact hsteps.trans h⟩
abbrev vx_CVW (R : Room) (s : State) (args : Array Value) (own C : String) (index : Nat) (y : MethodName) (bytes : ByteArray) (maxL : Nat) (ret : Option FieldType) (hh : List (Nat × Nat × Nat × Nat)) (ws : List Cond) (rm : Room) (mc ms n : Nat) : Prop :=
  (rm.cells = mc ∧ rm.slots = ms ∧ rm.frames + 1 ≤ R.frames ∧ 8 + (maxL + 11) + rm.locals ≤ R.locals ∧ (∀ w ∈ ws, ∀ (a' : Array Value) (U : State), s.WarmedH U.vm → w.before a' U = true) ∧ Cond.codeWith y bytes maxL ret hh ∈ ws) ∧
  (Cond.codeWith y bytes maxL ret hh).before args s = true ∧ (Cond.initialized y.cls).before args s = true ∧ (y.cls ≠ "java/lang/invoke/MethodHandle" ∧ y.cls ≠ "java/lang/invoke/VarHandle") ∧
  (∀ sig, parseMethodDescriptor y.desc = some sig → n = sig.parameters.length) ∧ (Cond.methodLink own index y).before args s = true ∧ (Cond.instanceMethod y).before args s = true ∧ (Cond.selects C y y).before args s = true
theorem vx_cwVW {own C : String} {index maxL mc ms : Nat} {y : MethodName} {bytes : ByteArray} {ret : Option FieldType} {hh : List (Nat × Nat × Nat × Nat)} {Ts ws ws' : List Cond} {rm : Room} (n : Nat) (ht : ∀ w ∈ Ts, w.before args s = true) (hT : GoodIn Ts (wsV own index C y ws)) (hw : ws = Cond.codeWith y bytes maxL ret hh :: ws') (hrc : rm.cells = mc) (hrs : rm.slots = ms)
    (hd : y.cls = C ∧ y.cls ≠ "java/lang/invoke/MethodHandle" ∧ y.cls ≠ "java/lang/invoke/VarHandle" ∧ (parseMethodDescriptor y.desc).map (fun d => d.parameters.length) = some n) (hR : rm.frames + 1 ≤ R.frames ∧ 8 + (maxL + 11) + rm.locals ≤ R.locals) :
    vx_CVW R s args own C index y bytes maxL ret hh ws rm mc ms n := by
  obtain ⟨hC, hd⟩ := hd
  subst hC
  have ok : ∀ w ∈ wsV own index y.cls y ws, w.before args s = true := fun w h => ht w (hT w h).1
  have hG : GoodIn Ts ws := fun w h => hT w (by unfold wsV; exact List.mem_append_right _ h)
  have hc : Cond.codeWith y bytes maxL ret hh ∈ ws := by rw [hw]; exact List.mem_cons_self
  refine ⟨⟨hrc, hrs, hR.1, hR.2, pay_in ht hG, hc⟩, ht _ (hG _ hc).1, ok _ (by simp [wsV]), ⟨hd.1, hd.2.1⟩, fun sig h => ?_, ok _ (by simp [wsV]), ok _ (by simp [wsV]), ok _ (by simp [wsV])⟩
  have h2 := hd.2.2
  rw [h] at h2
  exact (Option.some.inj h2).symm
theorem vx_runVW {y : MethodName} {bytes cc : ByteArray} {maxL nL mc ms n index : Nat} {ret : Option FieldType} {hh : List (Nat × Nat × Nat × Nat)} {ws : List Cond} {rm : Room} {Pc : Array Value → State → Prop} {Qc : Array Value → State → Outcome → State → Prop} {free : Addr → Prop} {Ts : List Cond} {own C : String} {b : Addr} {As rest : List Value} {g : JFrame}
    (S : CallFix p m c cc nL s args Ts own) (hM : Met l y ws rm Pc Qc mc ms free) (cw : vx_CVW R s args own C index y bytes maxL ret hh ws rm mc ms n) (hp : PreV s H C b Pc As)
    (hg : g.method = m) (hn : As.length = n) (hsize : g.locals.size = nL) (hstack : g.stack = As.reverse ++ .ref b :: rest) (hW : 2 * g.monitorRoom + (rest.map fun v => v.category).sum ≤ 8) (hdg : decode cc g.pc = .ok (.invokevirtual index, 3)) (hf : cells + mc ≤ R.cells ∧ slots + ms ≤ R.slots) :
    va_Run p l e R s m args below meth c H locs cells slots mc ms g rest (Qc (Value.ref b :: As).toArray) free := by
  obtain ⟨⟨hrc, hrs, hfr, hlo, hws, hcw⟩, hcode, hini, hy, hlen, hl, hin, hse⟩ := cw
  have hK : Back l R p e below s args y 3 8 (PreOf R mc ms Pc) (PostOf Qc mc ms free) := va_backW (hh := hh) (bytes := bytes) (maxL := maxL) (ret := ret) hM hp.1 hrc hrs hfr hlo hws hcw (fun a' U hW => word_at hW (Or.inl (by first | rfl | simp [Cond.onTables, Cond.keeps, Cond.steady])) hini)
  obtain ⟨hx, hb, hml, ho, -⟩ := S
  obtain ⟨-, ⟨cellB, hcB, hoB, hclB⟩, hPc⟩ := hp
  intro T hT X
  obtain ⟨v, vm₁, ⟨U', l2, c2, s2⟩, hW₁, X', ⟨g', mk, t, L, e1, e2, hq, h1, hL, h2, h3⟩, st⟩ := vx_callVW X hx (C := C) (hh := hh) (bytes := bytes) (maxL := maxL) (ret := ret) ho hl hin hse hcode hy hK (by rw [hT]; exact hcB) hoB hclB hg (hsize.trans hml.symm) (argsL := As) (rest := rest) (fun sig h => hn.trans (hlen sig h)) hstack hW (by rw [hb]; exact hdg)
    (fun vm₁ hW₁ => ⟨hf.1, hf.2, hPc (T.setVm vm₁) hT hW₁⟩)
  dsimp only [Pt.U, Pt.locs, Pt.cells, Pt.slots] at X' e1 e2 h1 h2 h3 st
  subst h1; subst h2; subst h3
  exact ⟨v, (T.setVm vm₁).calling g' mk (Value.ref b :: As).toArray, t, U', L, hT, X', hL, e1, e2, hq, st⟩
section
variable {y : MethodName} {bytes cc : ByteArray} {maxL nL mc ms n index : Nat} {ret : Option FieldType} {ws : List Cond} {rm : Room} {Pc : Array Value → State → Prop} {Qc : Array Value → State → Outcome → State → Prop} {XC : String → State → State → Prop} {free : Addr → Prop} {Ts : List Cond} {own C : String} {b : Addr} {As rest : List Value} {g : JFrame}
theorem vx_runVX {hh : List (Nat × Nat × Nat × Nat)} (S : CallFix p m c cc nL s args Ts own) (hM : vx_Met l y ws rm Pc Qc XC mc ms free) (cw : vx_CVW R s args own C index y bytes maxL ret hh ws rm mc ms n) (hp : PreV s H C b Pc As)
    (hg : g.method = m) (hn : As.length = n) (hsize : g.locals.size = nL) (hstack : g.stack = As.reverse ++ .ref b :: rest) (hW : 2 * g.monitorRoom + (rest.map fun v => v.category).sum ≤ 8) (hdg : decode cc g.pc = .ok (.invokevirtual index, 3)) (hf : cells + mc ≤ R.cells ∧ slots + ms ≤ R.slots) :
    vx_Run p l e R s m args below meth c H locs cells slots mc ms g rest (Qc (Value.ref b :: As).toArray) XC free := by
  obtain ⟨⟨hrc, hrs, hfr, hlo, hws, hcw⟩, hcode, hini, hy, hlen, hl, hin, hse⟩ := cw
  have hK : vx_Back l R p e below s args y 3 8 (PreOf R mc ms Pc) (PostOf Qc mc ms free) (vx_Post XC mc ms free) := vx_backW (hh := hh) (bytes := bytes) (maxL := maxL) (ret := ret) hM hp.1 hrc hrs hfr hlo hws hcw (fun a' U hW => word_at hW (Or.inl (by first | rfl | simp [Cond.onTables, Cond.keeps, Cond.steady])) hini)
  obtain ⟨hx, hb, hml, ho, -⟩ := S
  obtain ⟨-, ⟨cellB, hcB, hoB, hclB⟩, hPc⟩ := hp
  intro T hT X
  rcases vx_callVX X hx (C := C) (hh := hh) (bytes := bytes) (maxL := maxL) (ret := ret) ho hl hin hse hcode hy hK (by rw [hT]; exact hcB) hoB hclB hg (hsize.trans hml.symm) (argsL := As) (rest := rest) (fun sig h => hn.trans (hlen sig h)) hstack hW (by rw [hb]; exact hdg)
    (fun vm₁ hW₁ => ⟨hf.1, hf.2, hPc (T.setVm vm₁) hT hW₁⟩) with ⟨v, vm₁, ⟨U', l2, c2, s2⟩, hW₁, X', ⟨g', mk, t, L, e1, e2, hq, h1, hL, h2, h3⟩, st⟩ | ⟨q, vm₁, ⟨U', l2, c2, s2⟩, hW₁, X', ⟨g', mk, t, L, E, ce, e1, e2, hq, hce, hcv, hcl, h1, hL, h2, h3⟩, st⟩
  · dsimp only [Pt.U, Pt.locs, Pt.cells, Pt.slots] at X' e1 e2 h1 h2 h3 st
    subst h1; subst h2; subst h3
    exact Or.inl ⟨v, (T.setVm vm₁).calling g' mk (Value.ref b :: As).toArray, t, U', L, hT, X', hL, e1, e2, hq, st⟩
  · dsimp only [Pt.U, Pt.locs, Pt.cells, Pt.slots] at X' e1 e2 h1 h2 h3 st hcl
    subst h1; subst h2; subst h3
    exact Or.inr ⟨q, (T.setVm vm₁).calling g' mk (Value.ref b :: As).toArray, t, U', L, E, ce, hT, X', hL, e1, e2, hq, hce, hcv, vx_cls hW₁ hcl, st⟩
theorem vx_runSX {hh : List (Nat × Nat × Nat × Nat)} (S : CallFix p m c cc nL s args Ts own) (hM : vx_Met l y ws rm Pc Qc XC mc ms free) (cw : vx_CSW R s args own index y bytes maxL ret hh ws rm mc ms n) (hp : PreS s H Pc As)
    (hg : g.method = m) (hn : As.length = n) (hsize : g.locals.size = nL) (hstack : g.stack = As.reverse ++ rest) (hW : 2 * g.monitorRoom + (rest.map fun v => v.category).sum ≤ 8) (hdg : decode cc g.pc = .ok (.invokestatic index, 3)) (hf : cells + mc ≤ R.cells ∧ slots + ms ≤ R.slots) :
    vx_Run p l e R s m args below meth c H locs cells slots mc ms g rest (Qc As.toArray) XC free := by
  obtain ⟨⟨hrc, hrs, hfr, hlo, hws, hcw⟩, hcode, hini, hy, hlen, hl, hstt⟩ := cw
  have hK : vx_Back l R p e below s args y 3 8 (PreOf R mc ms Pc) (PostOf Qc mc ms free) (vx_Post XC mc ms free) := vx_backW (hh := hh) (bytes := bytes) (maxL := maxL) (ret := ret) hM hp.1 hrc hrs hfr hlo hws hcw (fun a' U hW => word_at hW (Or.inl (by first | rfl | simp [Cond.onTables, Cond.keeps, Cond.steady])) hini)
  obtain ⟨hx, hb, hml, ho, -⟩ := S
  intro T hT X
  rcases vx_callSX X hx (hh := hh) (bytes := bytes) (maxL := maxL) (ret := ret) ho hl hstt hini hcode hy hK hg (hsize.trans hml.symm) (argsL := As) (rest := rest) (fun sig h => hn.trans (hlen sig h)) hstack hW (by rw [hb]; exact hdg)
    (fun vm₁ hW₁ => ⟨hf.1, hf.2, hp.2 (T.setVm vm₁) hT hW₁⟩) with ⟨v, vm₁, ⟨U', l2, c2, s2⟩, hW₁, X', ⟨g', mk, t, L, e1, e2, hq, h1, hL, h2, h3⟩, st⟩ | ⟨q, vm₁, ⟨U', l2, c2, s2⟩, hW₁, X', ⟨g', mk, t, L, E, ce, e1, e2, hq, hce, hcv, hcl, h1, hL, h2, h3⟩, st⟩
  · dsimp only [Pt.U, Pt.locs, Pt.cells, Pt.slots] at X' e1 e2 h1 h2 h3 st
    subst h1; subst h2; subst h3
    exact Or.inl ⟨v, (T.setVm vm₁).calling g' mk As.toArray, t, U', L, hT, X', hL, e1, e2, hq, st⟩
  · dsimp only [Pt.U, Pt.locs, Pt.cells, Pt.slots] at X' e1 e2 h1 h2 h3 st hcl
    subst h1; subst h2; subst h3
    exact Or.inr ⟨q, (T.setVm vm₁).calling g' mk As.toArray, t, U', L, E, ce, hT, X', hL, e1, e2, hq, hce, hcv, vx_cls hW₁ hcl, st⟩
end
end VXH
theorem vx_ofWH {l : Launch} {y : MethodName} {ws ws' : List Cond} {rm : Room} {Pc : Array Value → State → Prop} {Qc : Array Value → State → Outcome → State → Prop} {XC : String → State → State → Prop} {mc ms : Nat} {free : Addr → Prop} {cc : ByteArray} {maxL : Nat} {ret : Option FieldType} {hh : List (Nat × Nat × Nat × Nat)}
    (hy : plainName y.cls = true) (hw : ws = Cond.codeWith y cc maxL ret hh :: ws')
    (body : ∀ p e s m args below meth c s₁, BodyLoose p l y (headSpec ws rm) cc maxL ret e s m args below meth c s₁ → c.maxLocals = maxL → Pc args s →
      W p l e (headSpec ws rm).room s m args below meth c s.heap [] 0 0 (vx_MQ below Qc XC args s mc ms free) (entryFrame m args maxL)) : vx_Met l y ws rm Pc Qc XC mc ms free := by
  refine MetFree.of_bodyS (code := cc) (maxLocals := maxL) (ret := ret) hy ?_ ?_
  · intro args s m h hn
    obtain ⟨m9, meth, c, hn9, h1, h2, h3, h4, -, h5, h6, -⟩ := Cond.codeWith_spec (atoms_spec (ws := ws) h _ (by rw [hw]; exact List.mem_cons_self))
    cases hn.symm.trans hn9
    exact ⟨meth, c, h1, h2, h3, h4, h5, h6⟩
  · intro p e s m args below meth c s₁ B hml hP _
    have hh0 : s₁.heap = s.heap := by rw [B.state]; rfl
    obtain ⟨t, a1, o, b1, b2, b3⟩ := body p e s m args below meth c s₁ B hml hP s₁ hh0 (Stand.of_body B)
    exact ⟨t, o, a1, b1, b2, b3⟩
/-! ===== END ===== -/
end
section
/-! ===== BEGIN printed: names, fields, word lists, decode rows ===== -/
def RX0 : String := "Whichbox$Box"
def TX0 : u_T := fun k => match k with
  | 0 => ("Whichbox$Box", "size", "I", true)
  | 1 => ("Whichbox$Box", "value", "I", true)
  | 2 => ("Whichbox$Box", "times", "[I", true)
  | 3 => ("Whichbox$Box", "places", "[I", true)
  | 4 => ("Whichbox$Box", "makers", "[I", true)
  | 5 => ("Whichbox$Box", "follows", "[I", true)
  | 6 => ("Whichbox$Box", "scanCount", "I", false)
  | 7 => ("Whichbox$Box", "story", "I", false)
  | 8 => ("Whichbox$Box", "insured", "Z", false)
  | 9 => ("Whichbox$Box", "withFee", "Z", false)
  | _ => ("Whichbox$Box", "feeCourier", "I", false)
def tyX0 : Nat → FieldType := fun k => match k with
  | 0 => .int
  | 1 => .int
  | 2 => .array .int
  | 3 => .array .int
  | 4 => .array .int
  | 5 => .array .int
  | 6 => .int
  | 7 => .int
  | 8 => .boolean
  | 9 => .boolean
  | _ => .int
abbrev wsX00 : List Cond := u_ws RX0 TX0 11
theorem nmX0 : ∀ a, a < 11 → ∀ b, b < 11 → a ≠ b → (TX0 a).2.1 ≠ (TX0 b).2.1 := by decide +kernel
theorem tyX0_ok : ∀ k, k < 11 → parseFieldDescriptor (TX0 k).2.2.1 = some (tyX0 k) := by decide +kernel
abbrev cX0_init : ByteArray := prog_2_method_1_code
def yX0_init : MethodName := ⟨RX0, "<init>", "(II)V"⟩
abbrev cX0_note : ByteArray := prog_2_method_2_code
def yX0_note : MethodName := ⟨RX0, "note", "(III)I"⟩
abbrev cX0_scansAheadOf : ByteArray := prog_2_method_3_code
def yX0_scansAheadOf : MethodName := ⟨RX0, "scansAheadOf", "(II)I"⟩
abbrev cX0_canFollow : ByteArray := prog_2_method_4_code
def yX0_canFollow : MethodName := ⟨RX0, "canFollow", "(II)Z"⟩
abbrev cX0_chooseStory : ByteArray := prog_2_method_5_code
def yX0_chooseStory : MethodName := ⟨RX0, "chooseStory", "([I[I)V"⟩
abbrev cX0_isTrue : ByteArray := prog_2_method_6_code
def yX0_isTrue : MethodName := ⟨RX0, "isTrue", "(I)Z"⟩
abbrev cX0_whereabouts : ByteArray := prog_2_method_7_code
def yX0_whereabouts : MethodName := ⟨RX0, "whereabouts", "()I"⟩
abbrev cX0_isDelivered : ByteArray := prog_2_method_8_code
def yX0_isDelivered : MethodName := ⟨RX0, "isDelivered", "()Z"⟩
abbrev cX0_deliverer : ByteArray := prog_2_method_9_code
def yX0_deliverer : MethodName := ⟨RX0, "deliverer", "()I"⟩
abbrev cX0_thereSince : ByteArray := prog_2_method_10_code
def yX0_thereSince : MethodName := ⟨RX0, "thereSince", "()I"⟩
abbrev cX0_wasScannedAfter : ByteArray := prog_2_method_11_code
def yX0_wasScannedAfter : MethodName := ⟨RX0, "wasScannedAfter", "(I)Z"⟩
abbrev cX0_countLies : ByteArray := prog_2_method_12_code
def yX0_countLies : MethodName := ⟨RX0, "countLies", "(I)I"⟩
def RX1 : String := "Whichbox$Door"
def TX1 : u_T := fun k => match k with
  | 0 => ("Whichbox$Door", "size", "I", false)
  | 1 => ("Whichbox$Door", "jammed", "Z", false)
  | 2 => ("Whichbox$Door", "boxAwaited", "I", false)
  | 3 => ("Whichbox$Door", "code", "I", false)
  | _ => ("Whichbox$Door", "wrongCodes", "I", false)
def tyX1 : Nat → FieldType := fun k => match k with
  | 0 => .int
  | 1 => .boolean
  | 2 => .int
  | 3 => .int
  | _ => .int
abbrev wsX10 : List Cond := u_ws RX1 TX1 5
theorem nmX1 : ∀ a, a < 5 → ∀ b, b < 5 → a ≠ b → (TX1 a).2.1 ≠ (TX1 b).2.1 := by decide +kernel
theorem tyX1_ok : ∀ k, k < 5 → parseFieldDescriptor (TX1 k).2.2.1 = some (tyX1 k) := by decide +kernel
abbrev cX1_init : ByteArray := prog_3_method_1_code
def yX1_init : MethodName := ⟨RX1, "<init>", "()V"⟩
abbrev cX1_isKept : ByteArray := prog_3_method_2_code
def yX1_isKept : MethodName := ⟨RX1, "isKept", "()Z"⟩
def RX2 : String := "Whichbox$Ledger"
def TX2 : u_T := fun k => match k with
  | 0 => ("Whichbox$Ledger", "feeSums", "[I", true)
  | 1 => ("Whichbox$Ledger", "paidByInsurers", "I", false)
  | _ => ("Whichbox$Ledger", "written", "I", false)
def tyX2 : Nat → FieldType := fun k => match k with
  | 0 => .array .int
  | 1 => .int
  | _ => .int
abbrev wsX20 : List Cond := u_ws RX2 TX2 3
theorem nmX2 : ∀ a, a < 3 → ∀ b, b < 3 → a ≠ b → (TX2 a).2.1 ≠ (TX2 b).2.1 := by decide +kernel
theorem tyX2_ok : ∀ k, k < 3 → parseFieldDescriptor (TX2 k).2.2.1 = some (tyX2 k) := by decide +kernel
abbrev cX2_init : ByteArray := prog_4_method_1_code
def yX2_init : MethodName := ⟨RX2, "<init>", "()V"⟩
abbrev cX2_payInsured : ByteArray := prog_4_method_2_code
def yX2_payInsured : MethodName := ⟨RX2, "payInsured", "(I)V"⟩
abbrev cX2_claimBack : ByteArray := prog_4_method_3_code
def yX2_claimBack : MethodName := ⟨RX2, "claimBack", "(I)V"⟩
abbrev cX2_writeFee : ByteArray := prog_4_method_4_code
def yX2_writeFee : MethodName := ⟨RX2, "writeFee", "(II)V"⟩
def RX3 : String := "Whichbox"
def TX3 : u_T := fun k => match k with
  | 0 => ("Whichbox", "told", "[LWhichbox$Box;", true)
  | 1 => ("Whichbox", "doors", "[LWhichbox$Door;", true)
  | 2 => ("Whichbox", "trusts", "[I", true)
  | 3 => ("Whichbox", "ledger", "LWhichbox$Ledger;", true)
  | 4 => ("Whichbox", "worths", "[I", true)
  | 5 => ("Whichbox", "sums", "[I", true)
  | 6 => ("Whichbox", "toldBoxes", "I", false)
  | 7 => ("Whichbox", "now", "I", false)
  | _ => ("Whichbox", "keeps", "I", false)
def tyX3 : Nat → FieldType := fun k => match k with
  | 0 => .array (.object "Whichbox$Box")
  | 1 => .array (.object "Whichbox$Door")
  | 2 => .array .int
  | 3 => .object "Whichbox$Ledger"
  | 4 => .array .int
  | 5 => .array .int
  | 6 => .int
  | 7 => .int
  | _ => .int
abbrev wsX30 : List Cond := u_ws RX3 TX3 9
theorem nmX3 : ∀ a, a < 9 → ∀ b, b < 9 → a ≠ b → (TX3 a).2.1 ≠ (TX3 b).2.1 := by decide +kernel
theorem tyX3_ok : ∀ k, k < 9 → parseFieldDescriptor (TX3 k).2.2.1 = some (tyX3 k) := by decide +kernel
abbrev cX3_init : ByteArray := prog_1_method_1_code
def yX3_init : MethodName := ⟨RX3, "<init>", "()V"⟩
abbrev cX3_box : ByteArray := prog_1_method_2_code
def yX3_box : MethodName := ⟨RX3, "box", "(II)I"⟩
abbrev cX3_setTrust : ByteArray := prog_1_method_3_code
def yX3_setTrust : MethodName := ⟨RX3, "setTrust", "(II)I"⟩
abbrev cX3_pass : ByteArray := prog_1_method_4_code
def yX3_pass : MethodName := ⟨RX3, "pass", "(I)I"⟩
abbrev cX3_scan : ByteArray := prog_1_method_5_code
def yX3_scan : MethodName := ⟨RX3, "scan", "(III)I"⟩
abbrev cX3_lay : ByteArray := prog_1_method_6_code
def yX3_lay : MethodName := ⟨RX3, "lay", "(II)I"⟩
abbrev cX3_find : ByteArray := prog_1_method_7_code
def yX3_find : MethodName := ⟨RX3, "find", "(II)I"⟩
abbrev cX3_setDoor : ByteArray := prog_1_method_8_code
def yX3_setDoor : MethodName := ⟨RX3, "setDoor", "(II)I"⟩
abbrev cX3_keep : ByteArray := prog_1_method_9_code
def yX3_keep : MethodName := ⟨RX3, "keep", "(II)I"⟩
abbrev cX3_open : ByteArray := prog_1_method_10_code
def yX3_open : MethodName := ⟨RX3, "open", "(II)I"⟩
abbrev cX3_jam : ByteArray := prog_1_method_11_code
def yX3_jam : MethodName := ⟨RX3, "jam", "(IZ)Z"⟩
abbrev cX3_claim : ByteArray := prog_1_method_12_code
def yX3_claim : MethodName := ⟨RX3, "claim", "(I)I"⟩
abbrev cX3_time : ByteArray := prog_1_method_13_code
def yX3_time : MethodName := ⟨RX3, "time", "()I"⟩
abbrev cX3_boxes : ByteArray := prog_1_method_14_code
def yX3_boxes : MethodName := ⟨RX3, "boxes", "()I"⟩
abbrev cX3_scans : ByteArray := prog_1_method_15_code
def yX3_scans : MethodName := ⟨RX3, "scans", "(I)I"⟩
abbrev cX3_story : ByteArray := prog_1_method_16_code
def yX3_story : MethodName := ⟨RX3, "story", "(I)I"⟩
abbrev cX3_storyOfAll : ByteArray := prog_1_method_17_code
def yX3_storyOfAll : MethodName := ⟨RX3, "storyOfAll", "(I)I"⟩
abbrev cX3_placeOf : ByteArray := prog_1_method_18_code
def yX3_placeOf : MethodName := ⟨RX3, "placeOf", "(I)I"⟩
abbrev cX3_lies : ByteArray := prog_1_method_19_code
def yX3_lies : MethodName := ⟨RX3, "lies", "(I)I"⟩
abbrev cX3_hasFee : ByteArray := prog_1_method_20_code
def yX3_hasFee : MethodName := ⟨RX3, "hasFee", "(I)Z"⟩
abbrev cX3_isInsured : ByteArray := prog_1_method_21_code
def yX3_isInsured : MethodName := ⟨RX3, "isInsured", "(I)Z"⟩
abbrev cX3_fees : ByteArray := prog_1_method_22_code
def yX3_fees : MethodName := ⟨RX3, "fees", "(I)I"⟩
abbrev cX3_insurers : ByteArray := prog_1_method_23_code
def yX3_insurers : MethodName := ⟨RX3, "insurers", "()I"⟩
abbrev cX3_entries : ByteArray := prog_1_method_24_code
def yX3_entries : MethodName := ⟨RX3, "entries", "()I"⟩
abbrev cX3_fine : ByteArray := prog_1_method_25_code
def yX3_fine : MethodName := ⟨RX3, "fine", "(I)I"⟩
abbrev cX3_isJammed : ByteArray := prog_1_method_26_code
def yX3_isJammed : MethodName := ⟨RX3, "isJammed", "(I)Z"⟩
abbrev cX3_keptFor : ByteArray := prog_1_method_27_code
def yX3_keptFor : MethodName := ⟨RX3, "keptFor", "(I)I"⟩
abbrev cX3_isWithin : ByteArray := prog_1_method_28_code
def yX3_isWithin : MethodName := ⟨RX3, "isWithin", "(III)Z"⟩
abbrev cX3_boxAt : ByteArray := prog_1_method_29_code
def yX3_boxAt : MethodName := ⟨RX3, "boxAt", "(I)LWhichbox$Box;"⟩
abbrev cX3_doorAt : ByteArray := prog_1_method_30_code
def yX3_doorAt : MethodName := ⟨RX3, "doorAt", "(I)LWhichbox$Door;"⟩
abbrev cX3_checkCourier : ByteArray := prog_1_method_31_code
def yX3_checkCourier : MethodName := ⟨RX3, "checkCourier", "(I)V"⟩
abbrev cX3_checkWho : ByteArray := prog_1_method_32_code
def yX3_checkWho : MethodName := ⟨RX3, "checkWho", "(I)V"⟩
abbrev cX3_checkRoomForScan : ByteArray := prog_1_method_33_code
def yX3_checkRoomForScan : MethodName := ⟨RX3, "checkRoomForScan", "(LWhichbox$Box;)V"⟩
abbrev cX3_placeTold : ByteArray := prog_1_method_34_code
def yX3_placeTold : MethodName := ⟨RX3, "placeTold", "(II)I"⟩
abbrev cX3_courierOfPlace : ByteArray := prog_1_method_35_code
def yX3_courierOfPlace : MethodName := ⟨RX3, "courierOfPlace", "(I)I"⟩
abbrev cX3_kindOf : ByteArray := prog_1_method_36_code
def yX3_kindOf : MethodName := ⟨RX3, "kindOf", "(I)I"⟩
abbrev cX3_minutesBetween : ByteArray := prog_1_method_37_code
def yX3_minutesBetween : MethodName := ⟨RX3, "minutesBetween", "(II)I"⟩
abbrev cX3_addScan : ByteArray := prog_1_method_38_code
def yX3_addScan : MethodName := ⟨RX3, "addScan", "(LWhichbox$Box;II)I"⟩
abbrev cX3_countWrongCode : ByteArray := prog_1_method_39_code
def yX3_countWrongCode : MethodName := ⟨RX3, "countWrongCode", "(LWhichbox$Door;)V"⟩
abbrev cX3_trustOf : ByteArray := prog_1_method_40_code
def yX3_trustOf : MethodName := ⟨RX3, "trustOf", "(I)I"⟩
abbrev cX3_weighScans : ByteArray := prog_1_method_41_code
def yX3_weighScans : MethodName := ⟨RX3, "weighScans", "(LWhichbox$Box;)V"⟩
abbrev cX3_greatestWorth : ByteArray := prog_1_method_42_code
def yX3_greatestWorth : MethodName := ⟨RX3, "greatestWorth", "(LWhichbox$Box;[IIII)I"⟩
abbrev cX3_settleAll : ByteArray := prog_1_method_43_code
def yX3_settleAll : MethodName := ⟨RX3, "settleAll", "()V"⟩
abbrev cX3_settle : ByteArray := prog_1_method_44_code
def yX3_settle : MethodName := ⟨RX3, "settle", "(LWhichbox$Box;)V"⟩
def RX4 : String := "WhichboxModel"
def TX4 : u_T := fun k => match k with
  | _ => ("", "", "", false)
def tyX4 : Nat → FieldType := fun k => match k with
  | _ => .int
abbrev wsX40 : List Cond := u_ws RX4 TX4 0
theorem nmX4 : ∀ a, a < 0 → ∀ b, b < 0 → a ≠ b → (TX4 a).2.1 ≠ (TX4 b).2.1 := by decide +kernel
theorem tyX4_ok : ∀ k, k < 0 → parseFieldDescriptor (TX4 k).2.2.1 = some (tyX4 k) := by decide +kernel
def RJ9 : String := "java/lang/Math"
def TJ9 : u_T := fun k => match k with
  | _ => ("", "", "", false)
def tyJ9 : Nat → FieldType := fun k => match k with
  | _ => .int
abbrev wsJ90 : List Cond := u_ws RJ9 TJ9 0
theorem nmJ9 : ∀ a, a < 0 → ∀ b, b < 0 → a ≠ b → (TJ9 a).2.1 ≠ (TJ9 b).2.1 := by decide +kernel
theorem tyJ9_ok : ∀ k, k < 0 → parseFieldDescriptor (TJ9 k).2.2.1 = some (tyJ9 k) := by decide +kernel
abbrev cJ9_max_7cf53 : ByteArray := prog_11_method_65_code
def yJ9_max_7cf53 : MethodName := ⟨RJ9, "max", "(II)I"⟩
def RJ0 : String := "java/lang/String"
def TJ0 : u_T := fun k => match k with
  | _ => ("", "", "", false)
def tyJ0 : Nat → FieldType := fun k => match k with
  | _ => .int
abbrev wsJ00 : List Cond := u_ws RJ0 TJ0 0
theorem nmJ0 : ∀ a, a < 0 → ∀ b, b < 0 → a ≠ b → (TJ0 a).2.1 ≠ (TJ0 b).2.1 := by decide +kernel
theorem tyJ0_ok : ∀ k, k < 0 → parseFieldDescriptor (TJ0 k).2.2.1 = some (tyJ0 k) := by decide +kernel
def RL : String := "WhichboxLaw"
abbrev cL_drawn : ByteArray := method_2_code
def yL_drawn : MethodName := ⟨RL, "drawn", "([II)I"⟩
abbrev cL_does : ByteArray := method_3_code
def yL_does : MethodName := ⟨RL, "does", "(LWhichbox;III)I"⟩
abbrev cL_scan : ByteArray := method_4_code
def yL_scan : MethodName := ⟨RL, "scan", "(LWhichbox;III)I"⟩
abbrev cL_jam : ByteArray := method_5_code
def yL_jam : MethodName := ⟨RL, "jam", "(LWhichbox;IZ)I"⟩
abbrev cL_of : ByteArray := method_6_code
def yL_of : MethodName := ⟨RL, "of", "(LWhichbox;II)I"⟩
abbrev cL_there : ByteArray := method_7_code
def yL_there : MethodName := ⟨RL, "there", "(II)I"⟩
abbrev cL_place : ByteArray := method_8_code
def yL_place : MethodName := ⟨RL, "place", "(II)I"⟩
abbrev cL_law : ByteArray := code
def yL_law : MethodName := ⟨RL, "law", "([I)Z"⟩
def wsX0_init : List Cond := .code yX0_init cX0_init 3 none :: ([.methodLink RX0 3 objectInit, .instanceMethod objectInit, .code objectInit ⟨#[0xb1]⟩ 1 none, .arrayClass .int, .fieldLink RX0 9 "Whichbox$Box" "times" "[I", .fieldLink RX0 15 "Whichbox$Box" "places" "[I", .fieldLink RX0 18 "Whichbox$Box" "makers" "[I", .fieldLink RX0 21 "Whichbox$Box" "follows" "[I", .fieldLink RX0 24 "Whichbox$Box" "scanCount" "I", .fieldLink RX0 28 "Whichbox$Box" "story" "I", .fieldLink RX0 31 "Whichbox$Box" "insured" "Z", .fieldLink RX0 35 "Whichbox$Box" "withFee" "Z", .fieldLink RX0 38 "Whichbox$Box" "feeCourier" "I", .fieldLink RX0 41 "Whichbox$Box" "size" "I", .fieldLink RX0 44 "Whichbox$Box" "value" "I"] ++ wsX00)
def wsX3_isWithin : List Cond := .code yX3_isWithin cX3_isWithin 3 (some .boolean) :: ([])
def wsX3_kindOf : List Cond := .code yX3_kindOf cX3_kindOf 1 (some .int) :: ([.methodLink RX3 49 yX3_isWithin, .static yX3_isWithin, .initialized RX3, .code yX3_isWithin cX3_isWithin 3 (some .boolean)])
def wsX3_minutesBetween : List Cond := .code yX3_minutesBetween cX3_minutesBetween 4 (some .int) :: ([.constant RX3 221 (1000000), .fieldLink RX3 222 "Whichbox" "MINUTES" "[I", .methodLink RX3 113 yX3_kindOf, .static yX3_kindOf, .initialized RX3, .code yX3_kindOf cX3_kindOf 1 (some .int), .methodLink RX3 49 yX3_isWithin, .static yX3_isWithin, .code yX3_isWithin cX3_isWithin 3 (some .boolean)])
def wsX0_scansAheadOf : List Cond := .code yX0_scansAheadOf cX0_scansAheadOf 5 (some .int) :: ([.fieldLink RX0 24 "Whichbox$Box" "scanCount" "I", .fieldLink RX0 15 "Whichbox$Box" "places" "[I", .fieldLink RX0 9 "Whichbox$Box" "times" "[I", .static yX3_minutesBetween, .initialized RX3, .code yX3_minutesBetween cX3_minutesBetween 4 (some .int), .constant RX3 221 (1000000), .fieldLink RX3 222 "Whichbox" "MINUTES" "[I", .methodLink RX3 113 yX3_kindOf, .static yX3_kindOf, .code yX3_kindOf cX3_kindOf 1 (some .int), .methodLink RX3 49 yX3_isWithin, .static yX3_isWithin, .code yX3_isWithin cX3_isWithin 3 (some .boolean)] ++ wsX00)
def wsX0_note : List Cond := .code yX0_note cX0_note 5 (some .int) :: ([.fieldLink RX0 24 "Whichbox$Box" "scanCount" "I", .fieldLink RX0 9 "Whichbox$Box" "times" "[I", .fieldLink RX0 15 "Whichbox$Box" "places" "[I", .fieldLink RX0 18 "Whichbox$Box" "makers" "[I", .fieldLink RX0 21 "Whichbox$Box" "follows" "[I", .methodLink RX0 47 yX0_scansAheadOf, .instanceMethod yX0_scansAheadOf, .selects RX0 yX0_scansAheadOf yX0_scansAheadOf, .initialized RX0, .code yX0_scansAheadOf cX0_scansAheadOf 5 (some .int), .static yX3_minutesBetween, .initialized RX3, .code yX3_minutesBetween cX3_minutesBetween 4 (some .int), .constant RX3 221 (1000000), .fieldLink RX3 222 "Whichbox" "MINUTES" "[I", .methodLink RX3 113 yX3_kindOf, .static yX3_kindOf, .code yX3_kindOf cX3_kindOf 1 (some .int), .methodLink RX3 49 yX3_isWithin, .static yX3_isWithin, .code yX3_isWithin cX3_isWithin 3 (some .boolean)] ++ wsX00)
def wsX0_canFollow : List Cond := .code yX0_canFollow cX0_canFollow 4 (some .boolean) :: ([.fieldLink RX0 21 "Whichbox$Box" "follows" "[I"] ++ wsX00)
def wsX0_chooseStory : List Cond := .code yX0_chooseStory cX0_chooseStory 7 none :: ([.fieldLink RX0 24 "Whichbox$Box" "scanCount" "I", .methodLink RX0 58 Lib.Math.max.name, .static Lib.Math.max.name, .initialized "java/lang/Math", .code Lib.Math.max.name Lib.Math.max.code 2 (some .int), .fieldLink RX0 28 "Whichbox$Box" "story" "I", .methodLink RX0 54 yX0_canFollow, .instanceMethod yX0_canFollow, .selects RX0 yX0_canFollow yX0_canFollow, .initialized RX0, .code yX0_canFollow cX0_canFollow 4 (some .boolean), .fieldLink RX0 21 "Whichbox$Box" "follows" "[I"] ++ wsX00)
def wsX0_isTrue : List Cond := .code yX0_isTrue cX0_isTrue 2 (some .boolean) :: ([.fieldLink RX0 28 "Whichbox$Box" "story" "I"] ++ wsX00)
def wsX0_whereabouts : List Cond := .code yX0_whereabouts cX0_whereabouts 2 (some .int) :: ([.fieldLink RX0 24 "Whichbox$Box" "scanCount" "I", .fieldLink RX0 15 "Whichbox$Box" "places" "[I", .methodLink RX0 63 yX0_isTrue, .instanceMethod yX0_isTrue, .selects RX0 yX0_isTrue yX0_isTrue, .initialized RX0, .code yX0_isTrue cX0_isTrue 2 (some .boolean), .fieldLink RX0 28 "Whichbox$Box" "story" "I"] ++ wsX00)
def wsX0_isDelivered : List Cond := .code yX0_isDelivered cX0_isDelivered 1 (some .boolean) :: ([.methodLink RX0 67 yX0_whereabouts, .instanceMethod yX0_whereabouts, .selects RX0 yX0_whereabouts yX0_whereabouts, .initialized RX0, .code yX0_whereabouts cX0_whereabouts 2 (some .int), .fieldLink RX0 24 "Whichbox$Box" "scanCount" "I", .fieldLink RX0 15 "Whichbox$Box" "places" "[I", .methodLink RX0 63 yX0_isTrue, .instanceMethod yX0_isTrue, .selects RX0 yX0_isTrue yX0_isTrue, .code yX0_isTrue cX0_isTrue 2 (some .boolean), .fieldLink RX0 28 "Whichbox$Box" "story" "I"] ++ wsX00)
def wsX3_courierOfPlace : List Cond := .code yX3_courierOfPlace cX3_courierOfPlace 1 (some .int) :: ([.methodLink RX3 49 yX3_isWithin, .static yX3_isWithin, .initialized RX3, .code yX3_isWithin cX3_isWithin 3 (some .boolean)])
def wsX0_deliverer : List Cond := .code yX0_deliverer cX0_deliverer 3 (some .int) :: ([.fieldLink RX0 24 "Whichbox$Box" "scanCount" "I", .fieldLink RX0 15 "Whichbox$Box" "places" "[I", .static yX3_courierOfPlace, .initialized RX3, .code yX3_courierOfPlace cX3_courierOfPlace 1 (some .int), .methodLink RX3 49 yX3_isWithin, .static yX3_isWithin, .code yX3_isWithin cX3_isWithin 3 (some .boolean), .methodLink RX0 63 yX0_isTrue, .instanceMethod yX0_isTrue, .selects RX0 yX0_isTrue yX0_isTrue, .initialized RX0, .code yX0_isTrue cX0_isTrue 2 (some .boolean), .fieldLink RX0 28 "Whichbox$Box" "story" "I"] ++ wsX00)
def wsX0_thereSince : List Cond := .code yX0_thereSince cX0_thereSince 4 (some .int) :: ([.fieldLink RX0 24 "Whichbox$Box" "scanCount" "I", .fieldLink RX0 15 "Whichbox$Box" "places" "[I", .fieldLink RX0 9 "Whichbox$Box" "times" "[I", .methodLink RX0 67 yX0_whereabouts, .instanceMethod yX0_whereabouts, .selects RX0 yX0_whereabouts yX0_whereabouts, .initialized RX0, .code yX0_whereabouts cX0_whereabouts 2 (some .int), .methodLink RX0 63 yX0_isTrue, .instanceMethod yX0_isTrue, .selects RX0 yX0_isTrue yX0_isTrue, .code yX0_isTrue cX0_isTrue 2 (some .boolean), .fieldLink RX0 28 "Whichbox$Box" "story" "I"] ++ wsX00)
def wsX0_wasScannedAfter : List Cond := .code yX0_wasScannedAfter cX0_wasScannedAfter 2 (some .boolean) :: ([.fieldLink RX0 24 "Whichbox$Box" "scanCount" "I", .fieldLink RX0 9 "Whichbox$Box" "times" "[I"] ++ wsX00)
def wsX0_countLies : List Cond := .code yX0_countLies cX0_countLies 4 (some .int) :: ([.fieldLink RX0 24 "Whichbox$Box" "scanCount" "I", .fieldLink RX0 18 "Whichbox$Box" "makers" "[I", .methodLink RX0 63 yX0_isTrue, .instanceMethod yX0_isTrue, .selects RX0 yX0_isTrue yX0_isTrue, .initialized RX0, .code yX0_isTrue cX0_isTrue 2 (some .boolean), .fieldLink RX0 28 "Whichbox$Box" "story" "I"] ++ wsX00)
def wsX1_init : List Cond := .code yX1_init cX1_init 1 none :: ([.methodLink RX1 3 objectInit, .instanceMethod objectInit, .code objectInit ⟨#[0xb1]⟩ 1 none, .fieldLink RX1 9 "Whichbox$Door" "size" "I", .fieldLink RX1 15 "Whichbox$Door" "jammed" "Z", .fieldLink RX1 19 "Whichbox$Door" "boxAwaited" "I", .fieldLink RX1 22 "Whichbox$Door" "code" "I", .fieldLink RX1 25 "Whichbox$Door" "wrongCodes" "I"] ++ wsX10)
def wsX1_isKept : List Cond := .code yX1_isKept cX1_isKept 1 (some .boolean) :: ([.fieldLink RX1 19 "Whichbox$Door" "boxAwaited" "I"] ++ wsX10)
def wsX2_init : List Cond := .code yX2_init cX2_init 1 none :: ([.methodLink RX2 3 objectInit, .instanceMethod objectInit, .code objectInit ⟨#[0xb1]⟩ 1 none, .arrayClass .int, .fieldLink RX2 9 "Whichbox$Ledger" "feeSums" "[I", .fieldLink RX2 15 "Whichbox$Ledger" "paidByInsurers" "I", .fieldLink RX2 19 "Whichbox$Ledger" "written" "I"] ++ wsX20)
def wsX2_payInsured : List Cond := .code yX2_payInsured cX2_payInsured 2 none :: ([.fieldLink RX2 15 "Whichbox$Ledger" "paidByInsurers" "I", .fieldLink RX2 19 "Whichbox$Ledger" "written" "I"] ++ wsX20)
def wsX2_claimBack : List Cond := .code yX2_claimBack cX2_claimBack 2 none :: ([.fieldLink RX2 15 "Whichbox$Ledger" "paidByInsurers" "I", .fieldLink RX2 19 "Whichbox$Ledger" "written" "I"] ++ wsX20)
def wsX2_writeFee : List Cond := .code yX2_writeFee cX2_writeFee 3 none :: ([.fieldLink RX2 9 "Whichbox$Ledger" "feeSums" "[I", .fieldLink RX2 19 "Whichbox$Ledger" "written" "I"] ++ wsX20)
def wsX3_init_r1 : List Cond := [Cond.methodLink RX3 3 objectInit, Cond.instanceMethod objectInit, Cond.code objectInit ⟨#[0xb1]⟩ 1 none, Cond.classLink RX3 9 RX0, Cond.fieldLink RX3 11 "Whichbox" "told" "[LWhichbox$Box;", Cond.classLink RX3 15 RX1, Cond.fieldLink RX3 17 "Whichbox" "doors" "[LWhichbox$Door;", Cond.arrayClass .int, Cond.fieldLink RX3 21 "Whichbox" "trusts" "[I", Cond.classLink RX3 25 RX2, Cond.instantiable RX2 3, Cond.initialized RX2, Cond.fieldLink RX3 28 "Whichbox" "ledger" "LWhichbox$Ledger;", Cond.fieldLink RX3 32 "Whichbox" "worths" "[I", Cond.fieldLink RX3 35 "Whichbox" "sums" "[I", Cond.fieldLink RX3 38 "Whichbox" "toldBoxes" "I", Cond.fieldLink RX3 42 "Whichbox" "now" "I", Cond.fieldLink RX3 45 "Whichbox" "keeps" "I", Cond.instantiable RX1 5, Cond.initialized RX1, Cond.instanceMethod yX2_init, Cond.code yX2_init cX2_init 1 none, Cond.methodLink RX2 3 objectInit, Cond.fieldLink RX2 9 "Whichbox$Ledger" "feeSums" "[I"]
def wsX3_init_r2 : List Cond := [Cond.fieldLink RX2 15 "Whichbox$Ledger" "paidByInsurers" "I", Cond.fieldLink RX2 19 "Whichbox$Ledger" "written" "I", Cond.instanceMethod yX1_init, Cond.code yX1_init cX1_init 1 none, Cond.methodLink RX1 3 objectInit, Cond.fieldLink RX1 9 "Whichbox$Door" "size" "I", Cond.fieldLink RX1 15 "Whichbox$Door" "jammed" "Z", Cond.fieldLink RX1 19 "Whichbox$Door" "boxAwaited" "I", Cond.fieldLink RX1 22 "Whichbox$Door" "code" "I", Cond.fieldLink RX1 25 "Whichbox$Door" "wrongCodes" "I"]
def wsX3_init : List Cond := .code yX3_init cX3_init 2 none :: ((wsX3_init_r1 ++ wsX3_init_r2) ++ wsX30 ++ wsX20 ++ wsX10)
def wsX3_box_r1 : List Cond := [Cond.classLink RX3 53 "java/lang/IllegalArgumentException", Cond.initialized "java/lang/IllegalArgumentException", Cond.classLink RX3 60 "java/lang/IllegalStateException", Cond.initialized "java/lang/IllegalStateException", Cond.fieldLink RX3 38 "Whichbox" "toldBoxes" "I", Cond.fieldLink RX3 11 "Whichbox" "told" "[LWhichbox$Box;", Cond.classLink RX3 9 RX0, Cond.instantiable RX0 11, Cond.initialized RX0, Cond.methodLink RX3 49 yX3_isWithin, Cond.static yX3_isWithin, Cond.initialized RX3, Cond.code yX3_isWithin cX3_isWithin 3 (some .boolean), Cond.methodLink RX3 65 yX0_init, Cond.instanceMethod yX0_init, Cond.code yX0_init cX0_init 3 none, Cond.methodLink RX0 3 objectInit, Cond.instanceMethod objectInit, Cond.code objectInit ⟨#[0xb1]⟩ 1 none, Cond.arrayClass .int, Cond.fieldLink RX0 9 "Whichbox$Box" "times" "[I", Cond.fieldLink RX0 15 "Whichbox$Box" "places" "[I", Cond.fieldLink RX0 18 "Whichbox$Box" "makers" "[I", Cond.fieldLink RX0 21 "Whichbox$Box" "follows" "[I"]
def wsX3_box_r2 : List Cond := [Cond.fieldLink RX0 24 "Whichbox$Box" "scanCount" "I", Cond.fieldLink RX0 28 "Whichbox$Box" "story" "I", Cond.fieldLink RX0 31 "Whichbox$Box" "insured" "Z", Cond.fieldLink RX0 35 "Whichbox$Box" "withFee" "Z", Cond.fieldLink RX0 38 "Whichbox$Box" "feeCourier" "I", Cond.fieldLink RX0 41 "Whichbox$Box" "size" "I", Cond.fieldLink RX0 44 "Whichbox$Box" "value" "I"]
def wsX3_box : List Cond := .code yX3_box cX3_box 3 (some .int) :: ((wsX3_box_r1 ++ wsX3_box_r2) ++ wsX30 ++ wsX00 ++ (vx_atS RX3 57 "java/lang/IllegalArgumentException" ["java/lang/RuntimeException", "java/lang/Exception"]).filter goodWord ++ (vx_atS RX3 64 "java/lang/IllegalStateException" ["java/lang/RuntimeException", "java/lang/Exception"]).filter goodWord)
def wsX3_checkWho : List Cond := .code yX3_checkWho cX3_checkWho 1 none :: ([.classLink RX3 117 "java/lang/IndexOutOfBoundsException", .initialized "java/lang/IndexOutOfBoundsException"] ++ (vx_atS RX3 121 "java/lang/IndexOutOfBoundsException" ["java/lang/RuntimeException", "java/lang/Exception"]).filter goodWord)
def wsX3_trustOf : List Cond := .code yX3_trustOf cX3_trustOf 2 (some .int) :: ([.fieldLink RX3 17 "Whichbox" "doors" "[LWhichbox$Door;", .fieldLink RX3 130 "Whichbox$Door" "jammed" "Z", .fieldLink RX3 21 "Whichbox" "trusts" "[I", .methodLink RX3 49 yX3_isWithin, .static yX3_isWithin, .initialized RX3, .code yX3_isWithin cX3_isWithin 3 (some .boolean)] ++ wsX30 ++ wsX10)
def wsX3_weighScans : List Cond := .code yX3_weighScans cX3_weighScans 3 none :: ([.fieldLink RX3 171 "Whichbox$Box" "scanCount" "I", .fieldLink RX3 32 "Whichbox" "worths" "[I", .fieldLink RX3 232 "Whichbox$Box" "makers" "[I", .methodLink RX3 235 yX3_trustOf, .instanceMethod yX3_trustOf, .selects RX3 yX3_trustOf yX3_trustOf, .initialized RX3, .code yX3_trustOf cX3_trustOf 2 (some .int), .fieldLink RX3 17 "Whichbox" "doors" "[LWhichbox$Door;", .fieldLink RX3 130 "Whichbox$Door" "jammed" "Z", .fieldLink RX3 21 "Whichbox" "trusts" "[I", .methodLink RX3 49 yX3_isWithin, .static yX3_isWithin, .code yX3_isWithin cX3_isWithin 3 (some .boolean)] ++ wsX00 ++ wsX30 ++ wsX10)
def wsX3_settle_r1 : List Cond := [Cond.fieldLink RX3 32 "Whichbox" "worths" "[I", Cond.fieldLink RX3 35 "Whichbox" "sums" "[I", Cond.fieldLink RX3 156 "Whichbox$Box" "insured" "Z", Cond.fieldLink RX3 28 "Whichbox" "ledger" "LWhichbox$Ledger;", Cond.fieldLink RX3 165 "Whichbox$Box" "value" "I", Cond.fieldLink RX3 191 "Whichbox$Box" "withFee" "Z", Cond.fieldLink RX3 252 "Whichbox$Box" "feeCourier" "I", Cond.fieldLink RX3 107 "Whichbox$Box" "size" "I", Cond.methodLink RX3 177 yX3_weighScans, Cond.instanceMethod yX3_weighScans, Cond.selects RX3 yX3_weighScans yX3_weighScans, Cond.initialized RX3, Cond.code yX3_weighScans cX3_weighScans 3 none, Cond.fieldLink RX3 171 "Whichbox$Box" "scanCount" "I", Cond.fieldLink RX3 232 "Whichbox$Box" "makers" "[I", Cond.methodLink RX3 235 yX3_trustOf, Cond.instanceMethod yX3_trustOf, Cond.selects RX3 yX3_trustOf yX3_trustOf, Cond.code yX3_trustOf cX3_trustOf 2 (some .int), Cond.fieldLink RX3 17 "Whichbox" "doors" "[LWhichbox$Door;", Cond.fieldLink RX3 130 "Whichbox$Door" "jammed" "Z", Cond.fieldLink RX3 21 "Whichbox" "trusts" "[I", Cond.methodLink RX3 49 yX3_isWithin, Cond.static yX3_isWithin]
def wsX3_settle_r2 : List Cond := [Cond.code yX3_isWithin cX3_isWithin 3 (some .boolean), Cond.methodLink RX3 242 yX0_chooseStory, Cond.instanceMethod yX0_chooseStory, Cond.selects RX0 yX0_chooseStory yX0_chooseStory, Cond.initialized RX0, Cond.code yX0_chooseStory cX0_chooseStory 7 none, Cond.fieldLink RX0 24 "Whichbox$Box" "scanCount" "I", Cond.methodLink RX0 58 Lib.Math.max.name, Cond.static Lib.Math.max.name, Cond.initialized "java/lang/Math", Cond.code Lib.Math.max.name Lib.Math.max.code 2 (some .int), Cond.fieldLink RX0 28 "Whichbox$Box" "story" "I", Cond.methodLink RX0 54 yX0_canFollow, Cond.instanceMethod yX0_canFollow, Cond.selects RX0 yX0_canFollow yX0_canFollow, Cond.code yX0_canFollow cX0_canFollow 4 (some .boolean), Cond.fieldLink RX0 21 "Whichbox$Box" "follows" "[I", Cond.methodLink RX3 153 yX0_isDelivered, Cond.instanceMethod yX0_isDelivered, Cond.selects RX0 yX0_isDelivered yX0_isDelivered, Cond.code yX0_isDelivered cX0_isDelivered 1 (some .boolean), Cond.methodLink RX0 67 yX0_whereabouts, Cond.instanceMethod yX0_whereabouts, Cond.selects RX0 yX0_whereabouts yX0_whereabouts]
def wsX3_settle_r3 : List Cond := [Cond.code yX0_whereabouts cX0_whereabouts 2 (some .int), Cond.fieldLink RX0 15 "Whichbox$Box" "places" "[I", Cond.methodLink RX0 63 yX0_isTrue, Cond.instanceMethod yX0_isTrue, Cond.selects RX0 yX0_isTrue yX0_isTrue, Cond.code yX0_isTrue cX0_isTrue 2 (some .boolean), Cond.methodLink RX3 246 yX2_claimBack, Cond.instanceMethod yX2_claimBack, Cond.selects RX2 yX2_claimBack yX2_claimBack, Cond.initialized RX2, Cond.code yX2_claimBack cX2_claimBack 2 none, Cond.fieldLink RX2 15 "Whichbox$Ledger" "paidByInsurers" "I", Cond.fieldLink RX2 19 "Whichbox$Ledger" "written" "I", Cond.methodLink RX3 249 yX0_deliverer, Cond.instanceMethod yX0_deliverer, Cond.selects RX0 yX0_deliverer yX0_deliverer, Cond.code yX0_deliverer cX0_deliverer 3 (some .int), Cond.static yX3_courierOfPlace, Cond.code yX3_courierOfPlace cX3_courierOfPlace 1 (some .int), Cond.methodLink RX3 255 yX2_writeFee, Cond.instanceMethod yX2_writeFee, Cond.selects RX2 yX2_writeFee yX2_writeFee, Cond.code yX2_writeFee cX2_writeFee 3 none, Cond.fieldLink RX2 9 "Whichbox$Ledger" "feeSums" "[I"]
def wsX3_settle : List Cond := .code yX3_settle cX3_settle 3 none :: ((wsX3_settle_r1 ++ (wsX3_settle_r2 ++ wsX3_settle_r3)) ++ wsX30 ++ wsX00 ++ wsX10 ++ wsX20)
def wsX3_settleAll_r1 : List Cond := [Cond.fieldLink RX3 11 "Whichbox" "told" "[LWhichbox$Box;", Cond.methodLink RX3 229 yX3_settle, Cond.instanceMethod yX3_settle, Cond.selects RX3 yX3_settle yX3_settle, Cond.initialized RX3, Cond.code yX3_settle cX3_settle 3 none, Cond.fieldLink RX3 32 "Whichbox" "worths" "[I", Cond.fieldLink RX3 35 "Whichbox" "sums" "[I", Cond.fieldLink RX3 156 "Whichbox$Box" "insured" "Z", Cond.fieldLink RX3 28 "Whichbox" "ledger" "LWhichbox$Ledger;", Cond.fieldLink RX3 165 "Whichbox$Box" "value" "I", Cond.fieldLink RX3 191 "Whichbox$Box" "withFee" "Z", Cond.fieldLink RX3 252 "Whichbox$Box" "feeCourier" "I", Cond.fieldLink RX3 107 "Whichbox$Box" "size" "I", Cond.methodLink RX3 177 yX3_weighScans, Cond.instanceMethod yX3_weighScans, Cond.selects RX3 yX3_weighScans yX3_weighScans, Cond.code yX3_weighScans cX3_weighScans 3 none, Cond.fieldLink RX3 171 "Whichbox$Box" "scanCount" "I", Cond.fieldLink RX3 232 "Whichbox$Box" "makers" "[I", Cond.methodLink RX3 235 yX3_trustOf, Cond.instanceMethod yX3_trustOf, Cond.selects RX3 yX3_trustOf yX3_trustOf, Cond.code yX3_trustOf cX3_trustOf 2 (some .int)]
def wsX3_settleAll_r2 : List Cond := [Cond.fieldLink RX3 17 "Whichbox" "doors" "[LWhichbox$Door;", Cond.fieldLink RX3 130 "Whichbox$Door" "jammed" "Z", Cond.fieldLink RX3 21 "Whichbox" "trusts" "[I", Cond.methodLink RX3 49 yX3_isWithin, Cond.static yX3_isWithin, Cond.code yX3_isWithin cX3_isWithin 3 (some .boolean), Cond.methodLink RX3 242 yX0_chooseStory, Cond.instanceMethod yX0_chooseStory, Cond.selects RX0 yX0_chooseStory yX0_chooseStory, Cond.initialized RX0, Cond.code yX0_chooseStory cX0_chooseStory 7 none, Cond.fieldLink RX0 24 "Whichbox$Box" "scanCount" "I", Cond.methodLink RX0 58 Lib.Math.max.name, Cond.static Lib.Math.max.name, Cond.initialized "java/lang/Math", Cond.code Lib.Math.max.name Lib.Math.max.code 2 (some .int), Cond.fieldLink RX0 28 "Whichbox$Box" "story" "I", Cond.methodLink RX0 54 yX0_canFollow, Cond.instanceMethod yX0_canFollow, Cond.selects RX0 yX0_canFollow yX0_canFollow, Cond.code yX0_canFollow cX0_canFollow 4 (some .boolean), Cond.fieldLink RX0 21 "Whichbox$Box" "follows" "[I", Cond.methodLink RX3 153 yX0_isDelivered, Cond.instanceMethod yX0_isDelivered]
def wsX3_settleAll_r3 : List Cond := [Cond.selects RX0 yX0_isDelivered yX0_isDelivered, Cond.code yX0_isDelivered cX0_isDelivered 1 (some .boolean), Cond.methodLink RX0 67 yX0_whereabouts, Cond.instanceMethod yX0_whereabouts, Cond.selects RX0 yX0_whereabouts yX0_whereabouts, Cond.code yX0_whereabouts cX0_whereabouts 2 (some .int), Cond.fieldLink RX0 15 "Whichbox$Box" "places" "[I", Cond.methodLink RX0 63 yX0_isTrue, Cond.instanceMethod yX0_isTrue, Cond.selects RX0 yX0_isTrue yX0_isTrue, Cond.code yX0_isTrue cX0_isTrue 2 (some .boolean), Cond.methodLink RX3 246 yX2_claimBack, Cond.instanceMethod yX2_claimBack, Cond.selects RX2 yX2_claimBack yX2_claimBack, Cond.initialized RX2, Cond.code yX2_claimBack cX2_claimBack 2 none, Cond.fieldLink RX2 15 "Whichbox$Ledger" "paidByInsurers" "I", Cond.fieldLink RX2 19 "Whichbox$Ledger" "written" "I", Cond.methodLink RX3 249 yX0_deliverer, Cond.instanceMethod yX0_deliverer, Cond.selects RX0 yX0_deliverer yX0_deliverer, Cond.code yX0_deliverer cX0_deliverer 3 (some .int), Cond.static yX3_courierOfPlace, Cond.code yX3_courierOfPlace cX3_courierOfPlace 1 (some .int)]
def wsX3_settleAll_r4 : List Cond := [Cond.methodLink RX3 255 yX2_writeFee, Cond.instanceMethod yX2_writeFee, Cond.selects RX2 yX2_writeFee yX2_writeFee, Cond.code yX2_writeFee cX2_writeFee 3 none, Cond.fieldLink RX2 9 "Whichbox$Ledger" "feeSums" "[I"]
def wsX3_settleAll : List Cond := .code yX3_settleAll cX3_settleAll 5 none :: ((wsX3_settleAll_r1 ++ (wsX3_settleAll_r2 ++ (wsX3_settleAll_r3 ++ wsX3_settleAll_r4))) ++ wsX30 ++ wsX00 ++ wsX10 ++ wsX20)
def wsX3_setTrust_r1 : List Cond := [Cond.classLink RX3 53 "java/lang/IllegalArgumentException", Cond.initialized "java/lang/IllegalArgumentException", Cond.fieldLink RX3 21 "Whichbox" "trusts" "[I", Cond.methodLink RX3 68 yX3_checkWho, Cond.static yX3_checkWho, Cond.initialized RX3, Cond.code yX3_checkWho cX3_checkWho 1 none, Cond.classLink RX3 117 "java/lang/IndexOutOfBoundsException", Cond.initialized "java/lang/IndexOutOfBoundsException", Cond.methodLink RX3 49 yX3_isWithin, Cond.static yX3_isWithin, Cond.code yX3_isWithin cX3_isWithin 3 (some .boolean), Cond.methodLink RX3 74 yX3_settleAll, Cond.instanceMethod yX3_settleAll, Cond.selects RX3 yX3_settleAll yX3_settleAll, Cond.code yX3_settleAll cX3_settleAll 5 none, Cond.fieldLink RX3 11 "Whichbox" "told" "[LWhichbox$Box;", Cond.methodLink RX3 229 yX3_settle, Cond.instanceMethod yX3_settle, Cond.selects RX3 yX3_settle yX3_settle, Cond.code yX3_settle cX3_settle 3 none, Cond.fieldLink RX3 32 "Whichbox" "worths" "[I", Cond.fieldLink RX3 35 "Whichbox" "sums" "[I", Cond.fieldLink RX3 156 "Whichbox$Box" "insured" "Z"]
def wsX3_setTrust_r2 : List Cond := [Cond.fieldLink RX3 28 "Whichbox" "ledger" "LWhichbox$Ledger;", Cond.fieldLink RX3 165 "Whichbox$Box" "value" "I", Cond.fieldLink RX3 191 "Whichbox$Box" "withFee" "Z", Cond.fieldLink RX3 252 "Whichbox$Box" "feeCourier" "I", Cond.fieldLink RX3 107 "Whichbox$Box" "size" "I", Cond.methodLink RX3 177 yX3_weighScans, Cond.instanceMethod yX3_weighScans, Cond.selects RX3 yX3_weighScans yX3_weighScans, Cond.code yX3_weighScans cX3_weighScans 3 none, Cond.fieldLink RX3 171 "Whichbox$Box" "scanCount" "I", Cond.fieldLink RX3 232 "Whichbox$Box" "makers" "[I", Cond.methodLink RX3 235 yX3_trustOf, Cond.instanceMethod yX3_trustOf, Cond.selects RX3 yX3_trustOf yX3_trustOf, Cond.code yX3_trustOf cX3_trustOf 2 (some .int), Cond.fieldLink RX3 17 "Whichbox" "doors" "[LWhichbox$Door;", Cond.fieldLink RX3 130 "Whichbox$Door" "jammed" "Z", Cond.methodLink RX3 242 yX0_chooseStory, Cond.instanceMethod yX0_chooseStory, Cond.selects RX0 yX0_chooseStory yX0_chooseStory, Cond.initialized RX0, Cond.code yX0_chooseStory cX0_chooseStory 7 none, Cond.fieldLink RX0 24 "Whichbox$Box" "scanCount" "I", Cond.methodLink RX0 58 Lib.Math.max.name]
def wsX3_setTrust_r3 : List Cond := [Cond.static Lib.Math.max.name, Cond.initialized "java/lang/Math", Cond.code Lib.Math.max.name Lib.Math.max.code 2 (some .int), Cond.fieldLink RX0 28 "Whichbox$Box" "story" "I", Cond.methodLink RX0 54 yX0_canFollow, Cond.instanceMethod yX0_canFollow, Cond.selects RX0 yX0_canFollow yX0_canFollow, Cond.code yX0_canFollow cX0_canFollow 4 (some .boolean), Cond.fieldLink RX0 21 "Whichbox$Box" "follows" "[I", Cond.methodLink RX3 153 yX0_isDelivered, Cond.instanceMethod yX0_isDelivered, Cond.selects RX0 yX0_isDelivered yX0_isDelivered, Cond.code yX0_isDelivered cX0_isDelivered 1 (some .boolean), Cond.methodLink RX0 67 yX0_whereabouts, Cond.instanceMethod yX0_whereabouts, Cond.selects RX0 yX0_whereabouts yX0_whereabouts, Cond.code yX0_whereabouts cX0_whereabouts 2 (some .int), Cond.fieldLink RX0 15 "Whichbox$Box" "places" "[I", Cond.methodLink RX0 63 yX0_isTrue, Cond.instanceMethod yX0_isTrue, Cond.selects RX0 yX0_isTrue yX0_isTrue, Cond.code yX0_isTrue cX0_isTrue 2 (some .boolean), Cond.methodLink RX3 246 yX2_claimBack, Cond.instanceMethod yX2_claimBack]
def wsX3_setTrust_r4 : List Cond := [Cond.selects RX2 yX2_claimBack yX2_claimBack, Cond.initialized RX2, Cond.code yX2_claimBack cX2_claimBack 2 none, Cond.fieldLink RX2 15 "Whichbox$Ledger" "paidByInsurers" "I", Cond.fieldLink RX2 19 "Whichbox$Ledger" "written" "I", Cond.methodLink RX3 249 yX0_deliverer, Cond.instanceMethod yX0_deliverer, Cond.selects RX0 yX0_deliverer yX0_deliverer, Cond.code yX0_deliverer cX0_deliverer 3 (some .int), Cond.static yX3_courierOfPlace, Cond.code yX3_courierOfPlace cX3_courierOfPlace 1 (some .int), Cond.methodLink RX3 255 yX2_writeFee, Cond.instanceMethod yX2_writeFee, Cond.selects RX2 yX2_writeFee yX2_writeFee, Cond.code yX2_writeFee cX2_writeFee 3 none, Cond.fieldLink RX2 9 "Whichbox$Ledger" "feeSums" "[I"]
def wsX3_setTrust : List Cond := .code yX3_setTrust cX3_setTrust 4 (some .int) :: ((wsX3_setTrust_r1 ++ (wsX3_setTrust_r2 ++ (wsX3_setTrust_r3 ++ wsX3_setTrust_r4))) ++ wsX30 ++ wsX00 ++ wsX10 ++ wsX20 ++ (vx_atS RX3 57 "java/lang/IllegalArgumentException" ["java/lang/RuntimeException", "java/lang/Exception"]).filter goodWord ++ (vx_atS RX3 121 "java/lang/IndexOutOfBoundsException" ["java/lang/RuntimeException", "java/lang/Exception"]).filter goodWord)
def wsX3_pass : List Cond := .code yX3_pass cX3_pass 2 (some .int) :: ([.classLink RX3 53 "java/lang/IllegalArgumentException", .initialized "java/lang/IllegalArgumentException", .classLink RX3 60 "java/lang/IllegalStateException", .initialized "java/lang/IllegalStateException", .fieldLink RX3 42 "Whichbox" "now" "I", .constant RX3 79 (100000), .methodLink RX3 49 yX3_isWithin, .static yX3_isWithin, .initialized RX3, .code yX3_isWithin cX3_isWithin 3 (some .boolean)] ++ wsX30 ++ (vx_atS RX3 57 "java/lang/IllegalArgumentException" ["java/lang/RuntimeException", "java/lang/Exception"]).filter goodWord ++ (vx_atS RX3 64 "java/lang/IllegalStateException" ["java/lang/RuntimeException", "java/lang/Exception"]).filter goodWord)
def wsX3_boxAt : List Cond := .code yX3_boxAt cX3_boxAt 2 (some (.object "Whichbox$Box")) :: ([.classLink RX3 117 "java/lang/IndexOutOfBoundsException", .initialized "java/lang/IndexOutOfBoundsException", .fieldLink RX3 11 "Whichbox" "told" "[LWhichbox$Box;"] ++ wsX30 ++ (vx_atS RX3 121 "java/lang/IndexOutOfBoundsException" ["java/lang/RuntimeException", "java/lang/Exception"]).filter goodWord)
def wsX3_checkCourier : List Cond := .code yX3_checkCourier cX3_checkCourier 1 none :: ([.classLink RX3 117 "java/lang/IndexOutOfBoundsException", .initialized "java/lang/IndexOutOfBoundsException"] ++ (vx_atS RX3 121 "java/lang/IndexOutOfBoundsException" ["java/lang/RuntimeException", "java/lang/Exception"]).filter goodWord)
def wsX3_checkRoomForScan : List Cond := .code yX3_checkRoomForScan cX3_checkRoomForScan 1 none :: ([.classLink RX3 60 "java/lang/IllegalStateException", .initialized "java/lang/IllegalStateException", .fieldLink RX3 171 "Whichbox$Box" "scanCount" "I"] ++ wsX00 ++ (vx_atS RX3 64 "java/lang/IllegalStateException" ["java/lang/RuntimeException", "java/lang/Exception"]).filter goodWord)
def wsX3_placeTold : List Cond := .code yX3_placeTold cX3_placeTold 2 (some .int) :: ([])
def wsX3_addScan_r1 : List Cond := [Cond.fieldLink RX3 42 "Whichbox" "now" "I", Cond.methodLink RX3 225 yX0_note, Cond.instanceMethod yX0_note, Cond.selects RX0 yX0_note yX0_note, Cond.initialized RX0, Cond.code yX0_note cX0_note 5 (some .int), Cond.fieldLink RX0 24 "Whichbox$Box" "scanCount" "I", Cond.fieldLink RX0 9 "Whichbox$Box" "times" "[I", Cond.fieldLink RX0 15 "Whichbox$Box" "places" "[I", Cond.fieldLink RX0 18 "Whichbox$Box" "makers" "[I", Cond.fieldLink RX0 21 "Whichbox$Box" "follows" "[I", Cond.methodLink RX0 47 yX0_scansAheadOf, Cond.instanceMethod yX0_scansAheadOf, Cond.selects RX0 yX0_scansAheadOf yX0_scansAheadOf, Cond.code yX0_scansAheadOf cX0_scansAheadOf 5 (some .int), Cond.static yX3_minutesBetween, Cond.initialized RX3, Cond.code yX3_minutesBetween cX3_minutesBetween 4 (some .int), Cond.constant RX3 221 (1000000), Cond.fieldLink RX3 222 "Whichbox" "MINUTES" "[I", Cond.methodLink RX3 113 yX3_kindOf, Cond.static yX3_kindOf, Cond.code yX3_kindOf cX3_kindOf 1 (some .int), Cond.methodLink RX3 49 yX3_isWithin]
def wsX3_addScan_r2 : List Cond := [Cond.static yX3_isWithin, Cond.code yX3_isWithin cX3_isWithin 3 (some .boolean), Cond.methodLink RX3 229 yX3_settle, Cond.instanceMethod yX3_settle, Cond.selects RX3 yX3_settle yX3_settle, Cond.code yX3_settle cX3_settle 3 none, Cond.fieldLink RX3 32 "Whichbox" "worths" "[I", Cond.fieldLink RX3 35 "Whichbox" "sums" "[I", Cond.fieldLink RX3 156 "Whichbox$Box" "insured" "Z", Cond.fieldLink RX3 28 "Whichbox" "ledger" "LWhichbox$Ledger;", Cond.fieldLink RX3 165 "Whichbox$Box" "value" "I", Cond.fieldLink RX3 191 "Whichbox$Box" "withFee" "Z", Cond.fieldLink RX3 252 "Whichbox$Box" "feeCourier" "I", Cond.fieldLink RX3 107 "Whichbox$Box" "size" "I", Cond.methodLink RX3 177 yX3_weighScans, Cond.instanceMethod yX3_weighScans, Cond.selects RX3 yX3_weighScans yX3_weighScans, Cond.code yX3_weighScans cX3_weighScans 3 none, Cond.fieldLink RX3 171 "Whichbox$Box" "scanCount" "I", Cond.fieldLink RX3 232 "Whichbox$Box" "makers" "[I", Cond.methodLink RX3 235 yX3_trustOf, Cond.instanceMethod yX3_trustOf, Cond.selects RX3 yX3_trustOf yX3_trustOf, Cond.code yX3_trustOf cX3_trustOf 2 (some .int)]
def wsX3_addScan_r3 : List Cond := [Cond.fieldLink RX3 17 "Whichbox" "doors" "[LWhichbox$Door;", Cond.fieldLink RX3 130 "Whichbox$Door" "jammed" "Z", Cond.fieldLink RX3 21 "Whichbox" "trusts" "[I", Cond.methodLink RX3 242 yX0_chooseStory, Cond.instanceMethod yX0_chooseStory, Cond.selects RX0 yX0_chooseStory yX0_chooseStory, Cond.code yX0_chooseStory cX0_chooseStory 7 none, Cond.methodLink RX0 58 Lib.Math.max.name, Cond.static Lib.Math.max.name, Cond.initialized "java/lang/Math", Cond.code Lib.Math.max.name Lib.Math.max.code 2 (some .int), Cond.fieldLink RX0 28 "Whichbox$Box" "story" "I", Cond.methodLink RX0 54 yX0_canFollow, Cond.instanceMethod yX0_canFollow, Cond.selects RX0 yX0_canFollow yX0_canFollow, Cond.code yX0_canFollow cX0_canFollow 4 (some .boolean), Cond.methodLink RX3 153 yX0_isDelivered, Cond.instanceMethod yX0_isDelivered, Cond.selects RX0 yX0_isDelivered yX0_isDelivered, Cond.code yX0_isDelivered cX0_isDelivered 1 (some .boolean), Cond.methodLink RX0 67 yX0_whereabouts, Cond.instanceMethod yX0_whereabouts, Cond.selects RX0 yX0_whereabouts yX0_whereabouts, Cond.code yX0_whereabouts cX0_whereabouts 2 (some .int)]
def wsX3_addScan_r4 : List Cond := [Cond.methodLink RX0 63 yX0_isTrue, Cond.instanceMethod yX0_isTrue, Cond.selects RX0 yX0_isTrue yX0_isTrue, Cond.code yX0_isTrue cX0_isTrue 2 (some .boolean), Cond.methodLink RX3 246 yX2_claimBack, Cond.instanceMethod yX2_claimBack, Cond.selects RX2 yX2_claimBack yX2_claimBack, Cond.initialized RX2, Cond.code yX2_claimBack cX2_claimBack 2 none, Cond.fieldLink RX2 15 "Whichbox$Ledger" "paidByInsurers" "I", Cond.fieldLink RX2 19 "Whichbox$Ledger" "written" "I", Cond.methodLink RX3 249 yX0_deliverer, Cond.instanceMethod yX0_deliverer, Cond.selects RX0 yX0_deliverer yX0_deliverer, Cond.code yX0_deliverer cX0_deliverer 3 (some .int), Cond.static yX3_courierOfPlace, Cond.code yX3_courierOfPlace cX3_courierOfPlace 1 (some .int), Cond.methodLink RX3 255 yX2_writeFee, Cond.instanceMethod yX2_writeFee, Cond.selects RX2 yX2_writeFee yX2_writeFee, Cond.code yX2_writeFee cX2_writeFee 3 none, Cond.fieldLink RX2 9 "Whichbox$Ledger" "feeSums" "[I"]
def wsX3_addScan : List Cond := .code yX3_addScan cX3_addScan 5 (some .int) :: ((wsX3_addScan_r1 ++ (wsX3_addScan_r2 ++ (wsX3_addScan_r3 ++ wsX3_addScan_r4))) ++ wsX30 ++ wsX00 ++ wsX10 ++ wsX20)
def wsX3_scan_r1 : List Cond := [Cond.classLink RX3 53 "java/lang/IllegalArgumentException", Cond.initialized "java/lang/IllegalArgumentException", Cond.methodLink RX3 82 yX3_boxAt, Cond.instanceMethod yX3_boxAt, Cond.selects RX3 yX3_boxAt yX3_boxAt, Cond.initialized RX3, Cond.code yX3_boxAt cX3_boxAt 2 (some (.object "Whichbox$Box")), Cond.classLink RX3 117 "java/lang/IndexOutOfBoundsException", Cond.initialized "java/lang/IndexOutOfBoundsException", Cond.fieldLink RX3 11 "Whichbox" "told" "[LWhichbox$Box;", Cond.methodLink RX3 86 yX3_checkCourier, Cond.static yX3_checkCourier, Cond.code yX3_checkCourier cX3_checkCourier 1 none, Cond.methodLink RX3 49 yX3_isWithin, Cond.static yX3_isWithin, Cond.code yX3_isWithin cX3_isWithin 3 (some .boolean), Cond.methodLink RX3 91 yX3_checkRoomForScan, Cond.static yX3_checkRoomForScan, Cond.code yX3_checkRoomForScan cX3_checkRoomForScan 1 none, Cond.classLink RX3 60 "java/lang/IllegalStateException", Cond.initialized "java/lang/IllegalStateException", Cond.fieldLink RX3 171 "Whichbox$Box" "scanCount" "I", Cond.methodLink RX3 95 yX3_placeTold, Cond.static yX3_placeTold]
def wsX3_scan_r2 : List Cond := [Cond.code yX3_placeTold cX3_placeTold 2 (some .int), Cond.methodLink RX3 99 yX3_addScan, Cond.instanceMethod yX3_addScan, Cond.selects RX3 yX3_addScan yX3_addScan, Cond.code yX3_addScan cX3_addScan 5 (some .int), Cond.fieldLink RX3 42 "Whichbox" "now" "I", Cond.methodLink RX3 225 yX0_note, Cond.instanceMethod yX0_note, Cond.selects RX0 yX0_note yX0_note, Cond.initialized RX0, Cond.code yX0_note cX0_note 5 (some .int), Cond.fieldLink RX0 24 "Whichbox$Box" "scanCount" "I", Cond.fieldLink RX0 9 "Whichbox$Box" "times" "[I", Cond.fieldLink RX0 15 "Whichbox$Box" "places" "[I", Cond.fieldLink RX0 18 "Whichbox$Box" "makers" "[I", Cond.fieldLink RX0 21 "Whichbox$Box" "follows" "[I", Cond.methodLink RX0 47 yX0_scansAheadOf, Cond.instanceMethod yX0_scansAheadOf, Cond.selects RX0 yX0_scansAheadOf yX0_scansAheadOf, Cond.code yX0_scansAheadOf cX0_scansAheadOf 5 (some .int), Cond.static yX3_minutesBetween, Cond.code yX3_minutesBetween cX3_minutesBetween 4 (some .int), Cond.constant RX3 221 (1000000), Cond.fieldLink RX3 222 "Whichbox" "MINUTES" "[I"]
def wsX3_scan_r3 : List Cond := [Cond.methodLink RX3 113 yX3_kindOf, Cond.static yX3_kindOf, Cond.code yX3_kindOf cX3_kindOf 1 (some .int), Cond.methodLink RX3 229 yX3_settle, Cond.instanceMethod yX3_settle, Cond.selects RX3 yX3_settle yX3_settle, Cond.code yX3_settle cX3_settle 3 none, Cond.fieldLink RX3 32 "Whichbox" "worths" "[I", Cond.fieldLink RX3 35 "Whichbox" "sums" "[I", Cond.fieldLink RX3 156 "Whichbox$Box" "insured" "Z", Cond.fieldLink RX3 28 "Whichbox" "ledger" "LWhichbox$Ledger;", Cond.fieldLink RX3 165 "Whichbox$Box" "value" "I", Cond.fieldLink RX3 191 "Whichbox$Box" "withFee" "Z", Cond.fieldLink RX3 252 "Whichbox$Box" "feeCourier" "I", Cond.fieldLink RX3 107 "Whichbox$Box" "size" "I", Cond.methodLink RX3 177 yX3_weighScans, Cond.instanceMethod yX3_weighScans, Cond.selects RX3 yX3_weighScans yX3_weighScans, Cond.code yX3_weighScans cX3_weighScans 3 none, Cond.fieldLink RX3 232 "Whichbox$Box" "makers" "[I", Cond.methodLink RX3 235 yX3_trustOf, Cond.instanceMethod yX3_trustOf, Cond.selects RX3 yX3_trustOf yX3_trustOf, Cond.code yX3_trustOf cX3_trustOf 2 (some .int)]
def wsX3_scan_r4 : List Cond := [Cond.fieldLink RX3 17 "Whichbox" "doors" "[LWhichbox$Door;", Cond.fieldLink RX3 130 "Whichbox$Door" "jammed" "Z", Cond.fieldLink RX3 21 "Whichbox" "trusts" "[I", Cond.methodLink RX3 242 yX0_chooseStory, Cond.instanceMethod yX0_chooseStory, Cond.selects RX0 yX0_chooseStory yX0_chooseStory, Cond.code yX0_chooseStory cX0_chooseStory 7 none, Cond.methodLink RX0 58 Lib.Math.max.name, Cond.static Lib.Math.max.name, Cond.initialized "java/lang/Math", Cond.code Lib.Math.max.name Lib.Math.max.code 2 (some .int), Cond.fieldLink RX0 28 "Whichbox$Box" "story" "I", Cond.methodLink RX0 54 yX0_canFollow, Cond.instanceMethod yX0_canFollow, Cond.selects RX0 yX0_canFollow yX0_canFollow, Cond.code yX0_canFollow cX0_canFollow 4 (some .boolean), Cond.methodLink RX3 153 yX0_isDelivered, Cond.instanceMethod yX0_isDelivered, Cond.selects RX0 yX0_isDelivered yX0_isDelivered, Cond.code yX0_isDelivered cX0_isDelivered 1 (some .boolean), Cond.methodLink RX0 67 yX0_whereabouts, Cond.instanceMethod yX0_whereabouts, Cond.selects RX0 yX0_whereabouts yX0_whereabouts, Cond.code yX0_whereabouts cX0_whereabouts 2 (some .int)]
def wsX3_scan_r5 : List Cond := [Cond.methodLink RX0 63 yX0_isTrue, Cond.instanceMethod yX0_isTrue, Cond.selects RX0 yX0_isTrue yX0_isTrue, Cond.code yX0_isTrue cX0_isTrue 2 (some .boolean), Cond.methodLink RX3 246 yX2_claimBack, Cond.instanceMethod yX2_claimBack, Cond.selects RX2 yX2_claimBack yX2_claimBack, Cond.initialized RX2, Cond.code yX2_claimBack cX2_claimBack 2 none, Cond.fieldLink RX2 15 "Whichbox$Ledger" "paidByInsurers" "I", Cond.fieldLink RX2 19 "Whichbox$Ledger" "written" "I", Cond.methodLink RX3 249 yX0_deliverer, Cond.instanceMethod yX0_deliverer, Cond.selects RX0 yX0_deliverer yX0_deliverer, Cond.code yX0_deliverer cX0_deliverer 3 (some .int), Cond.static yX3_courierOfPlace, Cond.code yX3_courierOfPlace cX3_courierOfPlace 1 (some .int), Cond.methodLink RX3 255 yX2_writeFee, Cond.instanceMethod yX2_writeFee, Cond.selects RX2 yX2_writeFee yX2_writeFee, Cond.code yX2_writeFee cX2_writeFee 3 none, Cond.fieldLink RX2 9 "Whichbox$Ledger" "feeSums" "[I"]
def wsX3_scan : List Cond := .code yX3_scan cX3_scan 5 (some .int) :: ((wsX3_scan_r1 ++ (wsX3_scan_r2 ++ (wsX3_scan_r3 ++ (wsX3_scan_r4 ++ wsX3_scan_r5)))) ++ wsX30 ++ wsX00 ++ wsX10 ++ wsX20 ++ (vx_atS RX3 57 "java/lang/IllegalArgumentException" ["java/lang/RuntimeException", "java/lang/Exception"]).filter goodWord ++ (vx_atS RX3 121 "java/lang/IndexOutOfBoundsException" ["java/lang/RuntimeException", "java/lang/Exception"]).filter goodWord ++ (vx_atS RX3 64 "java/lang/IllegalStateException" ["java/lang/RuntimeException", "java/lang/Exception"]).filter goodWord)
def wsX3_doorAt : List Cond := .code yX3_doorAt cX3_doorAt 2 (some (.object "Whichbox$Door")) :: ([.classLink RX3 117 "java/lang/IndexOutOfBoundsException", .initialized "java/lang/IndexOutOfBoundsException", .fieldLink RX3 17 "Whichbox" "doors" "[LWhichbox$Door;"] ++ wsX30 ++ (vx_atS RX3 121 "java/lang/IndexOutOfBoundsException" ["java/lang/RuntimeException", "java/lang/Exception"]).filter goodWord)
def wsX3_lay_r1 : List Cond := [Cond.classLink RX3 60 "java/lang/IllegalStateException", Cond.initialized "java/lang/IllegalStateException", Cond.fieldLink RX3 107 "Whichbox$Box" "size" "I", Cond.fieldLink RX3 110 "Whichbox$Door" "size" "I", Cond.methodLink RX3 82 yX3_boxAt, Cond.instanceMethod yX3_boxAt, Cond.selects RX3 yX3_boxAt yX3_boxAt, Cond.initialized RX3, Cond.code yX3_boxAt cX3_boxAt 2 (some (.object "Whichbox$Box")), Cond.classLink RX3 117 "java/lang/IndexOutOfBoundsException", Cond.initialized "java/lang/IndexOutOfBoundsException", Cond.fieldLink RX3 11 "Whichbox" "told" "[LWhichbox$Box;", Cond.methodLink RX3 103 yX3_doorAt, Cond.instanceMethod yX3_doorAt, Cond.selects RX3 yX3_doorAt yX3_doorAt, Cond.code yX3_doorAt cX3_doorAt 2 (some (.object "Whichbox$Door")), Cond.fieldLink RX3 17 "Whichbox" "doors" "[LWhichbox$Door;", Cond.methodLink RX3 91 yX3_checkRoomForScan, Cond.static yX3_checkRoomForScan, Cond.code yX3_checkRoomForScan cX3_checkRoomForScan 1 none, Cond.fieldLink RX3 171 "Whichbox$Box" "scanCount" "I", Cond.methodLink RX3 99 yX3_addScan, Cond.instanceMethod yX3_addScan, Cond.selects RX3 yX3_addScan yX3_addScan]
def wsX3_lay_r2 : List Cond := [Cond.code yX3_addScan cX3_addScan 5 (some .int), Cond.fieldLink RX3 42 "Whichbox" "now" "I", Cond.methodLink RX3 225 yX0_note, Cond.instanceMethod yX0_note, Cond.selects RX0 yX0_note yX0_note, Cond.initialized RX0, Cond.code yX0_note cX0_note 5 (some .int), Cond.fieldLink RX0 24 "Whichbox$Box" "scanCount" "I", Cond.fieldLink RX0 9 "Whichbox$Box" "times" "[I", Cond.fieldLink RX0 15 "Whichbox$Box" "places" "[I", Cond.fieldLink RX0 18 "Whichbox$Box" "makers" "[I", Cond.fieldLink RX0 21 "Whichbox$Box" "follows" "[I", Cond.methodLink RX0 47 yX0_scansAheadOf, Cond.instanceMethod yX0_scansAheadOf, Cond.selects RX0 yX0_scansAheadOf yX0_scansAheadOf, Cond.code yX0_scansAheadOf cX0_scansAheadOf 5 (some .int), Cond.static yX3_minutesBetween, Cond.code yX3_minutesBetween cX3_minutesBetween 4 (some .int), Cond.constant RX3 221 (1000000), Cond.fieldLink RX3 222 "Whichbox" "MINUTES" "[I", Cond.methodLink RX3 113 yX3_kindOf, Cond.static yX3_kindOf, Cond.code yX3_kindOf cX3_kindOf 1 (some .int), Cond.methodLink RX3 49 yX3_isWithin]
def wsX3_lay_r3 : List Cond := [Cond.static yX3_isWithin, Cond.code yX3_isWithin cX3_isWithin 3 (some .boolean), Cond.methodLink RX3 229 yX3_settle, Cond.instanceMethod yX3_settle, Cond.selects RX3 yX3_settle yX3_settle, Cond.code yX3_settle cX3_settle 3 none, Cond.fieldLink RX3 32 "Whichbox" "worths" "[I", Cond.fieldLink RX3 35 "Whichbox" "sums" "[I", Cond.fieldLink RX3 156 "Whichbox$Box" "insured" "Z", Cond.fieldLink RX3 28 "Whichbox" "ledger" "LWhichbox$Ledger;", Cond.fieldLink RX3 165 "Whichbox$Box" "value" "I", Cond.fieldLink RX3 191 "Whichbox$Box" "withFee" "Z", Cond.fieldLink RX3 252 "Whichbox$Box" "feeCourier" "I", Cond.methodLink RX3 177 yX3_weighScans, Cond.instanceMethod yX3_weighScans, Cond.selects RX3 yX3_weighScans yX3_weighScans, Cond.code yX3_weighScans cX3_weighScans 3 none, Cond.fieldLink RX3 232 "Whichbox$Box" "makers" "[I", Cond.methodLink RX3 235 yX3_trustOf, Cond.instanceMethod yX3_trustOf, Cond.selects RX3 yX3_trustOf yX3_trustOf, Cond.code yX3_trustOf cX3_trustOf 2 (some .int), Cond.fieldLink RX3 130 "Whichbox$Door" "jammed" "Z", Cond.fieldLink RX3 21 "Whichbox" "trusts" "[I"]
def wsX3_lay_r4 : List Cond := [Cond.methodLink RX3 242 yX0_chooseStory, Cond.instanceMethod yX0_chooseStory, Cond.selects RX0 yX0_chooseStory yX0_chooseStory, Cond.code yX0_chooseStory cX0_chooseStory 7 none, Cond.methodLink RX0 58 Lib.Math.max.name, Cond.static Lib.Math.max.name, Cond.initialized "java/lang/Math", Cond.code Lib.Math.max.name Lib.Math.max.code 2 (some .int), Cond.fieldLink RX0 28 "Whichbox$Box" "story" "I", Cond.methodLink RX0 54 yX0_canFollow, Cond.instanceMethod yX0_canFollow, Cond.selects RX0 yX0_canFollow yX0_canFollow, Cond.code yX0_canFollow cX0_canFollow 4 (some .boolean), Cond.methodLink RX3 153 yX0_isDelivered, Cond.instanceMethod yX0_isDelivered, Cond.selects RX0 yX0_isDelivered yX0_isDelivered, Cond.code yX0_isDelivered cX0_isDelivered 1 (some .boolean), Cond.methodLink RX0 67 yX0_whereabouts, Cond.instanceMethod yX0_whereabouts, Cond.selects RX0 yX0_whereabouts yX0_whereabouts, Cond.code yX0_whereabouts cX0_whereabouts 2 (some .int), Cond.methodLink RX0 63 yX0_isTrue, Cond.instanceMethod yX0_isTrue, Cond.selects RX0 yX0_isTrue yX0_isTrue]
def wsX3_lay_r5 : List Cond := [Cond.code yX0_isTrue cX0_isTrue 2 (some .boolean), Cond.methodLink RX3 246 yX2_claimBack, Cond.instanceMethod yX2_claimBack, Cond.selects RX2 yX2_claimBack yX2_claimBack, Cond.initialized RX2, Cond.code yX2_claimBack cX2_claimBack 2 none, Cond.fieldLink RX2 15 "Whichbox$Ledger" "paidByInsurers" "I", Cond.fieldLink RX2 19 "Whichbox$Ledger" "written" "I", Cond.methodLink RX3 249 yX0_deliverer, Cond.instanceMethod yX0_deliverer, Cond.selects RX0 yX0_deliverer yX0_deliverer, Cond.code yX0_deliverer cX0_deliverer 3 (some .int), Cond.static yX3_courierOfPlace, Cond.code yX3_courierOfPlace cX3_courierOfPlace 1 (some .int), Cond.methodLink RX3 255 yX2_writeFee, Cond.instanceMethod yX2_writeFee, Cond.selects RX2 yX2_writeFee yX2_writeFee, Cond.code yX2_writeFee cX2_writeFee 3 none, Cond.fieldLink RX2 9 "Whichbox$Ledger" "feeSums" "[I"]
def wsX3_lay : List Cond := .code yX3_lay cX3_lay 5 (some .int) :: ((wsX3_lay_r1 ++ (wsX3_lay_r2 ++ (wsX3_lay_r3 ++ (wsX3_lay_r4 ++ wsX3_lay_r5)))) ++ wsX00 ++ wsX10 ++ wsX30 ++ wsX20 ++ (vx_atS RX3 64 "java/lang/IllegalStateException" ["java/lang/RuntimeException", "java/lang/Exception"]).filter goodWord ++ (vx_atS RX3 121 "java/lang/IndexOutOfBoundsException" ["java/lang/RuntimeException", "java/lang/Exception"]).filter goodWord)
def wsX3_find_r1 : List Cond := [Cond.classLink RX3 117 "java/lang/IndexOutOfBoundsException", Cond.initialized "java/lang/IndexOutOfBoundsException", Cond.methodLink RX3 82 yX3_boxAt, Cond.instanceMethod yX3_boxAt, Cond.selects RX3 yX3_boxAt yX3_boxAt, Cond.initialized RX3, Cond.code yX3_boxAt cX3_boxAt 2 (some (.object "Whichbox$Box")), Cond.fieldLink RX3 11 "Whichbox" "told" "[LWhichbox$Box;", Cond.methodLink RX3 113 yX3_kindOf, Cond.static yX3_kindOf, Cond.code yX3_kindOf cX3_kindOf 1 (some .int), Cond.methodLink RX3 49 yX3_isWithin, Cond.static yX3_isWithin, Cond.code yX3_isWithin cX3_isWithin 3 (some .boolean), Cond.methodLink RX3 91 yX3_checkRoomForScan, Cond.static yX3_checkRoomForScan, Cond.code yX3_checkRoomForScan cX3_checkRoomForScan 1 none, Cond.classLink RX3 60 "java/lang/IllegalStateException", Cond.initialized "java/lang/IllegalStateException", Cond.fieldLink RX3 171 "Whichbox$Box" "scanCount" "I", Cond.methodLink RX3 99 yX3_addScan, Cond.instanceMethod yX3_addScan, Cond.selects RX3 yX3_addScan yX3_addScan, Cond.code yX3_addScan cX3_addScan 5 (some .int)]
def wsX3_find_r2 : List Cond := [Cond.fieldLink RX3 42 "Whichbox" "now" "I", Cond.methodLink RX3 225 yX0_note, Cond.instanceMethod yX0_note, Cond.selects RX0 yX0_note yX0_note, Cond.initialized RX0, Cond.code yX0_note cX0_note 5 (some .int), Cond.fieldLink RX0 24 "Whichbox$Box" "scanCount" "I", Cond.fieldLink RX0 9 "Whichbox$Box" "times" "[I", Cond.fieldLink RX0 15 "Whichbox$Box" "places" "[I", Cond.fieldLink RX0 18 "Whichbox$Box" "makers" "[I", Cond.fieldLink RX0 21 "Whichbox$Box" "follows" "[I", Cond.methodLink RX0 47 yX0_scansAheadOf, Cond.instanceMethod yX0_scansAheadOf, Cond.selects RX0 yX0_scansAheadOf yX0_scansAheadOf, Cond.code yX0_scansAheadOf cX0_scansAheadOf 5 (some .int), Cond.static yX3_minutesBetween, Cond.code yX3_minutesBetween cX3_minutesBetween 4 (some .int), Cond.constant RX3 221 (1000000), Cond.fieldLink RX3 222 "Whichbox" "MINUTES" "[I", Cond.methodLink RX3 229 yX3_settle, Cond.instanceMethod yX3_settle, Cond.selects RX3 yX3_settle yX3_settle, Cond.code yX3_settle cX3_settle 3 none, Cond.fieldLink RX3 32 "Whichbox" "worths" "[I"]
def wsX3_find_r3 : List Cond := [Cond.fieldLink RX3 35 "Whichbox" "sums" "[I", Cond.fieldLink RX3 156 "Whichbox$Box" "insured" "Z", Cond.fieldLink RX3 28 "Whichbox" "ledger" "LWhichbox$Ledger;", Cond.fieldLink RX3 165 "Whichbox$Box" "value" "I", Cond.fieldLink RX3 191 "Whichbox$Box" "withFee" "Z", Cond.fieldLink RX3 252 "Whichbox$Box" "feeCourier" "I", Cond.fieldLink RX3 107 "Whichbox$Box" "size" "I", Cond.methodLink RX3 177 yX3_weighScans, Cond.instanceMethod yX3_weighScans, Cond.selects RX3 yX3_weighScans yX3_weighScans, Cond.code yX3_weighScans cX3_weighScans 3 none, Cond.fieldLink RX3 232 "Whichbox$Box" "makers" "[I", Cond.methodLink RX3 235 yX3_trustOf, Cond.instanceMethod yX3_trustOf, Cond.selects RX3 yX3_trustOf yX3_trustOf, Cond.code yX3_trustOf cX3_trustOf 2 (some .int), Cond.fieldLink RX3 17 "Whichbox" "doors" "[LWhichbox$Door;", Cond.fieldLink RX3 130 "Whichbox$Door" "jammed" "Z", Cond.fieldLink RX3 21 "Whichbox" "trusts" "[I", Cond.methodLink RX3 242 yX0_chooseStory, Cond.instanceMethod yX0_chooseStory, Cond.selects RX0 yX0_chooseStory yX0_chooseStory, Cond.code yX0_chooseStory cX0_chooseStory 7 none, Cond.methodLink RX0 58 Lib.Math.max.name]
def wsX3_find_r4 : List Cond := [Cond.static Lib.Math.max.name, Cond.initialized "java/lang/Math", Cond.code Lib.Math.max.name Lib.Math.max.code 2 (some .int), Cond.fieldLink RX0 28 "Whichbox$Box" "story" "I", Cond.methodLink RX0 54 yX0_canFollow, Cond.instanceMethod yX0_canFollow, Cond.selects RX0 yX0_canFollow yX0_canFollow, Cond.code yX0_canFollow cX0_canFollow 4 (some .boolean), Cond.methodLink RX3 153 yX0_isDelivered, Cond.instanceMethod yX0_isDelivered, Cond.selects RX0 yX0_isDelivered yX0_isDelivered, Cond.code yX0_isDelivered cX0_isDelivered 1 (some .boolean), Cond.methodLink RX0 67 yX0_whereabouts, Cond.instanceMethod yX0_whereabouts, Cond.selects RX0 yX0_whereabouts yX0_whereabouts, Cond.code yX0_whereabouts cX0_whereabouts 2 (some .int), Cond.methodLink RX0 63 yX0_isTrue, Cond.instanceMethod yX0_isTrue, Cond.selects RX0 yX0_isTrue yX0_isTrue, Cond.code yX0_isTrue cX0_isTrue 2 (some .boolean), Cond.methodLink RX3 246 yX2_claimBack, Cond.instanceMethod yX2_claimBack, Cond.selects RX2 yX2_claimBack yX2_claimBack, Cond.initialized RX2]
def wsX3_find_r5 : List Cond := [Cond.code yX2_claimBack cX2_claimBack 2 none, Cond.fieldLink RX2 15 "Whichbox$Ledger" "paidByInsurers" "I", Cond.fieldLink RX2 19 "Whichbox$Ledger" "written" "I", Cond.methodLink RX3 249 yX0_deliverer, Cond.instanceMethod yX0_deliverer, Cond.selects RX0 yX0_deliverer yX0_deliverer, Cond.code yX0_deliverer cX0_deliverer 3 (some .int), Cond.static yX3_courierOfPlace, Cond.code yX3_courierOfPlace cX3_courierOfPlace 1 (some .int), Cond.methodLink RX3 255 yX2_writeFee, Cond.instanceMethod yX2_writeFee, Cond.selects RX2 yX2_writeFee yX2_writeFee, Cond.code yX2_writeFee cX2_writeFee 3 none, Cond.fieldLink RX2 9 "Whichbox$Ledger" "feeSums" "[I"]
def wsX3_find : List Cond := .code yX3_find cX3_find 4 (some .int) :: ((wsX3_find_r1 ++ (wsX3_find_r2 ++ (wsX3_find_r3 ++ (wsX3_find_r4 ++ wsX3_find_r5)))) ++ wsX30 ++ wsX00 ++ wsX10 ++ wsX20 ++ (vx_atS RX3 121 "java/lang/IndexOutOfBoundsException" ["java/lang/RuntimeException", "java/lang/Exception"]).filter goodWord ++ (vx_atS RX3 64 "java/lang/IllegalStateException" ["java/lang/RuntimeException", "java/lang/Exception"]).filter goodWord)
def wsX3_setDoor : List Cond := .code yX3_setDoor cX3_setDoor 5 (some .int) :: ([.classLink RX3 53 "java/lang/IllegalArgumentException", .initialized "java/lang/IllegalArgumentException", .classLink RX3 60 "java/lang/IllegalStateException", .initialized "java/lang/IllegalStateException", .fieldLink RX3 110 "Whichbox$Door" "size" "I", .methodLink RX3 103 yX3_doorAt, .instanceMethod yX3_doorAt, .selects RX3 yX3_doorAt yX3_doorAt, .initialized RX3, .code yX3_doorAt cX3_doorAt 2 (some (.object "Whichbox$Door")), .classLink RX3 117 "java/lang/IndexOutOfBoundsException", .initialized "java/lang/IndexOutOfBoundsException", .fieldLink RX3 17 "Whichbox" "doors" "[LWhichbox$Door;", .methodLink RX3 49 yX3_isWithin, .static yX3_isWithin, .code yX3_isWithin cX3_isWithin 3 (some .boolean), .methodLink RX3 124 yX1_isKept, .instanceMethod yX1_isKept, .selects RX1 yX1_isKept yX1_isKept, .initialized RX1, .code yX1_isKept cX1_isKept 1 (some .boolean), .fieldLink RX1 19 "Whichbox$Door" "boxAwaited" "I"] ++ wsX10 ++ wsX30 ++ (vx_atS RX3 57 "java/lang/IllegalArgumentException" ["java/lang/RuntimeException", "java/lang/Exception"]).filter goodWord ++ (vx_atS RX3 64 "java/lang/IllegalStateException" ["java/lang/RuntimeException", "java/lang/Exception"]).filter goodWord ++ (vx_atS RX3 121 "java/lang/IndexOutOfBoundsException" ["java/lang/RuntimeException", "java/lang/Exception"]).filter goodWord)
def wsX3_keep_r1 : List Cond := [Cond.classLink RX3 60 "java/lang/IllegalStateException", Cond.initialized "java/lang/IllegalStateException", Cond.fieldLink RX3 130 "Whichbox$Door" "jammed" "Z", Cond.fieldLink RX3 110 "Whichbox$Door" "size" "I", Cond.fieldLink RX3 107 "Whichbox$Box" "size" "I", Cond.fieldLink RX3 136 "Whichbox$Door" "boxAwaited" "I", Cond.fieldLink RX3 45 "Whichbox" "keeps" "I", Cond.fieldLink RX3 139 "Whichbox$Door" "code" "I", Cond.fieldLink RX3 142 "Whichbox$Door" "wrongCodes" "I", Cond.methodLink RX3 103 yX3_doorAt, Cond.instanceMethod yX3_doorAt, Cond.selects RX3 yX3_doorAt yX3_doorAt, Cond.initialized RX3, Cond.code yX3_doorAt cX3_doorAt 2 (some (.object "Whichbox$Door")), Cond.classLink RX3 117 "java/lang/IndexOutOfBoundsException", Cond.initialized "java/lang/IndexOutOfBoundsException", Cond.fieldLink RX3 17 "Whichbox" "doors" "[LWhichbox$Door;", Cond.methodLink RX3 82 yX3_boxAt, Cond.instanceMethod yX3_boxAt, Cond.selects RX3 yX3_boxAt yX3_boxAt, Cond.code yX3_boxAt cX3_boxAt 2 (some (.object "Whichbox$Box")), Cond.fieldLink RX3 11 "Whichbox" "told" "[LWhichbox$Box;", Cond.methodLink RX3 124 yX1_isKept, Cond.instanceMethod yX1_isKept]
def wsX3_keep_r2 : List Cond := [Cond.selects RX1 yX1_isKept yX1_isKept, Cond.initialized RX1, Cond.code yX1_isKept cX1_isKept 1 (some .boolean), Cond.fieldLink RX1 19 "Whichbox$Door" "boxAwaited" "I"]
def wsX3_keep : List Cond := .code yX3_keep cX3_keep 5 (some .int) :: ((wsX3_keep_r1 ++ wsX3_keep_r2) ++ wsX10 ++ wsX00 ++ wsX30 ++ (vx_atS RX3 64 "java/lang/IllegalStateException" ["java/lang/RuntimeException", "java/lang/Exception"]).filter goodWord ++ (vx_atS RX3 121 "java/lang/IndexOutOfBoundsException" ["java/lang/RuntimeException", "java/lang/Exception"]).filter goodWord)
def wsX3_countWrongCode_r1 : List Cond := [Cond.fieldLink RX3 142 "Whichbox$Door" "wrongCodes" "I", Cond.fieldLink RX3 130 "Whichbox$Door" "jammed" "Z", Cond.methodLink RX3 74 yX3_settleAll, Cond.instanceMethod yX3_settleAll, Cond.selects RX3 yX3_settleAll yX3_settleAll, Cond.initialized RX3, Cond.code yX3_settleAll cX3_settleAll 5 none, Cond.fieldLink RX3 11 "Whichbox" "told" "[LWhichbox$Box;", Cond.methodLink RX3 229 yX3_settle, Cond.instanceMethod yX3_settle, Cond.selects RX3 yX3_settle yX3_settle, Cond.code yX3_settle cX3_settle 3 none, Cond.fieldLink RX3 32 "Whichbox" "worths" "[I", Cond.fieldLink RX3 35 "Whichbox" "sums" "[I", Cond.fieldLink RX3 156 "Whichbox$Box" "insured" "Z", Cond.fieldLink RX3 28 "Whichbox" "ledger" "LWhichbox$Ledger;", Cond.fieldLink RX3 165 "Whichbox$Box" "value" "I", Cond.fieldLink RX3 191 "Whichbox$Box" "withFee" "Z", Cond.fieldLink RX3 252 "Whichbox$Box" "feeCourier" "I", Cond.fieldLink RX3 107 "Whichbox$Box" "size" "I", Cond.methodLink RX3 177 yX3_weighScans, Cond.instanceMethod yX3_weighScans, Cond.selects RX3 yX3_weighScans yX3_weighScans, Cond.code yX3_weighScans cX3_weighScans 3 none]
def wsX3_countWrongCode_r2 : List Cond := [Cond.fieldLink RX3 171 "Whichbox$Box" "scanCount" "I", Cond.fieldLink RX3 232 "Whichbox$Box" "makers" "[I", Cond.methodLink RX3 235 yX3_trustOf, Cond.instanceMethod yX3_trustOf, Cond.selects RX3 yX3_trustOf yX3_trustOf, Cond.code yX3_trustOf cX3_trustOf 2 (some .int), Cond.fieldLink RX3 17 "Whichbox" "doors" "[LWhichbox$Door;", Cond.fieldLink RX3 21 "Whichbox" "trusts" "[I", Cond.methodLink RX3 49 yX3_isWithin, Cond.static yX3_isWithin, Cond.code yX3_isWithin cX3_isWithin 3 (some .boolean), Cond.methodLink RX3 242 yX0_chooseStory, Cond.instanceMethod yX0_chooseStory, Cond.selects RX0 yX0_chooseStory yX0_chooseStory, Cond.initialized RX0, Cond.code yX0_chooseStory cX0_chooseStory 7 none, Cond.fieldLink RX0 24 "Whichbox$Box" "scanCount" "I", Cond.methodLink RX0 58 Lib.Math.max.name, Cond.static Lib.Math.max.name, Cond.initialized "java/lang/Math", Cond.code Lib.Math.max.name Lib.Math.max.code 2 (some .int), Cond.fieldLink RX0 28 "Whichbox$Box" "story" "I", Cond.methodLink RX0 54 yX0_canFollow, Cond.instanceMethod yX0_canFollow]
def wsX3_countWrongCode_r3 : List Cond := [Cond.selects RX0 yX0_canFollow yX0_canFollow, Cond.code yX0_canFollow cX0_canFollow 4 (some .boolean), Cond.fieldLink RX0 21 "Whichbox$Box" "follows" "[I", Cond.methodLink RX3 153 yX0_isDelivered, Cond.instanceMethod yX0_isDelivered, Cond.selects RX0 yX0_isDelivered yX0_isDelivered, Cond.code yX0_isDelivered cX0_isDelivered 1 (some .boolean), Cond.methodLink RX0 67 yX0_whereabouts, Cond.instanceMethod yX0_whereabouts, Cond.selects RX0 yX0_whereabouts yX0_whereabouts, Cond.code yX0_whereabouts cX0_whereabouts 2 (some .int), Cond.fieldLink RX0 15 "Whichbox$Box" "places" "[I", Cond.methodLink RX0 63 yX0_isTrue, Cond.instanceMethod yX0_isTrue, Cond.selects RX0 yX0_isTrue yX0_isTrue, Cond.code yX0_isTrue cX0_isTrue 2 (some .boolean), Cond.methodLink RX3 246 yX2_claimBack, Cond.instanceMethod yX2_claimBack, Cond.selects RX2 yX2_claimBack yX2_claimBack, Cond.initialized RX2, Cond.code yX2_claimBack cX2_claimBack 2 none, Cond.fieldLink RX2 15 "Whichbox$Ledger" "paidByInsurers" "I", Cond.fieldLink RX2 19 "Whichbox$Ledger" "written" "I", Cond.methodLink RX3 249 yX0_deliverer]
def wsX3_countWrongCode_r4 : List Cond := [Cond.instanceMethod yX0_deliverer, Cond.selects RX0 yX0_deliverer yX0_deliverer, Cond.code yX0_deliverer cX0_deliverer 3 (some .int), Cond.static yX3_courierOfPlace, Cond.code yX3_courierOfPlace cX3_courierOfPlace 1 (some .int), Cond.methodLink RX3 255 yX2_writeFee, Cond.instanceMethod yX2_writeFee, Cond.selects RX2 yX2_writeFee yX2_writeFee, Cond.code yX2_writeFee cX2_writeFee 3 none, Cond.fieldLink RX2 9 "Whichbox$Ledger" "feeSums" "[I"]
def wsX3_countWrongCode : List Cond := .code yX3_countWrongCode cX3_countWrongCode 2 none :: ((wsX3_countWrongCode_r1 ++ (wsX3_countWrongCode_r2 ++ (wsX3_countWrongCode_r3 ++ wsX3_countWrongCode_r4))) ++ wsX10 ++ wsX30 ++ wsX00 ++ wsX20)
def wsX3_open_r1 : List Cond := [Cond.classLink RX3 53 "java/lang/IllegalArgumentException", Cond.initialized "java/lang/IllegalArgumentException", Cond.classLink RX3 60 "java/lang/IllegalStateException", Cond.initialized "java/lang/IllegalStateException", Cond.fieldLink RX3 130 "Whichbox$Door" "jammed" "Z", Cond.fieldLink RX3 139 "Whichbox$Door" "code" "I", Cond.fieldLink RX3 136 "Whichbox$Door" "boxAwaited" "I", Cond.methodLink RX3 103 yX3_doorAt, Cond.instanceMethod yX3_doorAt, Cond.selects RX3 yX3_doorAt yX3_doorAt, Cond.initialized RX3, Cond.code yX3_doorAt cX3_doorAt 2 (some (.object "Whichbox$Door")), Cond.classLink RX3 117 "java/lang/IndexOutOfBoundsException", Cond.initialized "java/lang/IndexOutOfBoundsException", Cond.fieldLink RX3 17 "Whichbox" "doors" "[LWhichbox$Door;", Cond.methodLink RX3 49 yX3_isWithin, Cond.static yX3_isWithin, Cond.code yX3_isWithin cX3_isWithin 3 (some .boolean), Cond.methodLink RX3 124 yX1_isKept, Cond.instanceMethod yX1_isKept, Cond.selects RX1 yX1_isKept yX1_isKept, Cond.initialized RX1, Cond.code yX1_isKept cX1_isKept 1 (some .boolean), Cond.fieldLink RX1 19 "Whichbox$Door" "boxAwaited" "I"]
def wsX3_open_r2 : List Cond := [Cond.methodLink RX3 149 yX3_countWrongCode, Cond.instanceMethod yX3_countWrongCode, Cond.selects RX3 yX3_countWrongCode yX3_countWrongCode, Cond.code yX3_countWrongCode cX3_countWrongCode 2 none, Cond.fieldLink RX3 142 "Whichbox$Door" "wrongCodes" "I", Cond.methodLink RX3 74 yX3_settleAll, Cond.instanceMethod yX3_settleAll, Cond.selects RX3 yX3_settleAll yX3_settleAll, Cond.code yX3_settleAll cX3_settleAll 5 none, Cond.fieldLink RX3 11 "Whichbox" "told" "[LWhichbox$Box;", Cond.methodLink RX3 229 yX3_settle, Cond.instanceMethod yX3_settle, Cond.selects RX3 yX3_settle yX3_settle, Cond.code yX3_settle cX3_settle 3 none, Cond.fieldLink RX3 32 "Whichbox" "worths" "[I", Cond.fieldLink RX3 35 "Whichbox" "sums" "[I", Cond.fieldLink RX3 156 "Whichbox$Box" "insured" "Z", Cond.fieldLink RX3 28 "Whichbox" "ledger" "LWhichbox$Ledger;", Cond.fieldLink RX3 165 "Whichbox$Box" "value" "I", Cond.fieldLink RX3 191 "Whichbox$Box" "withFee" "Z", Cond.fieldLink RX3 252 "Whichbox$Box" "feeCourier" "I", Cond.fieldLink RX3 107 "Whichbox$Box" "size" "I", Cond.methodLink RX3 177 yX3_weighScans, Cond.instanceMethod yX3_weighScans]
def wsX3_open_r3 : List Cond := [Cond.selects RX3 yX3_weighScans yX3_weighScans, Cond.code yX3_weighScans cX3_weighScans 3 none, Cond.fieldLink RX3 171 "Whichbox$Box" "scanCount" "I", Cond.fieldLink RX3 232 "Whichbox$Box" "makers" "[I", Cond.methodLink RX3 235 yX3_trustOf, Cond.instanceMethod yX3_trustOf, Cond.selects RX3 yX3_trustOf yX3_trustOf, Cond.code yX3_trustOf cX3_trustOf 2 (some .int), Cond.fieldLink RX3 21 "Whichbox" "trusts" "[I", Cond.methodLink RX3 242 yX0_chooseStory, Cond.instanceMethod yX0_chooseStory, Cond.selects RX0 yX0_chooseStory yX0_chooseStory, Cond.initialized RX0, Cond.code yX0_chooseStory cX0_chooseStory 7 none, Cond.fieldLink RX0 24 "Whichbox$Box" "scanCount" "I", Cond.methodLink RX0 58 Lib.Math.max.name, Cond.static Lib.Math.max.name, Cond.initialized "java/lang/Math", Cond.code Lib.Math.max.name Lib.Math.max.code 2 (some .int), Cond.fieldLink RX0 28 "Whichbox$Box" "story" "I", Cond.methodLink RX0 54 yX0_canFollow, Cond.instanceMethod yX0_canFollow, Cond.selects RX0 yX0_canFollow yX0_canFollow, Cond.code yX0_canFollow cX0_canFollow 4 (some .boolean)]
def wsX3_open_r4 : List Cond := [Cond.fieldLink RX0 21 "Whichbox$Box" "follows" "[I", Cond.methodLink RX3 153 yX0_isDelivered, Cond.instanceMethod yX0_isDelivered, Cond.selects RX0 yX0_isDelivered yX0_isDelivered, Cond.code yX0_isDelivered cX0_isDelivered 1 (some .boolean), Cond.methodLink RX0 67 yX0_whereabouts, Cond.instanceMethod yX0_whereabouts, Cond.selects RX0 yX0_whereabouts yX0_whereabouts, Cond.code yX0_whereabouts cX0_whereabouts 2 (some .int), Cond.fieldLink RX0 15 "Whichbox$Box" "places" "[I", Cond.methodLink RX0 63 yX0_isTrue, Cond.instanceMethod yX0_isTrue, Cond.selects RX0 yX0_isTrue yX0_isTrue, Cond.code yX0_isTrue cX0_isTrue 2 (some .boolean), Cond.methodLink RX3 246 yX2_claimBack, Cond.instanceMethod yX2_claimBack, Cond.selects RX2 yX2_claimBack yX2_claimBack, Cond.initialized RX2, Cond.code yX2_claimBack cX2_claimBack 2 none, Cond.fieldLink RX2 15 "Whichbox$Ledger" "paidByInsurers" "I", Cond.fieldLink RX2 19 "Whichbox$Ledger" "written" "I", Cond.methodLink RX3 249 yX0_deliverer, Cond.instanceMethod yX0_deliverer, Cond.selects RX0 yX0_deliverer yX0_deliverer]
def wsX3_open_r5 : List Cond := [Cond.code yX0_deliverer cX0_deliverer 3 (some .int), Cond.static yX3_courierOfPlace, Cond.code yX3_courierOfPlace cX3_courierOfPlace 1 (some .int), Cond.methodLink RX3 255 yX2_writeFee, Cond.instanceMethod yX2_writeFee, Cond.selects RX2 yX2_writeFee yX2_writeFee, Cond.code yX2_writeFee cX2_writeFee 3 none, Cond.fieldLink RX2 9 "Whichbox$Ledger" "feeSums" "[I", Cond.methodLink RX3 82 yX3_boxAt, Cond.instanceMethod yX3_boxAt, Cond.selects RX3 yX3_boxAt yX3_boxAt, Cond.code yX3_boxAt cX3_boxAt 2 (some (.object "Whichbox$Box")), Cond.methodLink RX3 99 yX3_addScan, Cond.instanceMethod yX3_addScan, Cond.selects RX3 yX3_addScan yX3_addScan, Cond.code yX3_addScan cX3_addScan 5 (some .int), Cond.fieldLink RX3 42 "Whichbox" "now" "I", Cond.methodLink RX3 225 yX0_note, Cond.instanceMethod yX0_note, Cond.selects RX0 yX0_note yX0_note, Cond.code yX0_note cX0_note 5 (some .int), Cond.fieldLink RX0 9 "Whichbox$Box" "times" "[I", Cond.fieldLink RX0 18 "Whichbox$Box" "makers" "[I", Cond.methodLink RX0 47 yX0_scansAheadOf]
def wsX3_open_r6 : List Cond := [Cond.instanceMethod yX0_scansAheadOf, Cond.selects RX0 yX0_scansAheadOf yX0_scansAheadOf, Cond.code yX0_scansAheadOf cX0_scansAheadOf 5 (some .int), Cond.static yX3_minutesBetween, Cond.code yX3_minutesBetween cX3_minutesBetween 4 (some .int), Cond.constant RX3 221 (1000000), Cond.fieldLink RX3 222 "Whichbox" "MINUTES" "[I", Cond.methodLink RX3 113 yX3_kindOf, Cond.static yX3_kindOf, Cond.code yX3_kindOf cX3_kindOf 1 (some .int)]
def wsX3_open : List Cond := .code yX3_open cX3_open 5 (some .int) :: ((wsX3_open_r1 ++ (wsX3_open_r2 ++ (wsX3_open_r3 ++ (wsX3_open_r4 ++ (wsX3_open_r5 ++ wsX3_open_r6))))) ++ wsX10 ++ wsX30 ++ wsX00 ++ wsX20 ++ (vx_atS RX3 57 "java/lang/IllegalArgumentException" ["java/lang/RuntimeException", "java/lang/Exception"]).filter goodWord ++ (vx_atS RX3 64 "java/lang/IllegalStateException" ["java/lang/RuntimeException", "java/lang/Exception"]).filter goodWord ++ (vx_atS RX3 121 "java/lang/IndexOutOfBoundsException" ["java/lang/RuntimeException", "java/lang/Exception"]).filter goodWord)
def wsX3_jam_r1 : List Cond := [Cond.fieldLink RX3 130 "Whichbox$Door" "jammed" "Z", Cond.fieldLink RX3 142 "Whichbox$Door" "wrongCodes" "I", Cond.methodLink RX3 103 yX3_doorAt, Cond.instanceMethod yX3_doorAt, Cond.selects RX3 yX3_doorAt yX3_doorAt, Cond.initialized RX3, Cond.code yX3_doorAt cX3_doorAt 2 (some (.object "Whichbox$Door")), Cond.classLink RX3 117 "java/lang/IndexOutOfBoundsException", Cond.initialized "java/lang/IndexOutOfBoundsException", Cond.fieldLink RX3 17 "Whichbox" "doors" "[LWhichbox$Door;", Cond.methodLink RX3 74 yX3_settleAll, Cond.instanceMethod yX3_settleAll, Cond.selects RX3 yX3_settleAll yX3_settleAll, Cond.code yX3_settleAll cX3_settleAll 5 none, Cond.fieldLink RX3 11 "Whichbox" "told" "[LWhichbox$Box;", Cond.methodLink RX3 229 yX3_settle, Cond.instanceMethod yX3_settle, Cond.selects RX3 yX3_settle yX3_settle, Cond.code yX3_settle cX3_settle 3 none, Cond.fieldLink RX3 32 "Whichbox" "worths" "[I", Cond.fieldLink RX3 35 "Whichbox" "sums" "[I", Cond.fieldLink RX3 156 "Whichbox$Box" "insured" "Z", Cond.fieldLink RX3 28 "Whichbox" "ledger" "LWhichbox$Ledger;", Cond.fieldLink RX3 165 "Whichbox$Box" "value" "I"]
def wsX3_jam_r2 : List Cond := [Cond.fieldLink RX3 191 "Whichbox$Box" "withFee" "Z", Cond.fieldLink RX3 252 "Whichbox$Box" "feeCourier" "I", Cond.fieldLink RX3 107 "Whichbox$Box" "size" "I", Cond.methodLink RX3 177 yX3_weighScans, Cond.instanceMethod yX3_weighScans, Cond.selects RX3 yX3_weighScans yX3_weighScans, Cond.code yX3_weighScans cX3_weighScans 3 none, Cond.fieldLink RX3 171 "Whichbox$Box" "scanCount" "I", Cond.fieldLink RX3 232 "Whichbox$Box" "makers" "[I", Cond.methodLink RX3 235 yX3_trustOf, Cond.instanceMethod yX3_trustOf, Cond.selects RX3 yX3_trustOf yX3_trustOf, Cond.code yX3_trustOf cX3_trustOf 2 (some .int), Cond.fieldLink RX3 21 "Whichbox" "trusts" "[I", Cond.methodLink RX3 49 yX3_isWithin, Cond.static yX3_isWithin, Cond.code yX3_isWithin cX3_isWithin 3 (some .boolean), Cond.methodLink RX3 242 yX0_chooseStory, Cond.instanceMethod yX0_chooseStory, Cond.selects RX0 yX0_chooseStory yX0_chooseStory, Cond.initialized RX0, Cond.code yX0_chooseStory cX0_chooseStory 7 none, Cond.fieldLink RX0 24 "Whichbox$Box" "scanCount" "I", Cond.methodLink RX0 58 Lib.Math.max.name]
def wsX3_jam_r3 : List Cond := [Cond.static Lib.Math.max.name, Cond.initialized "java/lang/Math", Cond.code Lib.Math.max.name Lib.Math.max.code 2 (some .int), Cond.fieldLink RX0 28 "Whichbox$Box" "story" "I", Cond.methodLink RX0 54 yX0_canFollow, Cond.instanceMethod yX0_canFollow, Cond.selects RX0 yX0_canFollow yX0_canFollow, Cond.code yX0_canFollow cX0_canFollow 4 (some .boolean), Cond.fieldLink RX0 21 "Whichbox$Box" "follows" "[I", Cond.methodLink RX3 153 yX0_isDelivered, Cond.instanceMethod yX0_isDelivered, Cond.selects RX0 yX0_isDelivered yX0_isDelivered, Cond.code yX0_isDelivered cX0_isDelivered 1 (some .boolean), Cond.methodLink RX0 67 yX0_whereabouts, Cond.instanceMethod yX0_whereabouts, Cond.selects RX0 yX0_whereabouts yX0_whereabouts, Cond.code yX0_whereabouts cX0_whereabouts 2 (some .int), Cond.fieldLink RX0 15 "Whichbox$Box" "places" "[I", Cond.methodLink RX0 63 yX0_isTrue, Cond.instanceMethod yX0_isTrue, Cond.selects RX0 yX0_isTrue yX0_isTrue, Cond.code yX0_isTrue cX0_isTrue 2 (some .boolean), Cond.methodLink RX3 246 yX2_claimBack, Cond.instanceMethod yX2_claimBack]
def wsX3_jam_r4 : List Cond := [Cond.selects RX2 yX2_claimBack yX2_claimBack, Cond.initialized RX2, Cond.code yX2_claimBack cX2_claimBack 2 none, Cond.fieldLink RX2 15 "Whichbox$Ledger" "paidByInsurers" "I", Cond.fieldLink RX2 19 "Whichbox$Ledger" "written" "I", Cond.methodLink RX3 249 yX0_deliverer, Cond.instanceMethod yX0_deliverer, Cond.selects RX0 yX0_deliverer yX0_deliverer, Cond.code yX0_deliverer cX0_deliverer 3 (some .int), Cond.static yX3_courierOfPlace, Cond.code yX3_courierOfPlace cX3_courierOfPlace 1 (some .int), Cond.methodLink RX3 255 yX2_writeFee, Cond.instanceMethod yX2_writeFee, Cond.selects RX2 yX2_writeFee yX2_writeFee, Cond.code yX2_writeFee cX2_writeFee 3 none, Cond.fieldLink RX2 9 "Whichbox$Ledger" "feeSums" "[I"]
def wsX3_jam : List Cond := .code yX3_jam cX3_jam 5 (some .boolean) :: ((wsX3_jam_r1 ++ (wsX3_jam_r2 ++ (wsX3_jam_r3 ++ wsX3_jam_r4))) ++ wsX10 ++ wsX30 ++ wsX00 ++ wsX20 ++ (vx_atS RX3 121 "java/lang/IndexOutOfBoundsException" ["java/lang/RuntimeException", "java/lang/Exception"]).filter goodWord)
def wsX3_claim_r1 : List Cond := [Cond.classLink RX3 60 "java/lang/IllegalStateException", Cond.initialized "java/lang/IllegalStateException", Cond.fieldLink RX3 156 "Whichbox$Box" "insured" "Z", Cond.fieldLink RX3 42 "Whichbox" "now" "I", Cond.fieldLink RX3 28 "Whichbox" "ledger" "LWhichbox$Ledger;", Cond.fieldLink RX3 165 "Whichbox$Box" "value" "I", Cond.methodLink RX3 82 yX3_boxAt, Cond.instanceMethod yX3_boxAt, Cond.selects RX3 yX3_boxAt yX3_boxAt, Cond.initialized RX3, Cond.code yX3_boxAt cX3_boxAt 2 (some (.object "Whichbox$Box")), Cond.classLink RX3 117 "java/lang/IndexOutOfBoundsException", Cond.initialized "java/lang/IndexOutOfBoundsException", Cond.fieldLink RX3 11 "Whichbox" "told" "[LWhichbox$Box;", Cond.methodLink RX3 153 yX0_isDelivered, Cond.instanceMethod yX0_isDelivered, Cond.selects RX0 yX0_isDelivered yX0_isDelivered, Cond.initialized RX0, Cond.code yX0_isDelivered cX0_isDelivered 1 (some .boolean), Cond.methodLink RX0 67 yX0_whereabouts, Cond.instanceMethod yX0_whereabouts, Cond.selects RX0 yX0_whereabouts yX0_whereabouts, Cond.code yX0_whereabouts cX0_whereabouts 2 (some .int), Cond.fieldLink RX0 24 "Whichbox$Box" "scanCount" "I"]
def wsX3_claim_r2 : List Cond := [Cond.fieldLink RX0 15 "Whichbox$Box" "places" "[I", Cond.methodLink RX0 63 yX0_isTrue, Cond.instanceMethod yX0_isTrue, Cond.selects RX0 yX0_isTrue yX0_isTrue, Cond.code yX0_isTrue cX0_isTrue 2 (some .boolean), Cond.fieldLink RX0 28 "Whichbox$Box" "story" "I", Cond.methodLink RX3 159 yX0_wasScannedAfter, Cond.instanceMethod yX0_wasScannedAfter, Cond.selects RX0 yX0_wasScannedAfter yX0_wasScannedAfter, Cond.code yX0_wasScannedAfter cX0_wasScannedAfter 2 (some .boolean), Cond.fieldLink RX0 9 "Whichbox$Box" "times" "[I", Cond.methodLink RX3 168 yX2_payInsured, Cond.instanceMethod yX2_payInsured, Cond.selects RX2 yX2_payInsured yX2_payInsured, Cond.initialized RX2, Cond.code yX2_payInsured cX2_payInsured 2 none, Cond.fieldLink RX2 15 "Whichbox$Ledger" "paidByInsurers" "I", Cond.fieldLink RX2 19 "Whichbox$Ledger" "written" "I"]
def wsX3_claim : List Cond := .code yX3_claim cX3_claim 3 (some .int) :: ((wsX3_claim_r1 ++ wsX3_claim_r2) ++ wsX00 ++ wsX30 ++ wsX20 ++ (vx_atS RX3 64 "java/lang/IllegalStateException" ["java/lang/RuntimeException", "java/lang/Exception"]).filter goodWord ++ (vx_atS RX3 121 "java/lang/IndexOutOfBoundsException" ["java/lang/RuntimeException", "java/lang/Exception"]).filter goodWord)
def wsX3_time : List Cond := .code yX3_time cX3_time 1 (some .int) :: ([.fieldLink RX3 42 "Whichbox" "now" "I"] ++ wsX30)
def wsX3_boxes : List Cond := .code yX3_boxes cX3_boxes 1 (some .int) :: ([.fieldLink RX3 38 "Whichbox" "toldBoxes" "I"] ++ wsX30)
def wsX3_scans : List Cond := .code yX3_scans cX3_scans 2 (some .int) :: ([.fieldLink RX3 171 "Whichbox$Box" "scanCount" "I", .methodLink RX3 82 yX3_boxAt, .instanceMethod yX3_boxAt, .selects RX3 yX3_boxAt yX3_boxAt, .initialized RX3, .code yX3_boxAt cX3_boxAt 2 (some (.object "Whichbox$Box")), .classLink RX3 117 "java/lang/IndexOutOfBoundsException", .initialized "java/lang/IndexOutOfBoundsException", .fieldLink RX3 11 "Whichbox" "told" "[LWhichbox$Box;"] ++ wsX00 ++ wsX30 ++ (vx_atS RX3 121 "java/lang/IndexOutOfBoundsException" ["java/lang/RuntimeException", "java/lang/Exception"]).filter goodWord)
def wsX3_story : List Cond := .code yX3_story cX3_story 2 (some .int) :: ([.fieldLink RX3 174 "Whichbox$Box" "story" "I", .methodLink RX3 82 yX3_boxAt, .instanceMethod yX3_boxAt, .selects RX3 yX3_boxAt yX3_boxAt, .initialized RX3, .code yX3_boxAt cX3_boxAt 2 (some (.object "Whichbox$Box")), .classLink RX3 117 "java/lang/IndexOutOfBoundsException", .initialized "java/lang/IndexOutOfBoundsException", .fieldLink RX3 11 "Whichbox" "told" "[LWhichbox$Box;"] ++ wsX00 ++ wsX30 ++ (vx_atS RX3 121 "java/lang/IndexOutOfBoundsException" ["java/lang/RuntimeException", "java/lang/Exception"]).filter goodWord)
def wsX3_greatestWorth : List Cond := .code yX3_greatestWorth cX3_greatestWorth 8 (some .int) :: ([.fieldLink RX3 171 "Whichbox$Box" "scanCount" "I", .methodLink RX3 206 Lib.Math.max.name, .static Lib.Math.max.name, .initialized "java/lang/Math", .code Lib.Math.max.name Lib.Math.max.code 2 (some .int), .methodLink RX3 238 yX0_canFollow, .instanceMethod yX0_canFollow, .selects RX0 yX0_canFollow yX0_canFollow, .initialized RX0, .code yX0_canFollow cX0_canFollow 4 (some .boolean), .fieldLink RX0 21 "Whichbox$Box" "follows" "[I", .methodLink RX3 180 yX3_greatestWorth, .static yX3_greatestWorth, .initialized RX3] ++ wsX00)
def wsX3_storyOfAll_r1 : List Cond := [Cond.fieldLink RX3 32 "Whichbox" "worths" "[I", Cond.methodLink RX3 82 yX3_boxAt, Cond.instanceMethod yX3_boxAt, Cond.selects RX3 yX3_boxAt yX3_boxAt, Cond.initialized RX3, Cond.code yX3_boxAt cX3_boxAt 2 (some (.object "Whichbox$Box")), Cond.classLink RX3 117 "java/lang/IndexOutOfBoundsException", Cond.initialized "java/lang/IndexOutOfBoundsException", Cond.fieldLink RX3 11 "Whichbox" "told" "[LWhichbox$Box;", Cond.methodLink RX3 177 yX3_weighScans, Cond.instanceMethod yX3_weighScans, Cond.selects RX3 yX3_weighScans yX3_weighScans, Cond.code yX3_weighScans cX3_weighScans 3 none, Cond.fieldLink RX3 171 "Whichbox$Box" "scanCount" "I", Cond.fieldLink RX3 232 "Whichbox$Box" "makers" "[I", Cond.methodLink RX3 235 yX3_trustOf, Cond.instanceMethod yX3_trustOf, Cond.selects RX3 yX3_trustOf yX3_trustOf, Cond.code yX3_trustOf cX3_trustOf 2 (some .int), Cond.fieldLink RX3 17 "Whichbox" "doors" "[LWhichbox$Door;", Cond.fieldLink RX3 130 "Whichbox$Door" "jammed" "Z", Cond.fieldLink RX3 21 "Whichbox" "trusts" "[I", Cond.methodLink RX3 49 yX3_isWithin, Cond.static yX3_isWithin]
def wsX3_storyOfAll_r2 : List Cond := [Cond.code yX3_isWithin cX3_isWithin 3 (some .boolean), Cond.methodLink RX3 180 yX3_greatestWorth, Cond.static yX3_greatestWorth, Cond.code yX3_greatestWorth cX3_greatestWorth 8 (some .int), Cond.methodLink RX3 206 Lib.Math.max.name, Cond.static Lib.Math.max.name, Cond.initialized "java/lang/Math", Cond.code Lib.Math.max.name Lib.Math.max.code 2 (some .int), Cond.methodLink RX3 238 yX0_canFollow, Cond.instanceMethod yX0_canFollow, Cond.selects RX0 yX0_canFollow yX0_canFollow, Cond.initialized RX0, Cond.code yX0_canFollow cX0_canFollow 4 (some .boolean), Cond.fieldLink RX0 21 "Whichbox$Box" "follows" "[I"]
def wsX3_storyOfAll : List Cond := .code yX3_storyOfAll cX3_storyOfAll 3 (some .int) :: ((wsX3_storyOfAll_r1 ++ wsX3_storyOfAll_r2) ++ wsX30 ++ wsX00 ++ wsX10 ++ (vx_atS RX3 121 "java/lang/IndexOutOfBoundsException" ["java/lang/RuntimeException", "java/lang/Exception"]).filter goodWord)
def wsX3_placeOf : List Cond := .code yX3_placeOf cX3_placeOf 2 (some .int) :: ([.methodLink RX3 82 yX3_boxAt, .instanceMethod yX3_boxAt, .selects RX3 yX3_boxAt yX3_boxAt, .initialized RX3, .code yX3_boxAt cX3_boxAt 2 (some (.object "Whichbox$Box")), .classLink RX3 117 "java/lang/IndexOutOfBoundsException", .initialized "java/lang/IndexOutOfBoundsException", .fieldLink RX3 11 "Whichbox" "told" "[LWhichbox$Box;", .methodLink RX3 184 yX0_whereabouts, .instanceMethod yX0_whereabouts, .selects RX0 yX0_whereabouts yX0_whereabouts, .initialized RX0, .code yX0_whereabouts cX0_whereabouts 2 (some .int), .fieldLink RX0 24 "Whichbox$Box" "scanCount" "I", .fieldLink RX0 15 "Whichbox$Box" "places" "[I", .methodLink RX0 63 yX0_isTrue, .instanceMethod yX0_isTrue, .selects RX0 yX0_isTrue yX0_isTrue, .code yX0_isTrue cX0_isTrue 2 (some .boolean), .fieldLink RX0 28 "Whichbox$Box" "story" "I"] ++ wsX30 ++ wsX00 ++ (vx_atS RX3 121 "java/lang/IndexOutOfBoundsException" ["java/lang/RuntimeException", "java/lang/Exception"]).filter goodWord)
def wsX3_lies : List Cond := .code yX3_lies cX3_lies 7 (some .int) :: ([.fieldLink RX3 11 "Whichbox" "told" "[LWhichbox$Box;", .methodLink RX3 68 yX3_checkWho, .static yX3_checkWho, .initialized RX3, .code yX3_checkWho cX3_checkWho 1 none, .classLink RX3 117 "java/lang/IndexOutOfBoundsException", .initialized "java/lang/IndexOutOfBoundsException", .methodLink RX3 188 yX0_countLies, .instanceMethod yX0_countLies, .selects RX0 yX0_countLies yX0_countLies, .initialized RX0, .code yX0_countLies cX0_countLies 4 (some .int), .fieldLink RX0 24 "Whichbox$Box" "scanCount" "I", .fieldLink RX0 18 "Whichbox$Box" "makers" "[I", .methodLink RX0 63 yX0_isTrue, .instanceMethod yX0_isTrue, .selects RX0 yX0_isTrue yX0_isTrue, .code yX0_isTrue cX0_isTrue 2 (some .boolean), .fieldLink RX0 28 "Whichbox$Box" "story" "I"] ++ wsX30 ++ wsX00 ++ (vx_atS RX3 121 "java/lang/IndexOutOfBoundsException" ["java/lang/RuntimeException", "java/lang/Exception"]).filter goodWord)
def wsX3_hasFee : List Cond := .code yX3_hasFee cX3_hasFee 2 (some .boolean) :: ([.fieldLink RX3 191 "Whichbox$Box" "withFee" "Z", .methodLink RX3 82 yX3_boxAt, .instanceMethod yX3_boxAt, .selects RX3 yX3_boxAt yX3_boxAt, .initialized RX3, .code yX3_boxAt cX3_boxAt 2 (some (.object "Whichbox$Box")), .classLink RX3 117 "java/lang/IndexOutOfBoundsException", .initialized "java/lang/IndexOutOfBoundsException", .fieldLink RX3 11 "Whichbox" "told" "[LWhichbox$Box;"] ++ wsX00 ++ wsX30 ++ (vx_atS RX3 121 "java/lang/IndexOutOfBoundsException" ["java/lang/RuntimeException", "java/lang/Exception"]).filter goodWord)
def wsX3_isInsured : List Cond := .code yX3_isInsured cX3_isInsured 2 (some .boolean) :: ([.fieldLink RX3 156 "Whichbox$Box" "insured" "Z", .methodLink RX3 82 yX3_boxAt, .instanceMethod yX3_boxAt, .selects RX3 yX3_boxAt yX3_boxAt, .initialized RX3, .code yX3_boxAt cX3_boxAt 2 (some (.object "Whichbox$Box")), .classLink RX3 117 "java/lang/IndexOutOfBoundsException", .initialized "java/lang/IndexOutOfBoundsException", .fieldLink RX3 11 "Whichbox" "told" "[LWhichbox$Box;"] ++ wsX00 ++ wsX30 ++ (vx_atS RX3 121 "java/lang/IndexOutOfBoundsException" ["java/lang/RuntimeException", "java/lang/Exception"]).filter goodWord)
def wsX3_fees : List Cond := .code yX3_fees cX3_fees 2 (some .int) :: ([.fieldLink RX3 28 "Whichbox" "ledger" "LWhichbox$Ledger;", .fieldLink RX3 194 "Whichbox$Ledger" "feeSums" "[I", .methodLink RX3 86 yX3_checkCourier, .static yX3_checkCourier, .initialized RX3, .code yX3_checkCourier cX3_checkCourier 1 none, .classLink RX3 117 "java/lang/IndexOutOfBoundsException", .initialized "java/lang/IndexOutOfBoundsException"] ++ wsX30 ++ wsX20 ++ (vx_atS RX3 121 "java/lang/IndexOutOfBoundsException" ["java/lang/RuntimeException", "java/lang/Exception"]).filter goodWord)
def wsX3_insurers : List Cond := .code yX3_insurers cX3_insurers 1 (some .int) :: ([.fieldLink RX3 28 "Whichbox" "ledger" "LWhichbox$Ledger;", .fieldLink RX3 197 "Whichbox$Ledger" "paidByInsurers" "I"] ++ wsX30 ++ wsX20)
def wsX3_entries : List Cond := .code yX3_entries cX3_entries 1 (some .int) :: ([.fieldLink RX3 28 "Whichbox" "ledger" "LWhichbox$Ledger;", .fieldLink RX3 200 "Whichbox$Ledger" "written" "I"] ++ wsX30 ++ wsX20)
def wsX3_fine_r1 : List Cond := [Cond.fieldLink RX3 42 "Whichbox" "now" "I", Cond.methodLink RX3 206 Lib.Math.max.name, Cond.static Lib.Math.max.name, Cond.initialized "java/lang/Math", Cond.code Lib.Math.max.name Lib.Math.max.code 2 (some .int), Cond.methodLink RX3 82 yX3_boxAt, Cond.instanceMethod yX3_boxAt, Cond.selects RX3 yX3_boxAt yX3_boxAt, Cond.initialized RX3, Cond.code yX3_boxAt cX3_boxAt 2 (some (.object "Whichbox$Box")), Cond.classLink RX3 117 "java/lang/IndexOutOfBoundsException", Cond.initialized "java/lang/IndexOutOfBoundsException", Cond.fieldLink RX3 11 "Whichbox" "told" "[LWhichbox$Box;", Cond.methodLink RX3 184 yX0_whereabouts, Cond.instanceMethod yX0_whereabouts, Cond.selects RX0 yX0_whereabouts yX0_whereabouts, Cond.initialized RX0, Cond.code yX0_whereabouts cX0_whereabouts 2 (some .int), Cond.fieldLink RX0 24 "Whichbox$Box" "scanCount" "I", Cond.fieldLink RX0 15 "Whichbox$Box" "places" "[I", Cond.methodLink RX0 63 yX0_isTrue, Cond.instanceMethod yX0_isTrue, Cond.selects RX0 yX0_isTrue yX0_isTrue, Cond.code yX0_isTrue cX0_isTrue 2 (some .boolean)]
def wsX3_fine_r2 : List Cond := [Cond.fieldLink RX0 28 "Whichbox$Box" "story" "I", Cond.methodLink RX3 113 yX3_kindOf, Cond.static yX3_kindOf, Cond.code yX3_kindOf cX3_kindOf 1 (some .int), Cond.methodLink RX3 49 yX3_isWithin, Cond.static yX3_isWithin, Cond.code yX3_isWithin cX3_isWithin 3 (some .boolean), Cond.methodLink RX3 203 yX0_thereSince, Cond.instanceMethod yX0_thereSince, Cond.selects RX0 yX0_thereSince yX0_thereSince, Cond.code yX0_thereSince cX0_thereSince 4 (some .int), Cond.fieldLink RX0 9 "Whichbox$Box" "times" "[I", Cond.methodLink RX0 67 yX0_whereabouts]
def wsX3_fine : List Cond := .code yX3_fine cX3_fine 4 (some .int) :: ((wsX3_fine_r1 ++ wsX3_fine_r2) ++ wsX30 ++ wsX00 ++ (vx_atS RX3 121 "java/lang/IndexOutOfBoundsException" ["java/lang/RuntimeException", "java/lang/Exception"]).filter goodWord)
def wsX3_isJammed : List Cond := .code yX3_isJammed cX3_isJammed 2 (some .boolean) :: ([.fieldLink RX3 130 "Whichbox$Door" "jammed" "Z", .methodLink RX3 103 yX3_doorAt, .instanceMethod yX3_doorAt, .selects RX3 yX3_doorAt yX3_doorAt, .initialized RX3, .code yX3_doorAt cX3_doorAt 2 (some (.object "Whichbox$Door")), .classLink RX3 117 "java/lang/IndexOutOfBoundsException", .initialized "java/lang/IndexOutOfBoundsException", .fieldLink RX3 17 "Whichbox" "doors" "[LWhichbox$Door;"] ++ wsX10 ++ wsX30 ++ (vx_atS RX3 121 "java/lang/IndexOutOfBoundsException" ["java/lang/RuntimeException", "java/lang/Exception"]).filter goodWord)
def wsX3_keptFor : List Cond := .code yX3_keptFor cX3_keptFor 2 (some .int) :: ([.fieldLink RX3 136 "Whichbox$Door" "boxAwaited" "I", .methodLink RX3 103 yX3_doorAt, .instanceMethod yX3_doorAt, .selects RX3 yX3_doorAt yX3_doorAt, .initialized RX3, .code yX3_doorAt cX3_doorAt 2 (some (.object "Whichbox$Door")), .classLink RX3 117 "java/lang/IndexOutOfBoundsException", .initialized "java/lang/IndexOutOfBoundsException", .fieldLink RX3 17 "Whichbox" "doors" "[LWhichbox$Door;"] ++ wsX10 ++ wsX30 ++ (vx_atS RX3 121 "java/lang/IndexOutOfBoundsException" ["java/lang/RuntimeException", "java/lang/Exception"]).filter goodWord)
def wsJ9_max_7cf53 : List Cond := .code yJ9_max_7cf53 cJ9_max_7cf53 2 (some .int) :: ([])
def wsL_drawn : List Cond := .code yL_drawn cL_drawn 3 (some .int) :: ([.constant RL 7 (1073741823)])
def wsL_does_r1 : List Cond := [Cond.classLink RL 39 "java/lang/IndexOutOfBoundsException", Cond.classLink RL 42 "java/lang/IllegalArgumentException", Cond.classLink RL 44 "java/lang/IllegalStateException", Cond.constant RL 41 (-100005), Cond.methodLink RL 8 yX3_box, Cond.instanceMethod yX3_box, Cond.selects RX3 yX3_box yX3_box, Cond.initialized RX3, Cond.code yX3_box cX3_box 3 (some .int), Cond.classLink RX3 53 "java/lang/IllegalArgumentException", Cond.initialized "java/lang/IllegalArgumentException", Cond.classLink RX3 60 "java/lang/IllegalStateException", Cond.initialized "java/lang/IllegalStateException", Cond.fieldLink RX3 38 "Whichbox" "toldBoxes" "I", Cond.fieldLink RX3 11 "Whichbox" "told" "[LWhichbox$Box;", Cond.classLink RX3 9 RX0, Cond.instantiable RX0 11, Cond.initialized RX0, Cond.methodLink RX3 49 yX3_isWithin, Cond.static yX3_isWithin, Cond.code yX3_isWithin cX3_isWithin 3 (some .boolean), Cond.methodLink RX3 65 yX0_init, Cond.instanceMethod yX0_init, Cond.code yX0_init cX0_init 3 none]
def wsL_does_r2 : List Cond := [Cond.methodLink RX0 3 objectInit, Cond.instanceMethod objectInit, Cond.code objectInit ⟨#[0xb1]⟩ 1 none, Cond.arrayClass .int, Cond.fieldLink RX0 9 "Whichbox$Box" "times" "[I", Cond.fieldLink RX0 15 "Whichbox$Box" "places" "[I", Cond.fieldLink RX0 18 "Whichbox$Box" "makers" "[I", Cond.fieldLink RX0 21 "Whichbox$Box" "follows" "[I", Cond.fieldLink RX0 24 "Whichbox$Box" "scanCount" "I", Cond.fieldLink RX0 28 "Whichbox$Box" "story" "I", Cond.fieldLink RX0 31 "Whichbox$Box" "insured" "Z", Cond.fieldLink RX0 35 "Whichbox$Box" "withFee" "Z", Cond.fieldLink RX0 38 "Whichbox$Box" "feeCourier" "I", Cond.fieldLink RX0 41 "Whichbox$Box" "size" "I", Cond.fieldLink RX0 44 "Whichbox$Box" "value" "I", Cond.methodLink RL 14 yX3_setTrust, Cond.instanceMethod yX3_setTrust, Cond.selects RX3 yX3_setTrust yX3_setTrust, Cond.code yX3_setTrust cX3_setTrust 4 (some .int), Cond.fieldLink RX3 21 "Whichbox" "trusts" "[I", Cond.methodLink RX3 68 yX3_checkWho, Cond.static yX3_checkWho, Cond.code yX3_checkWho cX3_checkWho 1 none, Cond.classLink RX3 117 "java/lang/IndexOutOfBoundsException"]
def wsL_does_r3 : List Cond := [Cond.initialized "java/lang/IndexOutOfBoundsException", Cond.methodLink RX3 74 yX3_settleAll, Cond.instanceMethod yX3_settleAll, Cond.selects RX3 yX3_settleAll yX3_settleAll, Cond.code yX3_settleAll cX3_settleAll 5 none, Cond.methodLink RX3 229 yX3_settle, Cond.instanceMethod yX3_settle, Cond.selects RX3 yX3_settle yX3_settle, Cond.code yX3_settle cX3_settle 3 none, Cond.fieldLink RX3 32 "Whichbox" "worths" "[I", Cond.fieldLink RX3 35 "Whichbox" "sums" "[I", Cond.fieldLink RX3 156 "Whichbox$Box" "insured" "Z", Cond.fieldLink RX3 28 "Whichbox" "ledger" "LWhichbox$Ledger;", Cond.fieldLink RX3 165 "Whichbox$Box" "value" "I", Cond.fieldLink RX3 191 "Whichbox$Box" "withFee" "Z", Cond.fieldLink RX3 252 "Whichbox$Box" "feeCourier" "I", Cond.fieldLink RX3 107 "Whichbox$Box" "size" "I", Cond.methodLink RX3 177 yX3_weighScans, Cond.instanceMethod yX3_weighScans, Cond.selects RX3 yX3_weighScans yX3_weighScans, Cond.code yX3_weighScans cX3_weighScans 3 none, Cond.fieldLink RX3 171 "Whichbox$Box" "scanCount" "I", Cond.fieldLink RX3 232 "Whichbox$Box" "makers" "[I", Cond.methodLink RX3 235 yX3_trustOf]
def wsL_does_r4 : List Cond := [Cond.instanceMethod yX3_trustOf, Cond.selects RX3 yX3_trustOf yX3_trustOf, Cond.code yX3_trustOf cX3_trustOf 2 (some .int), Cond.fieldLink RX3 17 "Whichbox" "doors" "[LWhichbox$Door;", Cond.fieldLink RX3 130 "Whichbox$Door" "jammed" "Z", Cond.methodLink RX3 242 yX0_chooseStory, Cond.instanceMethod yX0_chooseStory, Cond.selects RX0 yX0_chooseStory yX0_chooseStory, Cond.code yX0_chooseStory cX0_chooseStory 7 none, Cond.methodLink RX0 58 Lib.Math.max.name, Cond.static Lib.Math.max.name, Cond.initialized "java/lang/Math", Cond.code Lib.Math.max.name Lib.Math.max.code 2 (some .int), Cond.methodLink RX0 54 yX0_canFollow, Cond.instanceMethod yX0_canFollow, Cond.selects RX0 yX0_canFollow yX0_canFollow, Cond.code yX0_canFollow cX0_canFollow 4 (some .boolean), Cond.methodLink RX3 153 yX0_isDelivered, Cond.instanceMethod yX0_isDelivered, Cond.selects RX0 yX0_isDelivered yX0_isDelivered, Cond.code yX0_isDelivered cX0_isDelivered 1 (some .boolean), Cond.methodLink RX0 67 yX0_whereabouts, Cond.instanceMethod yX0_whereabouts, Cond.selects RX0 yX0_whereabouts yX0_whereabouts]
def wsL_does_r5 : List Cond := [Cond.code yX0_whereabouts cX0_whereabouts 2 (some .int), Cond.methodLink RX0 63 yX0_isTrue, Cond.instanceMethod yX0_isTrue, Cond.selects RX0 yX0_isTrue yX0_isTrue, Cond.code yX0_isTrue cX0_isTrue 2 (some .boolean), Cond.methodLink RX3 246 yX2_claimBack, Cond.instanceMethod yX2_claimBack, Cond.selects RX2 yX2_claimBack yX2_claimBack, Cond.initialized RX2, Cond.code yX2_claimBack cX2_claimBack 2 none, Cond.fieldLink RX2 15 "Whichbox$Ledger" "paidByInsurers" "I", Cond.fieldLink RX2 19 "Whichbox$Ledger" "written" "I", Cond.methodLink RX3 249 yX0_deliverer, Cond.instanceMethod yX0_deliverer, Cond.selects RX0 yX0_deliverer yX0_deliverer, Cond.code yX0_deliverer cX0_deliverer 3 (some .int), Cond.static yX3_courierOfPlace, Cond.code yX3_courierOfPlace cX3_courierOfPlace 1 (some .int), Cond.methodLink RX3 255 yX2_writeFee, Cond.instanceMethod yX2_writeFee, Cond.selects RX2 yX2_writeFee yX2_writeFee, Cond.code yX2_writeFee cX2_writeFee 3 none, Cond.fieldLink RX2 9 "Whichbox$Ledger" "feeSums" "[I", Cond.methodLink RL 17 yX3_pass]
def wsL_does_r6 : List Cond := [Cond.instanceMethod yX3_pass, Cond.selects RX3 yX3_pass yX3_pass, Cond.code yX3_pass cX3_pass 2 (some .int), Cond.fieldLink RX3 42 "Whichbox" "now" "I", Cond.constant RX3 79 (100000), Cond.methodLink RL 21 yX3_lay, Cond.instanceMethod yX3_lay, Cond.selects RX3 yX3_lay yX3_lay, Cond.code yX3_lay cX3_lay 5 (some .int), Cond.fieldLink RX3 110 "Whichbox$Door" "size" "I", Cond.methodLink RX3 82 yX3_boxAt, Cond.instanceMethod yX3_boxAt, Cond.selects RX3 yX3_boxAt yX3_boxAt, Cond.code yX3_boxAt cX3_boxAt 2 (some (.object "Whichbox$Box")), Cond.methodLink RX3 103 yX3_doorAt, Cond.instanceMethod yX3_doorAt, Cond.selects RX3 yX3_doorAt yX3_doorAt, Cond.code yX3_doorAt cX3_doorAt 2 (some (.object "Whichbox$Door")), Cond.methodLink RX3 91 yX3_checkRoomForScan, Cond.static yX3_checkRoomForScan, Cond.code yX3_checkRoomForScan cX3_checkRoomForScan 1 none, Cond.methodLink RX3 99 yX3_addScan, Cond.instanceMethod yX3_addScan, Cond.selects RX3 yX3_addScan yX3_addScan]
def wsL_does_r7 : List Cond := [Cond.code yX3_addScan cX3_addScan 5 (some .int), Cond.methodLink RX3 225 yX0_note, Cond.instanceMethod yX0_note, Cond.selects RX0 yX0_note yX0_note, Cond.code yX0_note cX0_note 5 (some .int), Cond.methodLink RX0 47 yX0_scansAheadOf, Cond.instanceMethod yX0_scansAheadOf, Cond.selects RX0 yX0_scansAheadOf yX0_scansAheadOf, Cond.code yX0_scansAheadOf cX0_scansAheadOf 5 (some .int), Cond.static yX3_minutesBetween, Cond.code yX3_minutesBetween cX3_minutesBetween 4 (some .int), Cond.constant RX3 221 (1000000), Cond.fieldLink RX3 222 "Whichbox" "MINUTES" "[I", Cond.methodLink RX3 113 yX3_kindOf, Cond.static yX3_kindOf, Cond.code yX3_kindOf cX3_kindOf 1 (some .int), Cond.methodLink RL 24 yX3_find, Cond.instanceMethod yX3_find, Cond.selects RX3 yX3_find yX3_find, Cond.code yX3_find cX3_find 4 (some .int), Cond.methodLink RL 27 yX3_setDoor, Cond.instanceMethod yX3_setDoor, Cond.selects RX3 yX3_setDoor yX3_setDoor, Cond.code yX3_setDoor cX3_setDoor 5 (some .int)]
def wsL_does_r8 : List Cond := [Cond.methodLink RX3 124 yX1_isKept, Cond.instanceMethod yX1_isKept, Cond.selects RX1 yX1_isKept yX1_isKept, Cond.initialized RX1, Cond.code yX1_isKept cX1_isKept 1 (some .boolean), Cond.fieldLink RX1 19 "Whichbox$Door" "boxAwaited" "I", Cond.methodLink RL 30 yX3_keep, Cond.instanceMethod yX3_keep, Cond.selects RX3 yX3_keep yX3_keep, Cond.code yX3_keep cX3_keep 5 (some .int), Cond.fieldLink RX3 136 "Whichbox$Door" "boxAwaited" "I", Cond.fieldLink RX3 45 "Whichbox" "keeps" "I", Cond.fieldLink RX3 139 "Whichbox$Door" "code" "I", Cond.fieldLink RX3 142 "Whichbox$Door" "wrongCodes" "I", Cond.methodLink RL 33 yX3_open, Cond.instanceMethod yX3_open, Cond.selects RX3 yX3_open yX3_open, Cond.code yX3_open cX3_open 5 (some .int), Cond.methodLink RX3 149 yX3_countWrongCode, Cond.instanceMethod yX3_countWrongCode, Cond.selects RX3 yX3_countWrongCode yX3_countWrongCode, Cond.code yX3_countWrongCode cX3_countWrongCode 2 none, Cond.methodLink RL 36 yX3_claim, Cond.instanceMethod yX3_claim]
def wsL_does_r9 : List Cond := [Cond.selects RX3 yX3_claim yX3_claim, Cond.code yX3_claim cX3_claim 3 (some .int), Cond.methodLink RX3 159 yX0_wasScannedAfter, Cond.instanceMethod yX0_wasScannedAfter, Cond.selects RX0 yX0_wasScannedAfter yX0_wasScannedAfter, Cond.code yX0_wasScannedAfter cX0_wasScannedAfter 2 (some .boolean), Cond.methodLink RX3 168 yX2_payInsured, Cond.instanceMethod yX2_payInsured, Cond.selects RX2 yX2_payInsured yX2_payInsured, Cond.code yX2_payInsured cX2_payInsured 2 none]
def wsL_does : List Cond := .codeWith yL_does cL_does 5 (some .int) [(0, 117, 118, 39), (0, 117, 123, 42), (0, 117, 128, 44)] :: ((wsL_does_r1 ++ (wsL_does_r2 ++ (wsL_does_r3 ++ (wsL_does_r4 ++ (wsL_does_r5 ++ (wsL_does_r6 ++ (wsL_does_r7 ++ (wsL_does_r8 ++ wsL_does_r9)))))))) ++ wsX30 ++ wsX00 ++ wsX10 ++ wsX20 ++ (vx_atS RX3 57 "java/lang/IllegalArgumentException" ["java/lang/RuntimeException", "java/lang/Exception"]).filter goodWord ++ (vx_atS RX3 64 "java/lang/IllegalStateException" ["java/lang/RuntimeException", "java/lang/Exception"]).filter goodWord ++ (vx_atS RX3 121 "java/lang/IndexOutOfBoundsException" ["java/lang/RuntimeException", "java/lang/Exception"]).filter goodWord)
def wsL_scan_r1 : List Cond := [Cond.classLink RL 39 "java/lang/IndexOutOfBoundsException", Cond.classLink RL 42 "java/lang/IllegalArgumentException", Cond.classLink RL 44 "java/lang/IllegalStateException", Cond.constant RL 41 (-100005), Cond.methodLink RL 46 yX3_scan, Cond.instanceMethod yX3_scan, Cond.selects RX3 yX3_scan yX3_scan, Cond.initialized RX3, Cond.code yX3_scan cX3_scan 5 (some .int), Cond.classLink RX3 53 "java/lang/IllegalArgumentException", Cond.initialized "java/lang/IllegalArgumentException", Cond.methodLink RX3 82 yX3_boxAt, Cond.instanceMethod yX3_boxAt, Cond.selects RX3 yX3_boxAt yX3_boxAt, Cond.code yX3_boxAt cX3_boxAt 2 (some (.object "Whichbox$Box")), Cond.classLink RX3 117 "java/lang/IndexOutOfBoundsException", Cond.initialized "java/lang/IndexOutOfBoundsException", Cond.fieldLink RX3 11 "Whichbox" "told" "[LWhichbox$Box;", Cond.methodLink RX3 86 yX3_checkCourier, Cond.static yX3_checkCourier, Cond.code yX3_checkCourier cX3_checkCourier 1 none, Cond.methodLink RX3 49 yX3_isWithin, Cond.static yX3_isWithin, Cond.code yX3_isWithin cX3_isWithin 3 (some .boolean)]
def wsL_scan_r2 : List Cond := [Cond.methodLink RX3 91 yX3_checkRoomForScan, Cond.static yX3_checkRoomForScan, Cond.code yX3_checkRoomForScan cX3_checkRoomForScan 1 none, Cond.classLink RX3 60 "java/lang/IllegalStateException", Cond.initialized "java/lang/IllegalStateException", Cond.fieldLink RX3 171 "Whichbox$Box" "scanCount" "I", Cond.methodLink RX3 95 yX3_placeTold, Cond.static yX3_placeTold, Cond.code yX3_placeTold cX3_placeTold 2 (some .int), Cond.methodLink RX3 99 yX3_addScan, Cond.instanceMethod yX3_addScan, Cond.selects RX3 yX3_addScan yX3_addScan, Cond.code yX3_addScan cX3_addScan 5 (some .int), Cond.fieldLink RX3 42 "Whichbox" "now" "I", Cond.methodLink RX3 225 yX0_note, Cond.instanceMethod yX0_note, Cond.selects RX0 yX0_note yX0_note, Cond.initialized RX0, Cond.code yX0_note cX0_note 5 (some .int), Cond.fieldLink RX0 24 "Whichbox$Box" "scanCount" "I", Cond.fieldLink RX0 9 "Whichbox$Box" "times" "[I", Cond.fieldLink RX0 15 "Whichbox$Box" "places" "[I", Cond.fieldLink RX0 18 "Whichbox$Box" "makers" "[I", Cond.fieldLink RX0 21 "Whichbox$Box" "follows" "[I"]
def wsL_scan_r3 : List Cond := [Cond.methodLink RX0 47 yX0_scansAheadOf, Cond.instanceMethod yX0_scansAheadOf, Cond.selects RX0 yX0_scansAheadOf yX0_scansAheadOf, Cond.code yX0_scansAheadOf cX0_scansAheadOf 5 (some .int), Cond.static yX3_minutesBetween, Cond.code yX3_minutesBetween cX3_minutesBetween 4 (some .int), Cond.constant RX3 221 (1000000), Cond.fieldLink RX3 222 "Whichbox" "MINUTES" "[I", Cond.methodLink RX3 113 yX3_kindOf, Cond.static yX3_kindOf, Cond.code yX3_kindOf cX3_kindOf 1 (some .int), Cond.methodLink RX3 229 yX3_settle, Cond.instanceMethod yX3_settle, Cond.selects RX3 yX3_settle yX3_settle, Cond.code yX3_settle cX3_settle 3 none, Cond.fieldLink RX3 32 "Whichbox" "worths" "[I", Cond.fieldLink RX3 35 "Whichbox" "sums" "[I", Cond.fieldLink RX3 156 "Whichbox$Box" "insured" "Z", Cond.fieldLink RX3 28 "Whichbox" "ledger" "LWhichbox$Ledger;", Cond.fieldLink RX3 165 "Whichbox$Box" "value" "I", Cond.fieldLink RX3 191 "Whichbox$Box" "withFee" "Z", Cond.fieldLink RX3 252 "Whichbox$Box" "feeCourier" "I", Cond.fieldLink RX3 107 "Whichbox$Box" "size" "I", Cond.methodLink RX3 177 yX3_weighScans]
def wsL_scan_r4 : List Cond := [Cond.instanceMethod yX3_weighScans, Cond.selects RX3 yX3_weighScans yX3_weighScans, Cond.code yX3_weighScans cX3_weighScans 3 none, Cond.fieldLink RX3 232 "Whichbox$Box" "makers" "[I", Cond.methodLink RX3 235 yX3_trustOf, Cond.instanceMethod yX3_trustOf, Cond.selects RX3 yX3_trustOf yX3_trustOf, Cond.code yX3_trustOf cX3_trustOf 2 (some .int), Cond.fieldLink RX3 17 "Whichbox" "doors" "[LWhichbox$Door;", Cond.fieldLink RX3 130 "Whichbox$Door" "jammed" "Z", Cond.fieldLink RX3 21 "Whichbox" "trusts" "[I", Cond.methodLink RX3 242 yX0_chooseStory, Cond.instanceMethod yX0_chooseStory, Cond.selects RX0 yX0_chooseStory yX0_chooseStory, Cond.code yX0_chooseStory cX0_chooseStory 7 none, Cond.methodLink RX0 58 Lib.Math.max.name, Cond.static Lib.Math.max.name, Cond.initialized "java/lang/Math", Cond.code Lib.Math.max.name Lib.Math.max.code 2 (some .int), Cond.fieldLink RX0 28 "Whichbox$Box" "story" "I", Cond.methodLink RX0 54 yX0_canFollow, Cond.instanceMethod yX0_canFollow, Cond.selects RX0 yX0_canFollow yX0_canFollow, Cond.code yX0_canFollow cX0_canFollow 4 (some .boolean)]
def wsL_scan_r5 : List Cond := [Cond.methodLink RX3 153 yX0_isDelivered, Cond.instanceMethod yX0_isDelivered, Cond.selects RX0 yX0_isDelivered yX0_isDelivered, Cond.code yX0_isDelivered cX0_isDelivered 1 (some .boolean), Cond.methodLink RX0 67 yX0_whereabouts, Cond.instanceMethod yX0_whereabouts, Cond.selects RX0 yX0_whereabouts yX0_whereabouts, Cond.code yX0_whereabouts cX0_whereabouts 2 (some .int), Cond.methodLink RX0 63 yX0_isTrue, Cond.instanceMethod yX0_isTrue, Cond.selects RX0 yX0_isTrue yX0_isTrue, Cond.code yX0_isTrue cX0_isTrue 2 (some .boolean), Cond.methodLink RX3 246 yX2_claimBack, Cond.instanceMethod yX2_claimBack, Cond.selects RX2 yX2_claimBack yX2_claimBack, Cond.initialized RX2, Cond.code yX2_claimBack cX2_claimBack 2 none, Cond.fieldLink RX2 15 "Whichbox$Ledger" "paidByInsurers" "I", Cond.fieldLink RX2 19 "Whichbox$Ledger" "written" "I", Cond.methodLink RX3 249 yX0_deliverer, Cond.instanceMethod yX0_deliverer, Cond.selects RX0 yX0_deliverer yX0_deliverer, Cond.code yX0_deliverer cX0_deliverer 3 (some .int), Cond.static yX3_courierOfPlace]
def wsL_scan_r6 : List Cond := [Cond.code yX3_courierOfPlace cX3_courierOfPlace 1 (some .int), Cond.methodLink RX3 255 yX2_writeFee, Cond.instanceMethod yX2_writeFee, Cond.selects RX2 yX2_writeFee yX2_writeFee, Cond.code yX2_writeFee cX2_writeFee 3 none, Cond.fieldLink RX2 9 "Whichbox$Ledger" "feeSums" "[I"]
def wsL_scan : List Cond := .codeWith yL_scan cL_scan 5 (some .int) [(0, 7, 8, 39), (0, 7, 13, 42), (0, 7, 18, 44)] :: ((wsL_scan_r1 ++ (wsL_scan_r2 ++ (wsL_scan_r3 ++ (wsL_scan_r4 ++ (wsL_scan_r5 ++ wsL_scan_r6))))) ++ wsX30 ++ wsX00 ++ wsX10 ++ wsX20 ++ (vx_atS RX3 57 "java/lang/IllegalArgumentException" ["java/lang/RuntimeException", "java/lang/Exception"]).filter goodWord ++ (vx_atS RX3 121 "java/lang/IndexOutOfBoundsException" ["java/lang/RuntimeException", "java/lang/Exception"]).filter goodWord ++ (vx_atS RX3 64 "java/lang/IllegalStateException" ["java/lang/RuntimeException", "java/lang/Exception"]).filter goodWord)
def wsL_jam_r1 : List Cond := [Cond.classLink RL 39 "java/lang/IndexOutOfBoundsException", Cond.constant RL 41 (-100005), Cond.methodLink RL 50 yX3_jam, Cond.instanceMethod yX3_jam, Cond.selects RX3 yX3_jam yX3_jam, Cond.initialized RX3, Cond.code yX3_jam cX3_jam 5 (some .boolean), Cond.fieldLink RX3 130 "Whichbox$Door" "jammed" "Z", Cond.fieldLink RX3 142 "Whichbox$Door" "wrongCodes" "I", Cond.methodLink RX3 103 yX3_doorAt, Cond.instanceMethod yX3_doorAt, Cond.selects RX3 yX3_doorAt yX3_doorAt, Cond.code yX3_doorAt cX3_doorAt 2 (some (.object "Whichbox$Door")), Cond.classLink RX3 117 "java/lang/IndexOutOfBoundsException", Cond.initialized "java/lang/IndexOutOfBoundsException", Cond.fieldLink RX3 17 "Whichbox" "doors" "[LWhichbox$Door;", Cond.methodLink RX3 74 yX3_settleAll, Cond.instanceMethod yX3_settleAll, Cond.selects RX3 yX3_settleAll yX3_settleAll, Cond.code yX3_settleAll cX3_settleAll 5 none, Cond.fieldLink RX3 11 "Whichbox" "told" "[LWhichbox$Box;", Cond.methodLink RX3 229 yX3_settle, Cond.instanceMethod yX3_settle, Cond.selects RX3 yX3_settle yX3_settle]
def wsL_jam_r2 : List Cond := [Cond.code yX3_settle cX3_settle 3 none, Cond.fieldLink RX3 32 "Whichbox" "worths" "[I", Cond.fieldLink RX3 35 "Whichbox" "sums" "[I", Cond.fieldLink RX3 156 "Whichbox$Box" "insured" "Z", Cond.fieldLink RX3 28 "Whichbox" "ledger" "LWhichbox$Ledger;", Cond.fieldLink RX3 165 "Whichbox$Box" "value" "I", Cond.fieldLink RX3 191 "Whichbox$Box" "withFee" "Z", Cond.fieldLink RX3 252 "Whichbox$Box" "feeCourier" "I", Cond.fieldLink RX3 107 "Whichbox$Box" "size" "I", Cond.methodLink RX3 177 yX3_weighScans, Cond.instanceMethod yX3_weighScans, Cond.selects RX3 yX3_weighScans yX3_weighScans, Cond.code yX3_weighScans cX3_weighScans 3 none, Cond.fieldLink RX3 171 "Whichbox$Box" "scanCount" "I", Cond.fieldLink RX3 232 "Whichbox$Box" "makers" "[I", Cond.methodLink RX3 235 yX3_trustOf, Cond.instanceMethod yX3_trustOf, Cond.selects RX3 yX3_trustOf yX3_trustOf, Cond.code yX3_trustOf cX3_trustOf 2 (some .int), Cond.fieldLink RX3 21 "Whichbox" "trusts" "[I", Cond.methodLink RX3 49 yX3_isWithin, Cond.static yX3_isWithin, Cond.code yX3_isWithin cX3_isWithin 3 (some .boolean), Cond.methodLink RX3 242 yX0_chooseStory]
def wsL_jam_r3 : List Cond := [Cond.instanceMethod yX0_chooseStory, Cond.selects RX0 yX0_chooseStory yX0_chooseStory, Cond.initialized RX0, Cond.code yX0_chooseStory cX0_chooseStory 7 none, Cond.fieldLink RX0 24 "Whichbox$Box" "scanCount" "I", Cond.methodLink RX0 58 Lib.Math.max.name, Cond.static Lib.Math.max.name, Cond.initialized "java/lang/Math", Cond.code Lib.Math.max.name Lib.Math.max.code 2 (some .int), Cond.fieldLink RX0 28 "Whichbox$Box" "story" "I", Cond.methodLink RX0 54 yX0_canFollow, Cond.instanceMethod yX0_canFollow, Cond.selects RX0 yX0_canFollow yX0_canFollow, Cond.code yX0_canFollow cX0_canFollow 4 (some .boolean), Cond.fieldLink RX0 21 "Whichbox$Box" "follows" "[I", Cond.methodLink RX3 153 yX0_isDelivered, Cond.instanceMethod yX0_isDelivered, Cond.selects RX0 yX0_isDelivered yX0_isDelivered, Cond.code yX0_isDelivered cX0_isDelivered 1 (some .boolean), Cond.methodLink RX0 67 yX0_whereabouts, Cond.instanceMethod yX0_whereabouts, Cond.selects RX0 yX0_whereabouts yX0_whereabouts, Cond.code yX0_whereabouts cX0_whereabouts 2 (some .int), Cond.fieldLink RX0 15 "Whichbox$Box" "places" "[I"]
def wsL_jam_r4 : List Cond := [Cond.methodLink RX0 63 yX0_isTrue, Cond.instanceMethod yX0_isTrue, Cond.selects RX0 yX0_isTrue yX0_isTrue, Cond.code yX0_isTrue cX0_isTrue 2 (some .boolean), Cond.methodLink RX3 246 yX2_claimBack, Cond.instanceMethod yX2_claimBack, Cond.selects RX2 yX2_claimBack yX2_claimBack, Cond.initialized RX2, Cond.code yX2_claimBack cX2_claimBack 2 none, Cond.fieldLink RX2 15 "Whichbox$Ledger" "paidByInsurers" "I", Cond.fieldLink RX2 19 "Whichbox$Ledger" "written" "I", Cond.methodLink RX3 249 yX0_deliverer, Cond.instanceMethod yX0_deliverer, Cond.selects RX0 yX0_deliverer yX0_deliverer, Cond.code yX0_deliverer cX0_deliverer 3 (some .int), Cond.static yX3_courierOfPlace, Cond.code yX3_courierOfPlace cX3_courierOfPlace 1 (some .int), Cond.methodLink RX3 255 yX2_writeFee, Cond.instanceMethod yX2_writeFee, Cond.selects RX2 yX2_writeFee yX2_writeFee, Cond.code yX2_writeFee cX2_writeFee 3 none, Cond.fieldLink RX2 9 "Whichbox$Ledger" "feeSums" "[I"]
def wsL_jam : List Cond := .codeWith yL_jam cL_jam 4 (some .int) [(0, 14, 15, 39)] :: ((wsL_jam_r1 ++ (wsL_jam_r2 ++ (wsL_jam_r3 ++ wsL_jam_r4))) ++ wsX10 ++ wsX30 ++ wsX00 ++ wsX20 ++ (vx_atS RX3 121 "java/lang/IndexOutOfBoundsException" ["java/lang/RuntimeException", "java/lang/Exception"]).filter goodWord)
def wsL_of_r1 : List Cond := [Cond.classLink RL 39 "java/lang/IndexOutOfBoundsException", Cond.constant RL 41 (-100005), Cond.methodLink RL 54 yX3_scans, Cond.instanceMethod yX3_scans, Cond.selects RX3 yX3_scans yX3_scans, Cond.initialized RX3, Cond.code yX3_scans cX3_scans 2 (some .int), Cond.fieldLink RX3 171 "Whichbox$Box" "scanCount" "I", Cond.methodLink RX3 82 yX3_boxAt, Cond.instanceMethod yX3_boxAt, Cond.selects RX3 yX3_boxAt yX3_boxAt, Cond.code yX3_boxAt cX3_boxAt 2 (some (.object "Whichbox$Box")), Cond.classLink RX3 117 "java/lang/IndexOutOfBoundsException", Cond.initialized "java/lang/IndexOutOfBoundsException", Cond.fieldLink RX3 11 "Whichbox" "told" "[LWhichbox$Box;", Cond.methodLink RL 57 yX3_story, Cond.instanceMethod yX3_story, Cond.selects RX3 yX3_story yX3_story, Cond.code yX3_story cX3_story 2 (some .int), Cond.fieldLink RX3 174 "Whichbox$Box" "story" "I", Cond.methodLink RL 60 yX3_storyOfAll, Cond.instanceMethod yX3_storyOfAll, Cond.selects RX3 yX3_storyOfAll yX3_storyOfAll, Cond.code yX3_storyOfAll cX3_storyOfAll 3 (some .int)]
def wsL_of_r2 : List Cond := [Cond.fieldLink RX3 32 "Whichbox" "worths" "[I", Cond.methodLink RX3 177 yX3_weighScans, Cond.instanceMethod yX3_weighScans, Cond.selects RX3 yX3_weighScans yX3_weighScans, Cond.code yX3_weighScans cX3_weighScans 3 none, Cond.fieldLink RX3 232 "Whichbox$Box" "makers" "[I", Cond.methodLink RX3 235 yX3_trustOf, Cond.instanceMethod yX3_trustOf, Cond.selects RX3 yX3_trustOf yX3_trustOf, Cond.code yX3_trustOf cX3_trustOf 2 (some .int), Cond.fieldLink RX3 17 "Whichbox" "doors" "[LWhichbox$Door;", Cond.fieldLink RX3 130 "Whichbox$Door" "jammed" "Z", Cond.fieldLink RX3 21 "Whichbox" "trusts" "[I", Cond.methodLink RX3 49 yX3_isWithin, Cond.static yX3_isWithin, Cond.code yX3_isWithin cX3_isWithin 3 (some .boolean), Cond.methodLink RX3 180 yX3_greatestWorth, Cond.static yX3_greatestWorth, Cond.code yX3_greatestWorth cX3_greatestWorth 8 (some .int), Cond.methodLink RX3 206 Lib.Math.max.name, Cond.static Lib.Math.max.name, Cond.initialized "java/lang/Math", Cond.code Lib.Math.max.name Lib.Math.max.code 2 (some .int), Cond.methodLink RX3 238 yX0_canFollow]
def wsL_of_r3 : List Cond := [Cond.instanceMethod yX0_canFollow, Cond.selects RX0 yX0_canFollow yX0_canFollow, Cond.initialized RX0, Cond.code yX0_canFollow cX0_canFollow 4 (some .boolean), Cond.fieldLink RX0 21 "Whichbox$Box" "follows" "[I", Cond.methodLink RL 63 yX3_hasFee, Cond.instanceMethod yX3_hasFee, Cond.selects RX3 yX3_hasFee yX3_hasFee, Cond.code yX3_hasFee cX3_hasFee 2 (some .boolean), Cond.fieldLink RX3 191 "Whichbox$Box" "withFee" "Z", Cond.methodLink RL 67 yX3_isInsured, Cond.instanceMethod yX3_isInsured, Cond.selects RX3 yX3_isInsured yX3_isInsured, Cond.code yX3_isInsured cX3_isInsured 2 (some .boolean), Cond.fieldLink RX3 156 "Whichbox$Box" "insured" "Z", Cond.methodLink RL 70 yX3_fine, Cond.instanceMethod yX3_fine, Cond.selects RX3 yX3_fine yX3_fine, Cond.code yX3_fine cX3_fine 4 (some .int), Cond.fieldLink RX3 42 "Whichbox" "now" "I", Cond.methodLink RX3 184 yX0_whereabouts, Cond.instanceMethod yX0_whereabouts, Cond.selects RX0 yX0_whereabouts yX0_whereabouts, Cond.code yX0_whereabouts cX0_whereabouts 2 (some .int)]
def wsL_of_r4 : List Cond := [Cond.fieldLink RX0 24 "Whichbox$Box" "scanCount" "I", Cond.fieldLink RX0 15 "Whichbox$Box" "places" "[I", Cond.methodLink RX0 63 yX0_isTrue, Cond.instanceMethod yX0_isTrue, Cond.selects RX0 yX0_isTrue yX0_isTrue, Cond.code yX0_isTrue cX0_isTrue 2 (some .boolean), Cond.fieldLink RX0 28 "Whichbox$Box" "story" "I", Cond.methodLink RX3 113 yX3_kindOf, Cond.static yX3_kindOf, Cond.code yX3_kindOf cX3_kindOf 1 (some .int), Cond.methodLink RX3 203 yX0_thereSince, Cond.instanceMethod yX0_thereSince, Cond.selects RX0 yX0_thereSince yX0_thereSince, Cond.code yX0_thereSince cX0_thereSince 4 (some .int), Cond.fieldLink RX0 9 "Whichbox$Box" "times" "[I", Cond.methodLink RX0 67 yX0_whereabouts, Cond.methodLink RL 73 yX3_isJammed, Cond.instanceMethod yX3_isJammed, Cond.selects RX3 yX3_isJammed yX3_isJammed, Cond.code yX3_isJammed cX3_isJammed 2 (some .boolean), Cond.methodLink RX3 103 yX3_doorAt, Cond.instanceMethod yX3_doorAt, Cond.selects RX3 yX3_doorAt yX3_doorAt, Cond.code yX3_doorAt cX3_doorAt 2 (some (.object "Whichbox$Door"))]
def wsL_of_r5 : List Cond := [Cond.methodLink RL 76 yX3_keptFor, Cond.instanceMethod yX3_keptFor, Cond.selects RX3 yX3_keptFor yX3_keptFor, Cond.code yX3_keptFor cX3_keptFor 2 (some .int), Cond.fieldLink RX3 136 "Whichbox$Door" "boxAwaited" "I", Cond.methodLink RL 79 yX3_placeOf, Cond.instanceMethod yX3_placeOf, Cond.selects RX3 yX3_placeOf yX3_placeOf, Cond.code yX3_placeOf cX3_placeOf 2 (some .int), Cond.methodLink RL 82 yX3_lies, Cond.instanceMethod yX3_lies, Cond.selects RX3 yX3_lies yX3_lies, Cond.code yX3_lies cX3_lies 7 (some .int), Cond.methodLink RX3 68 yX3_checkWho, Cond.static yX3_checkWho, Cond.code yX3_checkWho cX3_checkWho 1 none, Cond.methodLink RX3 188 yX0_countLies, Cond.instanceMethod yX0_countLies, Cond.selects RX0 yX0_countLies yX0_countLies, Cond.code yX0_countLies cX0_countLies 4 (some .int), Cond.fieldLink RX0 18 "Whichbox$Box" "makers" "[I", Cond.methodLink RL 85 yX3_fees, Cond.instanceMethod yX3_fees, Cond.selects RX3 yX3_fees yX3_fees]
def wsL_of_r6 : List Cond := [Cond.code yX3_fees cX3_fees 2 (some .int), Cond.fieldLink RX3 28 "Whichbox" "ledger" "LWhichbox$Ledger;", Cond.fieldLink RX3 194 "Whichbox$Ledger" "feeSums" "[I", Cond.methodLink RX3 86 yX3_checkCourier, Cond.static yX3_checkCourier, Cond.code yX3_checkCourier cX3_checkCourier 1 none]
def wsL_of : List Cond := .codeWith yL_of cL_of 4 (some .int) [(0, 162, 163, 39)] :: ((wsL_of_r1 ++ (wsL_of_r2 ++ (wsL_of_r3 ++ (wsL_of_r4 ++ (wsL_of_r5 ++ wsL_of_r6))))) ++ wsX00 ++ wsX30 ++ wsX10 ++ wsX20 ++ (vx_atS RX3 121 "java/lang/IndexOutOfBoundsException" ["java/lang/RuntimeException", "java/lang/Exception"]).filter goodWord)
def wsL_there : List Cond := .code yL_there cL_there 2 (some .int) :: ([])
def wsL_place : List Cond := .code yL_place cL_place 2 (some .int) :: ([.methodLink RL 88 yL_there, .static yL_there, .initialized RL, .code yL_there cL_there 2 (some .int)])
def wsL_law0_r1 : List Cond := [Cond.classLink RL 9 RX3, Cond.instantiable RX3 9, Cond.initialized RX3, Cond.methodLink RL 93 yX3_init, Cond.instanceMethod yX3_init, Cond.code yX3_init cX3_init 2 none, Cond.methodLink RX3 3 objectInit, Cond.instanceMethod objectInit, Cond.code objectInit ⟨#[0xb1]⟩ 1 none, Cond.classLink RX3 9 RX0, Cond.fieldLink RX3 11 "Whichbox" "told" "[LWhichbox$Box;", Cond.classLink RX3 15 RX1, Cond.fieldLink RX3 17 "Whichbox" "doors" "[LWhichbox$Door;", Cond.arrayClass .int, Cond.fieldLink RX3 21 "Whichbox" "trusts" "[I", Cond.classLink RX3 25 RX2, Cond.instantiable RX2 3, Cond.initialized RX2, Cond.fieldLink RX3 28 "Whichbox" "ledger" "LWhichbox$Ledger;", Cond.fieldLink RX3 32 "Whichbox" "worths" "[I", Cond.fieldLink RX3 35 "Whichbox" "sums" "[I", Cond.fieldLink RX3 38 "Whichbox" "toldBoxes" "I", Cond.fieldLink RX3 42 "Whichbox" "now" "I", Cond.fieldLink RX3 45 "Whichbox" "keeps" "I"]
def wsL_law0_r2 : List Cond := [Cond.instantiable RX1 5, Cond.initialized RX1, Cond.instanceMethod yX2_init, Cond.code yX2_init cX2_init 1 none, Cond.methodLink RX2 3 objectInit, Cond.fieldLink RX2 9 "Whichbox$Ledger" "feeSums" "[I", Cond.fieldLink RX2 15 "Whichbox$Ledger" "paidByInsurers" "I", Cond.fieldLink RX2 19 "Whichbox$Ledger" "written" "I", Cond.instanceMethod yX1_init, Cond.code yX1_init cX1_init 1 none, Cond.methodLink RX1 3 objectInit, Cond.fieldLink RX1 9 "Whichbox$Door" "size" "I", Cond.fieldLink RX1 15 "Whichbox$Door" "jammed" "Z", Cond.fieldLink RX1 19 "Whichbox$Door" "boxAwaited" "I", Cond.fieldLink RX1 22 "Whichbox$Door" "code" "I", Cond.fieldLink RX1 25 "Whichbox$Door" "wrongCodes" "I", Cond.methodLink RL 94 yL_drawn, Cond.static yL_drawn, Cond.initialized RL, Cond.code yL_drawn cL_drawn 3 (some .int), Cond.constant RL 7 (1073741823), Cond.methodLink RL 98 yX3_boxes, Cond.instanceMethod yX3_boxes, Cond.selects RX3 yX3_boxes yX3_boxes]
def wsL_law0_r3 : List Cond := [Cond.code yX3_boxes cX3_boxes 1 (some .int), Cond.methodLink RL 102 yL_does, Cond.static yL_does, Cond.codeWith yL_does cL_does 5 (some .int) [(0, 117, 118, 39), (0, 117, 123, 42), (0, 117, 128, 44)], Cond.classLink RL 39 "java/lang/IndexOutOfBoundsException", Cond.classLink RL 42 "java/lang/IllegalArgumentException", Cond.classLink RL 44 "java/lang/IllegalStateException", Cond.constant RL 41 (-100005), Cond.methodLink RL 8 yX3_box, Cond.instanceMethod yX3_box, Cond.selects RX3 yX3_box yX3_box, Cond.code yX3_box cX3_box 3 (some .int), Cond.classLink RX3 53 "java/lang/IllegalArgumentException", Cond.initialized "java/lang/IllegalArgumentException", Cond.classLink RX3 60 "java/lang/IllegalStateException", Cond.initialized "java/lang/IllegalStateException", Cond.instantiable RX0 11, Cond.initialized RX0, Cond.methodLink RX3 49 yX3_isWithin, Cond.static yX3_isWithin, Cond.code yX3_isWithin cX3_isWithin 3 (some .boolean), Cond.methodLink RX3 65 yX0_init, Cond.instanceMethod yX0_init, Cond.code yX0_init cX0_init 3 none]
def wsL_law0_r4 : List Cond := [Cond.methodLink RX0 3 objectInit, Cond.fieldLink RX0 9 "Whichbox$Box" "times" "[I", Cond.fieldLink RX0 15 "Whichbox$Box" "places" "[I", Cond.fieldLink RX0 18 "Whichbox$Box" "makers" "[I", Cond.fieldLink RX0 21 "Whichbox$Box" "follows" "[I", Cond.fieldLink RX0 24 "Whichbox$Box" "scanCount" "I", Cond.fieldLink RX0 28 "Whichbox$Box" "story" "I", Cond.fieldLink RX0 31 "Whichbox$Box" "insured" "Z", Cond.fieldLink RX0 35 "Whichbox$Box" "withFee" "Z", Cond.fieldLink RX0 38 "Whichbox$Box" "feeCourier" "I", Cond.fieldLink RX0 41 "Whichbox$Box" "size" "I", Cond.fieldLink RX0 44 "Whichbox$Box" "value" "I", Cond.methodLink RL 14 yX3_setTrust, Cond.instanceMethod yX3_setTrust, Cond.selects RX3 yX3_setTrust yX3_setTrust, Cond.code yX3_setTrust cX3_setTrust 4 (some .int), Cond.methodLink RX3 68 yX3_checkWho, Cond.static yX3_checkWho, Cond.code yX3_checkWho cX3_checkWho 1 none, Cond.classLink RX3 117 "java/lang/IndexOutOfBoundsException", Cond.initialized "java/lang/IndexOutOfBoundsException", Cond.methodLink RX3 74 yX3_settleAll, Cond.instanceMethod yX3_settleAll, Cond.selects RX3 yX3_settleAll yX3_settleAll]
def wsL_law0_r5 : List Cond := [Cond.code yX3_settleAll cX3_settleAll 5 none, Cond.methodLink RX3 229 yX3_settle, Cond.instanceMethod yX3_settle, Cond.selects RX3 yX3_settle yX3_settle, Cond.code yX3_settle cX3_settle 3 none, Cond.fieldLink RX3 156 "Whichbox$Box" "insured" "Z", Cond.fieldLink RX3 165 "Whichbox$Box" "value" "I", Cond.fieldLink RX3 191 "Whichbox$Box" "withFee" "Z", Cond.fieldLink RX3 252 "Whichbox$Box" "feeCourier" "I", Cond.fieldLink RX3 107 "Whichbox$Box" "size" "I", Cond.methodLink RX3 177 yX3_weighScans, Cond.instanceMethod yX3_weighScans, Cond.selects RX3 yX3_weighScans yX3_weighScans, Cond.code yX3_weighScans cX3_weighScans 3 none, Cond.fieldLink RX3 171 "Whichbox$Box" "scanCount" "I", Cond.fieldLink RX3 232 "Whichbox$Box" "makers" "[I", Cond.methodLink RX3 235 yX3_trustOf, Cond.instanceMethod yX3_trustOf, Cond.selects RX3 yX3_trustOf yX3_trustOf, Cond.code yX3_trustOf cX3_trustOf 2 (some .int), Cond.fieldLink RX3 130 "Whichbox$Door" "jammed" "Z", Cond.methodLink RX3 242 yX0_chooseStory, Cond.instanceMethod yX0_chooseStory, Cond.selects RX0 yX0_chooseStory yX0_chooseStory]
def wsL_law0_r6 : List Cond := [Cond.code yX0_chooseStory cX0_chooseStory 7 none, Cond.methodLink RX0 58 Lib.Math.max.name, Cond.static Lib.Math.max.name, Cond.initialized "java/lang/Math", Cond.code Lib.Math.max.name Lib.Math.max.code 2 (some .int), Cond.methodLink RX0 54 yX0_canFollow, Cond.instanceMethod yX0_canFollow, Cond.selects RX0 yX0_canFollow yX0_canFollow, Cond.code yX0_canFollow cX0_canFollow 4 (some .boolean), Cond.methodLink RX3 153 yX0_isDelivered, Cond.instanceMethod yX0_isDelivered, Cond.selects RX0 yX0_isDelivered yX0_isDelivered, Cond.code yX0_isDelivered cX0_isDelivered 1 (some .boolean), Cond.methodLink RX0 67 yX0_whereabouts, Cond.instanceMethod yX0_whereabouts, Cond.selects RX0 yX0_whereabouts yX0_whereabouts, Cond.code yX0_whereabouts cX0_whereabouts 2 (some .int), Cond.methodLink RX0 63 yX0_isTrue, Cond.instanceMethod yX0_isTrue, Cond.selects RX0 yX0_isTrue yX0_isTrue, Cond.code yX0_isTrue cX0_isTrue 2 (some .boolean), Cond.methodLink RX3 246 yX2_claimBack, Cond.instanceMethod yX2_claimBack, Cond.selects RX2 yX2_claimBack yX2_claimBack]
def wsL_law0_r7 : List Cond := [Cond.code yX2_claimBack cX2_claimBack 2 none, Cond.methodLink RX3 249 yX0_deliverer, Cond.instanceMethod yX0_deliverer, Cond.selects RX0 yX0_deliverer yX0_deliverer, Cond.code yX0_deliverer cX0_deliverer 3 (some .int), Cond.static yX3_courierOfPlace, Cond.code yX3_courierOfPlace cX3_courierOfPlace 1 (some .int), Cond.methodLink RX3 255 yX2_writeFee, Cond.instanceMethod yX2_writeFee, Cond.selects RX2 yX2_writeFee yX2_writeFee, Cond.code yX2_writeFee cX2_writeFee 3 none, Cond.methodLink RL 17 yX3_pass, Cond.instanceMethod yX3_pass, Cond.selects RX3 yX3_pass yX3_pass, Cond.code yX3_pass cX3_pass 2 (some .int), Cond.constant RX3 79 (100000), Cond.methodLink RL 21 yX3_lay, Cond.instanceMethod yX3_lay, Cond.selects RX3 yX3_lay yX3_lay, Cond.code yX3_lay cX3_lay 5 (some .int), Cond.fieldLink RX3 110 "Whichbox$Door" "size" "I", Cond.methodLink RX3 82 yX3_boxAt, Cond.instanceMethod yX3_boxAt, Cond.selects RX3 yX3_boxAt yX3_boxAt]
def wsL_law0_r8 : List Cond := [Cond.code yX3_boxAt cX3_boxAt 2 (some (.object "Whichbox$Box")), Cond.methodLink RX3 103 yX3_doorAt, Cond.instanceMethod yX3_doorAt, Cond.selects RX3 yX3_doorAt yX3_doorAt, Cond.code yX3_doorAt cX3_doorAt 2 (some (.object "Whichbox$Door")), Cond.methodLink RX3 91 yX3_checkRoomForScan, Cond.static yX3_checkRoomForScan, Cond.code yX3_checkRoomForScan cX3_checkRoomForScan 1 none, Cond.methodLink RX3 99 yX3_addScan, Cond.instanceMethod yX3_addScan, Cond.selects RX3 yX3_addScan yX3_addScan, Cond.code yX3_addScan cX3_addScan 5 (some .int), Cond.methodLink RX3 225 yX0_note, Cond.instanceMethod yX0_note, Cond.selects RX0 yX0_note yX0_note, Cond.code yX0_note cX0_note 5 (some .int), Cond.methodLink RX0 47 yX0_scansAheadOf, Cond.instanceMethod yX0_scansAheadOf, Cond.selects RX0 yX0_scansAheadOf yX0_scansAheadOf, Cond.code yX0_scansAheadOf cX0_scansAheadOf 5 (some .int), Cond.static yX3_minutesBetween, Cond.code yX3_minutesBetween cX3_minutesBetween 4 (some .int), Cond.constant RX3 221 (1000000), Cond.fieldLink RX3 222 "Whichbox" "MINUTES" "[I"]
def wsL_law0_r9 : List Cond := [Cond.methodLink RX3 113 yX3_kindOf, Cond.static yX3_kindOf, Cond.code yX3_kindOf cX3_kindOf 1 (some .int), Cond.methodLink RL 24 yX3_find, Cond.instanceMethod yX3_find, Cond.selects RX3 yX3_find yX3_find, Cond.code yX3_find cX3_find 4 (some .int), Cond.methodLink RL 27 yX3_setDoor, Cond.instanceMethod yX3_setDoor, Cond.selects RX3 yX3_setDoor yX3_setDoor, Cond.code yX3_setDoor cX3_setDoor 5 (some .int), Cond.methodLink RX3 124 yX1_isKept, Cond.instanceMethod yX1_isKept, Cond.selects RX1 yX1_isKept yX1_isKept, Cond.code yX1_isKept cX1_isKept 1 (some .boolean), Cond.methodLink RL 30 yX3_keep, Cond.instanceMethod yX3_keep, Cond.selects RX3 yX3_keep yX3_keep, Cond.code yX3_keep cX3_keep 5 (some .int), Cond.fieldLink RX3 136 "Whichbox$Door" "boxAwaited" "I", Cond.fieldLink RX3 139 "Whichbox$Door" "code" "I", Cond.fieldLink RX3 142 "Whichbox$Door" "wrongCodes" "I", Cond.methodLink RL 33 yX3_open, Cond.instanceMethod yX3_open]
def wsL_law0_r10 : List Cond := [Cond.selects RX3 yX3_open yX3_open, Cond.code yX3_open cX3_open 5 (some .int), Cond.methodLink RX3 149 yX3_countWrongCode, Cond.instanceMethod yX3_countWrongCode, Cond.selects RX3 yX3_countWrongCode yX3_countWrongCode, Cond.code yX3_countWrongCode cX3_countWrongCode 2 none, Cond.methodLink RL 36 yX3_claim, Cond.instanceMethod yX3_claim, Cond.selects RX3 yX3_claim yX3_claim, Cond.code yX3_claim cX3_claim 3 (some .int), Cond.methodLink RX3 159 yX0_wasScannedAfter, Cond.instanceMethod yX0_wasScannedAfter, Cond.selects RX0 yX0_wasScannedAfter yX0_wasScannedAfter, Cond.code yX0_wasScannedAfter cX0_wasScannedAfter 2 (some .boolean), Cond.methodLink RX3 168 yX2_payInsured, Cond.instanceMethod yX2_payInsured, Cond.selects RX2 yX2_payInsured yX2_payInsured, Cond.code yX2_payInsured cX2_payInsured 2 none, Cond.methodLink RL 106 yL_scan, Cond.static yL_scan, Cond.codeWith yL_scan cL_scan 5 (some .int) [(0, 7, 8, 39), (0, 7, 13, 42), (0, 7, 18, 44)], Cond.methodLink RL 46 yX3_scan, Cond.instanceMethod yX3_scan, Cond.selects RX3 yX3_scan yX3_scan]
def wsL_law0_r11 : List Cond := [Cond.code yX3_scan cX3_scan 5 (some .int), Cond.methodLink RX3 86 yX3_checkCourier, Cond.static yX3_checkCourier, Cond.code yX3_checkCourier cX3_checkCourier 1 none, Cond.methodLink RX3 95 yX3_placeTold, Cond.static yX3_placeTold, Cond.code yX3_placeTold cX3_placeTold 2 (some .int), Cond.methodLink RL 88 yL_there, Cond.static yL_there, Cond.code yL_there cL_there 2 (some .int), Cond.methodLink RL 108 yL_place, Cond.static yL_place, Cond.code yL_place cL_place 2 (some .int), Cond.methodLink RL 111 yL_jam, Cond.static yL_jam, Cond.codeWith yL_jam cL_jam 4 (some .int) [(0, 14, 15, 39)], Cond.methodLink RL 50 yX3_jam, Cond.instanceMethod yX3_jam, Cond.selects RX3 yX3_jam yX3_jam, Cond.code yX3_jam cX3_jam 5 (some .boolean), Cond.methodLink RL 114 yX3_time, Cond.instanceMethod yX3_time, Cond.selects RX3 yX3_time yX3_time, Cond.code yX3_time cX3_time 1 (some .int)]
def wsL_law0_r12 : List Cond := [Cond.methodLink RL 117 yX3_insurers, Cond.instanceMethod yX3_insurers, Cond.selects RX3 yX3_insurers yX3_insurers, Cond.code yX3_insurers cX3_insurers 1 (some .int), Cond.fieldLink RX3 197 "Whichbox$Ledger" "paidByInsurers" "I", Cond.methodLink RL 120 yX3_entries, Cond.instanceMethod yX3_entries, Cond.selects RX3 yX3_entries yX3_entries, Cond.code yX3_entries cX3_entries 1 (some .int), Cond.fieldLink RX3 200 "Whichbox$Ledger" "written" "I", Cond.methodLink RL 123 yL_of, Cond.static yL_of, Cond.codeWith yL_of cL_of 4 (some .int) [(0, 162, 163, 39)], Cond.methodLink RL 54 yX3_scans, Cond.instanceMethod yX3_scans, Cond.selects RX3 yX3_scans yX3_scans, Cond.code yX3_scans cX3_scans 2 (some .int), Cond.methodLink RL 57 yX3_story, Cond.instanceMethod yX3_story, Cond.selects RX3 yX3_story yX3_story, Cond.code yX3_story cX3_story 2 (some .int), Cond.fieldLink RX3 174 "Whichbox$Box" "story" "I", Cond.methodLink RL 60 yX3_storyOfAll, Cond.instanceMethod yX3_storyOfAll]
def wsL_law0_r13 : List Cond := [Cond.selects RX3 yX3_storyOfAll yX3_storyOfAll, Cond.code yX3_storyOfAll cX3_storyOfAll 3 (some .int), Cond.methodLink RX3 180 yX3_greatestWorth, Cond.static yX3_greatestWorth, Cond.code yX3_greatestWorth cX3_greatestWorth 8 (some .int), Cond.methodLink RX3 206 Lib.Math.max.name, Cond.methodLink RX3 238 yX0_canFollow, Cond.methodLink RL 63 yX3_hasFee, Cond.instanceMethod yX3_hasFee, Cond.selects RX3 yX3_hasFee yX3_hasFee, Cond.code yX3_hasFee cX3_hasFee 2 (some .boolean), Cond.methodLink RL 67 yX3_isInsured, Cond.instanceMethod yX3_isInsured, Cond.selects RX3 yX3_isInsured yX3_isInsured, Cond.code yX3_isInsured cX3_isInsured 2 (some .boolean), Cond.methodLink RL 70 yX3_fine, Cond.instanceMethod yX3_fine, Cond.selects RX3 yX3_fine yX3_fine, Cond.code yX3_fine cX3_fine 4 (some .int), Cond.methodLink RX3 184 yX0_whereabouts, Cond.methodLink RX3 203 yX0_thereSince, Cond.instanceMethod yX0_thereSince, Cond.selects RX0 yX0_thereSince yX0_thereSince, Cond.code yX0_thereSince cX0_thereSince 4 (some .int)]
def wsL_law0_r14 : List Cond := [Cond.methodLink RL 73 yX3_isJammed, Cond.instanceMethod yX3_isJammed, Cond.selects RX3 yX3_isJammed yX3_isJammed, Cond.code yX3_isJammed cX3_isJammed 2 (some .boolean), Cond.methodLink RL 76 yX3_keptFor, Cond.instanceMethod yX3_keptFor, Cond.selects RX3 yX3_keptFor yX3_keptFor, Cond.code yX3_keptFor cX3_keptFor 2 (some .int), Cond.methodLink RL 79 yX3_placeOf, Cond.instanceMethod yX3_placeOf, Cond.selects RX3 yX3_placeOf yX3_placeOf, Cond.code yX3_placeOf cX3_placeOf 2 (some .int), Cond.methodLink RL 82 yX3_lies, Cond.instanceMethod yX3_lies, Cond.selects RX3 yX3_lies yX3_lies, Cond.code yX3_lies cX3_lies 7 (some .int), Cond.methodLink RX3 188 yX0_countLies, Cond.instanceMethod yX0_countLies, Cond.selects RX0 yX0_countLies yX0_countLies, Cond.code yX0_countLies cX0_countLies 4 (some .int), Cond.methodLink RL 85 yX3_fees, Cond.instanceMethod yX3_fees, Cond.selects RX3 yX3_fees yX3_fees, Cond.code yX3_fees cX3_fees 2 (some .int)]
def wsL_law0_r15 : List Cond := [Cond.fieldLink RX3 194 "Whichbox$Ledger" "feeSums" "[I"]
def wsL_law0 : List Cond := (wsL_law0_r1 ++ (wsL_law0_r2 ++ (wsL_law0_r3 ++ (wsL_law0_r4 ++ (wsL_law0_r5 ++ (wsL_law0_r6 ++ (wsL_law0_r7 ++ (wsL_law0_r8 ++ (wsL_law0_r9 ++ (wsL_law0_r10 ++ (wsL_law0_r11 ++ (wsL_law0_r12 ++ (wsL_law0_r13 ++ (wsL_law0_r14 ++ wsL_law0_r15)))))))))))))) ++ wsX30 ++ wsX20 ++ wsX10 ++ wsX00 ++ ([] : List Cond)
def wsL_law : List Cond := wsL_law0 ++ (vx_atS RX3 57 "java/lang/IllegalArgumentException" ["java/lang/RuntimeException", "java/lang/Exception"]).filter goodWord ++ (vx_atS RX3 64 "java/lang/IllegalStateException" ["java/lang/RuntimeException", "java/lang/Exception"]).filter goodWord ++ (vx_atS RX3 121 "java/lang/IndexOutOfBoundsException" ["java/lang/RuntimeException", "java/lang/Exception"]).filter goodWord
set_option maxRecDepth 20000 in
theorem wsL_lc_wsL_law0_r1 : ∀ w ∈ wsL_law0_r1, w ∈ lw_tbl := fun w h => (goodIn_p wsL_law0_r1 [26, 29] (by decide +kernel) (by decide +kernel) w h).1
set_option maxRecDepth 20000 in
theorem wsL_lc_wsL_law0_r2 : ∀ w ∈ wsL_law0_r2, w ∈ lw_tbl := fun w h => (goodIn_p wsL_law0_r2 [38, 57, 126] (by decide +kernel) (by decide +kernel) w h).1
set_option maxRecDepth 20000 in
theorem wsL_lc_wsL_law0_r3 : ∀ w ∈ wsL_law0_r3, w ∈ lw_tbl := fun w h => (goodIn_p wsL_law0_r3 [115, 137, 140, 228] (by decide +kernel) (by decide +kernel) w h).1
set_option maxRecDepth 20000 in
theorem wsL_lc_wsL_law0_r4 : ∀ w ∈ wsL_law0_r4, w ∈ lw_tbl := fun w h => (goodIn_p wsL_law0_r4 [275, 278] (by decide +kernel) (by decide +kernel) w h).1
set_option maxRecDepth 20000 in
theorem wsL_lc_wsL_law0_r5 : ∀ w ∈ wsL_law0_r5, w ∈ lw_tbl := fun w h => (goodIn_p wsL_law0_r5 [299, 303, 307, 311] (by decide +kernel) (by decide +kernel) w h).1
set_option maxRecDepth 20000 in
theorem wsL_lc_wsL_law0_r6 : ∀ w ∈ wsL_law0_r6, w ∈ lw_tbl := fun w h => (goodIn_p wsL_law0_r6 [315, 322, 319, 326, 330, 334] (by decide +kernel) (by decide +kernel) w h).1
set_option maxRecDepth 20000 in
theorem wsL_lc_wsL_law0_r7 : ∀ w ∈ wsL_law0_r7, w ∈ lw_tbl := fun w h => (goodIn_p wsL_law0_r7 [338, 342, 345, 349, 353, 360] (by decide +kernel) (by decide +kernel) w h).1
set_option maxRecDepth 20000 in
theorem wsL_lc_wsL_law0_r8 : ∀ w ∈ wsL_law0_r8, w ∈ lw_tbl := fun w h => (goodIn_p wsL_law0_r8 [364, 369, 373, 379, 383, 387, 390] (by decide +kernel) (by decide +kernel) w h).1
set_option maxRecDepth 20000 in
theorem wsL_lc_wsL_law0_r9 : ∀ w ∈ wsL_law0_r9, w ∈ lw_tbl := fun w h => (goodIn_p wsL_law0_r9 [393, 400, 405, 410, 415] (by decide +kernel) (by decide +kernel) w h).1
set_option maxRecDepth 20000 in
theorem wsL_lc_wsL_law0_r10 : ∀ w ∈ wsL_law0_r10, w ∈ lw_tbl := fun w h => (goodIn_p wsL_law0_r10 [420, 426, 430, 434, 439] (by decide +kernel) (by decide +kernel) w h).1
set_option maxRecDepth 20000 in
theorem wsL_lc_wsL_law0_r11 : ∀ w ∈ wsL_law0_r11, w ∈ lw_tbl := fun w h => (goodIn_p wsL_law0_r11 [447, 450, 455, 526, 529, 462, 111] (by decide +kernel) (by decide +kernel) w h).1
set_option maxRecDepth 20000 in
theorem wsL_lc_wsL_law0_r12 : ∀ w ∈ wsL_law0_r12, w ∈ lw_tbl := fun w h => (goodIn_p wsL_law0_r12 [119, 123, 469, 473] (by decide +kernel) (by decide +kernel) w h).1
set_option maxRecDepth 20000 in
theorem wsL_lc_wsL_law0_r13 : ∀ w ∈ wsL_law0_r13, w ∈ lw_tbl := fun w h => (goodIn_p wsL_law0_r13 [477, 480, 486, 490, 494, 499] (by decide +kernel) (by decide +kernel) w h).1
set_option maxRecDepth 20000 in
theorem wsL_lc_wsL_law0_r14 : ∀ w ∈ wsL_law0_r14, w ∈ lw_tbl := fun w h => (goodIn_p wsL_law0_r14 [503, 507, 511, 515, 519, 523] (by decide +kernel) (by decide +kernel) w h).1
set_option maxRecDepth 20000 in
theorem wsL_lc_wsL_law0_r15 : ∀ w ∈ wsL_law0_r15, w ∈ lw_tbl := fun w h => (goodIn_p wsL_law0_r15 [] (by decide +kernel) (by decide +kernel) w h).1
set_option maxRecDepth 20000 in
theorem wsL_lc_wsX30 : ∀ w ∈ wsX30, w ∈ lw_tbl := fun w h => (goodIn_p wsX30 [] (by decide +kernel) (by decide +kernel) w h).1
set_option maxRecDepth 20000 in
theorem wsL_lc_wsX20 : ∀ w ∈ wsX20, w ∈ lw_tbl := fun w h => (goodIn_p wsX20 [] (by decide +kernel) (by decide +kernel) w h).1
set_option maxRecDepth 20000 in
theorem wsL_lc_wsX10 : ∀ w ∈ wsX10, w ∈ lw_tbl := fun w h => (goodIn_p wsX10 [] (by decide +kernel) (by decide +kernel) w h).1
set_option maxRecDepth 20000 in
theorem wsL_lc_wsX00 : ∀ w ∈ wsX00, w ∈ lw_tbl := fun w h => (goodIn_p wsX00 [] (by decide +kernel) (by decide +kernel) w h).1
theorem wsL_law_in0 : ∀ w ∈ wsL_law0, w ∈ lw_tbl := fun w h => (fun h => (List.mem_append.mp h).elim (fun h => (List.mem_append.mp h).elim (fun h => (List.mem_append.mp h).elim (fun h => (List.mem_append.mp h).elim (fun h => (List.mem_append.mp h).elim (fun h => (List.mem_append.mp h).elim (fun h => wsL_lc_wsL_law0_r1 w h) (fun h => (List.mem_append.mp h).elim (fun h => wsL_lc_wsL_law0_r2 w h) (fun h => (List.mem_append.mp h).elim (fun h => wsL_lc_wsL_law0_r3 w h) (fun h => (List.mem_append.mp h).elim (fun h => wsL_lc_wsL_law0_r4 w h) (fun h => (List.mem_append.mp h).elim (fun h => wsL_lc_wsL_law0_r5 w h) (fun h => (List.mem_append.mp h).elim (fun h => wsL_lc_wsL_law0_r6 w h) (fun h => (List.mem_append.mp h).elim (fun h => wsL_lc_wsL_law0_r7 w h) (fun h => (List.mem_append.mp h).elim (fun h => wsL_lc_wsL_law0_r8 w h) (fun h => (List.mem_append.mp h).elim (fun h => wsL_lc_wsL_law0_r9 w h) (fun h => (List.mem_append.mp h).elim (fun h => wsL_lc_wsL_law0_r10 w h) (fun h => (List.mem_append.mp h).elim (fun h => wsL_lc_wsL_law0_r11 w h) (fun h => (List.mem_append.mp h).elim (fun h => wsL_lc_wsL_law0_r12 w h) (fun h => (List.mem_append.mp h).elim (fun h => wsL_lc_wsL_law0_r13 w h) (fun h => (List.mem_append.mp h).elim (fun h => wsL_lc_wsL_law0_r14 w h) (fun h => wsL_lc_wsL_law0_r15 w h))))))))))))))) (fun h => wsL_lc_wsX30 w h)) (fun h => wsL_lc_wsX20 w h)) (fun h => wsL_lc_wsX10 w h)) (fun h => wsL_lc_wsX00 w h)) (fun h => absurd h List.not_mem_nil)) h
theorem wsL_law_x0 : ∀ w ∈ (vx_atS RX3 57 "java/lang/IllegalArgumentException" ["java/lang/RuntimeException", "java/lang/Exception"]).filter goodWord, w ∈ lw_tbl := by decide +kernel
theorem wsL_law_x1 : ∀ w ∈ (vx_atS RX3 64 "java/lang/IllegalStateException" ["java/lang/RuntimeException", "java/lang/Exception"]).filter goodWord, w ∈ lw_tbl := by decide +kernel
theorem wsL_law_x2 : ∀ w ∈ (vx_atS RX3 121 "java/lang/IndexOutOfBoundsException" ["java/lang/RuntimeException", "java/lang/Exception"]).filter goodWord, w ∈ lw_tbl := by decide +kernel
theorem wsL_law_in : ∀ w ∈ wsL_law, w ∈ lw_tbl := fun w h => (List.mem_append.mp h).elim (fun h => (List.mem_append.mp h).elim (fun h => (List.mem_append.mp h).elim (fun h => wsL_law_in0 w h) (fun h => wsL_law_x0 w h)) (fun h => wsL_law_x1 w h)) (fun h => wsL_law_x2 w h)
theorem inlX0 : ∀ w ∈ wsX00, w ∈ wsL_law := fun _ h => List.mem_append_left _ (List.mem_append_left _ (List.mem_append_left _ (List.mem_append_left _ (List.mem_append_right _ h))))
theorem inX0 : ∀ w ∈ wsX00, w ∈ lw_tbl := fun w h => wsL_law_in w (inlX0 w h)
theorem inlX1 : ∀ w ∈ wsX10, w ∈ wsL_law := fun _ h => List.mem_append_left _ (List.mem_append_left _ (List.mem_append_left _ (List.mem_append_left _ (List.mem_append_left _ (List.mem_append_right _ h)))))
theorem inX1 : ∀ w ∈ wsX10, w ∈ lw_tbl := fun w h => wsL_law_in w (inlX1 w h)
theorem inlX2 : ∀ w ∈ wsX20, w ∈ wsL_law := fun _ h => List.mem_append_left _ (List.mem_append_left _ (List.mem_append_left _ (List.mem_append_left _ (List.mem_append_left _ (List.mem_append_left _ (List.mem_append_right _ h))))))
theorem inX2 : ∀ w ∈ wsX20, w ∈ lw_tbl := fun w h => wsL_law_in w (inlX2 w h)
theorem inlX3 : ∀ w ∈ wsX30, w ∈ wsL_law := fun _ h => List.mem_append_left _ (List.mem_append_left _ (List.mem_append_left _ (List.mem_append_left _ (List.mem_append_left _ (List.mem_append_left _ (List.mem_append_left _ (List.mem_append_right _ h)))))))
theorem inX3 : ∀ w ∈ wsX30, w ∈ lw_tbl := fun w h => wsL_law_in w (inlX3 w h)
theorem inX4 : ∀ w ∈ wsX40, w ∈ lw_tbl := by decide +kernel
theorem inJ9 : ∀ w ∈ wsJ90, w ∈ lw_tbl := by decide +kernel
theorem inJ0 : ∀ w ∈ wsJ00, w ∈ lw_tbl := by decide +kernel
abbrev vwCl : List vw_C := [(RX0, TX0, 11), (RX1, TX1, 5), (RX2, TX2, 3), (RX3, TX3, 9)]
end
section
theorem dX0_init_0 : decode cX0_init 0 = .ok (.aload_n 0, 1) := by decide +kernel
theorem dX0_init_1 : decode cX0_init 1 = .ok (.invokespecial 3, 3) := by decide +kernel
theorem dX0_init_4 : decode cX0_init 4 = .ok (.aload_n 0, 1) := by decide +kernel
theorem dX0_init_5 : decode cX0_init 5 = .ok (.bipush 12, 2) := by decide +kernel
theorem dX0_init_7 : decode cX0_init 7 = .ok (.newarray .int, 2) := by decide +kernel
theorem dX0_init_9 : decode cX0_init 9 = .ok (.putfield 9, 3) := by decide +kernel
theorem dX0_init_12 : decode cX0_init 12 = .ok (.aload_n 0, 1) := by decide +kernel
theorem dX0_init_13 : decode cX0_init 13 = .ok (.bipush 12, 2) := by decide +kernel
theorem dX0_init_15 : decode cX0_init 15 = .ok (.newarray .int, 2) := by decide +kernel
theorem dX0_init_17 : decode cX0_init 17 = .ok (.putfield 15, 3) := by decide +kernel
theorem dX0_init_20 : decode cX0_init 20 = .ok (.aload_n 0, 1) := by decide +kernel
theorem dX0_init_21 : decode cX0_init 21 = .ok (.bipush 12, 2) := by decide +kernel
theorem dX0_init_23 : decode cX0_init 23 = .ok (.newarray .int, 2) := by decide +kernel
theorem dX0_init_25 : decode cX0_init 25 = .ok (.putfield 18, 3) := by decide +kernel
theorem dX0_init_28 : decode cX0_init 28 = .ok (.aload_n 0, 1) := by decide +kernel
theorem dX0_init_29 : decode cX0_init 29 = .ok (.bipush 12, 2) := by decide +kernel
theorem dX0_init_31 : decode cX0_init 31 = .ok (.newarray .int, 2) := by decide +kernel
theorem dX0_init_33 : decode cX0_init 33 = .ok (.putfield 21, 3) := by decide +kernel
theorem dX0_init_36 : decode cX0_init 36 = .ok (.aload_n 0, 1) := by decide +kernel
theorem dX0_init_37 : decode cX0_init 37 = .ok (.iconst 0, 1) := by decide +kernel
theorem dX0_init_38 : decode cX0_init 38 = .ok (.putfield 24, 3) := by decide +kernel
theorem dX0_init_41 : decode cX0_init 41 = .ok (.aload_n 0, 1) := by decide +kernel
theorem dX0_init_42 : decode cX0_init 42 = .ok (.iconst 0, 1) := by decide +kernel
theorem dX0_init_43 : decode cX0_init 43 = .ok (.putfield 28, 3) := by decide +kernel
theorem dX0_init_46 : decode cX0_init 46 = .ok (.aload_n 0, 1) := by decide +kernel
theorem dX0_init_47 : decode cX0_init 47 = .ok (.iconst 0, 1) := by decide +kernel
theorem dX0_init_48 : decode cX0_init 48 = .ok (.putfield 31, 3) := by decide +kernel
theorem dX0_init_51 : decode cX0_init 51 = .ok (.aload_n 0, 1) := by decide +kernel
theorem dX0_init_52 : decode cX0_init 52 = .ok (.iconst 0, 1) := by decide +kernel
theorem dX0_init_53 : decode cX0_init 53 = .ok (.putfield 35, 3) := by decide +kernel
theorem dX0_init_56 : decode cX0_init 56 = .ok (.aload_n 0, 1) := by decide +kernel
theorem dX0_init_57 : decode cX0_init 57 = .ok (.iconst (-1), 1) := by decide +kernel
theorem dX0_init_58 : decode cX0_init 58 = .ok (.putfield 38, 3) := by decide +kernel
theorem dX0_init_61 : decode cX0_init 61 = .ok (.aload_n 0, 1) := by decide +kernel
theorem dX0_init_62 : decode cX0_init 62 = .ok (.iload_n 1, 1) := by decide +kernel
theorem dX0_init_63 : decode cX0_init 63 = .ok (.putfield 41, 3) := by decide +kernel
theorem dX0_init_66 : decode cX0_init 66 = .ok (.aload_n 0, 1) := by decide +kernel
theorem dX0_init_67 : decode cX0_init 67 = .ok (.iload_n 2, 1) := by decide +kernel
theorem dX0_init_68 : decode cX0_init 68 = .ok (.putfield 44, 3) := by decide +kernel
theorem dX0_init_71 : decode cX0_init 71 = .ok (.return_, 1) := by decide +kernel
set_option maxRecDepth 20000 in
theorem ggX0_note_X0_scansAheadOf : GoodIn wsX0_note wsX0_scansAheadOf := goodIn_r _ [10, 1, 3, 2, 11, 12, 13, 14, 15, 16, 17, 18, 19, 20, 21, 22, 23, 24, 25, 26, 27, 28, 29, 30, 31, 32] (by decide +kernel) (by decide +kernel)
set_option maxRecDepth 20000 in
theorem gX0_note_X0_scansAheadOf : GoodIn wsX0_note (wsV RX0 47 RX0 yX0_scansAheadOf wsX0_scansAheadOf) := goodIn_app (goodIn_of _ (by decide +kernel)) ggX0_note_X0_scansAheadOf
theorem dX0_note_0 : decode cX0_note 0 = .ok (.aload_n 0, 1) := by decide +kernel
theorem dX0_note_1 : decode cX0_note 1 = .ok (.getfield 24, 3) := by decide +kernel
theorem dX0_note_4 : decode cX0_note 4 = .ok (.bipush 12, 2) := by decide +kernel
theorem dX0_note_6 : decode cX0_note 6 = .ok (.if_icmp .lt 5, 3) := by decide +kernel
theorem dX0_note_9 : decode cX0_note 9 = .ok (.iconst (-1), 1) := by decide +kernel
theorem dX0_note_10 : decode cX0_note 10 = .ok (.ireturn, 1) := by decide +kernel
theorem dX0_note_11 : decode cX0_note 11 = .ok (.aload_n 0, 1) := by decide +kernel
theorem dX0_note_12 : decode cX0_note 12 = .ok (.getfield 24, 3) := by decide +kernel
theorem dX0_note_15 : decode cX0_note 15 = .ok (.istore 4, 2) := by decide +kernel
theorem dX0_note_17 : decode cX0_note 17 = .ok (.aload_n 0, 1) := by decide +kernel
theorem dX0_note_18 : decode cX0_note 18 = .ok (.getfield 9, 3) := by decide +kernel
theorem dX0_note_21 : decode cX0_note 21 = .ok (.iload 4, 2) := by decide +kernel
theorem dX0_note_23 : decode cX0_note 23 = .ok (.iload_n 1, 1) := by decide +kernel
theorem dX0_note_24 : decode cX0_note 24 = .ok (.iastore, 1) := by decide +kernel
theorem dX0_note_25 : decode cX0_note 25 = .ok (.aload_n 0, 1) := by decide +kernel
theorem dX0_note_26 : decode cX0_note 26 = .ok (.getfield 15, 3) := by decide +kernel
theorem dX0_note_29 : decode cX0_note 29 = .ok (.iload 4, 2) := by decide +kernel
theorem dX0_note_31 : decode cX0_note 31 = .ok (.iload_n 2, 1) := by decide +kernel
theorem dX0_note_32 : decode cX0_note 32 = .ok (.iastore, 1) := by decide +kernel
theorem dX0_note_33 : decode cX0_note 33 = .ok (.aload_n 0, 1) := by decide +kernel
theorem dX0_note_34 : decode cX0_note 34 = .ok (.getfield 18, 3) := by decide +kernel
theorem dX0_note_37 : decode cX0_note 37 = .ok (.iload 4, 2) := by decide +kernel
theorem dX0_note_39 : decode cX0_note 39 = .ok (.iload_n 3, 1) := by decide +kernel
theorem dX0_note_40 : decode cX0_note 40 = .ok (.iastore, 1) := by decide +kernel
theorem dX0_note_41 : decode cX0_note 41 = .ok (.aload_n 0, 1) := by decide +kernel
theorem dX0_note_42 : decode cX0_note 42 = .ok (.getfield 21, 3) := by decide +kernel
theorem dX0_note_45 : decode cX0_note 45 = .ok (.iload 4, 2) := by decide +kernel
theorem dX0_note_47 : decode cX0_note 47 = .ok (.aload_n 0, 1) := by decide +kernel
theorem dX0_note_48 : decode cX0_note 48 = .ok (.iload_n 1, 1) := by decide +kernel
theorem dX0_note_49 : decode cX0_note 49 = .ok (.iload_n 2, 1) := by decide +kernel
theorem dX0_note_50 : decode cX0_note 50 = .ok (.invokevirtual 47, 3) := by decide +kernel
theorem dX0_note_53 : decode cX0_note 53 = .ok (.iastore, 1) := by decide +kernel
theorem dX0_note_54 : decode cX0_note 54 = .ok (.aload_n 0, 1) := by decide +kernel
theorem dX0_note_55 : decode cX0_note 55 = .ok (.dup, 1) := by decide +kernel
theorem dX0_note_56 : decode cX0_note 56 = .ok (.getfield 24, 3) := by decide +kernel
theorem dX0_note_59 : decode cX0_note 59 = .ok (.iconst 1, 1) := by decide +kernel
theorem dX0_note_60 : decode cX0_note 60 = .ok (.iadd, 1) := by decide +kernel
theorem dX0_note_61 : decode cX0_note 61 = .ok (.putfield 24, 3) := by decide +kernel
theorem dX0_note_64 : decode cX0_note 64 = .ok (.iload 4, 2) := by decide +kernel
theorem dX0_note_66 : decode cX0_note 66 = .ok (.ireturn, 1) := by decide +kernel
set_option maxRecDepth 20000 in
theorem ggX0_scansAheadOf_X3_minutesBetween : GoodIn wsX0_scansAheadOf wsX3_minutesBetween := goodIn_r _ [6, 7, 8, 9, 10, 5, 11, 12, 13, 14] (by decide +kernel) (by decide +kernel)
set_option maxRecDepth 20000 in
theorem gX0_scansAheadOf_X3_minutesBetween_n51 : GoodIn wsX0_scansAheadOf (wsX3_minutesBetween) := ggX0_scansAheadOf_X3_minutesBetween
theorem dX0_scansAheadOf_0 : decode cX0_scansAheadOf 0 = .ok (.iconst 0, 1) := by decide +kernel
theorem dX0_scansAheadOf_1 : decode cX0_scansAheadOf 1 = .ok (.iload_n 2, 1) := by decide +kernel
theorem dX0_scansAheadOf_2 : decode cX0_scansAheadOf 2 = .ok (.invokestatic 51, 3) := by decide +kernel
theorem dX0_scansAheadOf_5 : decode cX0_scansAheadOf 5 = .ok (.iload_n 1, 1) := by decide +kernel
theorem dX0_scansAheadOf_6 : decode cX0_scansAheadOf 6 = .ok (.if_icmp .gt 9, 3) := by decide +kernel
theorem dX0_scansAheadOf_9 : decode cX0_scansAheadOf 9 = .ok (.sipush 4096, 3) := by decide +kernel
theorem dX0_scansAheadOf_12 : decode cX0_scansAheadOf 12 = .ok (.goto 4, 3) := by decide +kernel
theorem dX0_scansAheadOf_15 : decode cX0_scansAheadOf 15 = .ok (.iconst 0, 1) := by decide +kernel
theorem dX0_scansAheadOf_16 : decode cX0_scansAheadOf 16 = .ok (.istore_n 3, 1) := by decide +kernel
theorem dX0_scansAheadOf_17 : decode cX0_scansAheadOf 17 = .ok (.iconst 0, 1) := by decide +kernel
theorem dX0_scansAheadOf_18 : decode cX0_scansAheadOf 18 = .ok (.istore 4, 2) := by decide +kernel
theorem dX0_scansAheadOf_20 : decode cX0_scansAheadOf 20 = .ok (.iload 4, 2) := by decide +kernel
theorem dX0_scansAheadOf_22 : decode cX0_scansAheadOf 22 = .ok (.aload_n 0, 1) := by decide +kernel
theorem dX0_scansAheadOf_23 : decode cX0_scansAheadOf 23 = .ok (.getfield 24, 3) := by decide +kernel
theorem dX0_scansAheadOf_26 : decode cX0_scansAheadOf 26 = .ok (.if_icmp .ge 39, 3) := by decide +kernel
theorem dX0_scansAheadOf_29 : decode cX0_scansAheadOf 29 = .ok (.aload_n 0, 1) := by decide +kernel
theorem dX0_scansAheadOf_30 : decode cX0_scansAheadOf 30 = .ok (.getfield 15, 3) := by decide +kernel
theorem dX0_scansAheadOf_33 : decode cX0_scansAheadOf 33 = .ok (.iload 4, 2) := by decide +kernel
theorem dX0_scansAheadOf_35 : decode cX0_scansAheadOf 35 = .ok (.iaload, 1) := by decide +kernel
theorem dX0_scansAheadOf_36 : decode cX0_scansAheadOf 36 = .ok (.iload_n 2, 1) := by decide +kernel
theorem dX0_scansAheadOf_37 : decode cX0_scansAheadOf 37 = .ok (.invokestatic 51, 3) := by decide +kernel
theorem dX0_scansAheadOf_40 : decode cX0_scansAheadOf 40 = .ok (.iload_n 1, 1) := by decide +kernel
theorem dX0_scansAheadOf_41 : decode cX0_scansAheadOf 41 = .ok (.aload_n 0, 1) := by decide +kernel
theorem dX0_scansAheadOf_42 : decode cX0_scansAheadOf 42 = .ok (.getfield 9, 3) := by decide +kernel
theorem dX0_scansAheadOf_45 : decode cX0_scansAheadOf 45 = .ok (.iload 4, 2) := by decide +kernel
theorem dX0_scansAheadOf_47 : decode cX0_scansAheadOf 47 = .ok (.iaload, 1) := by decide +kernel
theorem dX0_scansAheadOf_48 : decode cX0_scansAheadOf 48 = .ok (.isub, 1) := by decide +kernel
theorem dX0_scansAheadOf_49 : decode cX0_scansAheadOf 49 = .ok (.if_icmp .gt 10, 3) := by decide +kernel
theorem dX0_scansAheadOf_52 : decode cX0_scansAheadOf 52 = .ok (.iload_n 3, 1) := by decide +kernel
theorem dX0_scansAheadOf_53 : decode cX0_scansAheadOf 53 = .ok (.iconst 1, 1) := by decide +kernel
theorem dX0_scansAheadOf_54 : decode cX0_scansAheadOf 54 = .ok (.iload 4, 2) := by decide +kernel
theorem dX0_scansAheadOf_56 : decode cX0_scansAheadOf 56 = .ok (.ishl, 1) := by decide +kernel
theorem dX0_scansAheadOf_57 : decode cX0_scansAheadOf 57 = .ok (.ior, 1) := by decide +kernel
theorem dX0_scansAheadOf_58 : decode cX0_scansAheadOf 58 = .ok (.istore_n 3, 1) := by decide +kernel
theorem dX0_scansAheadOf_59 : decode cX0_scansAheadOf 59 = .ok (.iinc 4 1, 3) := by decide +kernel
theorem dX0_scansAheadOf_62 : decode cX0_scansAheadOf 62 = .ok (.goto (-42), 3) := by decide +kernel
theorem dX0_scansAheadOf_65 : decode cX0_scansAheadOf 65 = .ok (.iload_n 3, 1) := by decide +kernel
theorem dX0_scansAheadOf_66 : decode cX0_scansAheadOf 66 = .ok (.ireturn, 1) := by decide +kernel
theorem dX0_canFollow_0 : decode cX0_canFollow 0 = .ok (.iload_n 1, 1) := by decide +kernel
theorem dX0_canFollow_1 : decode cX0_canFollow 1 = .ok (.iconst (-1), 1) := by decide +kernel
theorem dX0_canFollow_2 : decode cX0_canFollow 2 = .ok (.if_icmp .ne 8, 3) := by decide +kernel
theorem dX0_canFollow_5 : decode cX0_canFollow 5 = .ok (.bipush 12, 2) := by decide +kernel
theorem dX0_canFollow_7 : decode cX0_canFollow 7 = .ok (.goto 4, 3) := by decide +kernel
theorem dX0_canFollow_10 : decode cX0_canFollow 10 = .ok (.iload_n 1, 1) := by decide +kernel
theorem dX0_canFollow_11 : decode cX0_canFollow 11 = .ok (.istore_n 3, 1) := by decide +kernel
theorem dX0_canFollow_12 : decode cX0_canFollow 12 = .ok (.aload_n 0, 1) := by decide +kernel
theorem dX0_canFollow_13 : decode cX0_canFollow 13 = .ok (.getfield 21, 3) := by decide +kernel
theorem dX0_canFollow_16 : decode cX0_canFollow 16 = .ok (.iload_n 2, 1) := by decide +kernel
theorem dX0_canFollow_17 : decode cX0_canFollow 17 = .ok (.iaload, 1) := by decide +kernel
theorem dX0_canFollow_18 : decode cX0_canFollow 18 = .ok (.iload_n 3, 1) := by decide +kernel
theorem dX0_canFollow_19 : decode cX0_canFollow 19 = .ok (.ishr, 1) := by decide +kernel
theorem dX0_canFollow_20 : decode cX0_canFollow 20 = .ok (.iconst 1, 1) := by decide +kernel
theorem dX0_canFollow_21 : decode cX0_canFollow 21 = .ok (.iand, 1) := by decide +kernel
theorem dX0_canFollow_22 : decode cX0_canFollow 22 = .ok (.iconst 1, 1) := by decide +kernel
theorem dX0_canFollow_23 : decode cX0_canFollow 23 = .ok (.if_icmp .ne 7, 3) := by decide +kernel
theorem dX0_canFollow_26 : decode cX0_canFollow 26 = .ok (.iconst 1, 1) := by decide +kernel
theorem dX0_canFollow_27 : decode cX0_canFollow 27 = .ok (.goto 4, 3) := by decide +kernel
theorem dX0_canFollow_30 : decode cX0_canFollow 30 = .ok (.iconst 0, 1) := by decide +kernel
theorem dX0_canFollow_31 : decode cX0_canFollow 31 = .ok (.ireturn, 1) := by decide +kernel
set_option maxRecDepth 20000 in
theorem ggX0_chooseStory_X0_canFollow : GoodIn wsX0_chooseStory wsX0_canFollow := goodIn_r _ [11, 12, 13, 14, 15, 16, 17, 18, 19, 20, 21, 22, 23] (by decide +kernel) (by decide +kernel)
set_option maxRecDepth 20000 in
theorem gX0_chooseStory_X0_canFollow : GoodIn wsX0_chooseStory (wsV RX0 54 RX0 yX0_canFollow wsX0_canFollow) := goodIn_app (goodIn_of _ (by decide +kernel)) ggX0_chooseStory_X0_canFollow
theorem dX0_chooseStory_0 : decode cX0_chooseStory 0 = .ok (.iconst 0, 1) := by decide +kernel
theorem dX0_chooseStory_1 : decode cX0_chooseStory 1 = .ok (.istore_n 3, 1) := by decide +kernel
theorem dX0_chooseStory_2 : decode cX0_chooseStory 2 = .ok (.iconst 0, 1) := by decide +kernel
theorem dX0_chooseStory_3 : decode cX0_chooseStory 3 = .ok (.istore 4, 2) := by decide +kernel
theorem dX0_chooseStory_5 : decode cX0_chooseStory 5 = .ok (.iload 4, 2) := by decide +kernel
theorem dX0_chooseStory_7 : decode cX0_chooseStory 7 = .ok (.aload_n 0, 1) := by decide +kernel
theorem dX0_chooseStory_8 : decode cX0_chooseStory 8 = .ok (.getfield 24, 3) := by decide +kernel
theorem dX0_chooseStory_11 : decode cX0_chooseStory 11 = .ok (.if_icmp .ge 94, 3) := by decide +kernel
theorem dX0_chooseStory_14 : decode cX0_chooseStory 14 = .ok (.aload_n 0, 1) := by decide +kernel
theorem dX0_chooseStory_15 : decode cX0_chooseStory 15 = .ok (.iconst (-1), 1) := by decide +kernel
theorem dX0_chooseStory_16 : decode cX0_chooseStory 16 = .ok (.iload 4, 2) := by decide +kernel
theorem dX0_chooseStory_18 : decode cX0_chooseStory 18 = .ok (.invokevirtual 54, 3) := by decide +kernel
theorem dX0_chooseStory_21 : decode cX0_chooseStory 21 = .ok (.ifCond .eq 7, 3) := by decide +kernel
theorem dX0_chooseStory_24 : decode cX0_chooseStory 24 = .ok (.iconst 0, 1) := by decide +kernel
theorem dX0_chooseStory_25 : decode cX0_chooseStory 25 = .ok (.goto 4, 3) := by decide +kernel
theorem dX0_chooseStory_28 : decode cX0_chooseStory 28 = .ok (.iconst (-1), 1) := by decide +kernel
theorem dX0_chooseStory_29 : decode cX0_chooseStory 29 = .ok (.istore 5, 2) := by decide +kernel
theorem dX0_chooseStory_31 : decode cX0_chooseStory 31 = .ok (.iconst 0, 1) := by decide +kernel
theorem dX0_chooseStory_32 : decode cX0_chooseStory 32 = .ok (.istore 6, 2) := by decide +kernel
theorem dX0_chooseStory_34 : decode cX0_chooseStory 34 = .ok (.iload 6, 2) := by decide +kernel
theorem dX0_chooseStory_36 : decode cX0_chooseStory 36 = .ok (.iload 4, 2) := by decide +kernel
theorem dX0_chooseStory_38 : decode cX0_chooseStory 38 = .ok (.if_icmp .ge 31, 3) := by decide +kernel
theorem dX0_chooseStory_41 : decode cX0_chooseStory 41 = .ok (.aload_n 0, 1) := by decide +kernel
theorem dX0_chooseStory_42 : decode cX0_chooseStory 42 = .ok (.iload 6, 2) := by decide +kernel
theorem dX0_chooseStory_44 : decode cX0_chooseStory 44 = .ok (.iload 4, 2) := by decide +kernel
theorem dX0_chooseStory_46 : decode cX0_chooseStory 46 = .ok (.invokevirtual 54, 3) := by decide +kernel
theorem dX0_chooseStory_49 : decode cX0_chooseStory 49 = .ok (.ifCond .eq 14, 3) := by decide +kernel
theorem dX0_chooseStory_52 : decode cX0_chooseStory 52 = .ok (.iload 5, 2) := by decide +kernel
theorem dX0_chooseStory_54 : decode cX0_chooseStory 54 = .ok (.aload_n 2, 1) := by decide +kernel
theorem dX0_chooseStory_55 : decode cX0_chooseStory 55 = .ok (.iload 6, 2) := by decide +kernel
theorem dX0_chooseStory_57 : decode cX0_chooseStory 57 = .ok (.iaload, 1) := by decide +kernel
theorem dX0_chooseStory_58 : decode cX0_chooseStory 58 = .ok (.invokestatic 58, 3) := by decide +kernel
theorem dX0_chooseStory_61 : decode cX0_chooseStory 61 = .ok (.istore 5, 2) := by decide +kernel
theorem dX0_chooseStory_63 : decode cX0_chooseStory 63 = .ok (.iinc 6 1, 3) := by decide +kernel
theorem dX0_chooseStory_66 : decode cX0_chooseStory 66 = .ok (.goto (-32), 3) := by decide +kernel
theorem dX0_chooseStory_69 : decode cX0_chooseStory 69 = .ok (.aload_n 2, 1) := by decide +kernel
theorem dX0_chooseStory_70 : decode cX0_chooseStory 70 = .ok (.iload 4, 2) := by decide +kernel
theorem dX0_chooseStory_72 : decode cX0_chooseStory 72 = .ok (.iload 5, 2) := by decide +kernel
theorem dX0_chooseStory_74 : decode cX0_chooseStory 74 = .ok (.iconst (-1), 1) := by decide +kernel
theorem dX0_chooseStory_75 : decode cX0_chooseStory 75 = .ok (.if_icmp .ne 7, 3) := by decide +kernel
theorem dX0_chooseStory_78 : decode cX0_chooseStory 78 = .ok (.iconst (-1), 1) := by decide +kernel
theorem dX0_chooseStory_79 : decode cX0_chooseStory 79 = .ok (.goto 10, 3) := by decide +kernel
theorem dX0_chooseStory_82 : decode cX0_chooseStory 82 = .ok (.iload 5, 2) := by decide +kernel
theorem dX0_chooseStory_84 : decode cX0_chooseStory 84 = .ok (.aload_n 1, 1) := by decide +kernel
theorem dX0_chooseStory_85 : decode cX0_chooseStory 85 = .ok (.iload 4, 2) := by decide +kernel
theorem dX0_chooseStory_87 : decode cX0_chooseStory 87 = .ok (.iaload, 1) := by decide +kernel
theorem dX0_chooseStory_88 : decode cX0_chooseStory 88 = .ok (.iadd, 1) := by decide +kernel
theorem dX0_chooseStory_89 : decode cX0_chooseStory 89 = .ok (.iastore, 1) := by decide +kernel
theorem dX0_chooseStory_90 : decode cX0_chooseStory 90 = .ok (.iload_n 3, 1) := by decide +kernel
theorem dX0_chooseStory_91 : decode cX0_chooseStory 91 = .ok (.aload_n 2, 1) := by decide +kernel
theorem dX0_chooseStory_92 : decode cX0_chooseStory 92 = .ok (.iload 4, 2) := by decide +kernel
theorem dX0_chooseStory_94 : decode cX0_chooseStory 94 = .ok (.iaload, 1) := by decide +kernel
theorem dX0_chooseStory_95 : decode cX0_chooseStory 95 = .ok (.invokestatic 58, 3) := by decide +kernel
theorem dX0_chooseStory_98 : decode cX0_chooseStory 98 = .ok (.istore_n 3, 1) := by decide +kernel
theorem dX0_chooseStory_99 : decode cX0_chooseStory 99 = .ok (.iinc 4 1, 3) := by decide +kernel
theorem dX0_chooseStory_102 : decode cX0_chooseStory 102 = .ok (.goto (-97), 3) := by decide +kernel
theorem dX0_chooseStory_105 : decode cX0_chooseStory 105 = .ok (.aload_n 0, 1) := by decide +kernel
theorem dX0_chooseStory_106 : decode cX0_chooseStory 106 = .ok (.iload_n 3, 1) := by decide +kernel
theorem dX0_chooseStory_107 : decode cX0_chooseStory 107 = .ok (.sipush 4096, 3) := by decide +kernel
theorem dX0_chooseStory_110 : decode cX0_chooseStory 110 = .ok (.irem, 1) := by decide +kernel
theorem dX0_chooseStory_111 : decode cX0_chooseStory 111 = .ok (.putfield 28, 3) := by decide +kernel
theorem dX0_chooseStory_114 : decode cX0_chooseStory 114 = .ok (.return_, 1) := by decide +kernel
theorem dX0_isTrue_0 : decode cX0_isTrue 0 = .ok (.aload_n 0, 1) := by decide +kernel
theorem dX0_isTrue_1 : decode cX0_isTrue 1 = .ok (.getfield 28, 3) := by decide +kernel
theorem dX0_isTrue_4 : decode cX0_isTrue 4 = .ok (.iload_n 1, 1) := by decide +kernel
theorem dX0_isTrue_5 : decode cX0_isTrue 5 = .ok (.ishr, 1) := by decide +kernel
theorem dX0_isTrue_6 : decode cX0_isTrue 6 = .ok (.iconst 1, 1) := by decide +kernel
theorem dX0_isTrue_7 : decode cX0_isTrue 7 = .ok (.iand, 1) := by decide +kernel
theorem dX0_isTrue_8 : decode cX0_isTrue 8 = .ok (.iconst 1, 1) := by decide +kernel
theorem dX0_isTrue_9 : decode cX0_isTrue 9 = .ok (.if_icmp .ne 7, 3) := by decide +kernel
theorem dX0_isTrue_12 : decode cX0_isTrue 12 = .ok (.iconst 1, 1) := by decide +kernel
theorem dX0_isTrue_13 : decode cX0_isTrue 13 = .ok (.goto 4, 3) := by decide +kernel
theorem dX0_isTrue_16 : decode cX0_isTrue 16 = .ok (.iconst 0, 1) := by decide +kernel
theorem dX0_isTrue_17 : decode cX0_isTrue 17 = .ok (.ireturn, 1) := by decide +kernel
set_option maxRecDepth 20000 in
theorem ggX0_whereabouts_X0_isTrue : GoodIn wsX0_whereabouts wsX0_isTrue := goodIn_r _ [7, 8, 9, 10, 11, 12, 13, 14, 15, 16, 17, 18, 19] (by decide +kernel) (by decide +kernel)
set_option maxRecDepth 20000 in
theorem gX0_whereabouts_X0_isTrue : GoodIn wsX0_whereabouts (wsV RX0 63 RX0 yX0_isTrue wsX0_isTrue) := goodIn_app (goodIn_of _ (by decide +kernel)) ggX0_whereabouts_X0_isTrue
theorem dX0_whereabouts_0 : decode cX0_whereabouts 0 = .ok (.aload_n 0, 1) := by decide +kernel
theorem dX0_whereabouts_1 : decode cX0_whereabouts 1 = .ok (.getfield 24, 3) := by decide +kernel
theorem dX0_whereabouts_4 : decode cX0_whereabouts 4 = .ok (.iconst 1, 1) := by decide +kernel
theorem dX0_whereabouts_5 : decode cX0_whereabouts 5 = .ok (.isub, 1) := by decide +kernel
theorem dX0_whereabouts_6 : decode cX0_whereabouts 6 = .ok (.istore_n 1, 1) := by decide +kernel
theorem dX0_whereabouts_7 : decode cX0_whereabouts 7 = .ok (.iload_n 1, 1) := by decide +kernel
theorem dX0_whereabouts_8 : decode cX0_whereabouts 8 = .ok (.ifCond .lt 24, 3) := by decide +kernel
theorem dX0_whereabouts_11 : decode cX0_whereabouts 11 = .ok (.aload_n 0, 1) := by decide +kernel
theorem dX0_whereabouts_12 : decode cX0_whereabouts 12 = .ok (.iload_n 1, 1) := by decide +kernel
theorem dX0_whereabouts_13 : decode cX0_whereabouts 13 = .ok (.invokevirtual 63, 3) := by decide +kernel
theorem dX0_whereabouts_16 : decode cX0_whereabouts 16 = .ok (.ifCond .eq 10, 3) := by decide +kernel
theorem dX0_whereabouts_19 : decode cX0_whereabouts 19 = .ok (.aload_n 0, 1) := by decide +kernel
theorem dX0_whereabouts_20 : decode cX0_whereabouts 20 = .ok (.getfield 15, 3) := by decide +kernel
theorem dX0_whereabouts_23 : decode cX0_whereabouts 23 = .ok (.iload_n 1, 1) := by decide +kernel
theorem dX0_whereabouts_24 : decode cX0_whereabouts 24 = .ok (.iaload, 1) := by decide +kernel
theorem dX0_whereabouts_25 : decode cX0_whereabouts 25 = .ok (.ireturn, 1) := by decide +kernel
theorem dX0_whereabouts_26 : decode cX0_whereabouts 26 = .ok (.iinc 1 (-1), 3) := by decide +kernel
theorem dX0_whereabouts_29 : decode cX0_whereabouts 29 = .ok (.goto (-22), 3) := by decide +kernel
theorem dX0_whereabouts_32 : decode cX0_whereabouts 32 = .ok (.iconst 0, 1) := by decide +kernel
theorem dX0_whereabouts_33 : decode cX0_whereabouts 33 = .ok (.ireturn, 1) := by decide +kernel
set_option maxRecDepth 20000 in
theorem ggX0_isDelivered_X0_whereabouts : GoodIn wsX0_isDelivered wsX0_whereabouts := goodIn_r _ [5, 6, 7, 8, 9, 10, 4, 11, 12, 13, 14, 15, 16, 17, 18, 19, 20, 21, 22, 23] (by decide +kernel) (by decide +kernel)
set_option maxRecDepth 20000 in
theorem gX0_isDelivered_X0_whereabouts : GoodIn wsX0_isDelivered (wsV RX0 67 RX0 yX0_whereabouts wsX0_whereabouts) := goodIn_app (goodIn_of _ (by decide +kernel)) ggX0_isDelivered_X0_whereabouts
theorem dX0_isDelivered_0 : decode cX0_isDelivered 0 = .ok (.aload_n 0, 1) := by decide +kernel
theorem dX0_isDelivered_1 : decode cX0_isDelivered 1 = .ok (.invokevirtual 67, 3) := by decide +kernel
theorem dX0_isDelivered_4 : decode cX0_isDelivered 4 = .ok (.bipush 30, 2) := by decide +kernel
theorem dX0_isDelivered_6 : decode cX0_isDelivered 6 = .ok (.if_icmp .ne 7, 3) := by decide +kernel
theorem dX0_isDelivered_9 : decode cX0_isDelivered 9 = .ok (.iconst 1, 1) := by decide +kernel
theorem dX0_isDelivered_10 : decode cX0_isDelivered 10 = .ok (.goto 4, 3) := by decide +kernel
theorem dX0_isDelivered_13 : decode cX0_isDelivered 13 = .ok (.iconst 0, 1) := by decide +kernel
theorem dX0_isDelivered_14 : decode cX0_isDelivered 14 = .ok (.ireturn, 1) := by decide +kernel
set_option maxRecDepth 20000 in
theorem ggX0_deliverer_X3_courierOfPlace : GoodIn wsX0_deliverer wsX3_courierOfPlace := goodIn_r _ [5, 6, 7, 4, 8] (by decide +kernel) (by decide +kernel)
set_option maxRecDepth 20000 in
theorem gX0_deliverer_X3_courierOfPlace_n71 : GoodIn wsX0_deliverer (wsX3_courierOfPlace) := ggX0_deliverer_X3_courierOfPlace
set_option maxRecDepth 20000 in
theorem ggX0_deliverer_X0_isTrue : GoodIn wsX0_deliverer wsX0_isTrue := goodIn_r _ [13, 14, 15, 16, 17, 18, 19, 20, 21, 22, 23, 24, 25] (by decide +kernel) (by decide +kernel)
set_option maxRecDepth 20000 in
theorem gX0_deliverer_X0_isTrue : GoodIn wsX0_deliverer (wsV RX0 63 RX0 yX0_isTrue wsX0_isTrue) := goodIn_app (goodIn_of _ (by decide +kernel)) ggX0_deliverer_X0_isTrue
theorem dX0_deliverer_0 : decode cX0_deliverer 0 = .ok (.aload_n 0, 1) := by decide +kernel
theorem dX0_deliverer_1 : decode cX0_deliverer 1 = .ok (.getfield 24, 3) := by decide +kernel
theorem dX0_deliverer_4 : decode cX0_deliverer 4 = .ok (.iconst 1, 1) := by decide +kernel
theorem dX0_deliverer_5 : decode cX0_deliverer 5 = .ok (.isub, 1) := by decide +kernel
theorem dX0_deliverer_6 : decode cX0_deliverer 6 = .ok (.istore_n 1, 1) := by decide +kernel
theorem dX0_deliverer_7 : decode cX0_deliverer 7 = .ok (.iload_n 1, 1) := by decide +kernel
theorem dX0_deliverer_8 : decode cX0_deliverer 8 = .ok (.ifCond .lt 34, 3) := by decide +kernel
theorem dX0_deliverer_11 : decode cX0_deliverer 11 = .ok (.aload_n 0, 1) := by decide +kernel
theorem dX0_deliverer_12 : decode cX0_deliverer 12 = .ok (.getfield 15, 3) := by decide +kernel
theorem dX0_deliverer_15 : decode cX0_deliverer 15 = .ok (.iload_n 1, 1) := by decide +kernel
theorem dX0_deliverer_16 : decode cX0_deliverer 16 = .ok (.iaload, 1) := by decide +kernel
theorem dX0_deliverer_17 : decode cX0_deliverer 17 = .ok (.invokestatic 71, 3) := by decide +kernel
theorem dX0_deliverer_20 : decode cX0_deliverer 20 = .ok (.istore_n 2, 1) := by decide +kernel
theorem dX0_deliverer_21 : decode cX0_deliverer 21 = .ok (.aload_n 0, 1) := by decide +kernel
theorem dX0_deliverer_22 : decode cX0_deliverer 22 = .ok (.iload_n 1, 1) := by decide +kernel
theorem dX0_deliverer_23 : decode cX0_deliverer 23 = .ok (.invokevirtual 63, 3) := by decide +kernel
theorem dX0_deliverer_26 : decode cX0_deliverer 26 = .ok (.ifCond .eq 10, 3) := by decide +kernel
theorem dX0_deliverer_29 : decode cX0_deliverer 29 = .ok (.iload_n 2, 1) := by decide +kernel
theorem dX0_deliverer_30 : decode cX0_deliverer 30 = .ok (.iconst (-1), 1) := by decide +kernel
theorem dX0_deliverer_31 : decode cX0_deliverer 31 = .ok (.if_icmp .eq 5, 3) := by decide +kernel
theorem dX0_deliverer_34 : decode cX0_deliverer 34 = .ok (.iload_n 2, 1) := by decide +kernel
theorem dX0_deliverer_35 : decode cX0_deliverer 35 = .ok (.ireturn, 1) := by decide +kernel
theorem dX0_deliverer_36 : decode cX0_deliverer 36 = .ok (.iinc 1 (-1), 3) := by decide +kernel
theorem dX0_deliverer_39 : decode cX0_deliverer 39 = .ok (.goto (-32), 3) := by decide +kernel
theorem dX0_deliverer_42 : decode cX0_deliverer 42 = .ok (.iconst (-1), 1) := by decide +kernel
theorem dX0_deliverer_43 : decode cX0_deliverer 43 = .ok (.ireturn, 1) := by decide +kernel
set_option maxRecDepth 20000 in
theorem ggX0_thereSince_X0_whereabouts : GoodIn wsX0_thereSince wsX0_whereabouts := goodIn_r _ [8, 1, 2, 9, 10, 11, 7, 12, 13, 14, 15, 16, 17, 18, 19, 20, 21, 22, 23, 24] (by decide +kernel) (by decide +kernel)
set_option maxRecDepth 20000 in
theorem gX0_thereSince_X0_whereabouts : GoodIn wsX0_thereSince (wsV RX0 67 RX0 yX0_whereabouts wsX0_whereabouts) := goodIn_app (goodIn_of _ (by decide +kernel)) ggX0_thereSince_X0_whereabouts
set_option maxRecDepth 20000 in
theorem ggX0_thereSince_X0_isTrue : GoodIn wsX0_thereSince wsX0_isTrue := goodIn_r _ [12, 13, 14, 15, 16, 17, 18, 19, 20, 21, 22, 23, 24] (by decide +kernel) (by decide +kernel)
set_option maxRecDepth 20000 in
theorem gX0_thereSince_X0_isTrue : GoodIn wsX0_thereSince (wsV RX0 63 RX0 yX0_isTrue wsX0_isTrue) := goodIn_app (goodIn_of _ (by decide +kernel)) ggX0_thereSince_X0_isTrue
theorem dX0_thereSince_0 : decode cX0_thereSince 0 = .ok (.aload_n 0, 1) := by decide +kernel
theorem dX0_thereSince_1 : decode cX0_thereSince 1 = .ok (.invokevirtual 67, 3) := by decide +kernel
theorem dX0_thereSince_4 : decode cX0_thereSince 4 = .ok (.istore_n 1, 1) := by decide +kernel
theorem dX0_thereSince_5 : decode cX0_thereSince 5 = .ok (.iconst 0, 1) := by decide +kernel
theorem dX0_thereSince_6 : decode cX0_thereSince 6 = .ok (.istore_n 2, 1) := by decide +kernel
theorem dX0_thereSince_7 : decode cX0_thereSince 7 = .ok (.aload_n 0, 1) := by decide +kernel
theorem dX0_thereSince_8 : decode cX0_thereSince 8 = .ok (.getfield 24, 3) := by decide +kernel
theorem dX0_thereSince_11 : decode cX0_thereSince 11 = .ok (.iconst 1, 1) := by decide +kernel
theorem dX0_thereSince_12 : decode cX0_thereSince 12 = .ok (.isub, 1) := by decide +kernel
theorem dX0_thereSince_13 : decode cX0_thereSince 13 = .ok (.istore_n 3, 1) := by decide +kernel
theorem dX0_thereSince_14 : decode cX0_thereSince 14 = .ok (.iload_n 3, 1) := by decide +kernel
theorem dX0_thereSince_15 : decode cX0_thereSince 15 = .ok (.ifCond .lt 36, 3) := by decide +kernel
theorem dX0_thereSince_18 : decode cX0_thereSince 18 = .ok (.aload_n 0, 1) := by decide +kernel
theorem dX0_thereSince_19 : decode cX0_thereSince 19 = .ok (.iload_n 3, 1) := by decide +kernel
theorem dX0_thereSince_20 : decode cX0_thereSince 20 = .ok (.invokevirtual 63, 3) := by decide +kernel
theorem dX0_thereSince_23 : decode cX0_thereSince 23 = .ok (.ifCond .eq 22, 3) := by decide +kernel
theorem dX0_thereSince_26 : decode cX0_thereSince 26 = .ok (.aload_n 0, 1) := by decide +kernel
theorem dX0_thereSince_27 : decode cX0_thereSince 27 = .ok (.getfield 15, 3) := by decide +kernel
theorem dX0_thereSince_30 : decode cX0_thereSince 30 = .ok (.iload_n 3, 1) := by decide +kernel
theorem dX0_thereSince_31 : decode cX0_thereSince 31 = .ok (.iaload, 1) := by decide +kernel
theorem dX0_thereSince_32 : decode cX0_thereSince 32 = .ok (.iload_n 1, 1) := by decide +kernel
theorem dX0_thereSince_33 : decode cX0_thereSince 33 = .ok (.if_icmp .eq 5, 3) := by decide +kernel
theorem dX0_thereSince_36 : decode cX0_thereSince 36 = .ok (.iload_n 2, 1) := by decide +kernel
theorem dX0_thereSince_37 : decode cX0_thereSince 37 = .ok (.ireturn, 1) := by decide +kernel
theorem dX0_thereSince_38 : decode cX0_thereSince 38 = .ok (.aload_n 0, 1) := by decide +kernel
theorem dX0_thereSince_39 : decode cX0_thereSince 39 = .ok (.getfield 9, 3) := by decide +kernel
theorem dX0_thereSince_42 : decode cX0_thereSince 42 = .ok (.iload_n 3, 1) := by decide +kernel
theorem dX0_thereSince_43 : decode cX0_thereSince 43 = .ok (.iaload, 1) := by decide +kernel
theorem dX0_thereSince_44 : decode cX0_thereSince 44 = .ok (.istore_n 2, 1) := by decide +kernel
theorem dX0_thereSince_45 : decode cX0_thereSince 45 = .ok (.iinc 3 (-1), 3) := by decide +kernel
theorem dX0_thereSince_48 : decode cX0_thereSince 48 = .ok (.goto (-34), 3) := by decide +kernel
theorem dX0_thereSince_51 : decode cX0_thereSince 51 = .ok (.iload_n 2, 1) := by decide +kernel
theorem dX0_thereSince_52 : decode cX0_thereSince 52 = .ok (.ireturn, 1) := by decide +kernel
theorem dX0_wasScannedAfter_0 : decode cX0_wasScannedAfter 0 = .ok (.aload_n 0, 1) := by decide +kernel
theorem dX0_wasScannedAfter_1 : decode cX0_wasScannedAfter 1 = .ok (.getfield 24, 3) := by decide +kernel
theorem dX0_wasScannedAfter_4 : decode cX0_wasScannedAfter 4 = .ok (.ifCond .le 22, 3) := by decide +kernel
theorem dX0_wasScannedAfter_7 : decode cX0_wasScannedAfter 7 = .ok (.aload_n 0, 1) := by decide +kernel
theorem dX0_wasScannedAfter_8 : decode cX0_wasScannedAfter 8 = .ok (.getfield 9, 3) := by decide +kernel
theorem dX0_wasScannedAfter_11 : decode cX0_wasScannedAfter 11 = .ok (.aload_n 0, 1) := by decide +kernel
theorem dX0_wasScannedAfter_12 : decode cX0_wasScannedAfter 12 = .ok (.getfield 24, 3) := by decide +kernel
theorem dX0_wasScannedAfter_15 : decode cX0_wasScannedAfter 15 = .ok (.iconst 1, 1) := by decide +kernel
theorem dX0_wasScannedAfter_16 : decode cX0_wasScannedAfter 16 = .ok (.isub, 1) := by decide +kernel
theorem dX0_wasScannedAfter_17 : decode cX0_wasScannedAfter 17 = .ok (.iaload, 1) := by decide +kernel
theorem dX0_wasScannedAfter_18 : decode cX0_wasScannedAfter 18 = .ok (.iload_n 1, 1) := by decide +kernel
theorem dX0_wasScannedAfter_19 : decode cX0_wasScannedAfter 19 = .ok (.if_icmp .le 7, 3) := by decide +kernel
theorem dX0_wasScannedAfter_22 : decode cX0_wasScannedAfter 22 = .ok (.iconst 1, 1) := by decide +kernel
theorem dX0_wasScannedAfter_23 : decode cX0_wasScannedAfter 23 = .ok (.goto 4, 3) := by decide +kernel
theorem dX0_wasScannedAfter_26 : decode cX0_wasScannedAfter 26 = .ok (.iconst 0, 1) := by decide +kernel
theorem dX0_wasScannedAfter_27 : decode cX0_wasScannedAfter 27 = .ok (.ireturn, 1) := by decide +kernel
set_option maxRecDepth 20000 in
theorem ggX0_countLies_X0_isTrue : GoodIn wsX0_countLies wsX0_isTrue := goodIn_r _ [7, 8, 9, 10, 11, 12, 13, 14, 15, 16, 17, 18, 19] (by decide +kernel) (by decide +kernel)
set_option maxRecDepth 20000 in
theorem gX0_countLies_X0_isTrue : GoodIn wsX0_countLies (wsV RX0 63 RX0 yX0_isTrue wsX0_isTrue) := goodIn_app (goodIn_of _ (by decide +kernel)) ggX0_countLies_X0_isTrue
theorem dX0_countLies_0 : decode cX0_countLies 0 = .ok (.iconst 0, 1) := by decide +kernel
theorem dX0_countLies_1 : decode cX0_countLies 1 = .ok (.istore_n 2, 1) := by decide +kernel
theorem dX0_countLies_2 : decode cX0_countLies 2 = .ok (.iconst 0, 1) := by decide +kernel
theorem dX0_countLies_3 : decode cX0_countLies 3 = .ok (.istore_n 3, 1) := by decide +kernel
theorem dX0_countLies_4 : decode cX0_countLies 4 = .ok (.iload_n 3, 1) := by decide +kernel
theorem dX0_countLies_5 : decode cX0_countLies 5 = .ok (.aload_n 0, 1) := by decide +kernel
theorem dX0_countLies_6 : decode cX0_countLies 6 = .ok (.getfield 24, 3) := by decide +kernel
theorem dX0_countLies_9 : decode cX0_countLies 9 = .ok (.if_icmp .ge 30, 3) := by decide +kernel
theorem dX0_countLies_12 : decode cX0_countLies 12 = .ok (.aload_n 0, 1) := by decide +kernel
theorem dX0_countLies_13 : decode cX0_countLies 13 = .ok (.getfield 18, 3) := by decide +kernel
theorem dX0_countLies_16 : decode cX0_countLies 16 = .ok (.iload_n 3, 1) := by decide +kernel
theorem dX0_countLies_17 : decode cX0_countLies 17 = .ok (.iaload, 1) := by decide +kernel
theorem dX0_countLies_18 : decode cX0_countLies 18 = .ok (.iload_n 1, 1) := by decide +kernel
theorem dX0_countLies_19 : decode cX0_countLies 19 = .ok (.if_icmp .ne 14, 3) := by decide +kernel
theorem dX0_countLies_22 : decode cX0_countLies 22 = .ok (.aload_n 0, 1) := by decide +kernel
theorem dX0_countLies_23 : decode cX0_countLies 23 = .ok (.iload_n 3, 1) := by decide +kernel
theorem dX0_countLies_24 : decode cX0_countLies 24 = .ok (.invokevirtual 63, 3) := by decide +kernel
theorem dX0_countLies_27 : decode cX0_countLies 27 = .ok (.ifCond .ne 6, 3) := by decide +kernel
theorem dX0_countLies_30 : decode cX0_countLies 30 = .ok (.iinc 2 1, 3) := by decide +kernel
theorem dX0_countLies_33 : decode cX0_countLies 33 = .ok (.iinc 3 1, 3) := by decide +kernel
theorem dX0_countLies_36 : decode cX0_countLies 36 = .ok (.goto (-32), 3) := by decide +kernel
theorem dX0_countLies_39 : decode cX0_countLies 39 = .ok (.iload_n 2, 1) := by decide +kernel
theorem dX0_countLies_40 : decode cX0_countLies 40 = .ok (.ireturn, 1) := by decide +kernel
theorem dX1_init_0 : decode cX1_init 0 = .ok (.aload_n 0, 1) := by decide +kernel
theorem dX1_init_1 : decode cX1_init 1 = .ok (.invokespecial 3, 3) := by decide +kernel
theorem dX1_init_4 : decode cX1_init 4 = .ok (.aload_n 0, 1) := by decide +kernel
theorem dX1_init_5 : decode cX1_init 5 = .ok (.iconst 3, 1) := by decide +kernel
theorem dX1_init_6 : decode cX1_init 6 = .ok (.putfield 9, 3) := by decide +kernel
theorem dX1_init_9 : decode cX1_init 9 = .ok (.aload_n 0, 1) := by decide +kernel
theorem dX1_init_10 : decode cX1_init 10 = .ok (.iconst 0, 1) := by decide +kernel
theorem dX1_init_11 : decode cX1_init 11 = .ok (.putfield 15, 3) := by decide +kernel
theorem dX1_init_14 : decode cX1_init 14 = .ok (.aload_n 0, 1) := by decide +kernel
theorem dX1_init_15 : decode cX1_init 15 = .ok (.iconst (-1), 1) := by decide +kernel
theorem dX1_init_16 : decode cX1_init 16 = .ok (.putfield 19, 3) := by decide +kernel
theorem dX1_init_19 : decode cX1_init 19 = .ok (.aload_n 0, 1) := by decide +kernel
theorem dX1_init_20 : decode cX1_init 20 = .ok (.iconst 0, 1) := by decide +kernel
theorem dX1_init_21 : decode cX1_init 21 = .ok (.putfield 22, 3) := by decide +kernel
theorem dX1_init_24 : decode cX1_init 24 = .ok (.aload_n 0, 1) := by decide +kernel
theorem dX1_init_25 : decode cX1_init 25 = .ok (.iconst 0, 1) := by decide +kernel
theorem dX1_init_26 : decode cX1_init 26 = .ok (.putfield 25, 3) := by decide +kernel
theorem dX1_init_29 : decode cX1_init 29 = .ok (.return_, 1) := by decide +kernel
theorem dX1_isKept_0 : decode cX1_isKept 0 = .ok (.aload_n 0, 1) := by decide +kernel
theorem dX1_isKept_1 : decode cX1_isKept 1 = .ok (.getfield 19, 3) := by decide +kernel
theorem dX1_isKept_4 : decode cX1_isKept 4 = .ok (.iconst (-1), 1) := by decide +kernel
theorem dX1_isKept_5 : decode cX1_isKept 5 = .ok (.if_icmp .eq 7, 3) := by decide +kernel
theorem dX1_isKept_8 : decode cX1_isKept 8 = .ok (.iconst 1, 1) := by decide +kernel
theorem dX1_isKept_9 : decode cX1_isKept 9 = .ok (.goto 4, 3) := by decide +kernel
theorem dX1_isKept_12 : decode cX1_isKept 12 = .ok (.iconst 0, 1) := by decide +kernel
theorem dX1_isKept_13 : decode cX1_isKept 13 = .ok (.ireturn, 1) := by decide +kernel
theorem dX2_init_0 : decode cX2_init 0 = .ok (.aload_n 0, 1) := by decide +kernel
theorem dX2_init_1 : decode cX2_init 1 = .ok (.invokespecial 3, 3) := by decide +kernel
theorem dX2_init_4 : decode cX2_init 4 = .ok (.aload_n 0, 1) := by decide +kernel
theorem dX2_init_5 : decode cX2_init 5 = .ok (.iconst 4, 1) := by decide +kernel
theorem dX2_init_6 : decode cX2_init 6 = .ok (.newarray .int, 2) := by decide +kernel
theorem dX2_init_8 : decode cX2_init 8 = .ok (.putfield 9, 3) := by decide +kernel
theorem dX2_init_11 : decode cX2_init 11 = .ok (.aload_n 0, 1) := by decide +kernel
theorem dX2_init_12 : decode cX2_init 12 = .ok (.iconst 0, 1) := by decide +kernel
theorem dX2_init_13 : decode cX2_init 13 = .ok (.putfield 15, 3) := by decide +kernel
theorem dX2_init_16 : decode cX2_init 16 = .ok (.aload_n 0, 1) := by decide +kernel
theorem dX2_init_17 : decode cX2_init 17 = .ok (.iconst 0, 1) := by decide +kernel
theorem dX2_init_18 : decode cX2_init 18 = .ok (.putfield 19, 3) := by decide +kernel
theorem dX2_init_21 : decode cX2_init 21 = .ok (.return_, 1) := by decide +kernel
theorem dX2_payInsured_0 : decode cX2_payInsured 0 = .ok (.aload_n 0, 1) := by decide +kernel
theorem dX2_payInsured_1 : decode cX2_payInsured 1 = .ok (.dup, 1) := by decide +kernel
theorem dX2_payInsured_2 : decode cX2_payInsured 2 = .ok (.getfield 15, 3) := by decide +kernel
theorem dX2_payInsured_5 : decode cX2_payInsured 5 = .ok (.iload_n 1, 1) := by decide +kernel
theorem dX2_payInsured_6 : decode cX2_payInsured 6 = .ok (.iadd, 1) := by decide +kernel
theorem dX2_payInsured_7 : decode cX2_payInsured 7 = .ok (.putfield 15, 3) := by decide +kernel
theorem dX2_payInsured_10 : decode cX2_payInsured 10 = .ok (.aload_n 0, 1) := by decide +kernel
theorem dX2_payInsured_11 : decode cX2_payInsured 11 = .ok (.dup, 1) := by decide +kernel
theorem dX2_payInsured_12 : decode cX2_payInsured 12 = .ok (.getfield 19, 3) := by decide +kernel
theorem dX2_payInsured_15 : decode cX2_payInsured 15 = .ok (.iconst 1, 1) := by decide +kernel
theorem dX2_payInsured_16 : decode cX2_payInsured 16 = .ok (.iadd, 1) := by decide +kernel
theorem dX2_payInsured_17 : decode cX2_payInsured 17 = .ok (.putfield 19, 3) := by decide +kernel
theorem dX2_payInsured_20 : decode cX2_payInsured 20 = .ok (.return_, 1) := by decide +kernel
theorem dX2_claimBack_0 : decode cX2_claimBack 0 = .ok (.aload_n 0, 1) := by decide +kernel
theorem dX2_claimBack_1 : decode cX2_claimBack 1 = .ok (.dup, 1) := by decide +kernel
theorem dX2_claimBack_2 : decode cX2_claimBack 2 = .ok (.getfield 15, 3) := by decide +kernel
theorem dX2_claimBack_5 : decode cX2_claimBack 5 = .ok (.iload_n 1, 1) := by decide +kernel
theorem dX2_claimBack_6 : decode cX2_claimBack 6 = .ok (.isub, 1) := by decide +kernel
theorem dX2_claimBack_7 : decode cX2_claimBack 7 = .ok (.putfield 15, 3) := by decide +kernel
theorem dX2_claimBack_10 : decode cX2_claimBack 10 = .ok (.aload_n 0, 1) := by decide +kernel
theorem dX2_claimBack_11 : decode cX2_claimBack 11 = .ok (.dup, 1) := by decide +kernel
theorem dX2_claimBack_12 : decode cX2_claimBack 12 = .ok (.getfield 19, 3) := by decide +kernel
theorem dX2_claimBack_15 : decode cX2_claimBack 15 = .ok (.iconst 1, 1) := by decide +kernel
theorem dX2_claimBack_16 : decode cX2_claimBack 16 = .ok (.iadd, 1) := by decide +kernel
theorem dX2_claimBack_17 : decode cX2_claimBack 17 = .ok (.putfield 19, 3) := by decide +kernel
theorem dX2_claimBack_20 : decode cX2_claimBack 20 = .ok (.return_, 1) := by decide +kernel
theorem dX2_writeFee_0 : decode cX2_writeFee 0 = .ok (.iload_n 1, 1) := by decide +kernel
theorem dX2_writeFee_1 : decode cX2_writeFee 1 = .ok (.ifCond .lt 18, 3) := by decide +kernel
theorem dX2_writeFee_4 : decode cX2_writeFee 4 = .ok (.iload_n 1, 1) := by decide +kernel
theorem dX2_writeFee_5 : decode cX2_writeFee 5 = .ok (.iconst 4, 1) := by decide +kernel
theorem dX2_writeFee_6 : decode cX2_writeFee 6 = .ok (.if_icmp .ge 13, 3) := by decide +kernel
theorem dX2_writeFee_9 : decode cX2_writeFee 9 = .ok (.aload_n 0, 1) := by decide +kernel
theorem dX2_writeFee_10 : decode cX2_writeFee 10 = .ok (.getfield 9, 3) := by decide +kernel
theorem dX2_writeFee_13 : decode cX2_writeFee 13 = .ok (.iload_n 1, 1) := by decide +kernel
theorem dX2_writeFee_14 : decode cX2_writeFee 14 = .ok (.dup2, 1) := by decide +kernel
theorem dX2_writeFee_15 : decode cX2_writeFee 15 = .ok (.iaload, 1) := by decide +kernel
theorem dX2_writeFee_16 : decode cX2_writeFee 16 = .ok (.iload_n 2, 1) := by decide +kernel
theorem dX2_writeFee_17 : decode cX2_writeFee 17 = .ok (.iadd, 1) := by decide +kernel
theorem dX2_writeFee_18 : decode cX2_writeFee 18 = .ok (.iastore, 1) := by decide +kernel
theorem dX2_writeFee_19 : decode cX2_writeFee 19 = .ok (.aload_n 0, 1) := by decide +kernel
theorem dX2_writeFee_20 : decode cX2_writeFee 20 = .ok (.dup, 1) := by decide +kernel
theorem dX2_writeFee_21 : decode cX2_writeFee 21 = .ok (.getfield 19, 3) := by decide +kernel
theorem dX2_writeFee_24 : decode cX2_writeFee 24 = .ok (.iconst 1, 1) := by decide +kernel
theorem dX2_writeFee_25 : decode cX2_writeFee 25 = .ok (.iadd, 1) := by decide +kernel
theorem dX2_writeFee_26 : decode cX2_writeFee 26 = .ok (.putfield 19, 3) := by decide +kernel
theorem dX2_writeFee_29 : decode cX2_writeFee 29 = .ok (.return_, 1) := by decide +kernel
end
section
set_option maxRecDepth 20000 in
theorem ggX3_init_X2_init : GoodIn wsX3_init wsX2_init := goodIn_r _ [22, 23, 2, 3, 8, 24, 25, 26, 44, 45, 46] (by decide +kernel) (by decide +kernel)
set_option maxRecDepth 20000 in
theorem gX3_init_X2_init_n27 : GoodIn wsX3_init (wsX2_init) := ggX3_init_X2_init
set_option maxRecDepth 20000 in
theorem ggX3_init_X1_init : GoodIn wsX3_init wsX1_init := goodIn_r _ [28, 29, 2, 3, 30, 31, 32, 33, 34, 47, 48, 49, 50, 51] (by decide +kernel) (by decide +kernel)
set_option maxRecDepth 20000 in
theorem gX3_init_X1_init_n48 : GoodIn wsX3_init (wsX1_init) := ggX3_init_X1_init
theorem dX3_init_0 : decode cX3_init 0 = .ok (.aload_n 0, 1) := by decide +kernel
theorem dX3_init_1 : decode cX3_init 1 = .ok (.invokespecial 3, 3) := by decide +kernel
theorem dX3_init_4 : decode cX3_init 4 = .ok (.aload_n 0, 1) := by decide +kernel
theorem dX3_init_5 : decode cX3_init 5 = .ok (.bipush 16, 2) := by decide +kernel
theorem dX3_init_7 : decode cX3_init 7 = .ok (.anewarray 9, 3) := by decide +kernel
theorem dX3_init_10 : decode cX3_init 10 = .ok (.putfield 11, 3) := by decide +kernel
theorem dX3_init_13 : decode cX3_init 13 = .ok (.aload_n 0, 1) := by decide +kernel
theorem dX3_init_14 : decode cX3_init 14 = .ok (.bipush 10, 2) := by decide +kernel
theorem dX3_init_16 : decode cX3_init 16 = .ok (.anewarray 15, 3) := by decide +kernel
theorem dX3_init_19 : decode cX3_init 19 = .ok (.putfield 17, 3) := by decide +kernel
theorem dX3_init_22 : decode cX3_init 22 = .ok (.aload_n 0, 1) := by decide +kernel
theorem dX3_init_23 : decode cX3_init 23 = .ok (.bipush 14, 2) := by decide +kernel
theorem dX3_init_25 : decode cX3_init 25 = .ok (.newarray .int, 2) := by decide +kernel
theorem dX3_init_27 : decode cX3_init 27 = .ok (.putfield 21, 3) := by decide +kernel
theorem dX3_init_30 : decode cX3_init 30 = .ok (.aload_n 0, 1) := by decide +kernel
theorem dX3_init_31 : decode cX3_init 31 = .ok (.new 25, 3) := by decide +kernel
theorem dX3_init_34 : decode cX3_init 34 = .ok (.dup, 1) := by decide +kernel
theorem dX3_init_35 : decode cX3_init 35 = .ok (.invokespecial 27, 3) := by decide +kernel
theorem dX3_init_38 : decode cX3_init 38 = .ok (.putfield 28, 3) := by decide +kernel
theorem dX3_init_41 : decode cX3_init 41 = .ok (.aload_n 0, 1) := by decide +kernel
theorem dX3_init_42 : decode cX3_init 42 = .ok (.bipush 12, 2) := by decide +kernel
theorem dX3_init_44 : decode cX3_init 44 = .ok (.newarray .int, 2) := by decide +kernel
theorem dX3_init_46 : decode cX3_init 46 = .ok (.putfield 32, 3) := by decide +kernel
theorem dX3_init_49 : decode cX3_init 49 = .ok (.aload_n 0, 1) := by decide +kernel
theorem dX3_init_50 : decode cX3_init 50 = .ok (.bipush 12, 2) := by decide +kernel
theorem dX3_init_52 : decode cX3_init 52 = .ok (.newarray .int, 2) := by decide +kernel
theorem dX3_init_54 : decode cX3_init 54 = .ok (.putfield 35, 3) := by decide +kernel
theorem dX3_init_57 : decode cX3_init 57 = .ok (.aload_n 0, 1) := by decide +kernel
theorem dX3_init_58 : decode cX3_init 58 = .ok (.iconst 0, 1) := by decide +kernel
theorem dX3_init_59 : decode cX3_init 59 = .ok (.putfield 38, 3) := by decide +kernel
theorem dX3_init_62 : decode cX3_init 62 = .ok (.aload_n 0, 1) := by decide +kernel
theorem dX3_init_63 : decode cX3_init 63 = .ok (.iconst 0, 1) := by decide +kernel
theorem dX3_init_64 : decode cX3_init 64 = .ok (.putfield 42, 3) := by decide +kernel
theorem dX3_init_67 : decode cX3_init 67 = .ok (.aload_n 0, 1) := by decide +kernel
theorem dX3_init_68 : decode cX3_init 68 = .ok (.iconst 0, 1) := by decide +kernel
theorem dX3_init_69 : decode cX3_init 69 = .ok (.putfield 45, 3) := by decide +kernel
theorem dX3_init_72 : decode cX3_init 72 = .ok (.iconst 0, 1) := by decide +kernel
theorem dX3_init_73 : decode cX3_init 73 = .ok (.istore_n 1, 1) := by decide +kernel
theorem dX3_init_74 : decode cX3_init 74 = .ok (.iload_n 1, 1) := by decide +kernel
theorem dX3_init_75 : decode cX3_init 75 = .ok (.bipush 10, 2) := by decide +kernel
theorem dX3_init_77 : decode cX3_init 77 = .ok (.if_icmp .ge 22, 3) := by decide +kernel
theorem dX3_init_80 : decode cX3_init 80 = .ok (.aload_n 0, 1) := by decide +kernel
theorem dX3_init_81 : decode cX3_init 81 = .ok (.getfield 17, 3) := by decide +kernel
theorem dX3_init_84 : decode cX3_init 84 = .ok (.iload_n 1, 1) := by decide +kernel
theorem dX3_init_85 : decode cX3_init 85 = .ok (.new 15, 3) := by decide +kernel
theorem dX3_init_88 : decode cX3_init 88 = .ok (.dup, 1) := by decide +kernel
theorem dX3_init_89 : decode cX3_init 89 = .ok (.invokespecial 48, 3) := by decide +kernel
theorem dX3_init_92 : decode cX3_init 92 = .ok (.aastore, 1) := by decide +kernel
theorem dX3_init_93 : decode cX3_init 93 = .ok (.iinc 1 1, 3) := by decide +kernel
theorem dX3_init_96 : decode cX3_init 96 = .ok (.goto (-22), 3) := by decide +kernel
theorem dX3_init_99 : decode cX3_init 99 = .ok (.iconst 0, 1) := by decide +kernel
theorem dX3_init_100 : decode cX3_init 100 = .ok (.istore_n 1, 1) := by decide +kernel
theorem dX3_init_101 : decode cX3_init 101 = .ok (.iload_n 1, 1) := by decide +kernel
theorem dX3_init_102 : decode cX3_init 102 = .ok (.bipush 14, 2) := by decide +kernel
theorem dX3_init_104 : decode cX3_init 104 = .ok (.if_icmp .ge 16, 3) := by decide +kernel
theorem dX3_init_107 : decode cX3_init 107 = .ok (.aload_n 0, 1) := by decide +kernel
theorem dX3_init_108 : decode cX3_init 108 = .ok (.getfield 21, 3) := by decide +kernel
theorem dX3_init_111 : decode cX3_init 111 = .ok (.iload_n 1, 1) := by decide +kernel
theorem dX3_init_112 : decode cX3_init 112 = .ok (.iconst 5, 1) := by decide +kernel
theorem dX3_init_113 : decode cX3_init 113 = .ok (.iastore, 1) := by decide +kernel
theorem dX3_init_114 : decode cX3_init 114 = .ok (.iinc 1 1, 3) := by decide +kernel
theorem dX3_init_117 : decode cX3_init 117 = .ok (.goto (-16), 3) := by decide +kernel
theorem dX3_init_120 : decode cX3_init 120 = .ok (.return_, 1) := by decide +kernel
set_option maxRecDepth 20000 in
theorem ggX3_box_X3_isWithin : GoodIn wsX3_box wsX3_isWithin := goodIn_r _ [13] (by decide +kernel) (by decide +kernel)
set_option maxRecDepth 20000 in
theorem gX3_box_X3_isWithin : GoodIn wsX3_box (va_wsS RX3 49 yX3_isWithin wsX3_isWithin) := goodIn_app (goodIn_of _ (by decide +kernel)) ggX3_box_X3_isWithin
set_option maxRecDepth 20000 in
theorem ggX3_box_X0_init : GoodIn wsX3_box wsX0_init := goodIn_r _ [16, 17, 18, 19, 20, 21, 22, 23, 24, 25, 26, 27, 28, 29, 30, 31, 41, 42, 43, 44, 45, 46, 47, 48, 49, 50, 51] (by decide +kernel) (by decide +kernel)
set_option maxRecDepth 20000 in
theorem gX3_box_X0_init : GoodIn wsX3_box (wsX0_init) := ggX3_box_X0_init
theorem dX3_box_0 : decode cX3_box 0 = .ok (.iload_n 1, 1) := by decide +kernel
theorem dX3_box_1 : decode cX3_box 1 = .ok (.iconst 1, 1) := by decide +kernel
theorem dX3_box_2 : decode cX3_box 2 = .ok (.iconst 3, 1) := by decide +kernel
theorem dX3_box_3 : decode cX3_box 3 = .ok (.invokestatic 49, 3) := by decide +kernel
theorem dX3_box_6 : decode cX3_box 6 = .ok (.ifCond .eq 14, 3) := by decide +kernel
theorem dX3_box_9 : decode cX3_box 9 = .ok (.iload_n 2, 1) := by decide +kernel
theorem dX3_box_10 : decode cX3_box 10 = .ok (.iconst 1, 1) := by decide +kernel
theorem dX3_box_11 : decode cX3_box 11 = .ok (.sipush 9999, 3) := by decide +kernel
theorem dX3_box_14 : decode cX3_box 14 = .ok (.invokestatic 49, 3) := by decide +kernel
theorem dX3_box_17 : decode cX3_box 17 = .ok (.ifCond .ne 13, 3) := by decide +kernel
theorem dX3_box_20 : decode cX3_box 20 = .ok (.new 53, 3) := by decide +kernel
theorem dX3_box_23 : decode cX3_box 23 = .ok (.dup, 1) := by decide +kernel
theorem dX3_box_24 : decode cX3_box 24 = .ok (.ldc 55, 2) := by decide +kernel
theorem dX3_box_26 : decode cX3_box 26 = .ok (.invokespecial 57, 3) := by decide +kernel
theorem dX3_box_29 : decode cX3_box 29 = .ok (.athrow, 1) := by decide +kernel
theorem dX3_box_30 : decode cX3_box 30 = .ok (.aload_n 0, 1) := by decide +kernel
theorem dX3_box_31 : decode cX3_box 31 = .ok (.getfield 38, 3) := by decide +kernel
theorem dX3_box_34 : decode cX3_box 34 = .ok (.bipush 16, 2) := by decide +kernel
theorem dX3_box_36 : decode cX3_box 36 = .ok (.if_icmp .lt 13, 3) := by decide +kernel
theorem dX3_box_39 : decode cX3_box 39 = .ok (.new 60, 3) := by decide +kernel
theorem dX3_box_42 : decode cX3_box 42 = .ok (.dup, 1) := by decide +kernel
theorem dX3_box_43 : decode cX3_box 43 = .ok (.ldc 62, 2) := by decide +kernel
theorem dX3_box_45 : decode cX3_box 45 = .ok (.invokespecial 64, 3) := by decide +kernel
theorem dX3_box_48 : decode cX3_box 48 = .ok (.athrow, 1) := by decide +kernel
theorem dX3_box_49 : decode cX3_box 49 = .ok (.aload_n 0, 1) := by decide +kernel
theorem dX3_box_50 : decode cX3_box 50 = .ok (.getfield 11, 3) := by decide +kernel
theorem dX3_box_53 : decode cX3_box 53 = .ok (.aload_n 0, 1) := by decide +kernel
theorem dX3_box_54 : decode cX3_box 54 = .ok (.getfield 38, 3) := by decide +kernel
theorem dX3_box_57 : decode cX3_box 57 = .ok (.new 9, 3) := by decide +kernel
theorem dX3_box_60 : decode cX3_box 60 = .ok (.dup, 1) := by decide +kernel
theorem dX3_box_61 : decode cX3_box 61 = .ok (.iload_n 1, 1) := by decide +kernel
theorem dX3_box_62 : decode cX3_box 62 = .ok (.iload_n 2, 1) := by decide +kernel
theorem dX3_box_63 : decode cX3_box 63 = .ok (.invokespecial 65, 3) := by decide +kernel
theorem dX3_box_66 : decode cX3_box 66 = .ok (.aastore, 1) := by decide +kernel
theorem dX3_box_67 : decode cX3_box 67 = .ok (.aload_n 0, 1) := by decide +kernel
theorem dX3_box_68 : decode cX3_box 68 = .ok (.dup, 1) := by decide +kernel
theorem dX3_box_69 : decode cX3_box 69 = .ok (.getfield 38, 3) := by decide +kernel
theorem dX3_box_72 : decode cX3_box 72 = .ok (.iconst 1, 1) := by decide +kernel
theorem dX3_box_73 : decode cX3_box 73 = .ok (.iadd, 1) := by decide +kernel
theorem dX3_box_74 : decode cX3_box 74 = .ok (.putfield 38, 3) := by decide +kernel
theorem dX3_box_77 : decode cX3_box 77 = .ok (.aload_n 0, 1) := by decide +kernel
theorem dX3_box_78 : decode cX3_box 78 = .ok (.getfield 38, 3) := by decide +kernel
theorem dX3_box_81 : decode cX3_box 81 = .ok (.iconst 1, 1) := by decide +kernel
theorem dX3_box_82 : decode cX3_box 82 = .ok (.isub, 1) := by decide +kernel
theorem dX3_box_83 : decode cX3_box 83 = .ok (.ireturn, 1) := by decide +kernel
set_option maxRecDepth 20000 in
theorem ggX3_setTrust_X3_checkWho : GoodIn wsX3_setTrust wsX3_checkWho := goodIn_ca (goodIn_r _ [7, 8, 9] (by decide +kernel) (by decide +kernel)) (goodIn_sub (fun _ h => List.mem_cons_of_mem _ (List.mem_append_right _ h)) (by decide +kernel))
set_option maxRecDepth 20000 in
theorem gX3_setTrust_X3_checkWho : GoodIn wsX3_setTrust (va_wsS RX3 68 yX3_checkWho wsX3_checkWho) := goodIn_app (goodIn_of _ (by decide +kernel)) ggX3_setTrust_X3_checkWho
set_option maxRecDepth 20000 in
theorem ggX3_setTrust_X3_isWithin : GoodIn wsX3_setTrust wsX3_isWithin := goodIn_r _ [12] (by decide +kernel) (by decide +kernel)
set_option maxRecDepth 20000 in
theorem gX3_setTrust_X3_isWithin : GoodIn wsX3_setTrust (va_wsS RX3 49 yX3_isWithin wsX3_isWithin) := goodIn_app (goodIn_of _ (by decide +kernel)) ggX3_setTrust_X3_isWithin
set_option maxRecDepth 20000 in
theorem ggX3_setTrust_X3_settleAll : GoodIn wsX3_setTrust wsX3_settleAll := goodIn_r _ [16, 17, 18, 19, 20, 6, 21, 22, 23, 24, 25, 26, 27, 28, 29, 30, 31, 32, 33, 34, 35, 36, 37, 38, 39, 40, 41, 3, 10, 11, 12, 42, 43, 44, 45, 46, 47, 48, 49, 50, 51, 52, 53, 54, 55, 56, 57, 58, 59, 60, 61, 62, 63, 64, 65, 66, 67, 68, 69, 70, 71, 72, 73, 74, 75, 76, 77, 78, 79, 80, 81, 82, 83, 84, 85, 86, 87, 88, 89, 90, 91, 92, 93, 94, 95, 96, 97, 98, 99, 100, 101, 102, 103, 104, 105, 106, 107, 108, 109, 110, 111, 112, 113, 114, 115, 116] (by decide +kernel) (by decide +kernel)
set_option maxRecDepth 20000 in
theorem gX3_setTrust_X3_settleAll : GoodIn wsX3_setTrust (wsV RX3 74 RX3 yX3_settleAll wsX3_settleAll) := goodIn_app (goodIn_of _ (by decide +kernel)) ggX3_setTrust_X3_settleAll
theorem dX3_setTrust_0 : decode cX3_setTrust 0 = .ok (.iload_n 1, 1) := by decide +kernel
theorem dX3_setTrust_1 : decode cX3_setTrust 1 = .ok (.invokestatic 68, 3) := by decide +kernel
theorem dX3_setTrust_4 : decode cX3_setTrust 4 = .ok (.iload_n 2, 1) := by decide +kernel
theorem dX3_setTrust_5 : decode cX3_setTrust 5 = .ok (.iconst 1, 1) := by decide +kernel
theorem dX3_setTrust_6 : decode cX3_setTrust 6 = .ok (.bipush 9, 2) := by decide +kernel
theorem dX3_setTrust_8 : decode cX3_setTrust 8 = .ok (.invokestatic 49, 3) := by decide +kernel
theorem dX3_setTrust_11 : decode cX3_setTrust 11 = .ok (.ifCond .ne 13, 3) := by decide +kernel
theorem dX3_setTrust_14 : decode cX3_setTrust 14 = .ok (.new 53, 3) := by decide +kernel
theorem dX3_setTrust_17 : decode cX3_setTrust 17 = .ok (.dup, 1) := by decide +kernel
theorem dX3_setTrust_18 : decode cX3_setTrust 18 = .ok (.ldc 72, 2) := by decide +kernel
theorem dX3_setTrust_20 : decode cX3_setTrust 20 = .ok (.invokespecial 57, 3) := by decide +kernel
theorem dX3_setTrust_23 : decode cX3_setTrust 23 = .ok (.athrow, 1) := by decide +kernel
theorem dX3_setTrust_24 : decode cX3_setTrust 24 = .ok (.aload_n 0, 1) := by decide +kernel
theorem dX3_setTrust_25 : decode cX3_setTrust 25 = .ok (.getfield 21, 3) := by decide +kernel
theorem dX3_setTrust_28 : decode cX3_setTrust 28 = .ok (.iload_n 1, 1) := by decide +kernel
theorem dX3_setTrust_29 : decode cX3_setTrust 29 = .ok (.iaload, 1) := by decide +kernel
theorem dX3_setTrust_30 : decode cX3_setTrust 30 = .ok (.istore_n 3, 1) := by decide +kernel
theorem dX3_setTrust_31 : decode cX3_setTrust 31 = .ok (.aload_n 0, 1) := by decide +kernel
theorem dX3_setTrust_32 : decode cX3_setTrust 32 = .ok (.getfield 21, 3) := by decide +kernel
theorem dX3_setTrust_35 : decode cX3_setTrust 35 = .ok (.iload_n 1, 1) := by decide +kernel
theorem dX3_setTrust_36 : decode cX3_setTrust 36 = .ok (.iload_n 2, 1) := by decide +kernel
theorem dX3_setTrust_37 : decode cX3_setTrust 37 = .ok (.iastore, 1) := by decide +kernel
theorem dX3_setTrust_38 : decode cX3_setTrust 38 = .ok (.aload_n 0, 1) := by decide +kernel
theorem dX3_setTrust_39 : decode cX3_setTrust 39 = .ok (.invokevirtual 74, 3) := by decide +kernel
theorem dX3_setTrust_42 : decode cX3_setTrust 42 = .ok (.iload_n 3, 1) := by decide +kernel
theorem dX3_setTrust_43 : decode cX3_setTrust 43 = .ok (.ireturn, 1) := by decide +kernel
set_option maxRecDepth 20000 in
theorem ggX3_pass_X3_isWithin : GoodIn wsX3_pass wsX3_isWithin := goodIn_r _ [10] (by decide +kernel) (by decide +kernel)
set_option maxRecDepth 20000 in
theorem gX3_pass_X3_isWithin : GoodIn wsX3_pass (va_wsS RX3 49 yX3_isWithin wsX3_isWithin) := goodIn_app (goodIn_of _ (by decide +kernel)) ggX3_pass_X3_isWithin
theorem dX3_pass_0 : decode cX3_pass 0 = .ok (.iload_n 1, 1) := by decide +kernel
theorem dX3_pass_1 : decode cX3_pass 1 = .ok (.iconst 1, 1) := by decide +kernel
theorem dX3_pass_2 : decode cX3_pass 2 = .ok (.sipush 2000, 3) := by decide +kernel
theorem dX3_pass_5 : decode cX3_pass 5 = .ok (.invokestatic 49, 3) := by decide +kernel
theorem dX3_pass_8 : decode cX3_pass 8 = .ok (.ifCond .ne 13, 3) := by decide +kernel
theorem dX3_pass_11 : decode cX3_pass 11 = .ok (.new 53, 3) := by decide +kernel
theorem dX3_pass_14 : decode cX3_pass 14 = .ok (.dup, 1) := by decide +kernel
theorem dX3_pass_15 : decode cX3_pass 15 = .ok (.ldc 77, 2) := by decide +kernel
theorem dX3_pass_17 : decode cX3_pass 17 = .ok (.invokespecial 57, 3) := by decide +kernel
theorem dX3_pass_20 : decode cX3_pass 20 = .ok (.athrow, 1) := by decide +kernel
theorem dX3_pass_21 : decode cX3_pass 21 = .ok (.aload_n 0, 1) := by decide +kernel
theorem dX3_pass_22 : decode cX3_pass 22 = .ok (.getfield 42, 3) := by decide +kernel
theorem dX3_pass_25 : decode cX3_pass 25 = .ok (.iload_n 1, 1) := by decide +kernel
theorem dX3_pass_26 : decode cX3_pass 26 = .ok (.iadd, 1) := by decide +kernel
theorem dX3_pass_27 : decode cX3_pass 27 = .ok (.ldc 79, 2) := by decide +kernel
theorem dX3_pass_29 : decode cX3_pass 29 = .ok (.if_icmp .le 13, 3) := by decide +kernel
theorem dX3_pass_32 : decode cX3_pass 32 = .ok (.new 60, 3) := by decide +kernel
theorem dX3_pass_35 : decode cX3_pass 35 = .ok (.dup, 1) := by decide +kernel
theorem dX3_pass_36 : decode cX3_pass 36 = .ok (.ldc 80, 2) := by decide +kernel
theorem dX3_pass_38 : decode cX3_pass 38 = .ok (.invokespecial 64, 3) := by decide +kernel
theorem dX3_pass_41 : decode cX3_pass 41 = .ok (.athrow, 1) := by decide +kernel
theorem dX3_pass_42 : decode cX3_pass 42 = .ok (.aload_n 0, 1) := by decide +kernel
theorem dX3_pass_43 : decode cX3_pass 43 = .ok (.dup, 1) := by decide +kernel
theorem dX3_pass_44 : decode cX3_pass 44 = .ok (.getfield 42, 3) := by decide +kernel
theorem dX3_pass_47 : decode cX3_pass 47 = .ok (.iload_n 1, 1) := by decide +kernel
theorem dX3_pass_48 : decode cX3_pass 48 = .ok (.iadd, 1) := by decide +kernel
theorem dX3_pass_49 : decode cX3_pass 49 = .ok (.putfield 42, 3) := by decide +kernel
theorem dX3_pass_52 : decode cX3_pass 52 = .ok (.aload_n 0, 1) := by decide +kernel
theorem dX3_pass_53 : decode cX3_pass 53 = .ok (.getfield 42, 3) := by decide +kernel
theorem dX3_pass_56 : decode cX3_pass 56 = .ok (.ireturn, 1) := by decide +kernel
set_option maxRecDepth 20000 in
theorem ggX3_scan_X3_boxAt : GoodIn wsX3_scan wsX3_boxAt := goodIn_ca (goodIn_r _ [7, 8, 9, 10, 119, 120, 121, 122, 123, 124, 125, 126, 127] (by decide +kernel) (by decide +kernel)) (goodIn_sub (fun _ h => List.mem_cons_of_mem _ (List.mem_append_left _ (List.mem_append_right _ h))) (by decide +kernel))
set_option maxRecDepth 20000 in
theorem gX3_scan_X3_boxAt : GoodIn wsX3_scan (wsV RX3 82 RX3 yX3_boxAt wsX3_boxAt) := goodIn_app (goodIn_of _ (by decide +kernel)) ggX3_scan_X3_boxAt
set_option maxRecDepth 20000 in
theorem ggX3_scan_X3_checkCourier : GoodIn wsX3_scan wsX3_checkCourier := goodIn_ca (goodIn_r _ [13, 8, 9] (by decide +kernel) (by decide +kernel)) (goodIn_sub (fun _ h => List.mem_cons_of_mem _ (List.mem_append_left _ (List.mem_append_right _ h))) (by decide +kernel))
set_option maxRecDepth 20000 in
theorem gX3_scan_X3_checkCourier : GoodIn wsX3_scan (va_wsS RX3 86 yX3_checkCourier wsX3_checkCourier) := goodIn_app (goodIn_of _ (by decide +kernel)) ggX3_scan_X3_checkCourier
set_option maxRecDepth 20000 in
theorem ggX3_scan_X3_isWithin : GoodIn wsX3_scan wsX3_isWithin := goodIn_r _ [16] (by decide +kernel) (by decide +kernel)
set_option maxRecDepth 20000 in
theorem gX3_scan_X3_isWithin : GoodIn wsX3_scan (va_wsS RX3 49 yX3_isWithin wsX3_isWithin) := goodIn_app (goodIn_of _ (by decide +kernel)) ggX3_scan_X3_isWithin
set_option maxRecDepth 20000 in
theorem ggX3_scan_X3_checkRoomForScan : GoodIn wsX3_scan wsX3_checkRoomForScan := goodIn_ca (goodIn_r _ [19, 20, 21, 22, 128, 129, 130, 131, 132, 133, 134, 135, 136, 137, 138] (by decide +kernel) (by decide +kernel)) (goodIn_sub (fun _ h => List.mem_cons_of_mem _ (List.mem_append_right _ h)) (by decide +kernel))
set_option maxRecDepth 20000 in
theorem gX3_scan_X3_checkRoomForScan : GoodIn wsX3_scan (va_wsS RX3 91 yX3_checkRoomForScan wsX3_checkRoomForScan) := goodIn_app (goodIn_of _ (by decide +kernel)) ggX3_scan_X3_checkRoomForScan
set_option maxRecDepth 20000 in
theorem ggX3_scan_X3_placeTold : GoodIn wsX3_scan wsX3_placeTold := goodIn_r _ [25] (by decide +kernel) (by decide +kernel)
set_option maxRecDepth 20000 in
theorem gX3_scan_X3_placeTold : GoodIn wsX3_scan (va_wsS RX3 95 yX3_placeTold wsX3_placeTold) := goodIn_app (goodIn_of _ (by decide +kernel)) ggX3_scan_X3_placeTold
set_option maxRecDepth 20000 in
theorem ggX3_scan_X3_addScan : GoodIn wsX3_scan wsX3_addScan := goodIn_r _ [29, 30, 31, 32, 33, 34, 35, 36, 37, 38, 39, 40, 41, 42, 43, 44, 45, 6, 46, 47, 48, 49, 50, 51, 14, 15, 16, 52, 53, 54, 55, 56, 57, 58, 59, 60, 61, 62, 63, 64, 65, 66, 67, 22, 68, 69, 70, 71, 72, 73, 74, 75, 76, 77, 78, 79, 80, 81, 82, 83, 84, 85, 86, 87, 88, 89, 90, 91, 92, 93, 94, 95, 96, 97, 98, 99, 100, 101, 102, 103, 104, 105, 106, 107, 108, 109, 110, 111, 112, 113, 114, 115, 116, 117, 118, 119, 120, 121, 122, 123, 124, 125, 126, 127, 128, 129, 130, 131, 132, 133, 134, 135, 136, 137, 138, 139, 140, 141, 142, 143, 144, 145, 146] (by decide +kernel) (by decide +kernel)
set_option maxRecDepth 20000 in
theorem gX3_scan_X3_addScan : GoodIn wsX3_scan (wsV RX3 99 RX3 yX3_addScan wsX3_addScan) := goodIn_app (goodIn_of _ (by decide +kernel)) ggX3_scan_X3_addScan
theorem dX3_scan_0 : decode cX3_scan 0 = .ok (.aload_n 0, 1) := by decide +kernel
theorem dX3_scan_1 : decode cX3_scan 1 = .ok (.iload_n 1, 1) := by decide +kernel
theorem dX3_scan_2 : decode cX3_scan 2 = .ok (.invokevirtual 82, 3) := by decide +kernel
theorem dX3_scan_5 : decode cX3_scan 5 = .ok (.astore 4, 2) := by decide +kernel
theorem dX3_scan_7 : decode cX3_scan 7 = .ok (.iload_n 2, 1) := by decide +kernel
theorem dX3_scan_8 : decode cX3_scan 8 = .ok (.invokestatic 86, 3) := by decide +kernel
theorem dX3_scan_11 : decode cX3_scan 11 = .ok (.iload_n 3, 1) := by decide +kernel
theorem dX3_scan_12 : decode cX3_scan 12 = .ok (.iconst 0, 1) := by decide +kernel
theorem dX3_scan_13 : decode cX3_scan 13 = .ok (.iconst 2, 1) := by decide +kernel
theorem dX3_scan_14 : decode cX3_scan 14 = .ok (.invokestatic 49, 3) := by decide +kernel
theorem dX3_scan_17 : decode cX3_scan 17 = .ok (.ifCond .ne 13, 3) := by decide +kernel
theorem dX3_scan_20 : decode cX3_scan 20 = .ok (.new 53, 3) := by decide +kernel
theorem dX3_scan_23 : decode cX3_scan 23 = .ok (.dup, 1) := by decide +kernel
theorem dX3_scan_24 : decode cX3_scan 24 = .ok (.ldc 89, 2) := by decide +kernel
theorem dX3_scan_26 : decode cX3_scan 26 = .ok (.invokespecial 57, 3) := by decide +kernel
theorem dX3_scan_29 : decode cX3_scan 29 = .ok (.athrow, 1) := by decide +kernel
theorem dX3_scan_30 : decode cX3_scan 30 = .ok (.aload 4, 2) := by decide +kernel
theorem dX3_scan_32 : decode cX3_scan 32 = .ok (.invokestatic 91, 3) := by decide +kernel
theorem dX3_scan_35 : decode cX3_scan 35 = .ok (.aload_n 0, 1) := by decide +kernel
theorem dX3_scan_36 : decode cX3_scan 36 = .ok (.aload 4, 2) := by decide +kernel
theorem dX3_scan_38 : decode cX3_scan 38 = .ok (.iload_n 2, 1) := by decide +kernel
theorem dX3_scan_39 : decode cX3_scan 39 = .ok (.iload_n 3, 1) := by decide +kernel
theorem dX3_scan_40 : decode cX3_scan 40 = .ok (.invokestatic 95, 3) := by decide +kernel
theorem dX3_scan_43 : decode cX3_scan 43 = .ok (.iload_n 2, 1) := by decide +kernel
theorem dX3_scan_44 : decode cX3_scan 44 = .ok (.invokevirtual 99, 3) := by decide +kernel
theorem dX3_scan_47 : decode cX3_scan 47 = .ok (.ireturn, 1) := by decide +kernel
set_option maxRecDepth 20000 in
theorem ggX3_lay_X3_boxAt : GoodIn wsX3_lay wsX3_boxAt := goodIn_ca (goodIn_r _ [9, 10, 11, 12, 132, 133, 134, 135, 136, 137, 138, 139, 140] (by decide +kernel) (by decide +kernel)) (goodIn_sub (fun _ h => List.mem_cons_of_mem _ (List.mem_append_right _ h)) (by decide +kernel))
set_option maxRecDepth 20000 in
theorem gX3_lay_X3_boxAt : GoodIn wsX3_lay (wsV RX3 82 RX3 yX3_boxAt wsX3_boxAt) := goodIn_app (goodIn_of _ (by decide +kernel)) ggX3_lay_X3_boxAt
set_option maxRecDepth 20000 in
theorem ggX3_lay_X3_doorAt : GoodIn wsX3_lay wsX3_doorAt := goodIn_ca (goodIn_r _ [16, 10, 11, 17, 132, 133, 134, 135, 136, 137, 138, 139, 140] (by decide +kernel) (by decide +kernel)) (goodIn_sub (fun _ h => List.mem_cons_of_mem _ (List.mem_append_right _ h)) (by decide +kernel))
set_option maxRecDepth 20000 in
theorem gX3_lay_X3_doorAt : GoodIn wsX3_lay (wsV RX3 103 RX3 yX3_doorAt wsX3_doorAt) := goodIn_app (goodIn_of _ (by decide +kernel)) ggX3_lay_X3_doorAt
set_option maxRecDepth 20000 in
theorem ggX3_lay_X3_checkRoomForScan : GoodIn wsX3_lay wsX3_checkRoomForScan := goodIn_ca (goodIn_r _ [20, 1, 2, 21, 116, 117, 118, 119, 120, 121, 122, 123, 124, 125, 126] (by decide +kernel) (by decide +kernel)) (goodIn_sub (fun _ h => List.mem_cons_of_mem _ (List.mem_append_left _ (List.mem_append_right _ h))) (by decide +kernel))
set_option maxRecDepth 20000 in
theorem gX3_lay_X3_checkRoomForScan : GoodIn wsX3_lay (va_wsS RX3 91 yX3_checkRoomForScan wsX3_checkRoomForScan) := goodIn_app (goodIn_of _ (by decide +kernel)) ggX3_lay_X3_checkRoomForScan
set_option maxRecDepth 20000 in
theorem ggX3_lay_X3_addScan : GoodIn wsX3_lay wsX3_addScan := goodIn_r _ [25, 26, 27, 28, 29, 30, 31, 32, 33, 34, 35, 36, 37, 38, 39, 40, 41, 8, 42, 43, 44, 45, 46, 47, 48, 49, 50, 51, 52, 53, 54, 55, 56, 57, 58, 59, 60, 61, 3, 62, 63, 64, 65, 21, 66, 67, 68, 69, 70, 17, 71, 72, 73, 74, 75, 76, 77, 78, 79, 80, 81, 82, 83, 84, 85, 86, 87, 88, 89, 90, 91, 92, 93, 94, 95, 96, 97, 98, 99, 100, 101, 102, 103, 104, 105, 106, 107, 108, 109, 110, 111, 112, 113, 114, 115, 132, 133, 134, 135, 136, 137, 138, 139, 140, 116, 117, 118, 119, 120, 121, 122, 123, 124, 125, 126, 127, 128, 129, 130, 131, 141, 142, 143] (by decide +kernel) (by decide +kernel)
set_option maxRecDepth 20000 in
theorem gX3_lay_X3_addScan : GoodIn wsX3_lay (wsV RX3 99 RX3 yX3_addScan wsX3_addScan) := goodIn_app (goodIn_of _ (by decide +kernel)) ggX3_lay_X3_addScan
theorem dX3_lay_0 : decode cX3_lay 0 = .ok (.aload_n 0, 1) := by decide +kernel
theorem dX3_lay_1 : decode cX3_lay 1 = .ok (.iload_n 1, 1) := by decide +kernel
theorem dX3_lay_2 : decode cX3_lay 2 = .ok (.invokevirtual 82, 3) := by decide +kernel
theorem dX3_lay_5 : decode cX3_lay 5 = .ok (.astore_n 3, 1) := by decide +kernel
theorem dX3_lay_6 : decode cX3_lay 6 = .ok (.aload_n 0, 1) := by decide +kernel
theorem dX3_lay_7 : decode cX3_lay 7 = .ok (.iload_n 2, 1) := by decide +kernel
theorem dX3_lay_8 : decode cX3_lay 8 = .ok (.invokevirtual 103, 3) := by decide +kernel
theorem dX3_lay_11 : decode cX3_lay 11 = .ok (.astore 4, 2) := by decide +kernel
theorem dX3_lay_13 : decode cX3_lay 13 = .ok (.aload_n 3, 1) := by decide +kernel
theorem dX3_lay_14 : decode cX3_lay 14 = .ok (.invokestatic 91, 3) := by decide +kernel
theorem dX3_lay_17 : decode cX3_lay 17 = .ok (.aload_n 3, 1) := by decide +kernel
theorem dX3_lay_18 : decode cX3_lay 18 = .ok (.getfield 107, 3) := by decide +kernel
theorem dX3_lay_21 : decode cX3_lay 21 = .ok (.aload 4, 2) := by decide +kernel
theorem dX3_lay_23 : decode cX3_lay 23 = .ok (.getfield 110, 3) := by decide +kernel
theorem dX3_lay_26 : decode cX3_lay 26 = .ok (.if_icmp .le 13, 3) := by decide +kernel
theorem dX3_lay_29 : decode cX3_lay 29 = .ok (.new 60, 3) := by decide +kernel
theorem dX3_lay_32 : decode cX3_lay 32 = .ok (.dup, 1) := by decide +kernel
theorem dX3_lay_33 : decode cX3_lay 33 = .ok (.ldc 111, 2) := by decide +kernel
theorem dX3_lay_35 : decode cX3_lay 35 = .ok (.invokespecial 64, 3) := by decide +kernel
theorem dX3_lay_38 : decode cX3_lay 38 = .ok (.athrow, 1) := by decide +kernel
theorem dX3_lay_39 : decode cX3_lay 39 = .ok (.aload_n 0, 1) := by decide +kernel
theorem dX3_lay_40 : decode cX3_lay 40 = .ok (.aload_n 3, 1) := by decide +kernel
theorem dX3_lay_41 : decode cX3_lay 41 = .ok (.bipush 10, 2) := by decide +kernel
theorem dX3_lay_43 : decode cX3_lay 43 = .ok (.iload_n 2, 1) := by decide +kernel
theorem dX3_lay_44 : decode cX3_lay 44 = .ok (.iadd, 1) := by decide +kernel
theorem dX3_lay_45 : decode cX3_lay 45 = .ok (.iconst 4, 1) := by decide +kernel
theorem dX3_lay_46 : decode cX3_lay 46 = .ok (.iload_n 2, 1) := by decide +kernel
theorem dX3_lay_47 : decode cX3_lay 47 = .ok (.iadd, 1) := by decide +kernel
theorem dX3_lay_48 : decode cX3_lay 48 = .ok (.invokevirtual 99, 3) := by decide +kernel
theorem dX3_lay_51 : decode cX3_lay 51 = .ok (.ireturn, 1) := by decide +kernel
set_option maxRecDepth 20000 in
theorem ggX3_find_X3_boxAt : GoodIn wsX3_find wsX3_boxAt := goodIn_ca (goodIn_r _ [7, 1, 2, 8, 111, 112, 113, 114, 115, 116, 117, 118, 119] (by decide +kernel) (by decide +kernel)) (goodIn_sub (fun _ h => List.mem_cons_of_mem _ (List.mem_append_left _ (List.mem_append_right _ h))) (by decide +kernel))
set_option maxRecDepth 20000 in
theorem gX3_find_X3_boxAt : GoodIn wsX3_find (wsV RX3 82 RX3 yX3_boxAt wsX3_boxAt) := goodIn_app (goodIn_of _ (by decide +kernel)) ggX3_find_X3_boxAt
set_option maxRecDepth 20000 in
theorem ggX3_find_X3_kindOf : GoodIn wsX3_find wsX3_kindOf := goodIn_r _ [11, 12, 13, 6, 14] (by decide +kernel) (by decide +kernel)
set_option maxRecDepth 20000 in
theorem gX3_find_X3_kindOf : GoodIn wsX3_find (va_wsS RX3 113 yX3_kindOf wsX3_kindOf) := goodIn_app (goodIn_of _ (by decide +kernel)) ggX3_find_X3_kindOf
set_option maxRecDepth 20000 in
theorem ggX3_find_X3_checkRoomForScan : GoodIn wsX3_find wsX3_checkRoomForScan := goodIn_ca (goodIn_r _ [17, 18, 19, 20, 120, 121, 122, 123, 124, 125, 126, 127, 128, 129, 130] (by decide +kernel) (by decide +kernel)) (goodIn_sub (fun _ h => List.mem_cons_of_mem _ (List.mem_append_right _ h)) (by decide +kernel))
set_option maxRecDepth 20000 in
theorem gX3_find_X3_checkRoomForScan : GoodIn wsX3_find (va_wsS RX3 91 yX3_checkRoomForScan wsX3_checkRoomForScan) := goodIn_app (goodIn_of _ (by decide +kernel)) ggX3_find_X3_checkRoomForScan
set_option maxRecDepth 20000 in
theorem ggX3_find_X3_addScan : GoodIn wsX3_find wsX3_addScan := goodIn_r _ [24, 25, 26, 27, 28, 29, 30, 31, 32, 33, 34, 35, 36, 37, 38, 39, 40, 6, 41, 42, 43, 9, 10, 11, 12, 13, 14, 44, 45, 46, 47, 48, 49, 50, 51, 52, 53, 54, 55, 56, 57, 58, 59, 20, 60, 61, 62, 63, 64, 65, 66, 67, 68, 69, 70, 71, 72, 73, 74, 75, 76, 77, 78, 79, 80, 81, 82, 83, 84, 85, 86, 87, 88, 89, 90, 91, 92, 93, 94, 95, 96, 97, 98, 99, 100, 101, 102, 103, 104, 105, 106, 107, 108, 109, 110, 111, 112, 113, 114, 115, 116, 117, 118, 119, 120, 121, 122, 123, 124, 125, 126, 127, 128, 129, 130, 131, 132, 133, 134, 135, 136, 137, 138] (by decide +kernel) (by decide +kernel)
set_option maxRecDepth 20000 in
theorem gX3_find_X3_addScan : GoodIn wsX3_find (wsV RX3 99 RX3 yX3_addScan wsX3_addScan) := goodIn_app (goodIn_of _ (by decide +kernel)) ggX3_find_X3_addScan
theorem dX3_find_0 : decode cX3_find 0 = .ok (.aload_n 0, 1) := by decide +kernel
theorem dX3_find_1 : decode cX3_find 1 = .ok (.iload_n 1, 1) := by decide +kernel
theorem dX3_find_2 : decode cX3_find 2 = .ok (.invokevirtual 82, 3) := by decide +kernel
theorem dX3_find_5 : decode cX3_find 5 = .ok (.astore_n 3, 1) := by decide +kernel
theorem dX3_find_6 : decode cX3_find 6 = .ok (.iload_n 2, 1) := by decide +kernel
theorem dX3_find_7 : decode cX3_find 7 = .ok (.invokestatic 113, 3) := by decide +kernel
theorem dX3_find_10 : decode cX3_find 10 = .ok (.iconst (-1), 1) := by decide +kernel
theorem dX3_find_11 : decode cX3_find 11 = .ok (.if_icmp .ne 13, 3) := by decide +kernel
theorem dX3_find_14 : decode cX3_find 14 = .ok (.new 117, 3) := by decide +kernel
theorem dX3_find_17 : decode cX3_find 17 = .ok (.dup, 1) := by decide +kernel
theorem dX3_find_18 : decode cX3_find 18 = .ok (.ldc 119, 2) := by decide +kernel
theorem dX3_find_20 : decode cX3_find 20 = .ok (.invokespecial 121, 3) := by decide +kernel
theorem dX3_find_23 : decode cX3_find 23 = .ok (.athrow, 1) := by decide +kernel
theorem dX3_find_24 : decode cX3_find 24 = .ok (.aload_n 3, 1) := by decide +kernel
theorem dX3_find_25 : decode cX3_find 25 = .ok (.invokestatic 91, 3) := by decide +kernel
theorem dX3_find_28 : decode cX3_find 28 = .ok (.aload_n 0, 1) := by decide +kernel
theorem dX3_find_29 : decode cX3_find 29 = .ok (.aload_n 3, 1) := by decide +kernel
theorem dX3_find_30 : decode cX3_find 30 = .ok (.iload_n 2, 1) := by decide +kernel
theorem dX3_find_31 : decode cX3_find 31 = .ok (.bipush 14, 2) := by decide +kernel
theorem dX3_find_33 : decode cX3_find 33 = .ok (.invokevirtual 99, 3) := by decide +kernel
theorem dX3_find_36 : decode cX3_find 36 = .ok (.ireturn, 1) := by decide +kernel
set_option maxRecDepth 20000 in
theorem ggX3_setDoor_X3_doorAt : GoodIn wsX3_setDoor wsX3_doorAt := goodIn_ca (goodIn_r _ [10, 11, 12, 13, 28, 29, 30, 31, 32, 33, 34, 35, 36] (by decide +kernel) (by decide +kernel)) (goodIn_sub (fun _ h => List.mem_cons_of_mem _ (List.mem_append_right _ h)) (by decide +kernel))
set_option maxRecDepth 20000 in
theorem gX3_setDoor_X3_doorAt : GoodIn wsX3_setDoor (wsV RX3 103 RX3 yX3_doorAt wsX3_doorAt) := goodIn_app (goodIn_of _ (by decide +kernel)) ggX3_setDoor_X3_doorAt
set_option maxRecDepth 20000 in
theorem ggX3_setDoor_X3_isWithin : GoodIn wsX3_setDoor wsX3_isWithin := goodIn_r _ [16] (by decide +kernel) (by decide +kernel)
set_option maxRecDepth 20000 in
theorem gX3_setDoor_X3_isWithin : GoodIn wsX3_setDoor (va_wsS RX3 49 yX3_isWithin wsX3_isWithin) := goodIn_app (goodIn_of _ (by decide +kernel)) ggX3_setDoor_X3_isWithin
set_option maxRecDepth 20000 in
theorem ggX3_setDoor_X1_isKept : GoodIn wsX3_setDoor wsX1_isKept := goodIn_r _ [21, 22, 23, 24, 25, 26, 27] (by decide +kernel) (by decide +kernel)
set_option maxRecDepth 20000 in
theorem gX3_setDoor_X1_isKept : GoodIn wsX3_setDoor (wsV RX3 124 RX1 yX1_isKept wsX1_isKept) := goodIn_app (goodIn_of _ (by decide +kernel)) ggX3_setDoor_X1_isKept
theorem dX3_setDoor_0 : decode cX3_setDoor 0 = .ok (.aload_n 0, 1) := by decide +kernel
theorem dX3_setDoor_1 : decode cX3_setDoor 1 = .ok (.iload_n 1, 1) := by decide +kernel
theorem dX3_setDoor_2 : decode cX3_setDoor 2 = .ok (.invokevirtual 103, 3) := by decide +kernel
theorem dX3_setDoor_5 : decode cX3_setDoor 5 = .ok (.astore_n 3, 1) := by decide +kernel
theorem dX3_setDoor_6 : decode cX3_setDoor 6 = .ok (.iload_n 2, 1) := by decide +kernel
theorem dX3_setDoor_7 : decode cX3_setDoor 7 = .ok (.iconst 1, 1) := by decide +kernel
theorem dX3_setDoor_8 : decode cX3_setDoor 8 = .ok (.iconst 3, 1) := by decide +kernel
theorem dX3_setDoor_9 : decode cX3_setDoor 9 = .ok (.invokestatic 49, 3) := by decide +kernel
theorem dX3_setDoor_12 : decode cX3_setDoor 12 = .ok (.ifCond .ne 13, 3) := by decide +kernel
theorem dX3_setDoor_15 : decode cX3_setDoor 15 = .ok (.new 53, 3) := by decide +kernel
theorem dX3_setDoor_18 : decode cX3_setDoor 18 = .ok (.dup, 1) := by decide +kernel
theorem dX3_setDoor_19 : decode cX3_setDoor 19 = .ok (.ldc 122, 2) := by decide +kernel
theorem dX3_setDoor_21 : decode cX3_setDoor 21 = .ok (.invokespecial 57, 3) := by decide +kernel
theorem dX3_setDoor_24 : decode cX3_setDoor 24 = .ok (.athrow, 1) := by decide +kernel
theorem dX3_setDoor_25 : decode cX3_setDoor 25 = .ok (.aload_n 3, 1) := by decide +kernel
theorem dX3_setDoor_26 : decode cX3_setDoor 26 = .ok (.invokevirtual 124, 3) := by decide +kernel
theorem dX3_setDoor_29 : decode cX3_setDoor 29 = .ok (.ifCond .eq 13, 3) := by decide +kernel
theorem dX3_setDoor_32 : decode cX3_setDoor 32 = .ok (.new 60, 3) := by decide +kernel
theorem dX3_setDoor_35 : decode cX3_setDoor 35 = .ok (.dup, 1) := by decide +kernel
theorem dX3_setDoor_36 : decode cX3_setDoor 36 = .ok (.ldc 128, 2) := by decide +kernel
theorem dX3_setDoor_38 : decode cX3_setDoor 38 = .ok (.invokespecial 64, 3) := by decide +kernel
theorem dX3_setDoor_41 : decode cX3_setDoor 41 = .ok (.athrow, 1) := by decide +kernel
theorem dX3_setDoor_42 : decode cX3_setDoor 42 = .ok (.aload_n 3, 1) := by decide +kernel
theorem dX3_setDoor_43 : decode cX3_setDoor 43 = .ok (.getfield 110, 3) := by decide +kernel
theorem dX3_setDoor_46 : decode cX3_setDoor 46 = .ok (.istore 4, 2) := by decide +kernel
theorem dX3_setDoor_48 : decode cX3_setDoor 48 = .ok (.aload_n 3, 1) := by decide +kernel
theorem dX3_setDoor_49 : decode cX3_setDoor 49 = .ok (.iload_n 2, 1) := by decide +kernel
theorem dX3_setDoor_50 : decode cX3_setDoor 50 = .ok (.putfield 110, 3) := by decide +kernel
theorem dX3_setDoor_53 : decode cX3_setDoor 53 = .ok (.iload 4, 2) := by decide +kernel
theorem dX3_setDoor_55 : decode cX3_setDoor 55 = .ok (.ireturn, 1) := by decide +kernel
set_option maxRecDepth 20000 in
theorem ggX3_keep_X3_doorAt : GoodIn wsX3_keep wsX3_doorAt := goodIn_ca (goodIn_r _ [14, 15, 16, 17, 45, 46, 47, 48, 49, 50, 51, 52, 53] (by decide +kernel) (by decide +kernel)) (goodIn_sub (fun _ h => List.mem_cons_of_mem _ (List.mem_append_right _ h)) (by decide +kernel))
set_option maxRecDepth 20000 in
theorem gX3_keep_X3_doorAt : GoodIn wsX3_keep (wsV RX3 103 RX3 yX3_doorAt wsX3_doorAt) := goodIn_app (goodIn_of _ (by decide +kernel)) ggX3_keep_X3_doorAt
set_option maxRecDepth 20000 in
theorem ggX3_keep_X3_boxAt : GoodIn wsX3_keep wsX3_boxAt := goodIn_ca (goodIn_r _ [21, 15, 16, 22, 45, 46, 47, 48, 49, 50, 51, 52, 53] (by decide +kernel) (by decide +kernel)) (goodIn_sub (fun _ h => List.mem_cons_of_mem _ (List.mem_append_right _ h)) (by decide +kernel))
set_option maxRecDepth 20000 in
theorem gX3_keep_X3_boxAt : GoodIn wsX3_keep (wsV RX3 82 RX3 yX3_boxAt wsX3_boxAt) := goodIn_app (goodIn_of _ (by decide +kernel)) ggX3_keep_X3_boxAt
set_option maxRecDepth 20000 in
theorem ggX3_keep_X1_isKept : GoodIn wsX3_keep wsX1_isKept := goodIn_r _ [27, 28, 29, 30, 31, 32, 33] (by decide +kernel) (by decide +kernel)
set_option maxRecDepth 20000 in
theorem gX3_keep_X1_isKept : GoodIn wsX3_keep (wsV RX3 124 RX1 yX1_isKept wsX1_isKept) := goodIn_app (goodIn_of _ (by decide +kernel)) ggX3_keep_X1_isKept
theorem dX3_keep_0 : decode cX3_keep 0 = .ok (.aload_n 0, 1) := by decide +kernel
theorem dX3_keep_1 : decode cX3_keep 1 = .ok (.iload_n 1, 1) := by decide +kernel
theorem dX3_keep_2 : decode cX3_keep 2 = .ok (.invokevirtual 103, 3) := by decide +kernel
theorem dX3_keep_5 : decode cX3_keep 5 = .ok (.astore_n 3, 1) := by decide +kernel
theorem dX3_keep_6 : decode cX3_keep 6 = .ok (.aload_n 0, 1) := by decide +kernel
theorem dX3_keep_7 : decode cX3_keep 7 = .ok (.iload_n 2, 1) := by decide +kernel
theorem dX3_keep_8 : decode cX3_keep 8 = .ok (.invokevirtual 82, 3) := by decide +kernel
theorem dX3_keep_11 : decode cX3_keep 11 = .ok (.astore 4, 2) := by decide +kernel
theorem dX3_keep_13 : decode cX3_keep 13 = .ok (.aload_n 3, 1) := by decide +kernel
theorem dX3_keep_14 : decode cX3_keep 14 = .ok (.invokevirtual 124, 3) := by decide +kernel
theorem dX3_keep_17 : decode cX3_keep 17 = .ok (.ifCond .ne 22, 3) := by decide +kernel
theorem dX3_keep_20 : decode cX3_keep 20 = .ok (.aload_n 3, 1) := by decide +kernel
theorem dX3_keep_21 : decode cX3_keep 21 = .ok (.getfield 130, 3) := by decide +kernel
theorem dX3_keep_24 : decode cX3_keep 24 = .ok (.ifCond .ne 15, 3) := by decide +kernel
theorem dX3_keep_27 : decode cX3_keep 27 = .ok (.aload_n 3, 1) := by decide +kernel
theorem dX3_keep_28 : decode cX3_keep 28 = .ok (.getfield 110, 3) := by decide +kernel
theorem dX3_keep_31 : decode cX3_keep 31 = .ok (.aload 4, 2) := by decide +kernel
theorem dX3_keep_33 : decode cX3_keep 33 = .ok (.getfield 107, 3) := by decide +kernel
theorem dX3_keep_36 : decode cX3_keep 36 = .ok (.if_icmp .ge 13, 3) := by decide +kernel
theorem dX3_keep_39 : decode cX3_keep 39 = .ok (.new 60, 3) := by decide +kernel
theorem dX3_keep_42 : decode cX3_keep 42 = .ok (.dup, 1) := by decide +kernel
theorem dX3_keep_43 : decode cX3_keep 43 = .ok (.ldc 134, 2) := by decide +kernel
theorem dX3_keep_45 : decode cX3_keep 45 = .ok (.invokespecial 64, 3) := by decide +kernel
theorem dX3_keep_48 : decode cX3_keep 48 = .ok (.athrow, 1) := by decide +kernel
theorem dX3_keep_49 : decode cX3_keep 49 = .ok (.aload_n 3, 1) := by decide +kernel
theorem dX3_keep_50 : decode cX3_keep 50 = .ok (.iload_n 2, 1) := by decide +kernel
theorem dX3_keep_51 : decode cX3_keep 51 = .ok (.putfield 136, 3) := by decide +kernel
theorem dX3_keep_54 : decode cX3_keep 54 = .ok (.aload_n 3, 1) := by decide +kernel
theorem dX3_keep_55 : decode cX3_keep 55 = .ok (.bipush 37, 2) := by decide +kernel
theorem dX3_keep_57 : decode cX3_keep 57 = .ok (.iload_n 2, 1) := by decide +kernel
theorem dX3_keep_58 : decode cX3_keep 58 = .ok (.imul, 1) := by decide +kernel
theorem dX3_keep_59 : decode cX3_keep 59 = .ok (.bipush 11, 2) := by decide +kernel
theorem dX3_keep_61 : decode cX3_keep 61 = .ok (.iload_n 1, 1) := by decide +kernel
theorem dX3_keep_62 : decode cX3_keep 62 = .ok (.imul, 1) := by decide +kernel
theorem dX3_keep_63 : decode cX3_keep 63 = .ok (.iadd, 1) := by decide +kernel
theorem dX3_keep_64 : decode cX3_keep 64 = .ok (.bipush 101, 2) := by decide +kernel
theorem dX3_keep_66 : decode cX3_keep 66 = .ok (.aload_n 0, 1) := by decide +kernel
theorem dX3_keep_67 : decode cX3_keep 67 = .ok (.getfield 45, 3) := by decide +kernel
theorem dX3_keep_70 : decode cX3_keep 70 = .ok (.imul, 1) := by decide +kernel
theorem dX3_keep_71 : decode cX3_keep 71 = .ok (.iadd, 1) := by decide +kernel
theorem dX3_keep_72 : decode cX3_keep 72 = .ok (.sipush 1000, 3) := by decide +kernel
theorem dX3_keep_75 : decode cX3_keep 75 = .ok (.irem, 1) := by decide +kernel
theorem dX3_keep_76 : decode cX3_keep 76 = .ok (.putfield 139, 3) := by decide +kernel
theorem dX3_keep_79 : decode cX3_keep 79 = .ok (.aload_n 3, 1) := by decide +kernel
theorem dX3_keep_80 : decode cX3_keep 80 = .ok (.iconst 0, 1) := by decide +kernel
theorem dX3_keep_81 : decode cX3_keep 81 = .ok (.putfield 142, 3) := by decide +kernel
theorem dX3_keep_84 : decode cX3_keep 84 = .ok (.aload_n 0, 1) := by decide +kernel
theorem dX3_keep_85 : decode cX3_keep 85 = .ok (.dup, 1) := by decide +kernel
theorem dX3_keep_86 : decode cX3_keep 86 = .ok (.getfield 45, 3) := by decide +kernel
theorem dX3_keep_89 : decode cX3_keep 89 = .ok (.iconst 1, 1) := by decide +kernel
theorem dX3_keep_90 : decode cX3_keep 90 = .ok (.iadd, 1) := by decide +kernel
theorem dX3_keep_91 : decode cX3_keep 91 = .ok (.putfield 45, 3) := by decide +kernel
theorem dX3_keep_94 : decode cX3_keep 94 = .ok (.aload_n 3, 1) := by decide +kernel
theorem dX3_keep_95 : decode cX3_keep 95 = .ok (.getfield 139, 3) := by decide +kernel
theorem dX3_keep_98 : decode cX3_keep 98 = .ok (.ireturn, 1) := by decide +kernel
set_option maxRecDepth 20000 in
theorem ggX3_open_X3_doorAt : GoodIn wsX3_open wsX3_doorAt := goodIn_ca (goodIn_r _ [12, 13, 14, 15, 136, 137, 138, 139, 140, 141, 142, 143, 144] (by decide +kernel) (by decide +kernel)) (goodIn_sub (fun _ h => List.mem_cons_of_mem _ (List.mem_append_right _ h)) (by decide +kernel))
set_option maxRecDepth 20000 in
theorem gX3_open_X3_doorAt : GoodIn wsX3_open (wsV RX3 103 RX3 yX3_doorAt wsX3_doorAt) := goodIn_app (goodIn_of _ (by decide +kernel)) ggX3_open_X3_doorAt
set_option maxRecDepth 20000 in
theorem ggX3_open_X3_isWithin : GoodIn wsX3_open wsX3_isWithin := goodIn_r _ [18] (by decide +kernel) (by decide +kernel)
set_option maxRecDepth 20000 in
theorem gX3_open_X3_isWithin : GoodIn wsX3_open (va_wsS RX3 49 yX3_isWithin wsX3_isWithin) := goodIn_app (goodIn_of _ (by decide +kernel)) ggX3_open_X3_isWithin
set_option maxRecDepth 20000 in
theorem ggX3_open_X1_isKept : GoodIn wsX3_open wsX1_isKept := goodIn_r _ [23, 24, 131, 132, 133, 134, 135] (by decide +kernel) (by decide +kernel)
set_option maxRecDepth 20000 in
theorem gX3_open_X1_isKept : GoodIn wsX3_open (wsV RX3 124 RX1 yX1_isKept wsX1_isKept) := goodIn_app (goodIn_of _ (by decide +kernel)) ggX3_open_X1_isKept
set_option maxRecDepth 20000 in
theorem ggX3_open_X3_countWrongCode : GoodIn wsX3_open wsX3_countWrongCode := goodIn_r _ [28, 29, 5, 30, 31, 32, 11, 33, 34, 35, 36, 37, 38, 39, 40, 41, 42, 43, 44, 45, 46, 47, 48, 49, 50, 51, 52, 53, 54, 55, 56, 15, 57, 16, 17, 18, 58, 59, 60, 61, 62, 63, 64, 65, 66, 67, 68, 69, 70, 71, 72, 73, 74, 75, 76, 77, 78, 79, 80, 81, 82, 83, 84, 85, 86, 87, 88, 89, 90, 91, 92, 93, 94, 95, 96, 97, 98, 99, 100, 101, 102, 103, 104, 131, 132, 133, 134, 135, 136, 137, 138, 139, 140, 141, 142, 143, 144, 145, 146, 147, 148, 149, 150, 151, 152, 153, 154, 155, 156, 157, 158] (by decide +kernel) (by decide +kernel)
set_option maxRecDepth 20000 in
theorem gX3_open_X3_countWrongCode : GoodIn wsX3_open (wsV RX3 149 RX3 yX3_countWrongCode wsX3_countWrongCode) := goodIn_app (goodIn_of _ (by decide +kernel)) ggX3_open_X3_countWrongCode
set_option maxRecDepth 20000 in
theorem ggX3_open_X3_boxAt : GoodIn wsX3_open wsX3_boxAt := goodIn_ca (goodIn_r _ [108, 13, 14, 34, 136, 137, 138, 139, 140, 141, 142, 143, 144] (by decide +kernel) (by decide +kernel)) (goodIn_sub (fun _ h => List.mem_cons_of_mem _ (List.mem_append_right _ h)) (by decide +kernel))
set_option maxRecDepth 20000 in
theorem gX3_open_X3_boxAt : GoodIn wsX3_open (wsV RX3 82 RX3 yX3_boxAt wsX3_boxAt) := goodIn_app (goodIn_of _ (by decide +kernel)) ggX3_open_X3_boxAt
set_option maxRecDepth 20000 in
theorem ggX3_open_X3_addScan : GoodIn wsX3_open wsX3_addScan := goodIn_r _ [112, 113, 114, 115, 116, 61, 117, 63, 118, 82, 119, 73, 120, 121, 122, 123, 124, 11, 125, 126, 127, 128, 129, 130, 16, 17, 18, 35, 36, 37, 38, 39, 40, 41, 42, 43, 44, 45, 46, 47, 48, 49, 50, 51, 52, 53, 54, 55, 56, 15, 5, 57, 58, 59, 60, 62, 64, 65, 66, 67, 68, 69, 70, 71, 72, 74, 75, 76, 77, 78, 79, 80, 81, 83, 84, 85, 86, 87, 88, 89, 90, 91, 92, 93, 94, 95, 96, 97, 98, 99, 100, 101, 102, 103, 104, 136, 137, 138, 139, 140, 141, 142, 143, 144, 145, 146, 147, 148, 149, 150, 151, 152, 153, 154, 155, 131, 132, 133, 134, 135, 156, 157, 158] (by decide +kernel) (by decide +kernel)
set_option maxRecDepth 20000 in
theorem gX3_open_X3_addScan : GoodIn wsX3_open (wsV RX3 99 RX3 yX3_addScan wsX3_addScan) := goodIn_app (goodIn_of _ (by decide +kernel)) ggX3_open_X3_addScan
theorem dX3_open_0 : decode cX3_open 0 = .ok (.aload_n 0, 1) := by decide +kernel
theorem dX3_open_1 : decode cX3_open 1 = .ok (.iload_n 1, 1) := by decide +kernel
theorem dX3_open_2 : decode cX3_open 2 = .ok (.invokevirtual 103, 3) := by decide +kernel
theorem dX3_open_5 : decode cX3_open 5 = .ok (.astore_n 3, 1) := by decide +kernel
theorem dX3_open_6 : decode cX3_open 6 = .ok (.iload_n 2, 1) := by decide +kernel
theorem dX3_open_7 : decode cX3_open 7 = .ok (.iconst 0, 1) := by decide +kernel
theorem dX3_open_8 : decode cX3_open 8 = .ok (.sipush 999, 3) := by decide +kernel
theorem dX3_open_11 : decode cX3_open 11 = .ok (.invokestatic 49, 3) := by decide +kernel
theorem dX3_open_14 : decode cX3_open 14 = .ok (.ifCond .ne 13, 3) := by decide +kernel
theorem dX3_open_17 : decode cX3_open 17 = .ok (.new 53, 3) := by decide +kernel
theorem dX3_open_20 : decode cX3_open 20 = .ok (.dup, 1) := by decide +kernel
theorem dX3_open_21 : decode cX3_open 21 = .ok (.ldc 145, 2) := by decide +kernel
theorem dX3_open_23 : decode cX3_open 23 = .ok (.invokespecial 57, 3) := by decide +kernel
theorem dX3_open_26 : decode cX3_open 26 = .ok (.athrow, 1) := by decide +kernel
theorem dX3_open_27 : decode cX3_open 27 = .ok (.aload_n 3, 1) := by decide +kernel
theorem dX3_open_28 : decode cX3_open 28 = .ok (.invokevirtual 124, 3) := by decide +kernel
theorem dX3_open_31 : decode cX3_open 31 = .ok (.ifCond .eq 10, 3) := by decide +kernel
theorem dX3_open_34 : decode cX3_open 34 = .ok (.aload_n 3, 1) := by decide +kernel
theorem dX3_open_35 : decode cX3_open 35 = .ok (.getfield 130, 3) := by decide +kernel
theorem dX3_open_38 : decode cX3_open 38 = .ok (.ifCond .eq 13, 3) := by decide +kernel
theorem dX3_open_41 : decode cX3_open 41 = .ok (.new 60, 3) := by decide +kernel
theorem dX3_open_44 : decode cX3_open 44 = .ok (.dup, 1) := by decide +kernel
theorem dX3_open_45 : decode cX3_open 45 = .ok (.ldc 147, 2) := by decide +kernel
theorem dX3_open_47 : decode cX3_open 47 = .ok (.invokespecial 64, 3) := by decide +kernel
theorem dX3_open_50 : decode cX3_open 50 = .ok (.athrow, 1) := by decide +kernel
theorem dX3_open_51 : decode cX3_open 51 = .ok (.iload_n 2, 1) := by decide +kernel
theorem dX3_open_52 : decode cX3_open 52 = .ok (.aload_n 3, 1) := by decide +kernel
theorem dX3_open_53 : decode cX3_open 53 = .ok (.getfield 139, 3) := by decide +kernel
theorem dX3_open_56 : decode cX3_open 56 = .ok (.if_icmp .eq 10, 3) := by decide +kernel
theorem dX3_open_59 : decode cX3_open 59 = .ok (.aload_n 0, 1) := by decide +kernel
theorem dX3_open_60 : decode cX3_open 60 = .ok (.aload_n 3, 1) := by decide +kernel
theorem dX3_open_61 : decode cX3_open 61 = .ok (.invokevirtual 149, 3) := by decide +kernel
theorem dX3_open_64 : decode cX3_open 64 = .ok (.iconst (-1), 1) := by decide +kernel
theorem dX3_open_65 : decode cX3_open 65 = .ok (.ireturn, 1) := by decide +kernel
theorem dX3_open_66 : decode cX3_open 66 = .ok (.aload_n 3, 1) := by decide +kernel
theorem dX3_open_67 : decode cX3_open 67 = .ok (.getfield 136, 3) := by decide +kernel
theorem dX3_open_70 : decode cX3_open 70 = .ok (.istore 4, 2) := by decide +kernel
theorem dX3_open_72 : decode cX3_open 72 = .ok (.aload_n 3, 1) := by decide +kernel
theorem dX3_open_73 : decode cX3_open 73 = .ok (.iconst (-1), 1) := by decide +kernel
theorem dX3_open_74 : decode cX3_open 74 = .ok (.putfield 136, 3) := by decide +kernel
theorem dX3_open_77 : decode cX3_open 77 = .ok (.aload_n 0, 1) := by decide +kernel
theorem dX3_open_78 : decode cX3_open 78 = .ok (.aload_n 0, 1) := by decide +kernel
theorem dX3_open_79 : decode cX3_open 79 = .ok (.iload 4, 2) := by decide +kernel
theorem dX3_open_81 : decode cX3_open 81 = .ok (.invokevirtual 82, 3) := by decide +kernel
theorem dX3_open_84 : decode cX3_open 84 = .ok (.bipush 30, 2) := by decide +kernel
theorem dX3_open_86 : decode cX3_open 86 = .ok (.iconst 4, 1) := by decide +kernel
theorem dX3_open_87 : decode cX3_open 87 = .ok (.iload_n 1, 1) := by decide +kernel
theorem dX3_open_88 : decode cX3_open 88 = .ok (.iadd, 1) := by decide +kernel
theorem dX3_open_89 : decode cX3_open 89 = .ok (.invokevirtual 99, 3) := by decide +kernel
theorem dX3_open_92 : decode cX3_open 92 = .ok (.pop, 1) := by decide +kernel
theorem dX3_open_93 : decode cX3_open 93 = .ok (.iload 4, 2) := by decide +kernel
theorem dX3_open_95 : decode cX3_open 95 = .ok (.ireturn, 1) := by decide +kernel
set_option maxRecDepth 20000 in
theorem ggX3_jam_X3_doorAt : GoodIn wsX3_jam wsX3_doorAt := goodIn_ca (goodIn_r _ [7, 8, 9, 10, 94, 95, 96, 97, 98, 99, 100, 101, 102] (by decide +kernel) (by decide +kernel)) (goodIn_sub (fun _ h => List.mem_cons_of_mem _ (List.mem_append_right _ h)) (by decide +kernel))
set_option maxRecDepth 20000 in
theorem gX3_jam_X3_doorAt : GoodIn wsX3_jam (wsV RX3 103 RX3 yX3_doorAt wsX3_doorAt) := goodIn_app (goodIn_of _ (by decide +kernel)) ggX3_jam_X3_doorAt
set_option maxRecDepth 20000 in
theorem ggX3_jam_X3_settleAll : GoodIn wsX3_jam wsX3_settleAll := goodIn_r _ [14, 15, 16, 17, 18, 6, 19, 20, 21, 22, 23, 24, 25, 26, 27, 28, 29, 30, 31, 32, 33, 34, 35, 36, 37, 10, 1, 38, 39, 40, 41, 42, 43, 44, 45, 46, 47, 48, 49, 50, 51, 52, 53, 54, 55, 56, 57, 58, 59, 60, 61, 62, 63, 64, 65, 66, 67, 68, 69, 70, 71, 72, 73, 74, 75, 76, 77, 78, 79, 80, 81, 82, 83, 84, 85, 86, 87, 88, 94, 95, 96, 97, 98, 99, 100, 101, 102, 103, 104, 105, 106, 107, 108, 109, 110, 111, 112, 113, 89, 90, 91, 92, 93, 114, 115, 116] (by decide +kernel) (by decide +kernel)
set_option maxRecDepth 20000 in
theorem gX3_jam_X3_settleAll : GoodIn wsX3_jam (wsV RX3 74 RX3 yX3_settleAll wsX3_settleAll) := goodIn_app (goodIn_of _ (by decide +kernel)) ggX3_jam_X3_settleAll
theorem dX3_jam_0 : decode cX3_jam 0 = .ok (.aload_n 0, 1) := by decide +kernel
theorem dX3_jam_1 : decode cX3_jam 1 = .ok (.iload_n 1, 1) := by decide +kernel
theorem dX3_jam_2 : decode cX3_jam 2 = .ok (.invokevirtual 103, 3) := by decide +kernel
theorem dX3_jam_5 : decode cX3_jam 5 = .ok (.astore_n 3, 1) := by decide +kernel
theorem dX3_jam_6 : decode cX3_jam 6 = .ok (.aload_n 3, 1) := by decide +kernel
theorem dX3_jam_7 : decode cX3_jam 7 = .ok (.getfield 130, 3) := by decide +kernel
theorem dX3_jam_10 : decode cX3_jam 10 = .ok (.istore 4, 2) := by decide +kernel
theorem dX3_jam_12 : decode cX3_jam 12 = .ok (.aload_n 3, 1) := by decide +kernel
theorem dX3_jam_13 : decode cX3_jam 13 = .ok (.iload_n 2, 1) := by decide +kernel
theorem dX3_jam_14 : decode cX3_jam 14 = .ok (.putfield 130, 3) := by decide +kernel
theorem dX3_jam_17 : decode cX3_jam 17 = .ok (.iload_n 2, 1) := by decide +kernel
theorem dX3_jam_18 : decode cX3_jam 18 = .ok (.ifCond .ne 8, 3) := by decide +kernel
theorem dX3_jam_21 : decode cX3_jam 21 = .ok (.aload_n 3, 1) := by decide +kernel
theorem dX3_jam_22 : decode cX3_jam 22 = .ok (.iconst 0, 1) := by decide +kernel
theorem dX3_jam_23 : decode cX3_jam 23 = .ok (.putfield 142, 3) := by decide +kernel
theorem dX3_jam_26 : decode cX3_jam 26 = .ok (.aload_n 0, 1) := by decide +kernel
theorem dX3_jam_27 : decode cX3_jam 27 = .ok (.invokevirtual 74, 3) := by decide +kernel
theorem dX3_jam_30 : decode cX3_jam 30 = .ok (.iload 4, 2) := by decide +kernel
theorem dX3_jam_32 : decode cX3_jam 32 = .ok (.ireturn, 1) := by decide +kernel
set_option maxRecDepth 20000 in
theorem ggX3_claim_X3_boxAt : GoodIn wsX3_claim wsX3_boxAt := goodIn_ca (goodIn_r _ [11, 12, 13, 14, 54, 55, 56, 57, 58, 59, 60, 61, 62] (by decide +kernel) (by decide +kernel)) (goodIn_sub (fun _ h => List.mem_cons_of_mem _ (List.mem_append_right _ h)) (by decide +kernel))
set_option maxRecDepth 20000 in
theorem gX3_claim_X3_boxAt : GoodIn wsX3_claim (wsV RX3 82 RX3 yX3_boxAt wsX3_boxAt) := goodIn_app (goodIn_of _ (by decide +kernel)) ggX3_claim_X3_boxAt
set_option maxRecDepth 20000 in
theorem ggX3_claim_X0_isDelivered : GoodIn wsX3_claim wsX0_isDelivered := goodIn_r _ [19, 20, 21, 22, 18, 23, 24, 25, 26, 27, 28, 29, 30, 43, 44, 45, 46, 47, 48, 49, 50, 51, 52, 53] (by decide +kernel) (by decide +kernel)
set_option maxRecDepth 20000 in
theorem gX3_claim_X0_isDelivered : GoodIn wsX3_claim (wsV RX3 153 RX0 yX0_isDelivered wsX0_isDelivered) := goodIn_app (goodIn_of _ (by decide +kernel)) ggX3_claim_X0_isDelivered
set_option maxRecDepth 20000 in
theorem ggX3_claim_X0_wasScannedAfter : GoodIn wsX3_claim wsX0_wasScannedAfter := goodIn_r _ [34, 24, 35, 43, 44, 45, 46, 47, 48, 49, 50, 51, 52, 53] (by decide +kernel) (by decide +kernel)
set_option maxRecDepth 20000 in
theorem gX3_claim_X0_wasScannedAfter : GoodIn wsX3_claim (wsV RX3 159 RX0 yX0_wasScannedAfter wsX0_wasScannedAfter) := goodIn_app (goodIn_of _ (by decide +kernel)) ggX3_claim_X0_wasScannedAfter
set_option maxRecDepth 20000 in
theorem ggX3_claim_X2_payInsured : GoodIn wsX3_claim wsX2_payInsured := goodIn_r _ [40, 41, 42, 63, 64, 65] (by decide +kernel) (by decide +kernel)
set_option maxRecDepth 20000 in
theorem gX3_claim_X2_payInsured : GoodIn wsX3_claim (wsV RX3 168 RX2 yX2_payInsured wsX2_payInsured) := goodIn_app (goodIn_of _ (by decide +kernel)) ggX3_claim_X2_payInsured
theorem dX3_claim_0 : decode cX3_claim 0 = .ok (.aload_n 0, 1) := by decide +kernel
theorem dX3_claim_1 : decode cX3_claim 1 = .ok (.iload_n 1, 1) := by decide +kernel
theorem dX3_claim_2 : decode cX3_claim 2 = .ok (.invokevirtual 82, 3) := by decide +kernel
theorem dX3_claim_5 : decode cX3_claim 5 = .ok (.astore_n 2, 1) := by decide +kernel
theorem dX3_claim_6 : decode cX3_claim 6 = .ok (.aload_n 2, 1) := by decide +kernel
theorem dX3_claim_7 : decode cX3_claim 7 = .ok (.invokevirtual 153, 3) := by decide +kernel
theorem dX3_claim_10 : decode cX3_claim 10 = .ok (.ifCond .ne 25, 3) := by decide +kernel
theorem dX3_claim_13 : decode cX3_claim 13 = .ok (.aload_n 2, 1) := by decide +kernel
theorem dX3_claim_14 : decode cX3_claim 14 = .ok (.getfield 156, 3) := by decide +kernel
theorem dX3_claim_17 : decode cX3_claim 17 = .ok (.ifCond .ne 18, 3) := by decide +kernel
theorem dX3_claim_20 : decode cX3_claim 20 = .ok (.aload_n 2, 1) := by decide +kernel
theorem dX3_claim_21 : decode cX3_claim 21 = .ok (.aload_n 0, 1) := by decide +kernel
theorem dX3_claim_22 : decode cX3_claim 22 = .ok (.getfield 42, 3) := by decide +kernel
theorem dX3_claim_25 : decode cX3_claim 25 = .ok (.sipush 1000, 3) := by decide +kernel
theorem dX3_claim_28 : decode cX3_claim 28 = .ok (.isub, 1) := by decide +kernel
theorem dX3_claim_29 : decode cX3_claim 29 = .ok (.invokevirtual 159, 3) := by decide +kernel
theorem dX3_claim_32 : decode cX3_claim 32 = .ok (.ifCond .eq 13, 3) := by decide +kernel
theorem dX3_claim_35 : decode cX3_claim 35 = .ok (.new 60, 3) := by decide +kernel
theorem dX3_claim_38 : decode cX3_claim 38 = .ok (.dup, 1) := by decide +kernel
theorem dX3_claim_39 : decode cX3_claim 39 = .ok (.ldc 163, 2) := by decide +kernel
theorem dX3_claim_41 : decode cX3_claim 41 = .ok (.invokespecial 64, 3) := by decide +kernel
theorem dX3_claim_44 : decode cX3_claim 44 = .ok (.athrow, 1) := by decide +kernel
theorem dX3_claim_45 : decode cX3_claim 45 = .ok (.aload_n 2, 1) := by decide +kernel
theorem dX3_claim_46 : decode cX3_claim 46 = .ok (.iconst 1, 1) := by decide +kernel
theorem dX3_claim_47 : decode cX3_claim 47 = .ok (.putfield 156, 3) := by decide +kernel
theorem dX3_claim_50 : decode cX3_claim 50 = .ok (.aload_n 0, 1) := by decide +kernel
theorem dX3_claim_51 : decode cX3_claim 51 = .ok (.getfield 28, 3) := by decide +kernel
theorem dX3_claim_54 : decode cX3_claim 54 = .ok (.aload_n 2, 1) := by decide +kernel
theorem dX3_claim_55 : decode cX3_claim 55 = .ok (.getfield 165, 3) := by decide +kernel
theorem dX3_claim_58 : decode cX3_claim 58 = .ok (.invokevirtual 168, 3) := by decide +kernel
theorem dX3_claim_61 : decode cX3_claim 61 = .ok (.aload_n 2, 1) := by decide +kernel
theorem dX3_claim_62 : decode cX3_claim 62 = .ok (.getfield 165, 3) := by decide +kernel
theorem dX3_claim_65 : decode cX3_claim 65 = .ok (.ireturn, 1) := by decide +kernel
theorem dX3_time_0 : decode cX3_time 0 = .ok (.aload_n 0, 1) := by decide +kernel
theorem dX3_time_1 : decode cX3_time 1 = .ok (.getfield 42, 3) := by decide +kernel
theorem dX3_time_4 : decode cX3_time 4 = .ok (.ireturn, 1) := by decide +kernel
theorem dX3_boxes_0 : decode cX3_boxes 0 = .ok (.aload_n 0, 1) := by decide +kernel
theorem dX3_boxes_1 : decode cX3_boxes 1 = .ok (.getfield 38, 3) := by decide +kernel
theorem dX3_boxes_4 : decode cX3_boxes 4 = .ok (.ireturn, 1) := by decide +kernel
set_option maxRecDepth 20000 in
theorem ggX3_scans_X3_boxAt : GoodIn wsX3_scans wsX3_boxAt := goodIn_ca (goodIn_r _ [6, 7, 8, 9, 21, 22, 23, 24, 25, 26, 27, 28, 29] (by decide +kernel) (by decide +kernel)) (goodIn_sub (fun _ h => List.mem_cons_of_mem _ (List.mem_append_right _ h)) (by decide +kernel))
set_option maxRecDepth 20000 in
theorem gX3_scans_X3_boxAt : GoodIn wsX3_scans (wsV RX3 82 RX3 yX3_boxAt wsX3_boxAt) := goodIn_app (goodIn_of _ (by decide +kernel)) ggX3_scans_X3_boxAt
theorem dX3_scans_0 : decode cX3_scans 0 = .ok (.aload_n 0, 1) := by decide +kernel
theorem dX3_scans_1 : decode cX3_scans 1 = .ok (.iload_n 1, 1) := by decide +kernel
theorem dX3_scans_2 : decode cX3_scans 2 = .ok (.invokevirtual 82, 3) := by decide +kernel
theorem dX3_scans_5 : decode cX3_scans 5 = .ok (.getfield 171, 3) := by decide +kernel
theorem dX3_scans_8 : decode cX3_scans 8 = .ok (.ireturn, 1) := by decide +kernel
set_option maxRecDepth 20000 in
theorem ggX3_story_X3_boxAt : GoodIn wsX3_story wsX3_boxAt := goodIn_ca (goodIn_r _ [6, 7, 8, 9, 21, 22, 23, 24, 25, 26, 27, 28, 29] (by decide +kernel) (by decide +kernel)) (goodIn_sub (fun _ h => List.mem_cons_of_mem _ (List.mem_append_right _ h)) (by decide +kernel))
set_option maxRecDepth 20000 in
theorem gX3_story_X3_boxAt : GoodIn wsX3_story (wsV RX3 82 RX3 yX3_boxAt wsX3_boxAt) := goodIn_app (goodIn_of _ (by decide +kernel)) ggX3_story_X3_boxAt
theorem dX3_story_0 : decode cX3_story 0 = .ok (.aload_n 0, 1) := by decide +kernel
theorem dX3_story_1 : decode cX3_story 1 = .ok (.iload_n 1, 1) := by decide +kernel
theorem dX3_story_2 : decode cX3_story 2 = .ok (.invokevirtual 82, 3) := by decide +kernel
theorem dX3_story_5 : decode cX3_story 5 = .ok (.getfield 174, 3) := by decide +kernel
theorem dX3_story_8 : decode cX3_story 8 = .ok (.ireturn, 1) := by decide +kernel
set_option maxRecDepth 20000 in
theorem ggX3_storyOfAll_X3_boxAt : GoodIn wsX3_storyOfAll wsX3_boxAt := goodIn_ca (goodIn_r _ [6, 7, 8, 9, 39, 40, 41, 42, 43, 44, 45, 46, 47] (by decide +kernel) (by decide +kernel)) (goodIn_sub (fun _ h => List.mem_cons_of_mem _ (List.mem_append_right _ h)) (by decide +kernel))
set_option maxRecDepth 20000 in
theorem gX3_storyOfAll_X3_boxAt : GoodIn wsX3_storyOfAll (wsV RX3 82 RX3 yX3_boxAt wsX3_boxAt) := goodIn_app (goodIn_of _ (by decide +kernel)) ggX3_storyOfAll_X3_boxAt
set_option maxRecDepth 20000 in
theorem ggX3_storyOfAll_X3_weighScans : GoodIn wsX3_storyOfAll wsX3_weighScans := goodIn_r _ [13, 14, 1, 15, 16, 17, 18, 5, 19, 20, 21, 22, 23, 24, 25, 48, 49, 50, 51, 52, 53, 54, 55, 56, 57, 58, 39, 40, 41, 42, 43, 44, 45, 46, 47, 59, 60, 61, 62, 63] (by decide +kernel) (by decide +kernel)
set_option maxRecDepth 20000 in
theorem gX3_storyOfAll_X3_weighScans : GoodIn wsX3_storyOfAll (wsV RX3 177 RX3 yX3_weighScans wsX3_weighScans) := goodIn_app (goodIn_of _ (by decide +kernel)) ggX3_storyOfAll_X3_weighScans
set_option maxRecDepth 20000 in
theorem ggX3_storyOfAll_X3_greatestWorth : GoodIn wsX3_storyOfAll wsX3_greatestWorth := goodIn_r _ [28, 14, 29, 30, 31, 32, 33, 34, 35, 36, 37, 38, 26, 27, 5, 48, 49, 50, 51, 52, 53, 54, 55, 56, 57, 58] (by decide +kernel) (by decide +kernel)
set_option maxRecDepth 20000 in
theorem gX3_storyOfAll_X3_greatestWorth : GoodIn wsX3_storyOfAll (va_wsS RX3 180 yX3_greatestWorth wsX3_greatestWorth) := goodIn_app (goodIn_of _ (by decide +kernel)) ggX3_storyOfAll_X3_greatestWorth
theorem dX3_storyOfAll_0 : decode cX3_storyOfAll 0 = .ok (.aload_n 0, 1) := by decide +kernel
theorem dX3_storyOfAll_1 : decode cX3_storyOfAll 1 = .ok (.iload_n 1, 1) := by decide +kernel
theorem dX3_storyOfAll_2 : decode cX3_storyOfAll 2 = .ok (.invokevirtual 82, 3) := by decide +kernel
theorem dX3_storyOfAll_5 : decode cX3_storyOfAll 5 = .ok (.astore_n 2, 1) := by decide +kernel
theorem dX3_storyOfAll_6 : decode cX3_storyOfAll 6 = .ok (.aload_n 0, 1) := by decide +kernel
theorem dX3_storyOfAll_7 : decode cX3_storyOfAll 7 = .ok (.aload_n 2, 1) := by decide +kernel
theorem dX3_storyOfAll_8 : decode cX3_storyOfAll 8 = .ok (.invokevirtual 177, 3) := by decide +kernel
theorem dX3_storyOfAll_11 : decode cX3_storyOfAll 11 = .ok (.aload_n 2, 1) := by decide +kernel
theorem dX3_storyOfAll_12 : decode cX3_storyOfAll 12 = .ok (.aload_n 0, 1) := by decide +kernel
theorem dX3_storyOfAll_13 : decode cX3_storyOfAll 13 = .ok (.getfield 32, 3) := by decide +kernel
theorem dX3_storyOfAll_16 : decode cX3_storyOfAll 16 = .ok (.iconst (-1), 1) := by decide +kernel
theorem dX3_storyOfAll_17 : decode cX3_storyOfAll 17 = .ok (.iconst 0, 1) := by decide +kernel
theorem dX3_storyOfAll_18 : decode cX3_storyOfAll 18 = .ok (.iconst 0, 1) := by decide +kernel
theorem dX3_storyOfAll_19 : decode cX3_storyOfAll 19 = .ok (.invokestatic 180, 3) := by decide +kernel
theorem dX3_storyOfAll_22 : decode cX3_storyOfAll 22 = .ok (.sipush 4096, 3) := by decide +kernel
theorem dX3_storyOfAll_25 : decode cX3_storyOfAll 25 = .ok (.irem, 1) := by decide +kernel
theorem dX3_storyOfAll_26 : decode cX3_storyOfAll 26 = .ok (.ireturn, 1) := by decide +kernel
set_option maxRecDepth 20000 in
theorem ggX3_placeOf_X3_boxAt : GoodIn wsX3_placeOf wsX3_boxAt := goodIn_ca (goodIn_r _ [5, 6, 7, 8, 21, 22, 23, 24, 25, 26, 27, 28, 29] (by decide +kernel) (by decide +kernel)) (goodIn_sub (fun _ h => List.mem_cons_of_mem _ (List.mem_append_right _ h)) (by decide +kernel))
set_option maxRecDepth 20000 in
theorem gX3_placeOf_X3_boxAt : GoodIn wsX3_placeOf (wsV RX3 82 RX3 yX3_boxAt wsX3_boxAt) := goodIn_app (goodIn_of _ (by decide +kernel)) ggX3_placeOf_X3_boxAt
set_option maxRecDepth 20000 in
theorem ggX3_placeOf_X0_whereabouts : GoodIn wsX3_placeOf wsX0_whereabouts := goodIn_r _ [13, 14, 15, 16, 17, 18, 12, 19, 20, 30, 31, 32, 33, 34, 35, 36, 37, 38, 39, 40] (by decide +kernel) (by decide +kernel)
set_option maxRecDepth 20000 in
theorem gX3_placeOf_X0_whereabouts : GoodIn wsX3_placeOf (wsV RX3 184 RX0 yX0_whereabouts wsX0_whereabouts) := goodIn_app (goodIn_of _ (by decide +kernel)) ggX3_placeOf_X0_whereabouts
theorem dX3_placeOf_0 : decode cX3_placeOf 0 = .ok (.aload_n 0, 1) := by decide +kernel
theorem dX3_placeOf_1 : decode cX3_placeOf 1 = .ok (.iload_n 1, 1) := by decide +kernel
theorem dX3_placeOf_2 : decode cX3_placeOf 2 = .ok (.invokevirtual 82, 3) := by decide +kernel
theorem dX3_placeOf_5 : decode cX3_placeOf 5 = .ok (.invokevirtual 184, 3) := by decide +kernel
theorem dX3_placeOf_8 : decode cX3_placeOf 8 = .ok (.ireturn, 1) := by decide +kernel
set_option maxRecDepth 20000 in
theorem ggX3_lies_X3_checkWho : GoodIn wsX3_lies wsX3_checkWho := goodIn_ca (goodIn_r _ [5, 6, 7] (by decide +kernel) (by decide +kernel)) (goodIn_sub (fun _ h => List.mem_cons_of_mem _ (List.mem_append_right _ h)) (by decide +kernel))
set_option maxRecDepth 20000 in
theorem gX3_lies_X3_checkWho : GoodIn wsX3_lies (va_wsS RX3 68 yX3_checkWho wsX3_checkWho) := goodIn_app (goodIn_of _ (by decide +kernel)) ggX3_lies_X3_checkWho
set_option maxRecDepth 20000 in
theorem ggX3_lies_X0_countLies : GoodIn wsX3_lies wsX0_countLies := goodIn_r _ [12, 13, 14, 15, 16, 17, 11, 18, 19, 29, 30, 31, 32, 33, 34, 35, 36, 37, 38, 39] (by decide +kernel) (by decide +kernel)
set_option maxRecDepth 20000 in
theorem gX3_lies_X0_countLies : GoodIn wsX3_lies (wsV RX3 188 RX0 yX0_countLies wsX0_countLies) := goodIn_app (goodIn_of _ (by decide +kernel)) ggX3_lies_X0_countLies
theorem dX3_lies_0 : decode cX3_lies 0 = .ok (.iload_n 1, 1) := by decide +kernel
theorem dX3_lies_1 : decode cX3_lies 1 = .ok (.invokestatic 68, 3) := by decide +kernel
theorem dX3_lies_4 : decode cX3_lies 4 = .ok (.iconst 0, 1) := by decide +kernel
theorem dX3_lies_5 : decode cX3_lies 5 = .ok (.istore_n 2, 1) := by decide +kernel
theorem dX3_lies_6 : decode cX3_lies 6 = .ok (.aload_n 0, 1) := by decide +kernel
theorem dX3_lies_7 : decode cX3_lies 7 = .ok (.getfield 11, 3) := by decide +kernel
theorem dX3_lies_10 : decode cX3_lies 10 = .ok (.astore_n 3, 1) := by decide +kernel
theorem dX3_lies_11 : decode cX3_lies 11 = .ok (.aload_n 3, 1) := by decide +kernel
theorem dX3_lies_12 : decode cX3_lies 12 = .ok (.arraylength, 1) := by decide +kernel
theorem dX3_lies_13 : decode cX3_lies 13 = .ok (.istore 4, 2) := by decide +kernel
theorem dX3_lies_15 : decode cX3_lies 15 = .ok (.iconst 0, 1) := by decide +kernel
theorem dX3_lies_16 : decode cX3_lies 16 = .ok (.istore 5, 2) := by decide +kernel
theorem dX3_lies_18 : decode cX3_lies 18 = .ok (.iload 5, 2) := by decide +kernel
theorem dX3_lies_20 : decode cX3_lies 20 = .ok (.iload 4, 2) := by decide +kernel
theorem dX3_lies_22 : decode cX3_lies 22 = .ok (.if_icmp .ge 29, 3) := by decide +kernel
theorem dX3_lies_25 : decode cX3_lies 25 = .ok (.aload_n 3, 1) := by decide +kernel
theorem dX3_lies_26 : decode cX3_lies 26 = .ok (.iload 5, 2) := by decide +kernel
theorem dX3_lies_28 : decode cX3_lies 28 = .ok (.aaload, 1) := by decide +kernel
theorem dX3_lies_29 : decode cX3_lies 29 = .ok (.astore 6, 2) := by decide +kernel
theorem dX3_lies_31 : decode cX3_lies 31 = .ok (.aload 6, 2) := by decide +kernel
theorem dX3_lies_33 : decode cX3_lies 33 = .ok (.ifnull 12, 3) := by decide +kernel
theorem dX3_lies_36 : decode cX3_lies 36 = .ok (.iload_n 2, 1) := by decide +kernel
theorem dX3_lies_37 : decode cX3_lies 37 = .ok (.aload 6, 2) := by decide +kernel
theorem dX3_lies_39 : decode cX3_lies 39 = .ok (.iload_n 1, 1) := by decide +kernel
theorem dX3_lies_40 : decode cX3_lies 40 = .ok (.invokevirtual 188, 3) := by decide +kernel
theorem dX3_lies_43 : decode cX3_lies 43 = .ok (.iadd, 1) := by decide +kernel
theorem dX3_lies_44 : decode cX3_lies 44 = .ok (.istore_n 2, 1) := by decide +kernel
theorem dX3_lies_45 : decode cX3_lies 45 = .ok (.iinc 5 1, 3) := by decide +kernel
theorem dX3_lies_48 : decode cX3_lies 48 = .ok (.goto (-30), 3) := by decide +kernel
theorem dX3_lies_51 : decode cX3_lies 51 = .ok (.iload_n 2, 1) := by decide +kernel
theorem dX3_lies_52 : decode cX3_lies 52 = .ok (.ireturn, 1) := by decide +kernel
set_option maxRecDepth 20000 in
theorem ggX3_hasFee_X3_boxAt : GoodIn wsX3_hasFee wsX3_boxAt := goodIn_ca (goodIn_r _ [6, 7, 8, 9, 21, 22, 23, 24, 25, 26, 27, 28, 29] (by decide +kernel) (by decide +kernel)) (goodIn_sub (fun _ h => List.mem_cons_of_mem _ (List.mem_append_right _ h)) (by decide +kernel))
set_option maxRecDepth 20000 in
theorem gX3_hasFee_X3_boxAt : GoodIn wsX3_hasFee (wsV RX3 82 RX3 yX3_boxAt wsX3_boxAt) := goodIn_app (goodIn_of _ (by decide +kernel)) ggX3_hasFee_X3_boxAt
theorem dX3_hasFee_0 : decode cX3_hasFee 0 = .ok (.aload_n 0, 1) := by decide +kernel
theorem dX3_hasFee_1 : decode cX3_hasFee 1 = .ok (.iload_n 1, 1) := by decide +kernel
theorem dX3_hasFee_2 : decode cX3_hasFee 2 = .ok (.invokevirtual 82, 3) := by decide +kernel
theorem dX3_hasFee_5 : decode cX3_hasFee 5 = .ok (.getfield 191, 3) := by decide +kernel
theorem dX3_hasFee_8 : decode cX3_hasFee 8 = .ok (.ireturn, 1) := by decide +kernel
set_option maxRecDepth 20000 in
theorem ggX3_isInsured_X3_boxAt : GoodIn wsX3_isInsured wsX3_boxAt := goodIn_ca (goodIn_r _ [6, 7, 8, 9, 21, 22, 23, 24, 25, 26, 27, 28, 29] (by decide +kernel) (by decide +kernel)) (goodIn_sub (fun _ h => List.mem_cons_of_mem _ (List.mem_append_right _ h)) (by decide +kernel))
set_option maxRecDepth 20000 in
theorem gX3_isInsured_X3_boxAt : GoodIn wsX3_isInsured (wsV RX3 82 RX3 yX3_boxAt wsX3_boxAt) := goodIn_app (goodIn_of _ (by decide +kernel)) ggX3_isInsured_X3_boxAt
theorem dX3_isInsured_0 : decode cX3_isInsured 0 = .ok (.aload_n 0, 1) := by decide +kernel
theorem dX3_isInsured_1 : decode cX3_isInsured 1 = .ok (.iload_n 1, 1) := by decide +kernel
theorem dX3_isInsured_2 : decode cX3_isInsured 2 = .ok (.invokevirtual 82, 3) := by decide +kernel
theorem dX3_isInsured_5 : decode cX3_isInsured 5 = .ok (.getfield 156, 3) := by decide +kernel
theorem dX3_isInsured_8 : decode cX3_isInsured 8 = .ok (.ireturn, 1) := by decide +kernel
set_option maxRecDepth 20000 in
theorem ggX3_fees_X3_checkCourier : GoodIn wsX3_fees wsX3_checkCourier := goodIn_ca (goodIn_r _ [6, 7, 8] (by decide +kernel) (by decide +kernel)) (goodIn_sub (fun _ h => List.mem_cons_of_mem _ (List.mem_append_right _ h)) (by decide +kernel))
set_option maxRecDepth 20000 in
theorem gX3_fees_X3_checkCourier : GoodIn wsX3_fees (va_wsS RX3 86 yX3_checkCourier wsX3_checkCourier) := goodIn_app (goodIn_of _ (by decide +kernel)) ggX3_fees_X3_checkCourier
theorem dX3_fees_0 : decode cX3_fees 0 = .ok (.iload_n 1, 1) := by decide +kernel
theorem dX3_fees_1 : decode cX3_fees 1 = .ok (.invokestatic 86, 3) := by decide +kernel
theorem dX3_fees_4 : decode cX3_fees 4 = .ok (.aload_n 0, 1) := by decide +kernel
theorem dX3_fees_5 : decode cX3_fees 5 = .ok (.getfield 28, 3) := by decide +kernel
theorem dX3_fees_8 : decode cX3_fees 8 = .ok (.getfield 194, 3) := by decide +kernel
theorem dX3_fees_11 : decode cX3_fees 11 = .ok (.iload_n 1, 1) := by decide +kernel
theorem dX3_fees_12 : decode cX3_fees 12 = .ok (.iaload, 1) := by decide +kernel
theorem dX3_fees_13 : decode cX3_fees 13 = .ok (.ireturn, 1) := by decide +kernel
theorem dX3_insurers_0 : decode cX3_insurers 0 = .ok (.aload_n 0, 1) := by decide +kernel
theorem dX3_insurers_1 : decode cX3_insurers 1 = .ok (.getfield 28, 3) := by decide +kernel
theorem dX3_insurers_4 : decode cX3_insurers 4 = .ok (.getfield 197, 3) := by decide +kernel
theorem dX3_insurers_7 : decode cX3_insurers 7 = .ok (.ireturn, 1) := by decide +kernel
theorem dX3_entries_0 : decode cX3_entries 0 = .ok (.aload_n 0, 1) := by decide +kernel
theorem dX3_entries_1 : decode cX3_entries 1 = .ok (.getfield 28, 3) := by decide +kernel
theorem dX3_entries_4 : decode cX3_entries 4 = .ok (.getfield 200, 3) := by decide +kernel
theorem dX3_entries_7 : decode cX3_entries 7 = .ok (.ireturn, 1) := by decide +kernel
set_option maxRecDepth 20000 in
theorem ggX3_fine_X3_boxAt : GoodIn wsX3_fine wsX3_boxAt := goodIn_ca (goodIn_r _ [10, 11, 12, 13, 38, 39, 40, 41, 42, 43, 44, 45, 46] (by decide +kernel) (by decide +kernel)) (goodIn_sub (fun _ h => List.mem_cons_of_mem _ (List.mem_append_right _ h)) (by decide +kernel))
set_option maxRecDepth 20000 in
theorem gX3_fine_X3_boxAt : GoodIn wsX3_fine (wsV RX3 82 RX3 yX3_boxAt wsX3_boxAt) := goodIn_app (goodIn_of _ (by decide +kernel)) ggX3_fine_X3_boxAt
set_option maxRecDepth 20000 in
theorem ggX3_fine_X0_whereabouts : GoodIn wsX3_fine wsX0_whereabouts := goodIn_r _ [18, 19, 20, 21, 22, 23, 17, 24, 25, 47, 48, 49, 50, 51, 52, 53, 54, 55, 56, 57] (by decide +kernel) (by decide +kernel)
set_option maxRecDepth 20000 in
theorem gX3_fine_X0_whereabouts : GoodIn wsX3_fine (wsV RX3 184 RX0 yX0_whereabouts wsX0_whereabouts) := goodIn_app (goodIn_of _ (by decide +kernel)) ggX3_fine_X0_whereabouts
set_option maxRecDepth 20000 in
theorem ggX3_fine_X3_kindOf : GoodIn wsX3_fine wsX3_kindOf := goodIn_r _ [28, 29, 30, 9, 31] (by decide +kernel) (by decide +kernel)
set_option maxRecDepth 20000 in
theorem gX3_fine_X3_kindOf : GoodIn wsX3_fine (va_wsS RX3 113 yX3_kindOf wsX3_kindOf) := goodIn_app (goodIn_of _ (by decide +kernel)) ggX3_fine_X3_kindOf
set_option maxRecDepth 20000 in
theorem ggX3_fine_X0_thereSince : GoodIn wsX3_fine wsX0_thereSince := goodIn_r _ [35, 19, 20, 36, 37, 15, 16, 17, 18, 21, 22, 23, 24, 25, 47, 48, 49, 50, 51, 52, 53, 54, 55, 56, 57] (by decide +kernel) (by decide +kernel)
set_option maxRecDepth 20000 in
theorem gX3_fine_X0_thereSince : GoodIn wsX3_fine (wsV RX3 203 RX0 yX0_thereSince wsX0_thereSince) := goodIn_app (goodIn_of _ (by decide +kernel)) ggX3_fine_X0_thereSince
theorem dX3_fine_0 : decode cX3_fine 0 = .ok (.aload_n 0, 1) := by decide +kernel
theorem dX3_fine_1 : decode cX3_fine 1 = .ok (.iload_n 1, 1) := by decide +kernel
theorem dX3_fine_2 : decode cX3_fine 2 = .ok (.invokevirtual 82, 3) := by decide +kernel
theorem dX3_fine_5 : decode cX3_fine 5 = .ok (.astore_n 2, 1) := by decide +kernel
theorem dX3_fine_6 : decode cX3_fine 6 = .ok (.aload_n 2, 1) := by decide +kernel
theorem dX3_fine_7 : decode cX3_fine 7 = .ok (.invokevirtual 184, 3) := by decide +kernel
theorem dX3_fine_10 : decode cX3_fine 10 = .ok (.invokestatic 113, 3) := by decide +kernel
theorem dX3_fine_13 : decode cX3_fine 13 = .ok (.iconst 2, 1) := by decide +kernel
theorem dX3_fine_14 : decode cX3_fine 14 = .ok (.if_icmp .eq 5, 3) := by decide +kernel
theorem dX3_fine_17 : decode cX3_fine 17 = .ok (.iconst 0, 1) := by decide +kernel
theorem dX3_fine_18 : decode cX3_fine 18 = .ok (.ireturn, 1) := by decide +kernel
theorem dX3_fine_19 : decode cX3_fine 19 = .ok (.aload_n 0, 1) := by decide +kernel
theorem dX3_fine_20 : decode cX3_fine 20 = .ok (.getfield 42, 3) := by decide +kernel
theorem dX3_fine_23 : decode cX3_fine 23 = .ok (.aload_n 2, 1) := by decide +kernel
theorem dX3_fine_24 : decode cX3_fine 24 = .ok (.invokevirtual 203, 3) := by decide +kernel
theorem dX3_fine_27 : decode cX3_fine 27 = .ok (.isub, 1) := by decide +kernel
theorem dX3_fine_28 : decode cX3_fine 28 = .ok (.bipush 60, 2) := by decide +kernel
theorem dX3_fine_30 : decode cX3_fine 30 = .ok (.idiv, 1) := by decide +kernel
theorem dX3_fine_31 : decode cX3_fine 31 = .ok (.istore_n 3, 1) := by decide +kernel
theorem dX3_fine_32 : decode cX3_fine 32 = .ok (.iconst 2, 1) := by decide +kernel
theorem dX3_fine_33 : decode cX3_fine 33 = .ok (.iconst 0, 1) := by decide +kernel
theorem dX3_fine_34 : decode cX3_fine 34 = .ok (.iload_n 3, 1) := by decide +kernel
theorem dX3_fine_35 : decode cX3_fine 35 = .ok (.bipush 24, 2) := by decide +kernel
theorem dX3_fine_37 : decode cX3_fine 37 = .ok (.isub, 1) := by decide +kernel
theorem dX3_fine_38 : decode cX3_fine 38 = .ok (.invokestatic 206, 3) := by decide +kernel
theorem dX3_fine_41 : decode cX3_fine 41 = .ok (.imul, 1) := by decide +kernel
theorem dX3_fine_42 : decode cX3_fine 42 = .ok (.ireturn, 1) := by decide +kernel
set_option maxRecDepth 20000 in
theorem ggX3_isJammed_X3_doorAt : GoodIn wsX3_isJammed wsX3_doorAt := goodIn_ca (goodIn_r _ [6, 7, 8, 9, 15, 16, 17, 18, 19, 20, 21, 22, 23] (by decide +kernel) (by decide +kernel)) (goodIn_sub (fun _ h => List.mem_cons_of_mem _ (List.mem_append_right _ h)) (by decide +kernel))
set_option maxRecDepth 20000 in
theorem gX3_isJammed_X3_doorAt : GoodIn wsX3_isJammed (wsV RX3 103 RX3 yX3_doorAt wsX3_doorAt) := goodIn_app (goodIn_of _ (by decide +kernel)) ggX3_isJammed_X3_doorAt
theorem dX3_isJammed_0 : decode cX3_isJammed 0 = .ok (.aload_n 0, 1) := by decide +kernel
theorem dX3_isJammed_1 : decode cX3_isJammed 1 = .ok (.iload_n 1, 1) := by decide +kernel
theorem dX3_isJammed_2 : decode cX3_isJammed 2 = .ok (.invokevirtual 103, 3) := by decide +kernel
theorem dX3_isJammed_5 : decode cX3_isJammed 5 = .ok (.getfield 130, 3) := by decide +kernel
theorem dX3_isJammed_8 : decode cX3_isJammed 8 = .ok (.ireturn, 1) := by decide +kernel
set_option maxRecDepth 20000 in
theorem ggX3_keptFor_X3_doorAt : GoodIn wsX3_keptFor wsX3_doorAt := goodIn_ca (goodIn_r _ [6, 7, 8, 9, 15, 16, 17, 18, 19, 20, 21, 22, 23] (by decide +kernel) (by decide +kernel)) (goodIn_sub (fun _ h => List.mem_cons_of_mem _ (List.mem_append_right _ h)) (by decide +kernel))
set_option maxRecDepth 20000 in
theorem gX3_keptFor_X3_doorAt : GoodIn wsX3_keptFor (wsV RX3 103 RX3 yX3_doorAt wsX3_doorAt) := goodIn_app (goodIn_of _ (by decide +kernel)) ggX3_keptFor_X3_doorAt
theorem dX3_keptFor_0 : decode cX3_keptFor 0 = .ok (.aload_n 0, 1) := by decide +kernel
theorem dX3_keptFor_1 : decode cX3_keptFor 1 = .ok (.iload_n 1, 1) := by decide +kernel
theorem dX3_keptFor_2 : decode cX3_keptFor 2 = .ok (.invokevirtual 103, 3) := by decide +kernel
theorem dX3_keptFor_5 : decode cX3_keptFor 5 = .ok (.getfield 136, 3) := by decide +kernel
theorem dX3_keptFor_8 : decode cX3_keptFor 8 = .ok (.ireturn, 1) := by decide +kernel
theorem dX3_isWithin_0 : decode cX3_isWithin 0 = .ok (.iload_n 0, 1) := by decide +kernel
theorem dX3_isWithin_1 : decode cX3_isWithin 1 = .ok (.iload_n 1, 1) := by decide +kernel
theorem dX3_isWithin_2 : decode cX3_isWithin 2 = .ok (.if_icmp .lt 12, 3) := by decide +kernel
theorem dX3_isWithin_5 : decode cX3_isWithin 5 = .ok (.iload_n 0, 1) := by decide +kernel
theorem dX3_isWithin_6 : decode cX3_isWithin 6 = .ok (.iload_n 2, 1) := by decide +kernel
theorem dX3_isWithin_7 : decode cX3_isWithin 7 = .ok (.if_icmp .gt 7, 3) := by decide +kernel
theorem dX3_isWithin_10 : decode cX3_isWithin 10 = .ok (.iconst 1, 1) := by decide +kernel
theorem dX3_isWithin_11 : decode cX3_isWithin 11 = .ok (.goto 4, 3) := by decide +kernel
theorem dX3_isWithin_14 : decode cX3_isWithin 14 = .ok (.iconst 0, 1) := by decide +kernel
theorem dX3_isWithin_15 : decode cX3_isWithin 15 = .ok (.ireturn, 1) := by decide +kernel
theorem dX3_boxAt_0 : decode cX3_boxAt 0 = .ok (.iload_n 1, 1) := by decide +kernel
theorem dX3_boxAt_1 : decode cX3_boxAt 1 = .ok (.ifCond .lt 18, 3) := by decide +kernel
theorem dX3_boxAt_4 : decode cX3_boxAt 4 = .ok (.iload_n 1, 1) := by decide +kernel
theorem dX3_boxAt_5 : decode cX3_boxAt 5 = .ok (.bipush 16, 2) := by decide +kernel
theorem dX3_boxAt_7 : decode cX3_boxAt 7 = .ok (.if_icmp .ge 12, 3) := by decide +kernel
theorem dX3_boxAt_10 : decode cX3_boxAt 10 = .ok (.aload_n 0, 1) := by decide +kernel
theorem dX3_boxAt_11 : decode cX3_boxAt 11 = .ok (.getfield 11, 3) := by decide +kernel
theorem dX3_boxAt_14 : decode cX3_boxAt 14 = .ok (.iload_n 1, 1) := by decide +kernel
theorem dX3_boxAt_15 : decode cX3_boxAt 15 = .ok (.aaload, 1) := by decide +kernel
theorem dX3_boxAt_16 : decode cX3_boxAt 16 = .ok (.ifnonnull 13, 3) := by decide +kernel
theorem dX3_boxAt_19 : decode cX3_boxAt 19 = .ok (.new 117, 3) := by decide +kernel
theorem dX3_boxAt_22 : decode cX3_boxAt 22 = .ok (.dup, 1) := by decide +kernel
theorem dX3_boxAt_23 : decode cX3_boxAt 23 = .ok (.ldc 211, 2) := by decide +kernel
theorem dX3_boxAt_25 : decode cX3_boxAt 25 = .ok (.invokespecial 121, 3) := by decide +kernel
theorem dX3_boxAt_28 : decode cX3_boxAt 28 = .ok (.athrow, 1) := by decide +kernel
theorem dX3_boxAt_29 : decode cX3_boxAt 29 = .ok (.aload_n 0, 1) := by decide +kernel
theorem dX3_boxAt_30 : decode cX3_boxAt 30 = .ok (.getfield 11, 3) := by decide +kernel
theorem dX3_boxAt_33 : decode cX3_boxAt 33 = .ok (.iload_n 1, 1) := by decide +kernel
theorem dX3_boxAt_34 : decode cX3_boxAt 34 = .ok (.aaload, 1) := by decide +kernel
theorem dX3_boxAt_35 : decode cX3_boxAt 35 = .ok (.areturn, 1) := by decide +kernel
theorem dX3_doorAt_0 : decode cX3_doorAt 0 = .ok (.iload_n 1, 1) := by decide +kernel
theorem dX3_doorAt_1 : decode cX3_doorAt 1 = .ok (.ifCond .lt 9, 3) := by decide +kernel
theorem dX3_doorAt_4 : decode cX3_doorAt 4 = .ok (.iload_n 1, 1) := by decide +kernel
theorem dX3_doorAt_5 : decode cX3_doorAt 5 = .ok (.bipush 10, 2) := by decide +kernel
theorem dX3_doorAt_7 : decode cX3_doorAt 7 = .ok (.if_icmp .lt 13, 3) := by decide +kernel
theorem dX3_doorAt_10 : decode cX3_doorAt 10 = .ok (.new 117, 3) := by decide +kernel
theorem dX3_doorAt_13 : decode cX3_doorAt 13 = .ok (.dup, 1) := by decide +kernel
theorem dX3_doorAt_14 : decode cX3_doorAt 14 = .ok (.ldc 213, 2) := by decide +kernel
theorem dX3_doorAt_16 : decode cX3_doorAt 16 = .ok (.invokespecial 121, 3) := by decide +kernel
theorem dX3_doorAt_19 : decode cX3_doorAt 19 = .ok (.athrow, 1) := by decide +kernel
theorem dX3_doorAt_20 : decode cX3_doorAt 20 = .ok (.aload_n 0, 1) := by decide +kernel
theorem dX3_doorAt_21 : decode cX3_doorAt 21 = .ok (.getfield 17, 3) := by decide +kernel
theorem dX3_doorAt_24 : decode cX3_doorAt 24 = .ok (.iload_n 1, 1) := by decide +kernel
theorem dX3_doorAt_25 : decode cX3_doorAt 25 = .ok (.aaload, 1) := by decide +kernel
theorem dX3_doorAt_26 : decode cX3_doorAt 26 = .ok (.areturn, 1) := by decide +kernel
theorem dX3_checkCourier_0 : decode cX3_checkCourier 0 = .ok (.iload_n 0, 1) := by decide +kernel
theorem dX3_checkCourier_1 : decode cX3_checkCourier 1 = .ok (.ifCond .lt 8, 3) := by decide +kernel
theorem dX3_checkCourier_4 : decode cX3_checkCourier 4 = .ok (.iload_n 0, 1) := by decide +kernel
theorem dX3_checkCourier_5 : decode cX3_checkCourier 5 = .ok (.iconst 4, 1) := by decide +kernel
theorem dX3_checkCourier_6 : decode cX3_checkCourier 6 = .ok (.if_icmp .lt 13, 3) := by decide +kernel
theorem dX3_checkCourier_9 : decode cX3_checkCourier 9 = .ok (.new 117, 3) := by decide +kernel
theorem dX3_checkCourier_12 : decode cX3_checkCourier 12 = .ok (.dup, 1) := by decide +kernel
theorem dX3_checkCourier_13 : decode cX3_checkCourier 13 = .ok (.ldc 215, 2) := by decide +kernel
theorem dX3_checkCourier_15 : decode cX3_checkCourier 15 = .ok (.invokespecial 121, 3) := by decide +kernel
theorem dX3_checkCourier_18 : decode cX3_checkCourier 18 = .ok (.athrow, 1) := by decide +kernel
theorem dX3_checkCourier_19 : decode cX3_checkCourier 19 = .ok (.return_, 1) := by decide +kernel
theorem dX3_checkWho_0 : decode cX3_checkWho 0 = .ok (.iload_n 0, 1) := by decide +kernel
theorem dX3_checkWho_1 : decode cX3_checkWho 1 = .ok (.ifCond .lt 9, 3) := by decide +kernel
theorem dX3_checkWho_4 : decode cX3_checkWho 4 = .ok (.iload_n 0, 1) := by decide +kernel
theorem dX3_checkWho_5 : decode cX3_checkWho 5 = .ok (.bipush 14, 2) := by decide +kernel
theorem dX3_checkWho_7 : decode cX3_checkWho 7 = .ok (.if_icmp .lt 13, 3) := by decide +kernel
theorem dX3_checkWho_10 : decode cX3_checkWho 10 = .ok (.new 117, 3) := by decide +kernel
theorem dX3_checkWho_13 : decode cX3_checkWho 13 = .ok (.dup, 1) := by decide +kernel
theorem dX3_checkWho_14 : decode cX3_checkWho 14 = .ok (.ldc 217, 2) := by decide +kernel
theorem dX3_checkWho_16 : decode cX3_checkWho 16 = .ok (.invokespecial 121, 3) := by decide +kernel
theorem dX3_checkWho_19 : decode cX3_checkWho 19 = .ok (.athrow, 1) := by decide +kernel
theorem dX3_checkWho_20 : decode cX3_checkWho 20 = .ok (.return_, 1) := by decide +kernel
theorem dX3_checkRoomForScan_0 : decode cX3_checkRoomForScan 0 = .ok (.aload_n 0, 1) := by decide +kernel
theorem dX3_checkRoomForScan_1 : decode cX3_checkRoomForScan 1 = .ok (.getfield 171, 3) := by decide +kernel
theorem dX3_checkRoomForScan_4 : decode cX3_checkRoomForScan 4 = .ok (.bipush 12, 2) := by decide +kernel
theorem dX3_checkRoomForScan_6 : decode cX3_checkRoomForScan 6 = .ok (.if_icmp .lt 13, 3) := by decide +kernel
theorem dX3_checkRoomForScan_9 : decode cX3_checkRoomForScan 9 = .ok (.new 60, 3) := by decide +kernel
theorem dX3_checkRoomForScan_12 : decode cX3_checkRoomForScan 12 = .ok (.dup, 1) := by decide +kernel
theorem dX3_checkRoomForScan_13 : decode cX3_checkRoomForScan 13 = .ok (.ldc 219, 2) := by decide +kernel
theorem dX3_checkRoomForScan_15 : decode cX3_checkRoomForScan 15 = .ok (.invokespecial 64, 3) := by decide +kernel
theorem dX3_checkRoomForScan_18 : decode cX3_checkRoomForScan 18 = .ok (.athrow, 1) := by decide +kernel
theorem dX3_checkRoomForScan_19 : decode cX3_checkRoomForScan 19 = .ok (.return_, 1) := by decide +kernel
theorem dX3_placeTold_0 : decode cX3_placeTold 0 = .ok (.iload_n 1, 1) := by decide +kernel
theorem dX3_placeTold_1 : decode cX3_placeTold 1 = .ok (.ifCond .ne 7, 3) := by decide +kernel
theorem dX3_placeTold_4 : decode cX3_placeTold 4 = .ok (.iconst 1, 1) := by decide +kernel
theorem dX3_placeTold_5 : decode cX3_placeTold 5 = .ok (.iload_n 0, 1) := by decide +kernel
theorem dX3_placeTold_6 : decode cX3_placeTold 6 = .ok (.iadd, 1) := by decide +kernel
theorem dX3_placeTold_7 : decode cX3_placeTold 7 = .ok (.ireturn, 1) := by decide +kernel
theorem dX3_placeTold_8 : decode cX3_placeTold 8 = .ok (.iload_n 1, 1) := by decide +kernel
theorem dX3_placeTold_9 : decode cX3_placeTold 9 = .ok (.iconst 1, 1) := by decide +kernel
theorem dX3_placeTold_10 : decode cX3_placeTold 10 = .ok (.if_icmp .ne 7, 3) := by decide +kernel
theorem dX3_placeTold_13 : decode cX3_placeTold 13 = .ok (.iconst 0, 1) := by decide +kernel
theorem dX3_placeTold_14 : decode cX3_placeTold 14 = .ok (.goto 5, 3) := by decide +kernel
theorem dX3_placeTold_17 : decode cX3_placeTold 17 = .ok (.bipush 30, 2) := by decide +kernel
theorem dX3_placeTold_19 : decode cX3_placeTold 19 = .ok (.ireturn, 1) := by decide +kernel
set_option maxRecDepth 20000 in
theorem ggX3_courierOfPlace_X3_isWithin : GoodIn wsX3_courierOfPlace wsX3_isWithin := goodIn_r _ [4] (by decide +kernel) (by decide +kernel)
set_option maxRecDepth 20000 in
theorem gX3_courierOfPlace_X3_isWithin : GoodIn wsX3_courierOfPlace (va_wsS RX3 49 yX3_isWithin wsX3_isWithin) := goodIn_app (goodIn_of _ (by decide +kernel)) ggX3_courierOfPlace_X3_isWithin
theorem dX3_courierOfPlace_0 : decode cX3_courierOfPlace 0 = .ok (.iload_n 0, 1) := by decide +kernel
theorem dX3_courierOfPlace_1 : decode cX3_courierOfPlace 1 = .ok (.iconst 1, 1) := by decide +kernel
theorem dX3_courierOfPlace_2 : decode cX3_courierOfPlace 2 = .ok (.iconst 4, 1) := by decide +kernel
theorem dX3_courierOfPlace_3 : decode cX3_courierOfPlace 3 = .ok (.invokestatic 49, 3) := by decide +kernel
theorem dX3_courierOfPlace_6 : decode cX3_courierOfPlace 6 = .ok (.ifCond .eq 9, 3) := by decide +kernel
theorem dX3_courierOfPlace_9 : decode cX3_courierOfPlace 9 = .ok (.iload_n 0, 1) := by decide +kernel
theorem dX3_courierOfPlace_10 : decode cX3_courierOfPlace 10 = .ok (.iconst 1, 1) := by decide +kernel
theorem dX3_courierOfPlace_11 : decode cX3_courierOfPlace 11 = .ok (.isub, 1) := by decide +kernel
theorem dX3_courierOfPlace_12 : decode cX3_courierOfPlace 12 = .ok (.goto 4, 3) := by decide +kernel
theorem dX3_courierOfPlace_15 : decode cX3_courierOfPlace 15 = .ok (.iconst (-1), 1) := by decide +kernel
theorem dX3_courierOfPlace_16 : decode cX3_courierOfPlace 16 = .ok (.ireturn, 1) := by decide +kernel
set_option maxRecDepth 20000 in
theorem ggX3_kindOf_X3_isWithin : GoodIn wsX3_kindOf wsX3_isWithin := goodIn_r _ [4] (by decide +kernel) (by decide +kernel)
set_option maxRecDepth 20000 in
theorem gX3_kindOf_X3_isWithin : GoodIn wsX3_kindOf (va_wsS RX3 49 yX3_isWithin wsX3_isWithin) := goodIn_app (goodIn_of _ (by decide +kernel)) ggX3_kindOf_X3_isWithin
theorem dX3_kindOf_0 : decode cX3_kindOf 0 = .ok (.iload_n 0, 1) := by decide +kernel
theorem dX3_kindOf_1 : decode cX3_kindOf 1 = .ok (.ifCond .ne 5, 3) := by decide +kernel
theorem dX3_kindOf_4 : decode cX3_kindOf 4 = .ok (.iconst 0, 1) := by decide +kernel
theorem dX3_kindOf_5 : decode cX3_kindOf 5 = .ok (.ireturn, 1) := by decide +kernel
theorem dX3_kindOf_6 : decode cX3_kindOf 6 = .ok (.iload_n 0, 1) := by decide +kernel
theorem dX3_kindOf_7 : decode cX3_kindOf 7 = .ok (.iconst 1, 1) := by decide +kernel
theorem dX3_kindOf_8 : decode cX3_kindOf 8 = .ok (.iconst 4, 1) := by decide +kernel
theorem dX3_kindOf_9 : decode cX3_kindOf 9 = .ok (.invokestatic 49, 3) := by decide +kernel
theorem dX3_kindOf_12 : decode cX3_kindOf 12 = .ok (.ifCond .eq 5, 3) := by decide +kernel
theorem dX3_kindOf_15 : decode cX3_kindOf 15 = .ok (.iconst 1, 1) := by decide +kernel
theorem dX3_kindOf_16 : decode cX3_kindOf 16 = .ok (.ireturn, 1) := by decide +kernel
theorem dX3_kindOf_17 : decode cX3_kindOf 17 = .ok (.iload_n 0, 1) := by decide +kernel
theorem dX3_kindOf_18 : decode cX3_kindOf 18 = .ok (.bipush 10, 2) := by decide +kernel
theorem dX3_kindOf_20 : decode cX3_kindOf 20 = .ok (.bipush 19, 2) := by decide +kernel
theorem dX3_kindOf_22 : decode cX3_kindOf 22 = .ok (.invokestatic 49, 3) := by decide +kernel
theorem dX3_kindOf_25 : decode cX3_kindOf 25 = .ok (.ifCond .eq 5, 3) := by decide +kernel
theorem dX3_kindOf_28 : decode cX3_kindOf 28 = .ok (.iconst 2, 1) := by decide +kernel
theorem dX3_kindOf_29 : decode cX3_kindOf 29 = .ok (.ireturn, 1) := by decide +kernel
theorem dX3_kindOf_30 : decode cX3_kindOf 30 = .ok (.iload_n 0, 1) := by decide +kernel
theorem dX3_kindOf_31 : decode cX3_kindOf 31 = .ok (.bipush 30, 2) := by decide +kernel
theorem dX3_kindOf_33 : decode cX3_kindOf 33 = .ok (.if_icmp .ne 7, 3) := by decide +kernel
theorem dX3_kindOf_36 : decode cX3_kindOf 36 = .ok (.iconst 3, 1) := by decide +kernel
theorem dX3_kindOf_37 : decode cX3_kindOf 37 = .ok (.goto 4, 3) := by decide +kernel
theorem dX3_kindOf_40 : decode cX3_kindOf 40 = .ok (.iconst (-1), 1) := by decide +kernel
theorem dX3_kindOf_41 : decode cX3_kindOf 41 = .ok (.ireturn, 1) := by decide +kernel
set_option maxRecDepth 20000 in
theorem ggX3_minutesBetween_X3_kindOf : GoodIn wsX3_minutesBetween wsX3_kindOf := goodIn_r _ [6, 7, 8, 5, 9] (by decide +kernel) (by decide +kernel)
set_option maxRecDepth 20000 in
theorem gX3_minutesBetween_X3_kindOf : GoodIn wsX3_minutesBetween (va_wsS RX3 113 yX3_kindOf wsX3_kindOf) := goodIn_app (goodIn_of _ (by decide +kernel)) ggX3_minutesBetween_X3_kindOf
theorem dX3_minutesBetween_0 : decode cX3_minutesBetween 0 = .ok (.iload_n 0, 1) := by decide +kernel
theorem dX3_minutesBetween_1 : decode cX3_minutesBetween 1 = .ok (.invokestatic 113, 3) := by decide +kernel
theorem dX3_minutesBetween_4 : decode cX3_minutesBetween 4 = .ok (.istore_n 2, 1) := by decide +kernel
theorem dX3_minutesBetween_5 : decode cX3_minutesBetween 5 = .ok (.iload_n 1, 1) := by decide +kernel
theorem dX3_minutesBetween_6 : decode cX3_minutesBetween 6 = .ok (.invokestatic 113, 3) := by decide +kernel
theorem dX3_minutesBetween_9 : decode cX3_minutesBetween 9 = .ok (.istore_n 3, 1) := by decide +kernel
theorem dX3_minutesBetween_10 : decode cX3_minutesBetween 10 = .ok (.iload_n 0, 1) := by decide +kernel
theorem dX3_minutesBetween_11 : decode cX3_minutesBetween 11 = .ok (.iload_n 1, 1) := by decide +kernel
theorem dX3_minutesBetween_12 : decode cX3_minutesBetween 12 = .ok (.if_icmp .ne 5, 3) := by decide +kernel
theorem dX3_minutesBetween_15 : decode cX3_minutesBetween 15 = .ok (.iconst 0, 1) := by decide +kernel
theorem dX3_minutesBetween_16 : decode cX3_minutesBetween 16 = .ok (.ireturn, 1) := by decide +kernel
theorem dX3_minutesBetween_17 : decode cX3_minutesBetween 17 = .ok (.iload_n 2, 1) := by decide +kernel
theorem dX3_minutesBetween_18 : decode cX3_minutesBetween 18 = .ok (.iconst (-1), 1) := by decide +kernel
theorem dX3_minutesBetween_19 : decode cX3_minutesBetween 19 = .ok (.if_icmp .eq 8, 3) := by decide +kernel
theorem dX3_minutesBetween_22 : decode cX3_minutesBetween 22 = .ok (.iload_n 3, 1) := by decide +kernel
theorem dX3_minutesBetween_23 : decode cX3_minutesBetween 23 = .ok (.iconst (-1), 1) := by decide +kernel
theorem dX3_minutesBetween_24 : decode cX3_minutesBetween 24 = .ok (.if_icmp .ne 6, 3) := by decide +kernel
theorem dX3_minutesBetween_27 : decode cX3_minutesBetween 27 = .ok (.ldc 221, 2) := by decide +kernel
theorem dX3_minutesBetween_29 : decode cX3_minutesBetween 29 = .ok (.ireturn, 1) := by decide +kernel
theorem dX3_minutesBetween_30 : decode cX3_minutesBetween 30 = .ok (.getstatic 222, 3) := by decide +kernel
theorem dX3_minutesBetween_33 : decode cX3_minutesBetween 33 = .ok (.iload_n 2, 1) := by decide +kernel
theorem dX3_minutesBetween_34 : decode cX3_minutesBetween 34 = .ok (.iconst 4, 1) := by decide +kernel
theorem dX3_minutesBetween_35 : decode cX3_minutesBetween 35 = .ok (.imul, 1) := by decide +kernel
theorem dX3_minutesBetween_36 : decode cX3_minutesBetween 36 = .ok (.iload_n 3, 1) := by decide +kernel
theorem dX3_minutesBetween_37 : decode cX3_minutesBetween 37 = .ok (.iadd, 1) := by decide +kernel
theorem dX3_minutesBetween_38 : decode cX3_minutesBetween 38 = .ok (.iaload, 1) := by decide +kernel
theorem dX3_minutesBetween_39 : decode cX3_minutesBetween 39 = .ok (.ireturn, 1) := by decide +kernel
set_option maxRecDepth 20000 in
theorem ggX3_addScan_X0_note : GoodIn wsX3_addScan wsX0_note := goodIn_r _ [6, 7, 8, 9, 10, 11, 12, 13, 14, 5, 15, 16, 17, 18, 19, 20, 21, 22, 23, 24, 25, 26, 104, 105, 106, 107, 108, 109, 110, 111, 112, 113, 114] (by decide +kernel) (by decide +kernel)
set_option maxRecDepth 20000 in
theorem gX3_addScan_X0_note : GoodIn wsX3_addScan (wsV RX3 225 RX0 yX0_note wsX0_note) := goodIn_app (goodIn_of _ (by decide +kernel)) ggX3_addScan_X0_note
set_option maxRecDepth 20000 in
theorem ggX3_addScan_X3_settle : GoodIn wsX3_addScan wsX3_settle := goodIn_r _ [30, 31, 32, 33, 34, 35, 36, 37, 38, 39, 40, 41, 17, 42, 43, 44, 45, 46, 47, 48, 49, 50, 51, 24, 25, 26, 52, 53, 54, 5, 55, 7, 56, 57, 58, 59, 60, 61, 62, 63, 64, 11, 65, 66, 67, 68, 69, 70, 71, 72, 9, 73, 74, 75, 76, 77, 78, 79, 80, 81, 82, 83, 84, 85, 86, 87, 88, 89, 90, 91, 92, 93, 94, 95, 96, 97, 98, 99, 100, 101, 102, 103, 104, 105, 106, 107, 108, 109, 110, 111, 112, 113, 114, 115, 116, 117, 118, 119, 120, 121, 122] (by decide +kernel) (by decide +kernel)
set_option maxRecDepth 20000 in
theorem gX3_addScan_X3_settle : GoodIn wsX3_addScan (wsV RX3 229 RX3 yX3_settle wsX3_settle) := goodIn_app (goodIn_of _ (by decide +kernel)) ggX3_addScan_X3_settle
theorem dX3_addScan_0 : decode cX3_addScan 0 = .ok (.aload_n 1, 1) := by decide +kernel
theorem dX3_addScan_1 : decode cX3_addScan 1 = .ok (.aload_n 0, 1) := by decide +kernel
theorem dX3_addScan_2 : decode cX3_addScan 2 = .ok (.getfield 42, 3) := by decide +kernel
theorem dX3_addScan_5 : decode cX3_addScan 5 = .ok (.iload_n 2, 1) := by decide +kernel
theorem dX3_addScan_6 : decode cX3_addScan 6 = .ok (.iload_n 3, 1) := by decide +kernel
theorem dX3_addScan_7 : decode cX3_addScan 7 = .ok (.invokevirtual 225, 3) := by decide +kernel
theorem dX3_addScan_10 : decode cX3_addScan 10 = .ok (.istore 4, 2) := by decide +kernel
theorem dX3_addScan_12 : decode cX3_addScan 12 = .ok (.aload_n 0, 1) := by decide +kernel
theorem dX3_addScan_13 : decode cX3_addScan 13 = .ok (.aload_n 1, 1) := by decide +kernel
theorem dX3_addScan_14 : decode cX3_addScan 14 = .ok (.invokevirtual 229, 3) := by decide +kernel
theorem dX3_addScan_17 : decode cX3_addScan 17 = .ok (.iload 4, 2) := by decide +kernel
theorem dX3_addScan_19 : decode cX3_addScan 19 = .ok (.ireturn, 1) := by decide +kernel
set_option maxRecDepth 20000 in
theorem ggX3_countWrongCode_X3_settleAll : GoodIn wsX3_countWrongCode wsX3_settleAll := goodIn_r _ [7, 8, 9, 10, 11, 6, 12, 13, 14, 15, 16, 17, 18, 19, 20, 21, 22, 23, 24, 25, 26, 27, 28, 29, 30, 31, 2, 32, 33, 34, 35, 36, 37, 38, 39, 40, 41, 42, 43, 44, 45, 46, 47, 48, 49, 50, 51, 52, 53, 54, 55, 56, 57, 58, 59, 60, 61, 62, 63, 64, 65, 66, 67, 68, 69, 70, 71, 72, 73, 74, 75, 76, 77, 78, 79, 80, 81, 82, 88, 89, 90, 91, 92, 93, 94, 95, 96, 97, 98, 99, 100, 101, 102, 103, 104, 105, 106, 107, 83, 84, 85, 86, 87, 108, 109, 110] (by decide +kernel) (by decide +kernel)
set_option maxRecDepth 20000 in
theorem gX3_countWrongCode_X3_settleAll : GoodIn wsX3_countWrongCode (wsV RX3 74 RX3 yX3_settleAll wsX3_settleAll) := goodIn_app (goodIn_of _ (by decide +kernel)) ggX3_countWrongCode_X3_settleAll
theorem dX3_countWrongCode_0 : decode cX3_countWrongCode 0 = .ok (.aload_n 1, 1) := by decide +kernel
theorem dX3_countWrongCode_1 : decode cX3_countWrongCode 1 = .ok (.dup, 1) := by decide +kernel
theorem dX3_countWrongCode_2 : decode cX3_countWrongCode 2 = .ok (.getfield 142, 3) := by decide +kernel
theorem dX3_countWrongCode_5 : decode cX3_countWrongCode 5 = .ok (.iconst 1, 1) := by decide +kernel
theorem dX3_countWrongCode_6 : decode cX3_countWrongCode 6 = .ok (.iadd, 1) := by decide +kernel
theorem dX3_countWrongCode_7 : decode cX3_countWrongCode 7 = .ok (.putfield 142, 3) := by decide +kernel
theorem dX3_countWrongCode_10 : decode cX3_countWrongCode 10 = .ok (.aload_n 1, 1) := by decide +kernel
theorem dX3_countWrongCode_11 : decode cX3_countWrongCode 11 = .ok (.getfield 142, 3) := by decide +kernel
theorem dX3_countWrongCode_14 : decode cX3_countWrongCode 14 = .ok (.iconst 3, 1) := by decide +kernel
theorem dX3_countWrongCode_15 : decode cX3_countWrongCode 15 = .ok (.if_icmp .lt 12, 3) := by decide +kernel
theorem dX3_countWrongCode_18 : decode cX3_countWrongCode 18 = .ok (.aload_n 1, 1) := by decide +kernel
theorem dX3_countWrongCode_19 : decode cX3_countWrongCode 19 = .ok (.iconst 1, 1) := by decide +kernel
theorem dX3_countWrongCode_20 : decode cX3_countWrongCode 20 = .ok (.putfield 130, 3) := by decide +kernel
theorem dX3_countWrongCode_23 : decode cX3_countWrongCode 23 = .ok (.aload_n 0, 1) := by decide +kernel
theorem dX3_countWrongCode_24 : decode cX3_countWrongCode 24 = .ok (.invokevirtual 74, 3) := by decide +kernel
theorem dX3_countWrongCode_27 : decode cX3_countWrongCode 27 = .ok (.return_, 1) := by decide +kernel
set_option maxRecDepth 20000 in
theorem ggX3_trustOf_X3_isWithin : GoodIn wsX3_trustOf wsX3_isWithin := goodIn_r _ [7] (by decide +kernel) (by decide +kernel)
set_option maxRecDepth 20000 in
theorem gX3_trustOf_X3_isWithin : GoodIn wsX3_trustOf (va_wsS RX3 49 yX3_isWithin wsX3_isWithin) := goodIn_app (goodIn_of _ (by decide +kernel)) ggX3_trustOf_X3_isWithin
theorem dX3_trustOf_0 : decode cX3_trustOf 0 = .ok (.iload_n 1, 1) := by decide +kernel
theorem dX3_trustOf_1 : decode cX3_trustOf 1 = .ok (.iconst 0, 1) := by decide +kernel
theorem dX3_trustOf_2 : decode cX3_trustOf 2 = .ok (.bipush 13, 2) := by decide +kernel
theorem dX3_trustOf_4 : decode cX3_trustOf 4 = .ok (.invokestatic 49, 3) := by decide +kernel
theorem dX3_trustOf_7 : decode cX3_trustOf 7 = .ok (.ifCond .ne 6, 3) := by decide +kernel
theorem dX3_trustOf_10 : decode cX3_trustOf 10 = .ok (.bipush 50, 2) := by decide +kernel
theorem dX3_trustOf_12 : decode cX3_trustOf 12 = .ok (.ireturn, 1) := by decide +kernel
theorem dX3_trustOf_13 : decode cX3_trustOf 13 = .ok (.iload_n 1, 1) := by decide +kernel
theorem dX3_trustOf_14 : decode cX3_trustOf 14 = .ok (.iconst 4, 1) := by decide +kernel
theorem dX3_trustOf_15 : decode cX3_trustOf 15 = .ok (.if_icmp .lt 19, 3) := by decide +kernel
theorem dX3_trustOf_18 : decode cX3_trustOf 18 = .ok (.aload_n 0, 1) := by decide +kernel
theorem dX3_trustOf_19 : decode cX3_trustOf 19 = .ok (.getfield 17, 3) := by decide +kernel
theorem dX3_trustOf_22 : decode cX3_trustOf 22 = .ok (.iload_n 1, 1) := by decide +kernel
theorem dX3_trustOf_23 : decode cX3_trustOf 23 = .ok (.iconst 4, 1) := by decide +kernel
theorem dX3_trustOf_24 : decode cX3_trustOf 24 = .ok (.isub, 1) := by decide +kernel
theorem dX3_trustOf_25 : decode cX3_trustOf 25 = .ok (.aaload, 1) := by decide +kernel
theorem dX3_trustOf_26 : decode cX3_trustOf 26 = .ok (.getfield 130, 3) := by decide +kernel
theorem dX3_trustOf_29 : decode cX3_trustOf 29 = .ok (.ifCond .eq 5, 3) := by decide +kernel
theorem dX3_trustOf_32 : decode cX3_trustOf 32 = .ok (.iconst 1, 1) := by decide +kernel
theorem dX3_trustOf_33 : decode cX3_trustOf 33 = .ok (.ireturn, 1) := by decide +kernel
theorem dX3_trustOf_34 : decode cX3_trustOf 34 = .ok (.aload_n 0, 1) := by decide +kernel
theorem dX3_trustOf_35 : decode cX3_trustOf 35 = .ok (.getfield 21, 3) := by decide +kernel
theorem dX3_trustOf_38 : decode cX3_trustOf 38 = .ok (.iload_n 1, 1) := by decide +kernel
theorem dX3_trustOf_39 : decode cX3_trustOf 39 = .ok (.iaload, 1) := by decide +kernel
theorem dX3_trustOf_40 : decode cX3_trustOf 40 = .ok (.ireturn, 1) := by decide +kernel
set_option maxRecDepth 20000 in
theorem ggX3_weighScans_X3_trustOf : GoodIn wsX3_weighScans wsX3_trustOf := goodIn_r _ [8, 9, 10, 11, 12, 13, 7, 14, 26, 27, 28, 29, 30, 31, 32, 33, 34, 35, 36, 37, 38, 39] (by decide +kernel) (by decide +kernel)
set_option maxRecDepth 20000 in
theorem gX3_weighScans_X3_trustOf : GoodIn wsX3_weighScans (wsV RX3 235 RX3 yX3_trustOf wsX3_trustOf) := goodIn_app (goodIn_of _ (by decide +kernel)) ggX3_weighScans_X3_trustOf
theorem dX3_weighScans_0 : decode cX3_weighScans 0 = .ok (.iconst 0, 1) := by decide +kernel
theorem dX3_weighScans_1 : decode cX3_weighScans 1 = .ok (.istore_n 2, 1) := by decide +kernel
theorem dX3_weighScans_2 : decode cX3_weighScans 2 = .ok (.iload_n 2, 1) := by decide +kernel
theorem dX3_weighScans_3 : decode cX3_weighScans 3 = .ok (.aload_n 1, 1) := by decide +kernel
theorem dX3_weighScans_4 : decode cX3_weighScans 4 = .ok (.getfield 171, 3) := by decide +kernel
theorem dX3_weighScans_7 : decode cX3_weighScans 7 = .ok (.if_icmp .ge 33, 3) := by decide +kernel
theorem dX3_weighScans_10 : decode cX3_weighScans 10 = .ok (.aload_n 0, 1) := by decide +kernel
theorem dX3_weighScans_11 : decode cX3_weighScans 11 = .ok (.getfield 32, 3) := by decide +kernel
theorem dX3_weighScans_14 : decode cX3_weighScans 14 = .ok (.iload_n 2, 1) := by decide +kernel
theorem dX3_weighScans_15 : decode cX3_weighScans 15 = .ok (.aload_n 0, 1) := by decide +kernel
theorem dX3_weighScans_16 : decode cX3_weighScans 16 = .ok (.aload_n 1, 1) := by decide +kernel
theorem dX3_weighScans_17 : decode cX3_weighScans 17 = .ok (.getfield 232, 3) := by decide +kernel
theorem dX3_weighScans_20 : decode cX3_weighScans 20 = .ok (.iload_n 2, 1) := by decide +kernel
theorem dX3_weighScans_21 : decode cX3_weighScans 21 = .ok (.iaload, 1) := by decide +kernel
theorem dX3_weighScans_22 : decode cX3_weighScans 22 = .ok (.invokevirtual 235, 3) := by decide +kernel
theorem dX3_weighScans_25 : decode cX3_weighScans 25 = .ok (.sipush 4096, 3) := by decide +kernel
theorem dX3_weighScans_28 : decode cX3_weighScans 28 = .ok (.imul, 1) := by decide +kernel
theorem dX3_weighScans_29 : decode cX3_weighScans 29 = .ok (.iconst 1, 1) := by decide +kernel
theorem dX3_weighScans_30 : decode cX3_weighScans 30 = .ok (.iload_n 2, 1) := by decide +kernel
theorem dX3_weighScans_31 : decode cX3_weighScans 31 = .ok (.ishl, 1) := by decide +kernel
theorem dX3_weighScans_32 : decode cX3_weighScans 32 = .ok (.iadd, 1) := by decide +kernel
theorem dX3_weighScans_33 : decode cX3_weighScans 33 = .ok (.iastore, 1) := by decide +kernel
theorem dX3_weighScans_34 : decode cX3_weighScans 34 = .ok (.iinc 2 1, 3) := by decide +kernel
theorem dX3_weighScans_37 : decode cX3_weighScans 37 = .ok (.goto (-35), 3) := by decide +kernel
theorem dX3_weighScans_40 : decode cX3_weighScans 40 = .ok (.return_, 1) := by decide +kernel
set_option maxRecDepth 20000 in
theorem ggX3_greatestWorth_X0_canFollow : GoodIn wsX3_greatestWorth wsX0_canFollow := goodIn_r _ [10, 11, 15, 16, 17, 18, 19, 20, 21, 22, 23, 24, 25] (by decide +kernel) (by decide +kernel)
set_option maxRecDepth 20000 in
theorem gX3_greatestWorth_X0_canFollow : GoodIn wsX3_greatestWorth (wsV RX3 238 RX0 yX0_canFollow wsX0_canFollow) := goodIn_app (goodIn_of _ (by decide +kernel)) ggX3_greatestWorth_X0_canFollow
set_option maxRecDepth 20000 in
theorem ggX3_greatestWorth_X3_greatestWorth : GoodIn wsX3_greatestWorth wsX3_greatestWorth := goodIn_r _ [0, 1, 2, 3, 4, 5, 6, 7, 8, 9, 10, 11, 12, 13, 14, 15, 16, 17, 18, 19, 20, 21, 22, 23, 24, 25] (by decide +kernel) (by decide +kernel)
set_option maxRecDepth 20000 in
theorem gX3_greatestWorth_X3_greatestWorth : GoodIn wsX3_greatestWorth (va_wsS RX3 180 yX3_greatestWorth wsX3_greatestWorth) := goodIn_app (goodIn_of _ (by decide +kernel)) ggX3_greatestWorth_X3_greatestWorth
theorem dX3_greatestWorth_0 : decode cX3_greatestWorth 0 = .ok (.iload_n 3, 1) := by decide +kernel
theorem dX3_greatestWorth_1 : decode cX3_greatestWorth 1 = .ok (.istore 5, 2) := by decide +kernel
theorem dX3_greatestWorth_3 : decode cX3_greatestWorth 3 = .ok (.iload 4, 2) := by decide +kernel
theorem dX3_greatestWorth_5 : decode cX3_greatestWorth 5 = .ok (.aload_n 0, 1) := by decide +kernel
theorem dX3_greatestWorth_6 : decode cX3_greatestWorth 6 = .ok (.getfield 171, 3) := by decide +kernel
theorem dX3_greatestWorth_9 : decode cX3_greatestWorth 9 = .ok (.if_icmp .lt 6, 3) := by decide +kernel
theorem dX3_greatestWorth_12 : decode cX3_greatestWorth 12 = .ok (.iload 5, 2) := by decide +kernel
theorem dX3_greatestWorth_14 : decode cX3_greatestWorth 14 = .ok (.ireturn, 1) := by decide +kernel
theorem dX3_greatestWorth_15 : decode cX3_greatestWorth 15 = .ok (.iload_n 2, 1) := by decide +kernel
theorem dX3_greatestWorth_16 : decode cX3_greatestWorth 16 = .ok (.iconst 1, 1) := by decide +kernel
theorem dX3_greatestWorth_17 : decode cX3_greatestWorth 17 = .ok (.iadd, 1) := by decide +kernel
theorem dX3_greatestWorth_18 : decode cX3_greatestWorth 18 = .ok (.istore 6, 2) := by decide +kernel
theorem dX3_greatestWorth_20 : decode cX3_greatestWorth 20 = .ok (.iload 6, 2) := by decide +kernel
theorem dX3_greatestWorth_22 : decode cX3_greatestWorth 22 = .ok (.aload_n 0, 1) := by decide +kernel
theorem dX3_greatestWorth_23 : decode cX3_greatestWorth 23 = .ok (.getfield 171, 3) := by decide +kernel
theorem dX3_greatestWorth_26 : decode cX3_greatestWorth 26 = .ok (.if_icmp .ge 47, 3) := by decide +kernel
theorem dX3_greatestWorth_29 : decode cX3_greatestWorth 29 = .ok (.aload_n 0, 1) := by decide +kernel
theorem dX3_greatestWorth_30 : decode cX3_greatestWorth 30 = .ok (.iload_n 2, 1) := by decide +kernel
theorem dX3_greatestWorth_31 : decode cX3_greatestWorth 31 = .ok (.iload 6, 2) := by decide +kernel
theorem dX3_greatestWorth_33 : decode cX3_greatestWorth 33 = .ok (.invokevirtual 238, 3) := by decide +kernel
theorem dX3_greatestWorth_36 : decode cX3_greatestWorth 36 = .ok (.ifCond .eq 31, 3) := by decide +kernel
theorem dX3_greatestWorth_39 : decode cX3_greatestWorth 39 = .ok (.iload_n 3, 1) := by decide +kernel
theorem dX3_greatestWorth_40 : decode cX3_greatestWorth 40 = .ok (.aload_n 1, 1) := by decide +kernel
theorem dX3_greatestWorth_41 : decode cX3_greatestWorth 41 = .ok (.iload 6, 2) := by decide +kernel
theorem dX3_greatestWorth_43 : decode cX3_greatestWorth 43 = .ok (.iaload, 1) := by decide +kernel
theorem dX3_greatestWorth_44 : decode cX3_greatestWorth 44 = .ok (.iadd, 1) := by decide +kernel
theorem dX3_greatestWorth_45 : decode cX3_greatestWorth 45 = .ok (.istore 7, 2) := by decide +kernel
theorem dX3_greatestWorth_47 : decode cX3_greatestWorth 47 = .ok (.iload 5, 2) := by decide +kernel
theorem dX3_greatestWorth_49 : decode cX3_greatestWorth 49 = .ok (.aload_n 0, 1) := by decide +kernel
theorem dX3_greatestWorth_50 : decode cX3_greatestWorth 50 = .ok (.aload_n 1, 1) := by decide +kernel
theorem dX3_greatestWorth_51 : decode cX3_greatestWorth 51 = .ok (.iload 6, 2) := by decide +kernel
theorem dX3_greatestWorth_53 : decode cX3_greatestWorth 53 = .ok (.iload 7, 2) := by decide +kernel
theorem dX3_greatestWorth_55 : decode cX3_greatestWorth 55 = .ok (.iload 4, 2) := by decide +kernel
theorem dX3_greatestWorth_57 : decode cX3_greatestWorth 57 = .ok (.iconst 1, 1) := by decide +kernel
theorem dX3_greatestWorth_58 : decode cX3_greatestWorth 58 = .ok (.iadd, 1) := by decide +kernel
theorem dX3_greatestWorth_59 : decode cX3_greatestWorth 59 = .ok (.invokestatic 180, 3) := by decide +kernel
theorem dX3_greatestWorth_62 : decode cX3_greatestWorth 62 = .ok (.invokestatic 206, 3) := by decide +kernel
theorem dX3_greatestWorth_65 : decode cX3_greatestWorth 65 = .ok (.istore 5, 2) := by decide +kernel
theorem dX3_greatestWorth_67 : decode cX3_greatestWorth 67 = .ok (.iinc 6 1, 3) := by decide +kernel
theorem dX3_greatestWorth_70 : decode cX3_greatestWorth 70 = .ok (.goto (-50), 3) := by decide +kernel
theorem dX3_greatestWorth_73 : decode cX3_greatestWorth 73 = .ok (.iload 5, 2) := by decide +kernel
theorem dX3_greatestWorth_75 : decode cX3_greatestWorth 75 = .ok (.ireturn, 1) := by decide +kernel
set_option maxRecDepth 20000 in
theorem ggX3_settleAll_X3_settle : GoodIn wsX3_settleAll wsX3_settle := goodIn_r _ [6, 7, 8, 9, 10, 11, 12, 13, 14, 15, 16, 17, 5, 18, 19, 20, 21, 22, 23, 24, 25, 26, 27, 28, 29, 30, 31, 32, 33, 34, 35, 36, 37, 38, 39, 40, 41, 42, 43, 44, 45, 46, 47, 48, 49, 50, 51, 52, 53, 54, 55, 56, 57, 58, 59, 60, 61, 62, 63, 64, 65, 66, 67, 68, 69, 70, 71, 72, 73, 74, 75, 76, 77, 78, 79, 80, 81, 82, 83, 84, 85, 86, 87, 88, 89, 90, 91, 92, 93, 94, 95, 96, 97, 98, 99, 100, 101, 102, 103, 104, 105] (by decide +kernel) (by decide +kernel)
set_option maxRecDepth 20000 in
theorem gX3_settleAll_X3_settle : GoodIn wsX3_settleAll (wsV RX3 229 RX3 yX3_settle wsX3_settle) := goodIn_app (goodIn_of _ (by decide +kernel)) ggX3_settleAll_X3_settle
theorem dX3_settleAll_0 : decode cX3_settleAll 0 = .ok (.aload_n 0, 1) := by decide +kernel
theorem dX3_settleAll_1 : decode cX3_settleAll 1 = .ok (.getfield 11, 3) := by decide +kernel
theorem dX3_settleAll_4 : decode cX3_settleAll 4 = .ok (.astore_n 1, 1) := by decide +kernel
theorem dX3_settleAll_5 : decode cX3_settleAll 5 = .ok (.aload_n 1, 1) := by decide +kernel
theorem dX3_settleAll_6 : decode cX3_settleAll 6 = .ok (.arraylength, 1) := by decide +kernel
theorem dX3_settleAll_7 : decode cX3_settleAll 7 = .ok (.istore_n 2, 1) := by decide +kernel
theorem dX3_settleAll_8 : decode cX3_settleAll 8 = .ok (.iconst 0, 1) := by decide +kernel
theorem dX3_settleAll_9 : decode cX3_settleAll 9 = .ok (.istore_n 3, 1) := by decide +kernel
theorem dX3_settleAll_10 : decode cX3_settleAll 10 = .ok (.iload_n 3, 1) := by decide +kernel
theorem dX3_settleAll_11 : decode cX3_settleAll 11 = .ok (.iload_n 2, 1) := by decide +kernel
theorem dX3_settleAll_12 : decode cX3_settleAll 12 = .ok (.if_icmp .ge 25, 3) := by decide +kernel
theorem dX3_settleAll_15 : decode cX3_settleAll 15 = .ok (.aload_n 1, 1) := by decide +kernel
theorem dX3_settleAll_16 : decode cX3_settleAll 16 = .ok (.iload_n 3, 1) := by decide +kernel
theorem dX3_settleAll_17 : decode cX3_settleAll 17 = .ok (.aaload, 1) := by decide +kernel
theorem dX3_settleAll_18 : decode cX3_settleAll 18 = .ok (.astore 4, 2) := by decide +kernel
theorem dX3_settleAll_20 : decode cX3_settleAll 20 = .ok (.aload 4, 2) := by decide +kernel
theorem dX3_settleAll_22 : decode cX3_settleAll 22 = .ok (.ifnull 9, 3) := by decide +kernel
theorem dX3_settleAll_25 : decode cX3_settleAll 25 = .ok (.aload_n 0, 1) := by decide +kernel
theorem dX3_settleAll_26 : decode cX3_settleAll 26 = .ok (.aload 4, 2) := by decide +kernel
theorem dX3_settleAll_28 : decode cX3_settleAll 28 = .ok (.invokevirtual 229, 3) := by decide +kernel
theorem dX3_settleAll_31 : decode cX3_settleAll 31 = .ok (.iinc 3 1, 3) := by decide +kernel
theorem dX3_settleAll_34 : decode cX3_settleAll 34 = .ok (.goto (-24), 3) := by decide +kernel
theorem dX3_settleAll_37 : decode cX3_settleAll 37 = .ok (.return_, 1) := by decide +kernel
set_option maxRecDepth 20000 in
theorem ggX3_settle_X3_weighScans : GoodIn wsX3_settle wsX3_weighScans := goodIn_r _ [13, 14, 1, 15, 16, 17, 18, 12, 19, 20, 21, 22, 23, 24, 25, 82, 83, 84, 85, 86, 87, 88, 89, 90, 91, 92, 73, 74, 75, 76, 77, 78, 79, 80, 81, 93, 94, 95, 96, 97] (by decide +kernel) (by decide +kernel)
set_option maxRecDepth 20000 in
theorem gX3_settle_X3_weighScans : GoodIn wsX3_settle (wsV RX3 177 RX3 yX3_weighScans wsX3_weighScans) := goodIn_app (goodIn_of _ (by decide +kernel)) ggX3_settle_X3_weighScans
set_option maxRecDepth 20000 in
theorem ggX3_settle_X0_chooseStory : GoodIn wsX3_settle wsX0_chooseStory := goodIn_r _ [30, 31, 32, 33, 34, 35, 36, 37, 38, 39, 29, 40, 41, 82, 83, 84, 85, 86, 87, 88, 89, 90, 91, 92] (by decide +kernel) (by decide +kernel)
set_option maxRecDepth 20000 in
theorem gX3_settle_X0_chooseStory : GoodIn wsX3_settle (wsV RX3 242 RX0 yX0_chooseStory wsX0_chooseStory) := goodIn_app (goodIn_of _ (by decide +kernel)) ggX3_settle_X0_chooseStory
set_option maxRecDepth 20000 in
theorem ggX3_settle_X0_isDelivered : GoodIn wsX3_settle wsX0_isDelivered := goodIn_r _ [45, 46, 47, 48, 29, 49, 31, 50, 51, 52, 53, 54, 36, 82, 83, 84, 85, 86, 87, 88, 89, 90, 91, 92] (by decide +kernel) (by decide +kernel)
set_option maxRecDepth 20000 in
theorem gX3_settle_X0_isDelivered : GoodIn wsX3_settle (wsV RX3 153 RX0 yX0_isDelivered wsX0_isDelivered) := goodIn_app (goodIn_of _ (by decide +kernel)) ggX3_settle_X0_isDelivered
set_option maxRecDepth 20000 in
theorem ggX3_settle_X2_claimBack : GoodIn wsX3_settle wsX2_claimBack := goodIn_r _ [59, 60, 61, 98, 99, 100] (by decide +kernel) (by decide +kernel)
set_option maxRecDepth 20000 in
theorem gX3_settle_X2_claimBack : GoodIn wsX3_settle (wsV RX3 246 RX2 yX2_claimBack wsX2_claimBack) := goodIn_app (goodIn_of _ (by decide +kernel)) ggX3_settle_X2_claimBack
set_option maxRecDepth 20000 in
theorem ggX3_settle_X0_deliverer : GoodIn wsX3_settle wsX0_deliverer := goodIn_r _ [65, 31, 50, 66, 12, 67, 23, 24, 25, 51, 52, 53, 29, 54, 36, 82, 83, 84, 85, 86, 87, 88, 89, 90, 91, 92] (by decide +kernel) (by decide +kernel)
set_option maxRecDepth 20000 in
theorem gX3_settle_X0_deliverer : GoodIn wsX3_settle (wsV RX3 249 RX0 yX0_deliverer wsX0_deliverer) := goodIn_app (goodIn_of _ (by decide +kernel)) ggX3_settle_X0_deliverer
set_option maxRecDepth 20000 in
theorem ggX3_settle_X2_writeFee : GoodIn wsX3_settle wsX2_writeFee := goodIn_r _ [71, 72, 61, 98, 99, 100] (by decide +kernel) (by decide +kernel)
set_option maxRecDepth 20000 in
theorem gX3_settle_X2_writeFee : GoodIn wsX3_settle (wsV RX3 255 RX2 yX2_writeFee wsX2_writeFee) := goodIn_app (goodIn_of _ (by decide +kernel)) ggX3_settle_X2_writeFee
theorem dX3_settle_0 : decode cX3_settle 0 = .ok (.aload_n 0, 1) := by decide +kernel
theorem dX3_settle_1 : decode cX3_settle 1 = .ok (.aload_n 1, 1) := by decide +kernel
theorem dX3_settle_2 : decode cX3_settle 2 = .ok (.invokevirtual 177, 3) := by decide +kernel
theorem dX3_settle_5 : decode cX3_settle 5 = .ok (.aload_n 1, 1) := by decide +kernel
theorem dX3_settle_6 : decode cX3_settle 6 = .ok (.aload_n 0, 1) := by decide +kernel
theorem dX3_settle_7 : decode cX3_settle 7 = .ok (.getfield 32, 3) := by decide +kernel
theorem dX3_settle_10 : decode cX3_settle 10 = .ok (.aload_n 0, 1) := by decide +kernel
theorem dX3_settle_11 : decode cX3_settle 11 = .ok (.getfield 35, 3) := by decide +kernel
theorem dX3_settle_14 : decode cX3_settle 14 = .ok (.invokevirtual 242, 3) := by decide +kernel
theorem dX3_settle_17 : decode cX3_settle 17 = .ok (.aload_n 1, 1) := by decide +kernel
theorem dX3_settle_18 : decode cX3_settle 18 = .ok (.invokevirtual 153, 3) := by decide +kernel
theorem dX3_settle_21 : decode cX3_settle 21 = .ok (.istore_n 2, 1) := by decide +kernel
theorem dX3_settle_22 : decode cX3_settle 22 = .ok (.iload_n 2, 1) := by decide +kernel
theorem dX3_settle_23 : decode cX3_settle 23 = .ok (.ifCond .eq 26, 3) := by decide +kernel
theorem dX3_settle_26 : decode cX3_settle 26 = .ok (.aload_n 1, 1) := by decide +kernel
theorem dX3_settle_27 : decode cX3_settle 27 = .ok (.getfield 156, 3) := by decide +kernel
theorem dX3_settle_30 : decode cX3_settle 30 = .ok (.ifCond .eq 19, 3) := by decide +kernel
theorem dX3_settle_33 : decode cX3_settle 33 = .ok (.aload_n 1, 1) := by decide +kernel
theorem dX3_settle_34 : decode cX3_settle 34 = .ok (.iconst 0, 1) := by decide +kernel
theorem dX3_settle_35 : decode cX3_settle 35 = .ok (.putfield 156, 3) := by decide +kernel
theorem dX3_settle_38 : decode cX3_settle 38 = .ok (.aload_n 0, 1) := by decide +kernel
theorem dX3_settle_39 : decode cX3_settle 39 = .ok (.getfield 28, 3) := by decide +kernel
theorem dX3_settle_42 : decode cX3_settle 42 = .ok (.aload_n 1, 1) := by decide +kernel
theorem dX3_settle_43 : decode cX3_settle 43 = .ok (.getfield 165, 3) := by decide +kernel
theorem dX3_settle_46 : decode cX3_settle 46 = .ok (.invokevirtual 246, 3) := by decide +kernel
theorem dX3_settle_49 : decode cX3_settle 49 = .ok (.iload_n 2, 1) := by decide +kernel
theorem dX3_settle_50 : decode cX3_settle 50 = .ok (.ifCond .eq 41, 3) := by decide +kernel
theorem dX3_settle_53 : decode cX3_settle 53 = .ok (.aload_n 1, 1) := by decide +kernel
theorem dX3_settle_54 : decode cX3_settle 54 = .ok (.getfield 191, 3) := by decide +kernel
theorem dX3_settle_57 : decode cX3_settle 57 = .ok (.ifCond .ne 34, 3) := by decide +kernel
theorem dX3_settle_60 : decode cX3_settle 60 = .ok (.aload_n 1, 1) := by decide +kernel
theorem dX3_settle_61 : decode cX3_settle 61 = .ok (.iconst 1, 1) := by decide +kernel
theorem dX3_settle_62 : decode cX3_settle 62 = .ok (.putfield 191, 3) := by decide +kernel
theorem dX3_settle_65 : decode cX3_settle 65 = .ok (.aload_n 1, 1) := by decide +kernel
theorem dX3_settle_66 : decode cX3_settle 66 = .ok (.aload_n 1, 1) := by decide +kernel
theorem dX3_settle_67 : decode cX3_settle 67 = .ok (.invokevirtual 249, 3) := by decide +kernel
theorem dX3_settle_70 : decode cX3_settle 70 = .ok (.putfield 252, 3) := by decide +kernel
theorem dX3_settle_73 : decode cX3_settle 73 = .ok (.aload_n 0, 1) := by decide +kernel
theorem dX3_settle_74 : decode cX3_settle 74 = .ok (.getfield 28, 3) := by decide +kernel
theorem dX3_settle_77 : decode cX3_settle 77 = .ok (.aload_n 1, 1) := by decide +kernel
theorem dX3_settle_78 : decode cX3_settle 78 = .ok (.getfield 252, 3) := by decide +kernel
theorem dX3_settle_81 : decode cX3_settle 81 = .ok (.bipush 10, 2) := by decide +kernel
theorem dX3_settle_83 : decode cX3_settle 83 = .ok (.aload_n 1, 1) := by decide +kernel
theorem dX3_settle_84 : decode cX3_settle 84 = .ok (.getfield 107, 3) := by decide +kernel
theorem dX3_settle_87 : decode cX3_settle 87 = .ok (.imul, 1) := by decide +kernel
theorem dX3_settle_88 : decode cX3_settle 88 = .ok (.invokevirtual 255, 3) := by decide +kernel
theorem dX3_settle_91 : decode cX3_settle 91 = .ok (.iload_n 2, 1) := by decide +kernel
theorem dX3_settle_92 : decode cX3_settle 92 = .ok (.ifCond .ne 33, 3) := by decide +kernel
theorem dX3_settle_95 : decode cX3_settle 95 = .ok (.aload_n 1, 1) := by decide +kernel
theorem dX3_settle_96 : decode cX3_settle 96 = .ok (.getfield 191, 3) := by decide +kernel
theorem dX3_settle_99 : decode cX3_settle 99 = .ok (.ifCond .eq 26, 3) := by decide +kernel
theorem dX3_settle_102 : decode cX3_settle 102 = .ok (.aload_n 1, 1) := by decide +kernel
theorem dX3_settle_103 : decode cX3_settle 103 = .ok (.iconst 0, 1) := by decide +kernel
theorem dX3_settle_104 : decode cX3_settle 104 = .ok (.putfield 191, 3) := by decide +kernel
theorem dX3_settle_107 : decode cX3_settle 107 = .ok (.aload_n 0, 1) := by decide +kernel
theorem dX3_settle_108 : decode cX3_settle 108 = .ok (.getfield 28, 3) := by decide +kernel
theorem dX3_settle_111 : decode cX3_settle 111 = .ok (.aload_n 1, 1) := by decide +kernel
theorem dX3_settle_112 : decode cX3_settle 112 = .ok (.getfield 252, 3) := by decide +kernel
theorem dX3_settle_115 : decode cX3_settle 115 = .ok (.bipush (-10), 2) := by decide +kernel
theorem dX3_settle_117 : decode cX3_settle 117 = .ok (.aload_n 1, 1) := by decide +kernel
theorem dX3_settle_118 : decode cX3_settle 118 = .ok (.getfield 107, 3) := by decide +kernel
theorem dX3_settle_121 : decode cX3_settle 121 = .ok (.imul, 1) := by decide +kernel
theorem dX3_settle_122 : decode cX3_settle 122 = .ok (.invokevirtual 255, 3) := by decide +kernel
theorem dX3_settle_125 : decode cX3_settle 125 = .ok (.return_, 1) := by decide +kernel
end
section
/-! THE WORLD: every cell of two towns (kinds 0 to 13; 14 to 27), by kind and number; what it holds: sg kind number place; ad 40 0: how many boxes the second has -/
abbrev kx_S : Type := Nat → Nat → Nat → Int32
abbrev kx_A : Type := Nat → Nat → Nat
abbrev kx_G : Type := va_G × (Nat → ClassId)
def kx_cell (cy : Nat → ClassId) (ad : kx_A) (nb q n : Nat) (r : Nat → Int32) : va_E := match q with
  | 0 => .inr (3, [.ref (ad 1 0), .ref (ad 2 0), .ref (ad 3 0), .ref (ad 4 0), .ref (ad 6 0), .ref (ad 7 0), .int (r 6), .int (r 7), .int (r 8)])
  | 1 => .inl (cy 2, 16, .inr (.inr (.inr (.inr (fun i => if i < nb then some (ad 9 i) else none)))))
  | 2 => .inl (cy 3, 10, .inr (.inr (.inr (.inr (fun i => some (ad 8 i))))))
  | 3 => .inl (cy 0, 14, .inl r)
  | 4 => .inr (2, [.ref (ad 5 0), .int (r 1), .int (r 2)])
  | 5 => .inl (cy 0, 4, .inl r)
  | 6 => .inl (cy 0, 12, .inl r)
  | 7 => .inl (cy 0, 12, .inl r)
  | 8 => .inr (1, [.int (r 0), .int (r 1), .int (r 2), .int (r 3), .int (r 4)])
  | 9 => .inr (0, [.int (r 0), .int (r 1), .ref (ad 10 n), .ref (ad 11 n), .ref (ad 12 n), .ref (ad 13 n), .int (r 6), .int (r 7), .int (r 8), .int (r 9), .int (r 10)])
  | 10 => .inl (cy 0, 12, .inl r)
  | 11 => .inl (cy 0, 12, .inl r)
  | 12 => .inl (cy 0, 12, .inl r)
  | 13 => .inl (cy 0, 12, .inl r)
  | _ => .inl (cy 0, 12, .inl r)
def kx_live (nb q n : Nat) : Prop := match q with
  | 8 => n < 10
  | 9 => n < nb
  | 10 => n < nb
  | 11 => n < nb
  | 12 => n < nb
  | 13 => n < nb
  | q => q < 14 ∧ n = 0
def kx_W1 (G : kx_G) (z0 : Nat) (ad : kx_A) (nb : Nat) (sg : kx_S) (H : Heap) : Prop :=
  (∀ q n, kx_live nb q n → va_at G.1 vwCl (ad q n, kx_cell G.2 ad nb q n (sg q n)) H) ∧ (∀ q n q' n', kx_live nb q n → kx_live nb q' n' → ad q n = ad q' n' → q = q' ∧ n = n') ∧ (∀ q n, kx_live nb q n → z0 ≤ ad q n)
def kx_a2 (ad : kx_A) : kx_A := fun q n => ad (q + 14) n
def kx_s2 (sg : kx_S) : kx_S := fun q n => sg (q + 14) n
def kx_Ap (ad : kx_A) (nb nb2 : Nat) : Prop := ∀ q n q' n', kx_live nb q n → kx_live nb2 q' n' → ad q n ≠ kx_a2 ad q' n'
def kx_Wd (G : kx_G) (z0 : Nat) (ad : kx_A) (nb : Nat) (sg : kx_S) (H : Heap) : Prop :=
  kx_W1 G z0 ad nb sg H ∧ kx_W1 G z0 (kx_a2 ad) (ad 40 0) (kx_s2 sg) H ∧ kx_Ap ad nb (ad 40 0)
theorem kx_live14 {nb q n : Nat} (h : kx_live nb q n) : q < 14 := by
  unfold kx_live at h
  split at h <;> first | decide | exact h.1 | omega
def kx_up (sg : kx_S) (q n : Nat) (r : Nat → Int32) : kx_S := fun q' n' => if q' = q ∧ n' = n then r else sg q' n'
theorem kx_up_s {sg : kx_S} {q n : Nat} {r : Nat → Int32} : kx_up sg q n r q n = r := by simp [kx_up]
theorem kx_up_q {sg : kx_S} {q n q' n' : Nat} {r : Nat → Int32} (h : q' ≠ q) : kx_up sg q n r q' n' = sg q' n' := by simp [kx_up, h]
theorem kx_up_n {sg : kx_S} {q n q' n' : Nat} {r : Nat → Int32} (h : n' ≠ n) : kx_up sg q n r q' n' = sg q' n' := by simp [kx_up, h]
theorem kx_up_up {sg : kx_S} {q n : Nat} {r r2 : Nat → Int32} : kx_up (kx_up sg q n r) q n r2 = kx_up sg q n r2 := by
  funext q2 n2
  simp only [kx_up]
  split <;> rfl
theorem kx_up_id {sg : kx_S} {q n : Nat} : kx_up sg q n (sg q n) = sg := by
  funext q2 n2
  simp only [kx_up]
  split
  · rename_i h; rw [h.1, h.2]
  · rfl
theorem upd_s {f : Nat → Int32} {k : Nat} {x : Int32} : upd f k x k = x := by simp [upd]
theorem upd_n {f : Nat → Int32} {k j : Nat} {x : Int32} (h : j ≠ k) : upd f k x j = f j := by simp [upd, h]
theorem kx_W1.put {G : kx_G} {z0 : Nat} {ad : kx_A} {nb : Nat} {sg : kx_S} {H H1 : Heap} (h : kx_W1 G z0 ad nb sg H) {q n : Nat} (hq : kx_live nb q n) {r : Nat → Int32} (he : va_at G.1 vwCl (ad q n, kx_cell G.2 ad nb q n r) H1) (o : ∀ a : Nat, a ≠ ad q n → H1[a]? = H[a]?) : kx_W1 G z0 ad nb (kx_up sg q n r) H1 := by
  refine ⟨fun q' n' h' => ?_, h.2⟩
  by_cases e : q' = q ∧ n' = n
  · obtain ⟨rfl, rfl⟩ := e
    rw [kx_up_s]
    exact he
  · have e2 : kx_up sg q n r q' n' = sg q' n' := by simp only [kx_up, if_neg e]
    rw [e2]
    exact (h.1 q' n' h').kept (o _ (fun z => e (h.2.1 q' n' q n h' hq z)))
theorem kx_W1.keepL {G : kx_G} {z0 : Nat} {ad : kx_A} {nb : Nat} {sg : kx_S} {H H1 : Heap} (h : kx_W1 G z0 ad nb sg H) (o : ∀ q n, kx_live nb q n → H1[ad q n]? = H[ad q n]?) : kx_W1 G z0 ad nb sg H1 :=
  ⟨fun q n hq => (h.1 q n hq).kept (o q n hq), h.2⟩
theorem kx_W1.keep {G : kx_G} {z0 : Nat} {ad : kx_A} {nb : Nat} {sg : kx_S} {H H1 : Heap} (h : kx_W1 G z0 ad nb sg H) (o : ∀ a : Nat, a < H.size → H1[a]? = H[a]?) : kx_W1 G z0 ad nb sg H1 :=
  h.keepL fun q n hq => o _ (h.1 q n hq).lt
theorem kx_up_s2 {sg : kx_S} {q n : Nat} {r : Nat → Int32} (h : q < 14) : kx_s2 (kx_up sg q n r) = kx_s2 sg := by
  funext q2 n2
  show kx_up sg q n r (q2 + 14) n2 = sg (q2 + 14) n2
  exact kx_up_q (by omega)
theorem kx_Wd.one {G : kx_G} {z0 : Nat} {ad : kx_A} {nb : Nat} {sg : kx_S} {H : Heap} (h : kx_Wd G z0 ad nb sg H) {q n : Nat} (hq : kx_live nb q n) : va_P G.1 vwCl [(ad q n, kx_cell G.2 ad nb q n (sg q n))] H := by
  intro k x hk
  match k, hk with
  | 0, hk => cases hk; exact h.1.1 q n hq
  | k + 1, hk => simp at hk
theorem kx_Wd.put {G : kx_G} {z0 : Nat} {ad : kx_A} {nb : Nat} {sg : kx_S} {H H1 : Heap} (h : kx_Wd G z0 ad nb sg H) {q n : Nat} (hq : kx_live nb q n) {r : Nat → Int32} (he : va_at G.1 vwCl (ad q n, kx_cell G.2 ad nb q n r) H1) (o : ∀ a : Nat, a ≠ ad q n → H1[a]? = H[a]?) : kx_Wd G z0 ad nb (kx_up sg q n r) H1 := by
  refine ⟨h.1.put hq he o, ?_, h.2.2⟩
  rw [kx_up_s2 (kx_live14 hq)]
  exact h.2.1.keepL fun q' n' h' => o _ (fun z => h.2.2 q n q' n' hq h' z.symm)
theorem kx_Wd.keep {G : kx_G} {z0 : Nat} {ad : kx_A} {nb : Nat} {sg : kx_S} {H H1 : Heap} (h : kx_Wd G z0 ad nb sg H) (o : ∀ a : Nat, a < H.size → H1[a]? = H[a]?) : kx_Wd G z0 ad nb sg H1 :=
  ⟨h.1.keep o, h.2.1.keep o, h.2.2⟩
/-! the second town as the first -/
def kx_swA (ad : kx_A) (nb : Nat) : kx_A := fun q n => if q < 14 then ad (q + 14) n else if q < 28 then ad (q - 14) n else if q = 40 then nb else ad q n
def kx_swS (sg : kx_S) : kx_S := fun q n => if q < 14 then sg (q + 14) n else if q < 28 then sg (q - 14) n else sg q n
theorem kx_cell_eq {cy : Nat → ClassId} {ad ad' : kx_A} {nb q n : Nat} {r : Nat → Int32} (h : ∀ q n, q < 14 → ad' q n = ad q n) : kx_cell cy ad' nb q n r = kx_cell cy ad nb q n r := by
  unfold kx_cell
  split <;> simp [h]
theorem kx_W1.eq {G : kx_G} {z0 : Nat} {ad ad' : kx_A} {nb : Nat} {sg sg' : kx_S} {H : Heap} (w : kx_W1 G z0 ad nb sg H) (h : ∀ q n, q < 14 → ad' q n = ad q n) (h2 : ∀ q n, q < 14 → sg' q n = sg q n) : kx_W1 G z0 ad' nb sg' H := by
  refine ⟨fun q n hq => ?_, fun q n q' n' hq hq' e => ?_, fun q n hq => ?_⟩
  · rw [kx_cell_eq h, h q n (kx_live14 hq), h2 q n (kx_live14 hq)]
    exact w.1 q n hq
  · rw [h q n (kx_live14 hq), h q' n' (kx_live14 hq')] at e
    exact w.2.1 q n q' n' hq hq' e
  · rw [h q n (kx_live14 hq)]
    exact w.2.2 q n hq
theorem kx_Wd.sw {G : kx_G} {z0 : Nat} {ad : kx_A} {nb : Nat} {sg : kx_S} {H : Heap} (h : kx_Wd G z0 ad nb sg H) : kx_Wd G z0 (kx_swA ad nb) (ad 40 0) (kx_swS sg) H := by
  obtain ⟨h1, h2, h3⟩ := h
  have e40 : kx_swA ad nb 40 0 = nb := rfl
  refine ⟨h2.eq (fun q n hq => ?_) (fun q n hq => ?_), ?_, ?_⟩
  · show (if q < 14 then ad (q + 14) n else _) = ad (q + 14) n
    rw [if_pos hq]
  · show (if q < 14 then sg (q + 14) n else _) = sg (q + 14) n
    rw [if_pos hq]
  · rw [e40]
    refine h1.eq (fun q n hq => ?_) (fun q n hq => ?_)
    · show (if q + 14 < 14 then ad (q + 14 + 14) n else if q + 14 < 28 then ad (q + 14 - 14) n else _) = ad q n
      rw [if_neg (by omega), if_pos (by omega), Nat.add_sub_cancel]
    · show (if q + 14 < 14 then sg (q + 14 + 14) n else if q + 14 < 28 then sg (q + 14 - 14) n else _) = sg q n
      rw [if_neg (by omega), if_pos (by omega), Nat.add_sub_cancel]
  · rw [e40]
    intro q n q' n' hq hq' e
    refine h3 q' n' q n hq' hq ?_
    have a1 := kx_live14 hq
    have a2 := kx_live14 hq'
    have e1 : kx_swA ad nb q n = ad (q + 14) n := if_pos a1
    have e2 : kx_a2 (kx_swA ad nb) q' n' = ad q' n' := by
      show (if q' + 14 < 14 then ad (q' + 14 + 14) n' else if q' + 14 < 28 then ad (q' + 14 - 14) n' else _) = ad q' n'
      rw [if_neg (by omega), if_pos (by omega), Nat.add_sub_cancel]
    rw [e1, e2] at e
    exact e.symm
theorem kx_swA_1 {ad : kx_A} {nb q n : Nat} (h : q < 14) : kx_swA ad nb q n = ad (q + 14) n := if_pos h
theorem kx_swA_2 {ad : kx_A} {nb q n : Nat} (h : q < 14) : kx_swA ad nb (q + 14) n = ad q n := by
  show (if q + 14 < 14 then ad (q + 14 + 14) n else if q + 14 < 28 then ad (q + 14 - 14) n else if q + 14 = 40 then nb else ad (q + 14) n) = ad q n
  rw [if_neg (by omega), if_pos (by omega), Nat.add_sub_cancel]
theorem kx_swS_1 {sg : kx_S} {q n : Nat} (h : q < 14) : kx_swS sg q n = sg (q + 14) n := if_pos h
theorem kx_swS_2 {sg : kx_S} {q n : Nat} (h : q < 14) : kx_swS sg (q + 14) n = sg q n := by
  show (if q + 14 < 14 then sg (q + 14 + 14) n else if q + 14 < 28 then sg (q + 14 - 14) n else sg (q + 14) n) = sg q n
  rw [if_neg (by omega), if_pos (by omega), Nat.add_sub_cancel]
theorem kx_swS2 (sg : kx_S) : kx_swS (kx_swS sg) = sg := by
  funext q n
  by_cases h : q < 14
  · rw [kx_swS_1 h, kx_swS_2 h]
  · by_cases h2 : q < 28
    · obtain ⟨k, rfl⟩ : ∃ k, q = k + 14 := ⟨q - 14, by omega⟩
      rw [kx_swS_2 (by omega), kx_swS_1 (by omega)]
    · show (if q < 14 then _ else if q < 28 then _ else (if q < 14 then _ else if q < 28 then _ else sg q n)) = _
      rw [if_neg h, if_neg h2, if_neg h, if_neg h2]
/-- back again: what a call on the second town left -/
theorem kx_Wd.back {G : kx_G} {z0 : Nat} {ad : kx_A} {nb n2 : Nat} {sg : kx_S} {H : Heap} (h : kx_Wd G z0 (kx_swA ad nb) n2 sg H) (hn : ad 40 0 = n2) : kx_Wd G z0 ad nb (kx_swS sg) H := by
  have h9 := h.sw
  have e40 : kx_swA ad nb 40 0 = nb := rfl
  have e2 : kx_swA (kx_swA ad nb) n2 40 0 = n2 := rfl
  rw [e40] at h9
  refine ⟨h9.1.eq (fun q n hq => ?_) (fun q n hq => rfl), ?_, ?_⟩
  · rw [kx_swA_1 hq, kx_swA_2 hq]
  · have h8 := h9.2.1
    rw [e2] at h8
    rw [hn]
    refine h8.eq (fun q n hq => ?_) (fun q n hq => rfl)
    show ad (q + 14) n = kx_swA (kx_swA ad nb) n2 (q + 14) n
    rw [kx_swA_2 hq, kx_swA_1 hq]
  · have h8 := h9.2.2
    rw [e2] at h8
    rw [hn]
    intro q n q' n' hq hq' e
    refine h8 q n q' n' hq hq' ?_
    have a1 := kx_live14 hq
    have a2 := kx_live14 hq'
    have e3 : kx_swA (kx_swA ad nb) n2 q n = ad q n := by rw [kx_swA_1 a1, kx_swA_2 a1]
    have e4 : kx_a2 (kx_swA (kx_swA ad nb) n2) q' n' = ad (q' + 14) n' := by
      show kx_swA (kx_swA ad nb) n2 (q' + 14) n' = _
      rw [kx_swA_2 a2, kx_swA_1 a2]
    rw [e3, e4]
    exact e
/-! WHAT STAYS: classes, array classes, the table of minutes, what a throw reads, links of nest mates, texts -/
def kx_ty (cy : Nat → ClassId) : List (ClassId × FieldType) := [(cy 0, .int), (cy 0, .int), (cy 2, .object "Whichbox$Box"), (cy 3, .object "Whichbox$Door")]
def kx_min (k : Nat) : Int32 := match k with
  | 1 => 5 | 2 => 8 | 3 => 9 | 4 => 5 | 5 => 10 | 6 => 3 | 7 => 4 | 8 => 8 | 9 => 3 | 10 => 6 | 11 => 2 | 12 => 1000000 | 13 => 1000000 | 14 => 1000000 | _ => 0
def kx_ne : List (String × Nat × MethodName × String) := [("Whichbox", 27, ⟨"Whichbox$Ledger", "<init>", "()V"⟩, "Whichbox"), ("Whichbox", 48, ⟨"Whichbox$Door", "<init>", "()V"⟩, "Whichbox"), ("Whichbox$Box", 71, ⟨"Whichbox", "courierOfPlace", "(I)I"⟩, "Whichbox"), ("Whichbox$Box", 51, ⟨"Whichbox", "minutesBetween", "(II)I"⟩, "Whichbox")]
def kx_tx : List (Nat × String) := [(55, "size or value is out of range"), (62, "16 boxes were told"), (217, "there is no such courier or door"), (72, "trust is out of range"), (77, "minutes is out of range"), (80, "the time would be above 100000"), (211, "there is no such box"), (215, "there is no such courier"), (89, "what is out of range"), (219, "the box has 12 scans"), (213, "there is no such door"), (111, "the box is greater than the door"), (119, "there is no such place"), (122, "size is out of range"), (128, "the door is kept"), (134, "the door is kept, or jammed, or smaller than the box"), (145, "code is out of range"), (147, "the door is not kept, or is jammed"), (163, "the box is delivered, or insured, or was scanned a short time ago")]
def kx_dc : List MethodName := [⟨"java/lang/RuntimeException", "<init>", "(Ljava/lang/String;)V"⟩, ⟨"java/lang/Exception", "<init>", "(Ljava/lang/String;)V"⟩, ⟨"java/lang/Throwable", "<init>", "(Ljava/lang/String;)V"⟩]
def kx_iae : String := "java/lang/IllegalArgumentException"
def kx_ise : String := "java/lang/IllegalStateException"
def kx_ioe : String := "java/lang/IndexOutOfBoundsException"
def kx_cs : List String := ["java/lang/IllegalArgumentException", "java/lang/IllegalStateException", "java/lang/IndexOutOfBoundsException"]
def kx_bd : List Cond := kx_dc.map (fun x => .declares x) ++ kx_cs.map (fun x => .castable x x)
def kx_nc : List (String × String) := [("java/lang/IllegalStateException", "java/lang/IllegalArgumentException"), ("java/lang/IllegalArgumentException", "java/lang/IndexOutOfBoundsException"), ("java/lang/IllegalStateException", "java/lang/IndexOutOfBoundsException")]
def kx_Ad (z0 : Nat) : Nat → Prop := fun a => z0 ≤ a
def kx_V (G : kx_G) (z0 : Nat) (U : State) (H : Heap) : Prop :=
  va_K G.1 vwCl (kx_ty G.2) U ∧ (∃ t, va_Z "Whichbox" "MINUTES" "[I" (.ref t) (kx_Ad z0) U H ∧ va_T .int t 16 (fun j => .int (kx_min j)) (kx_Ad z0) U H) ∧
  vx_Zq Bundle.tN "UNASSIGNED_STACK" Bundle.steD (kx_Ad z0) U H ∧ vx_Zq Bundle.tN "SUPPRESSED_SENTINEL" Bundle.listD (kx_Ad z0) U H ∧
  (∀ x ∈ kx_ne, va_Nw (.methodLinkNest x.1 x.2.1 x.2.2.1 x.2.2.2) U) ∧ (∀ x ∈ kx_tx, ∃ sa, vk_R RX3 x.1 x.2 sa U) ∧ (∀ w ∈ kx_bd, va_Nw w U) ∧ (∀ x ∈ kx_nc, va_Nc x.1 x.2 U)
theorem kx_bd_warm {s U : State} (hW : s.WarmedH U.vm) (h : ∀ w ∈ kx_bd, va_Nw w s) : ∀ w ∈ kx_bd, va_Nw w U := by
  intro w hw
  have h9 := h w hw
  rcases List.mem_append.mp hw with h1 | h1
  · obtain ⟨x, -, rfl⟩ := List.mem_map.mp h1
    exact va_Nw.warmD hW h9
  · obtain ⟨x, -, rfl⟩ := List.mem_map.mp h1
    exact va_Nw.warmC hW h9
theorem kx_bd_tab : ∀ w ∈ kx_bd, w.onTables = true := by decide +kernel
theorem kx_V.go {G : kx_G} {z0 : Nat} {s U : State} {H0 H : Heap} {locs : List Loc} (h : kx_V G z0 s H0) (hW : s.WarmedH U.vm) (hS : va_S (kx_Ad z0) H0 H locs) : kx_V G z0 U H := by
  obtain ⟨hK, ⟨t, hZ, hT⟩, hU, hN, hne, htx, hbd, hnc⟩ := h
  have hm : s.vm.Alike U.vm := hW.alike
  exact ⟨va_K.moved hm hK, ⟨t, (va_Z.moved hm hZ).kept hS.2.1, (va_T.moved hm hT).kept hS.2.1⟩, (vx_Zq.moved hm hU).kept hS.2.1, (vx_Zq.moved hm hN).kept hS.2.1, fun x hx => va_Nw.warmM hW (hne x hx), fun x hx => by obtain ⟨sa, h9⟩ := htx x hx; exact ⟨sa, vk_R.warm hW h9⟩, kx_bd_warm hW hbd, fun x hx => va_Nc.moved hm (hnc x hx)⟩
theorem kx_V.call {G : kx_G} {z0 : Nat} {U : State} {H : Heap} (h : kx_V G z0 U H) (g : JFrame) (mk : MethodId) (a : Array Value) : kx_V G z0 (U.calling g mk a) H := by
  obtain ⟨hK, ⟨t, hZ, hT⟩, hU, hN, hne, htx, hbd, hnc⟩ := h
  have hm : U.vm.Alike (U.calling g mk a).vm := Vm.Alike.refl U.vm
  exact ⟨va_K.moved hm hK, ⟨t, va_Z.moved hm hZ, va_T.moved hm hT⟩, vx_Zq.moved hm hU, vx_Zq.moved hm hN, fun x hx => va_Nw.same rfl rfl (hne x hx), fun x hx => by obtain ⟨sa, h9⟩ := htx x hx; exact ⟨sa, vk_R.same rfl h9⟩, fun w hw => va_Nw.same (u := U) (U := U.calling g mk a) (kx_bd_tab w hw) rfl (hbd w hw), fun x hx => va_Nc.moved hm (hnc x hx)⟩
end
section
/-! ROWS over the world kx_Wd -/
abbrev kx_F (p : Program) (s : State) (m : MethodId) (c : Code) (cc : ByteArray) (nL : Nat) (own : String) (args : Array Value) (Ts : List Cond) (G : kx_G) (z0 : Nat) : Prop :=
  p.tables.exec = Jvm.exec ∧ c.code = cc ∧ c.maxLocals = nL ∧ s.vm.findClass own = some m.cls ∧ (∀ w ∈ Ts, w.before args s = true) ∧ kx_V G z0 s s.heap
def kx_P (G : kx_G) (z0 : Nat) (ad : kx_A) (nb : Nat) (sg : kx_S) (av : List Value) : Array Value → State → Prop := va_Pc av (fun U => kx_Wd G z0 ad nb sg U.heap ∧ kx_V G z0 U U.heap)
def kx_Q (G : kx_G) (z0 : Nat) (ad : kx_A) (nb : Nat) (post : Option Value → kx_S → Prop) : Array Value → State → Outcome → State → Prop := fun _ st oc t => (∃ (r : Option Value) (sg' : kx_S), oc = .returned r ∧ post r sg' ∧ kx_Wd G z0 ad nb sg' t.heap) ∧ va_F (kx_Ad z0) st t
def kx_X (G : kx_G) (z0 : Nat) (ad : kx_A) (nb : Nat) (sg : kx_S) (px : String → Prop) : String → State → State → Prop := fun E st t => px E ∧ kx_Wd G z0 ad nb sg t.heap ∧ va_F (kx_Ad z0) st t
abbrev kx_M (l : Launch) (y : MethodName) (ws : List Cond) (fr lo mc ms : Nat) (G : kx_G) (z0 : Nat) (ad : kx_A) (nb : Nat) (sg : kx_S) (av : List Value) (post : Option Value → kx_S → Prop) : Prop :=
  Met l y ws { frames := fr, cells := mc, slots := ms, locals := lo } (kx_P G z0 ad nb sg av) (kx_Q G z0 ad nb post) mc ms (kx_Ad z0)
abbrev kx_MX (l : Launch) (y : MethodName) (ws : List Cond) (fr lo mc ms : Nat) (G : kx_G) (z0 : Nat) (ad : kx_A) (nb : Nat) (sg : kx_S) (av : List Value) (post : Option Value → kx_S → Prop) (px : String → Prop) : Prop :=
  vx_Met l y ws { frames := fr, cells := mc, slots := ms, locals := lo } (kx_P G z0 ad nb sg av) (kx_Q G z0 ad nb post) (kx_X G z0 ad nb sg px) mc ms (kx_Ad z0)
theorem kx_blind {G : kx_G} {z0 : Nat} {ad : kx_A} {nb : Nat} {sg : kx_S} {av : List Value} : FrameBlind (kx_P G z0 ad nb sg av) := fun a U g mk q => ⟨q.1, q.2.1, q.2.2.call g mk a⟩
theorem kx_preS {G : kx_G} {z0 : Nat} {ad : kx_A} {nb : Nat} {sg : kx_S} {av : List Value} {s : State} {H : Heap} {locs : List Loc} (hV : kx_V G z0 s s.heap) (hW : kx_Wd G z0 ad nb sg H) (hS : va_S (kx_Ad z0) s.heap H locs) : PreS s H (kx_P G z0 ad nb sg av) av :=
  ⟨kx_blind, fun U hU hW9 => ⟨rfl, by rw [hU]; exact hW, by rw [hU]; exact hV.go hW9 hS⟩⟩
theorem kx_recv {G : kx_G} {z0 : Nat} {ad : kx_A} {nb : Nat} {sg : kx_S} {s : State} {H : Heap} (hV : kx_V G z0 s s.heap) (hW : kx_Wd G z0 ad nb sg H) {q n : Nat} (hq : kx_live nb q n) {ci : Nat} {fs : List Value} (he : kx_cell G.2 ad nb q n (sg q n) = .inr (ci, fs)) {C : String} {T : u_T} {N : Nat} (hc : vwCl[ci]? = some (C, T, N)) : ∃ cell : Cell, H[ad q n]? = some cell ∧ cell.vm.isStatics = false ∧ s.vm.findClass C = some cell.cls :=
  va_recv (q := (C, T, N)) hV.1 (hW.one hq) hc (q0 := 0) (by rw [he]; rfl)
theorem kx_preV {G : kx_G} {z0 : Nat} {ad : kx_A} {nb : Nat} {sg : kx_S} {As : List Value} {s : State} {H : Heap} {locs : List Loc} (hV : kx_V G z0 s s.heap) (hW : kx_Wd G z0 ad nb sg H) (hS : va_S (kx_Ad z0) s.heap H locs) {q n : Nat} (hq : kx_live nb q n) {ci : Nat} {fs : List Value} (he : kx_cell G.2 ad nb q n (sg q n) = .inr (ci, fs)) {C : String} {T : u_T} {N : Nat} (hc : vwCl[ci]? = some (C, T, N)) : PreV s H C (ad q n) (kx_P G z0 ad nb sg (.ref (ad q n) :: As)) As :=
  ⟨kx_blind, kx_recv hV hW hq he hc, fun U hU hW9 => ⟨rfl, by rw [hU]; exact hW, by rw [hU]; exact hV.go hW9 hS⟩⟩
theorem kx_in01 : vp_in (0 : Int32) 1 := by
  have h := vp_in_nI (n := 0) (N := 1) (by decide) (by decide)
  rwa [nI_0] at h
section KXR
variable {p : Program} {l : Launch} {e : Env} {R : Room} {s : State} {m : MethodId} {args : Array Value} {below : List Frame} {meth : Method} {c : Code} {H : Heap} {locs : List Loc} {cells slots : Nat} {Q : State → Prop}
variable {cc : ByteArray} {nL pc : Nat} {own : String} {ls : Array Slot} {rest st0 : List Value} {Ts : List Cond} {G : kx_G} {z0 : Nat} {ad : kx_A} {nb : Nat} {sg : kx_S} {H0 : Heap} {a : Array Value} {mc ms : Nat}
theorem kx_g (F : kx_F p s m c cc nL own args Ts G z0) {index ci : Nat} {C : String} {T : u_T} {N : Nat} (hin : ∀ w ∈ u_ws C T N, w ∈ Ts) (hW : kx_Wd G z0 ad nb sg H) (q n : Nat) (hq : kx_live nb q n) {fs : List Value} (he : kx_cell G.2 ad nb q n (sg q n) = .inr (ci, fs)) (hc : vwCl[ci]? = some (C, T, N)) (k : Nat) (hk : k < N) (hl : Cond.fieldLink own index (T k).1 (T k).2.1 (T k).2.2.1 ∈ Ts) {v : Value} (hv : fs[k]? = some v) (hdg : decode cc pc = .ok (.getfield index, 3))
    (kk : W p l e R s m args below meth c H locs cells slots Q (F0 m (pc + 3) ls (v :: rest))) : W p l e R s m args below meth c H locs cells slots Q (F0 m pc ls (.ref (ad q n) :: rest)) :=
  va_get F.1 F.2.1 F.2.2.2.2.1 hin F.2.2.2.1 F.2.2.2.2.2.1 (hW.one hq) 0 (by rw [he]; rfl) hc k hk (F.2.2.2.2.1 _ hl) (fun _ h => h) hv hdg kk
theorem kx_p (F : kx_F p s m c cc nL own args Ts G z0) {index ci : Nat} {C : String} {T : u_T} {N : Nat} (hin : ∀ w ∈ u_ws C T N, w ∈ Ts) (ty0 : Nat → FieldType) (hty : ∀ k, k < N → parseFieldDescriptor (T k).2.2.1 = some (ty0 k)) (hnm : ∀ a, a < N → ∀ b, b < N → a ≠ b → (T a).2.1 ≠ (T b).2.1) (hW : kx_Wd G z0 ad nb sg H) (hS0 : va_S (kx_Ad z0) H0 H locs) (q n : Nat) (hq : kx_live nb q n) {fs : List Value} (he : kx_cell G.2 ad nb q n (sg q n) = .inr (ci, fs)) (hc : vwCl[ci]? = some (C, T, N)) (k : Nat) (hk : k < N) (hl : Cond.fieldLink own index (T k).1 (T k).2.1 (T k).2.2.1 ∈ Ts) (hfin : (T k).2.2.2 = false) {v : Value} (hn : narrow (ty0 k) v = v) (hfit : fits (ty0 k) v = true) (hlen : k < fs.length) (r : Nat → Int32) (he' : kx_cell G.2 ad nb q n r = .inr (ci, fs.set k v)) (hdg : decode cc pc = .ok (.putfield index, 3))
    (kk : ∀ (H1 : Heap) (locs1 : List Loc), kx_Wd G z0 ad nb (kx_up sg q n r) H1 → va_S (kx_Ad z0) H0 H1 locs1 → W p l e R s m args below meth c H1 locs1 cells slots Q (F0 m (pc + 3) ls rest)) : W p l e R s m args below meth c H locs cells slots Q (F0 m pc ls (v :: .ref (ad q n) :: rest)) := by
  obtain ⟨hx, hb, hml, hown, hts, hV⟩ := F
  have hK := hV.1
  have hap := va_apart (own := own) hts hin ty0 hty hnm hK hc
  have hat := hW.1.1 q n hq
  rw [he] at hat
  obtain ⟨r1, h1, cell, q1, q2, q3, q4⟩ := hat
  have hr : r1 = (C, T, N) := Option.some.inj (h1.symm.trans hc)
  subst hr
  obtain ⟨hSl, hfc, kC, hkC, hkind⟩ := hK.1 ci _ hc
  obtain ⟨cf, kf, fi, f, hi, hsl⟩ := hSl k hk
  have hlay := hts _ (hin _ (u_in_lay hk))
  unfold u_lay at hlay
  rw [if_neg (by rw [hfin]; decide)] at hlay
  have hst := (u_facts hfc hkC (u_lays hts hin hk) hi).1
  have h6 := u_store hfc hkC hkind hlay hi (hty k hk) hn hfit
  refine W.putK hx hb (f := f) ⟨hown, hts _ hl, ⟨_, _, _, hi⟩, hst⟩ (by rw [q2]; exact h6) q1 q3 (by rw [hsl]; exact k2_hasslot (q4 k hk)) rfl rfl hdg fun H' e1 e2 e3 => ?_
  rw [hsl] at e1 ⊢
  have hat9 : va_at G.1 vwCl (ad q n, .inr (ci, fs.set k v)) H' := ⟨_, hc, t_OB.to (V := updV (vp_V fs) k v) ⟨_, e1, q2, q3, t_set q4 hap hk v⟩ (fun j _ => vp_updV_set hlen v j)⟩
  rw [← he'] at hat9
  exact kk H' _ (hW.put hq hat9 e3) (hS0.put e2 e3 (hW.1.2.2 q n hq))
theorem kx_ald (F : kx_F p s m c cc nL own args Ts G z0) (hW : kx_Wd G z0 ad nb sg H) (q n : Nat) (hq : kx_live nb q n) {len : Nat} {f : Nat → Int32} (he : kx_cell G.2 ad nb q n (sg q n) = .inl (G.2 0, len, .inl f)) (k : Nat) (hk : k < len) (hlen : len < 2 ^ 31) {v : Int32} (hv : f k = v) (hdg : decode cc pc = .ok (.iaload, 1))
    (kk : W p l e R s m args below meth c H locs cells slots Q (F0 m (pc + 1) ls (.int v :: rest))) : W p l e R s m args below meth c H locs cells slots Q (F0 m pc ls (.int (nI k) :: .ref (ad q n) :: rest)) := by
  refine va_iald F.1 F.2.1 F.2.2.2.2.2.1 (hW.one hq) 0 0 (by rw [he]; rfl) rfl (vp_in_nI hk hlen) hdg ?_
  rw [nI_clamp (Nat.lt_trans hk hlen), hv]
  exact kk
theorem kx_ast (F : kx_F p s m c cc nL own args Ts G z0) (hW : kx_Wd G z0 ad nb sg H) (hS0 : va_S (kx_Ad z0) H0 H locs) (q n : Nat) (hq : kx_live nb q n) {len : Nat} {f : Nat → Int32} (he : kx_cell G.2 ad nb q n (sg q n) = .inl (G.2 0, len, .inl f)) (k : Nat) (hk : k < len) (hlen : len < 2 ^ 31) {x : Int32} (he' : kx_cell G.2 ad nb q n (upd (sg q n) k x) = .inl (G.2 0, len, .inl (upd f k x))) (hdg : decode cc pc = .ok (.iastore, 1))
    (kk : ∀ (H1 : Heap) (locs1 : List Loc), kx_Wd G z0 ad nb (kx_up sg q n (upd (sg q n) k x)) H1 → va_S (kx_Ad z0) H0 H1 locs1 → W p l e R s m args below meth c H1 locs1 cells slots Q (F0 m (pc + 1) ls rest)) : W p l e R s m args below meth c H locs cells slots Q (F0 m pc ls (.int x :: .int (nI k) :: .ref (ad q n) :: rest)) := by
  have ha := hW.1.1 q n hq
  rw [he] at ha
  refine W.iast F.1 F.2.1 ha ((F.2.2.2.2.2.1.2 0 _ rfl).1 len (fun j => .int (f j))) (fun q => by cases q) (by show ¬ (_ < 0 ∨ (arrV _ _ _).slots.size ≤ _); rw [arrV_size]; exact vp_in_nI hk hlen) rfl rfl hdg fun H1 e9 z oq => ?_
  refine kk H1 _ (hW.put hq ?_ oq) (hS0.put z oq (hW.1.2.2 q n hq))
  rw [he']
  show H1[ad q n]? = some (vp_cell _ _)
  rw [e9, nI_clamp (Nat.lt_trans hk hlen)]
  rw [vp_cell_i, vp_cell_i, arrV_store]
  congr 2
  funext q
  by_cases hq : q = k
  · subst hq
    simp [updV, upd]
  · simp [updV, upd, hq]
theorem kx_aaldD (F : kx_F p s m c cc nL own args Ts G z0) (hW : kx_Wd G z0 ad nb sg H) (k : Nat) (hk : k < 10) (hdg : decode cc pc = .ok (.aaload, 1))
    (kk : W p l e R s m args below meth c H locs cells slots Q (F0 m (pc + 1) ls (.ref (ad 8 k) :: rest))) : W p l e R s m args below meth c H locs cells slots Q (F0 m pc ls (.int (nI k) :: .ref (ad 2 0) :: rest)) := by
  have hq : kx_live nb 2 0 := ⟨by decide, rfl⟩
  refine va_aldq F.1 F.2.1 F.2.2.2.2.2.1 (hW.one hq) 0 3 (n := 10) (C := "Whichbox$Door") (f := fun i => some (ad 8 i)) rfl rfl (vp_in_nI hk (by decide)) hdg ?_
  rw [nI_clamp (Nat.lt_trans hk (by decide))]
  exact kk
theorem kx_aaldB (F : kx_F p s m c cc nL own args Ts G z0) (hW : kx_Wd G z0 ad nb sg H) (k : Nat) (hk : k < 16) (hdg : decode cc pc = .ok (.aaload, 1))
    (kt : k < nb → W p l e R s m args below meth c H locs cells slots Q (F0 m (pc + 1) ls (.ref (ad 9 k) :: rest))) (kf : ¬ k < nb → W p l e R s m args below meth c H locs cells slots Q (F0 m (pc + 1) ls (.null :: rest))) : W p l e R s m args below meth c H locs cells slots Q (F0 m pc ls (.int (nI k) :: .ref (ad 1 0) :: rest)) := by
  have hq : kx_live nb 1 0 := ⟨by decide, rfl⟩
  refine va_aldq F.1 F.2.1 F.2.2.2.2.2.1 (hW.one hq) 0 2 (n := 16) (C := "Whichbox$Box") (f := fun i => if i < nb then some (ad 9 i) else none) rfl rfl (vp_in_nI hk (by decide)) hdg ?_
  rw [nI_clamp (Nat.lt_trans hk (by decide))]
  by_cases h : k < nb
  · simp only [if_pos h]
    exact kt h
  · simp only [if_neg h]
    exact kf h
theorem kx_alenB (F : kx_F p s m c cc nL own args Ts G z0) (hW : kx_Wd G z0 ad nb sg H) (hdg : decode cc pc = .ok (.arraylength, 1))
    (kk : W p l e R s m args below meth c H locs cells slots Q (F0 m (pc + 1) ls (.int (nI 16) :: rest))) : W p l e R s m args below meth c H locs cells slots Q (F0 m pc ls (.ref (ad 1 0) :: rest)) := by
  have hq : kx_live nb 1 0 := ⟨by decide, rfl⟩
  exact va_alen F.1 F.2.1 F.2.2.2.2.2.1 (hW.one hq) 0 2 (ha := rfl) (ht := rfl) rfl hdg kk
theorem kx_min_ld (F : kx_F p s m c cc nL own args Ts G z0) (hS : va_S (kx_Ad z0) s.heap H locs) {index ic : Nat} (hl : Cond.fieldLink own index "Whichbox" "MINUTES" "[I" ∈ Ts) (hdg : decode cc pc = .ok (.getstatic index, 3))
    (kk : ∀ t : Nat, va_T .int t 16 (fun j => .int (kx_min j)) (kx_Ad z0) s s.heap → W p l e R s m args below meth c H locs cells slots Q (F0 m (pc + 3) ls (.ref t :: rest))) : W p l e R s m args below meth c H locs cells slots Q (F0 m pc ls rest) := by
  obtain ⟨hx, hb, hml, hown, hts, hK, ⟨t, hZ, hT⟩, -⟩ := F
  exact va_gets hx hb hZ hS hown (hts _ hl) (fun _ h => h) hdg (kk t hT)
/-! calls -/
theorem kx_go {post : Option Value → kx_S → Prop} (hr : va_Run p l e R s m args below meth c H locs cells slots mc ms (F0 m pc ls st0) rest (kx_Q G z0 ad nb post a) (kx_Ad z0)) (hS : va_S (kx_Ad z0) H0 H locs)
    (kk : ∀ (r : Option Value) (sg' : kx_S) (H1 : Heap) (locs1 : List Loc), post r sg' → kx_Wd G z0 ad nb sg' H1 → va_S (kx_Ad z0) H0 H1 locs1 → W p l e R s m args below meth c H1 locs1 (cells + mc) (slots + ms) Q (F0 m (pc + 3) ls (r.toList ++ rest))) : W p l e R s m args below meth c H locs cells slots Q (F0 m pc ls st0) := by
  intro T hT X
  obtain ⟨v, st₀, t, T', L, h0, X', hL, e1, e2, ⟨⟨r, sg', hv, hp, hb⟩, hF⟩, st⟩ := hr T hT X
  cases Outcome.returned.inj hv
  obtain ⟨k1, k2, k3⟩ := vx_keep h0 e1 hS (fun _ _ h => h) (fun _ h => h) hL hF
  obtain ⟨t2, a1, b1⟩ := kk v sg' T'.heap (locs ++ L) hp (by rw [e1]; exact hb) k3 T' rfl X'
  exact ⟨t2, st t2 a1, b1⟩
theorem kx_goX {post : Option Value → kx_S → Prop} {px : String → Prop} (hr : vx_Run p l e R s m args below meth c H locs cells slots mc ms (F0 m pc ls st0) rest (kx_Q G z0 ad nb post a) (kx_X G z0 ad nb sg px) (kx_Ad z0)) (hS : va_S (kx_Ad z0) H0 H locs)
    (kx : ∀ (E : String) (ce : Cell) (q9 : Addr) (H1 : Heap) (locs1 : List Loc), px E → kx_Wd G z0 ad nb sg H1 → va_S (kx_Ad z0) H0 H1 locs1 → H1[q9]? = some ce → ce.vm = .none → s.vm.findClass E = some ce.cls → vx_W p l e R s m args below meth c H1 locs1 (cells + mc) (slots + ms) Q (F0 m pc ls rest) q9)
    (kk : ∀ (r : Option Value) (sg' : kx_S) (H1 : Heap) (locs1 : List Loc), post r sg' → kx_Wd G z0 ad nb sg' H1 → va_S (kx_Ad z0) H0 H1 locs1 → W p l e R s m args below meth c H1 locs1 (cells + mc) (slots + ms) Q (F0 m (pc + 3) ls (r.toList ++ rest))) : W p l e R s m args below meth c H locs cells slots Q (F0 m pc ls st0) := by
  intro T hT X
  rcases hr T hT X with ⟨v, st₀, t, T', L, h0, X', hL, e1, e2, ⟨⟨r, sg', hv, hp, hb⟩, hF⟩, st⟩ | ⟨q, st₀, t, T', L, E, ce, h0, X', hL, e1, e2, ⟨hp, hb, hF⟩, hce, hcv, hcl, st⟩
  · cases Outcome.returned.inj hv
    obtain ⟨k1, k2, k3⟩ := vx_keep h0 e1 hS (fun _ _ h => h) (fun _ h => h) hL hF
    obtain ⟨t2, a1, b1⟩ := kk v sg' T'.heap (locs ++ L) hp (by rw [e1]; exact hb) k3 T' rfl X'
    exact ⟨t2, st t2 a1, b1⟩
  · obtain ⟨k1, k2, k3⟩ := vx_keep h0 e1 hS (fun _ _ h => h) (fun _ h => h) hL hF
    obtain ⟨t2, a1, b1⟩ := kx E ce q T'.heap (locs ++ L) hp (by rw [e1]; exact hb) k3 (by rw [e1]; exact hce) hcv hcl T' rfl X'
    exact ⟨t2, st.trans a1, b1⟩
/-- a virtual call of an own method that returns -/
theorem kx_cV {y : MethodName} {ws ws' : List Cond} {fr lo index na maxL : Nat} {C : String} {bytes : ByteArray} {ret : Option FieldType} {As : List Value} {post : Option Value → kx_S → Prop} (F : kx_F p s m c cc nL own args Ts G z0) {q n : Nat} (hM : kx_M l y ws fr lo mc ms G z0 ad nb sg (.ref (ad q n) :: As) post) (hT : GoodIn Ts (wsV own index C y ws)) (hw : ws = Cond.code y bytes maxL ret :: ws') (hd : y.cls = C ∧ y.cls ≠ "java/lang/invoke/MethodHandle" ∧ y.cls ≠ "java/lang/invoke/VarHandle" ∧ (parseMethodDescriptor y.desc).map (fun d => d.parameters.length) = some na) (hR : fr + 1 ≤ R.frames ∧ 8 + (maxL + 11) + lo ≤ R.locals)
    (hW : kx_Wd G z0 ad nb sg H) (hS : va_S (kx_Ad z0) s.heap H locs) (hq : kx_live nb q n) {ci : Nat} {fs : List Value} (he : kx_cell G.2 ad nb q n (sg q n) = .inr (ci, fs)) {T : u_T} {N : Nat} (hc : vwCl[ci]? = some (C, T, N)) (hn : As.length = na) (hsize : ls.size = nL) (hst : st0 = As.reverse ++ .ref (ad q n) :: rest) (hrm : (rest.map fun v => v.category).sum ≤ 8) (hdg : decode cc pc = .ok (.invokevirtual index, 3)) (hf : cells + mc ≤ R.cells ∧ slots + ms ≤ R.slots)
    (kk : ∀ (r : Option Value) (sg' : kx_S) (H1 : Heap) (locs1 : List Loc), post r sg' → kx_Wd G z0 ad nb sg' H1 → va_S (kx_Ad z0) s.heap H1 locs1 → W p l e R s m args below meth c H1 locs1 (cells + mc) (slots + ms) Q (F0 m (pc + 3) ls (r.toList ++ rest))) : W p l e R s m args below meth c H locs cells slots Q (F0 m pc ls st0) :=
  kx_go (va_runV (As := As) (rest := rest) ⟨F.1, F.2.1, F.2.2.1, F.2.2.2.1, F.2.2.2.2.1⟩ hM (cwV na F.2.2.2.2.1 hT hw rfl rfl hd hR) (kx_preV F.2.2.2.2.2 hW hS hq he hc) rfl hn hsize hst (lv_room hrm) hdg hf) hS kk
theorem kx_cS {y : MethodName} {ws ws' : List Cond} {fr lo index na maxL : Nat} {bytes : ByteArray} {ret : Option FieldType} {As : List Value} {post : Option Value → kx_S → Prop} (F : kx_F p s m c cc nL own args Ts G z0) (hM : kx_M l y ws fr lo mc ms G z0 ad nb sg As post) (hT : GoodIn Ts (va_wsS own index y ws)) (hw : ws = Cond.code y bytes maxL ret :: ws') (hd : y.cls ≠ "java/lang/invoke/MethodHandle" ∧ y.cls ≠ "java/lang/invoke/VarHandle" ∧ (parseMethodDescriptor y.desc).map (fun d => d.parameters.length) = some na) (hR : fr + 1 ≤ R.frames ∧ 8 + (maxL + 11) + lo ≤ R.locals)
    (hW : kx_Wd G z0 ad nb sg H) (hS : va_S (kx_Ad z0) s.heap H locs) (hn : As.length = na) (hsize : ls.size = nL) (hst : st0 = As.reverse ++ rest) (hrm : (rest.map fun v => v.category).sum ≤ 8) (hdg : decode cc pc = .ok (.invokestatic index, 3)) (hf : cells + mc ≤ R.cells ∧ slots + ms ≤ R.slots)
    (kk : ∀ (r : Option Value) (sg' : kx_S) (H1 : Heap) (locs1 : List Loc), post r sg' → kx_Wd G z0 ad nb sg' H1 → va_S (kx_Ad z0) s.heap H1 locs1 → W p l e R s m args below meth c H1 locs1 (cells + mc) (slots + ms) Q (F0 m (pc + 3) ls (r.toList ++ rest))) : W p l e R s m args below meth c H locs cells slots Q (F0 m pc ls st0) :=
  kx_go (va_runS (As := As) (rest := rest) ⟨F.1, F.2.1, F.2.2.1, F.2.2.2.1, F.2.2.2.2.1⟩ hM (va_cwS na F.2.2.2.2.1 hT hw rfl rfl hd hR) (kx_preS F.2.2.2.2.2 hW hS) rfl hn hsize hst (lv_room hrm) hdg hf) hS kk
theorem kx_cN {y : MethodName} {ws ws' : List Cond} {fr lo index na maxL : Nat} {host : String} {bytes : ByteArray} {ret : Option FieldType} {As : List Value} {post : Option Value → kx_S → Prop} (F : kx_F p s m c cc nL own args Ts G z0) (hM : kx_M l y ws fr lo mc ms G z0 ad nb sg As post) (hG : GoodIn Ts ws) (hstat : Cond.static y ∈ Ts) (hini : Cond.initialized y.cls ∈ Ts) (hne : (own, index, y, host) ∈ kx_ne) (hw : ws = Cond.code y bytes maxL ret :: ws') (hd : y.cls ≠ "java/lang/invoke/MethodHandle" ∧ y.cls ≠ "java/lang/invoke/VarHandle" ∧ (parseMethodDescriptor y.desc).map (fun d => d.parameters.length) = some na) (hR : fr + 1 ≤ R.frames ∧ 8 + (maxL + 11) + lo ≤ R.locals)
    (hW : kx_Wd G z0 ad nb sg H) (hS : va_S (kx_Ad z0) s.heap H locs) (hn : As.length = na) (hsize : ls.size = nL) (hst : st0 = As.reverse ++ rest) (hrm : (rest.map fun v => v.category).sum ≤ 8) (hdg : decode cc pc = .ok (.invokestatic index, 3)) (hf : cells + mc ≤ R.cells ∧ slots + ms ≤ R.slots)
    (kk : ∀ (r : Option Value) (sg' : kx_S) (H1 : Heap) (locs1 : List Loc), post r sg' → kx_Wd G z0 ad nb sg' H1 → va_S (kx_Ad z0) s.heap H1 locs1 → W p l e R s m args below meth c H1 locs1 (cells + mc) (slots + ms) Q (F0 m (pc + 3) ls (r.toList ++ rest))) : W p l e R s m args below meth c H locs cells slots Q (F0 m pc ls st0) :=
  kx_go (va_runSN (As := As) (rest := rest) ⟨F.1, F.2.1, F.2.2.1, F.2.2.2.1, F.2.2.2.2.1⟩ hM ⟨va_cnB na F.2.2.2.2.1 hG hw rfl rfl (F.2.2.2.2.2.2.2.2.2.1 _ hne) (F.2.2.2.2.1 _ hini) hd hR, F.2.2.2.2.1 _ hstat, trivial⟩ (kx_preS F.2.2.2.2.2 hW hS) rfl hn hsize hst (lv_room hrm) hdg hf) hS kk
/-- calls of own methods that may throw -/
theorem kx_xV {y : MethodName} {ws ws' : List Cond} {fr lo index na maxL : Nat} {C : String} {bytes : ByteArray} {ret : Option FieldType} {As : List Value} {post : Option Value → kx_S → Prop} {px : String → Prop} (F : kx_F p s m c cc nL own args Ts G z0) {q n : Nat} (hM : kx_MX l y ws fr lo mc ms G z0 ad nb sg (.ref (ad q n) :: As) post px) (hT : GoodIn Ts (wsV own index C y ws)) (hw : ws = Cond.code y bytes maxL ret :: ws') (hd : y.cls = C ∧ y.cls ≠ "java/lang/invoke/MethodHandle" ∧ y.cls ≠ "java/lang/invoke/VarHandle" ∧ (parseMethodDescriptor y.desc).map (fun d => d.parameters.length) = some na) (hR : fr + 1 ≤ R.frames ∧ 8 + (maxL + 11) + lo ≤ R.locals)
    (hW : kx_Wd G z0 ad nb sg H) (hS : va_S (kx_Ad z0) s.heap H locs) (hq : kx_live nb q n) {ci : Nat} {fs : List Value} (he : kx_cell G.2 ad nb q n (sg q n) = .inr (ci, fs)) {T : u_T} {N : Nat} (hc : vwCl[ci]? = some (C, T, N)) (hn : As.length = na) (hsize : ls.size = nL) (hst : st0 = As.reverse ++ .ref (ad q n) :: rest) (hrm : (rest.map fun v => v.category).sum ≤ 8) (hdg : decode cc pc = .ok (.invokevirtual index, 3)) (hf : cells + mc ≤ R.cells ∧ slots + ms ≤ R.slots)
    (kx : ∀ (E : String) (ce : Cell) (q9 : Addr) (H1 : Heap) (locs1 : List Loc), px E → kx_Wd G z0 ad nb sg H1 → va_S (kx_Ad z0) s.heap H1 locs1 → H1[q9]? = some ce → ce.vm = .none → s.vm.findClass E = some ce.cls → vx_W p l e R s m args below meth c H1 locs1 (cells + mc) (slots + ms) Q (F0 m pc ls rest) q9)
    (kk : ∀ (r : Option Value) (sg' : kx_S) (H1 : Heap) (locs1 : List Loc), post r sg' → kx_Wd G z0 ad nb sg' H1 → va_S (kx_Ad z0) s.heap H1 locs1 → W p l e R s m args below meth c H1 locs1 (cells + mc) (slots + ms) Q (F0 m (pc + 3) ls (r.toList ++ rest))) : W p l e R s m args below meth c H locs cells slots Q (F0 m pc ls st0) :=
  kx_goX (vx_runV (As := As) (rest := rest) ⟨F.1, F.2.1, F.2.2.1, F.2.2.2.1, F.2.2.2.2.1⟩ hM (cwV na F.2.2.2.2.1 hT hw rfl rfl hd hR) (kx_preV F.2.2.2.2.2 hW hS hq he hc) rfl hn hsize hst (lv_room hrm) hdg hf) hS kx kk
theorem kx_xS {y : MethodName} {ws ws' : List Cond} {fr lo index na maxL : Nat} {bytes : ByteArray} {ret : Option FieldType} {As : List Value} {post : Option Value → kx_S → Prop} {px : String → Prop} (F : kx_F p s m c cc nL own args Ts G z0) (hM : kx_MX l y ws fr lo mc ms G z0 ad nb sg As post px) (hT : GoodIn Ts (va_wsS own index y ws)) (hw : ws = Cond.code y bytes maxL ret :: ws') (hd : y.cls ≠ "java/lang/invoke/MethodHandle" ∧ y.cls ≠ "java/lang/invoke/VarHandle" ∧ (parseMethodDescriptor y.desc).map (fun d => d.parameters.length) = some na) (hR : fr + 1 ≤ R.frames ∧ 8 + (maxL + 11) + lo ≤ R.locals)
    (hW : kx_Wd G z0 ad nb sg H) (hS : va_S (kx_Ad z0) s.heap H locs) (hn : As.length = na) (hsize : ls.size = nL) (hst : st0 = As.reverse ++ rest) (hrm : (rest.map fun v => v.category).sum ≤ 8) (hdg : decode cc pc = .ok (.invokestatic index, 3)) (hf : cells + mc ≤ R.cells ∧ slots + ms ≤ R.slots)
    (kx : ∀ (E : String) (ce : Cell) (q9 : Addr) (H1 : Heap) (locs1 : List Loc), px E → kx_Wd G z0 ad nb sg H1 → va_S (kx_Ad z0) s.heap H1 locs1 → H1[q9]? = some ce → ce.vm = .none → s.vm.findClass E = some ce.cls → vx_W p l e R s m args below meth c H1 locs1 (cells + mc) (slots + ms) Q (F0 m pc ls rest) q9)
    (kk : ∀ (r : Option Value) (sg' : kx_S) (H1 : Heap) (locs1 : List Loc), post r sg' → kx_Wd G z0 ad nb sg' H1 → va_S (kx_Ad z0) s.heap H1 locs1 → W p l e R s m args below meth c H1 locs1 (cells + mc) (slots + ms) Q (F0 m (pc + 3) ls (r.toList ++ rest))) : W p l e R s m args below meth c H locs cells slots Q (F0 m pc ls st0) :=
  kx_goX (vx_runS (As := As) (rest := rest) ⟨F.1, F.2.1, F.2.2.1, F.2.2.2.1, F.2.2.2.2.1⟩ hM (va_cwS na F.2.2.2.2.1 hT hw rfl rfl hd hR) (kx_preS F.2.2.2.2.2 hW hS) rfl hn hsize hst (lv_room hrm) hdg hf) hS kx kk
/-! ends -/
theorem kx_ri {post : Option Value → kx_S → Prop} (F : kx_F p s m c cc nL own args Ts G z0) (hr : meth.sig.returnType = some .int) (hlocks : meth.locks = false) (hW : kx_Wd G z0 ad nb sg H) (hS : va_S (kx_Ad z0) s.heap H locs) (hc : cells ≤ mc) (hs : slots ≤ ms) {v : Int32} (hp : post (some (.int v)) sg) (hdg : decode cc pc = .ok (.ireturn, 1)) : W p l e R s m args below meth c H locs cells slots (MQ below (kx_Q G z0 ad nb post) args s mc ms (kx_Ad z0)) (F0 m pc ls [.int v]) :=
  W.widen hc hs (W.iret F.1 F.2.1 hr (fun t ht _ => ⟨⟨_, sg, rfl, hp, by rw [ht]; exact hW⟩, hS.F ht⟩) hS.2.2 hdg hlocks)
theorem kx_rz {post : Option Value → kx_S → Prop} (F : kx_F p s m c cc nL own args Ts G z0) (hr : meth.sig.returnType = some .boolean) (hlocks : meth.locks = false) (hW : kx_Wd G z0 ad nb sg H) (hS : va_S (kx_Ad z0) s.heap H locs) (hc : cells ≤ mc) (hs : slots ≤ ms) {v : Int32} (hn : narrow .boolean (.int v) = .int v) (hp : post (some (.int v)) sg) (hdg : decode cc pc = .ok (.ireturn, 1)) : W p l e R s m args below meth c H locs cells slots (MQ below (kx_Q G z0 ad nb post) args s mc ms (kx_Ad z0)) (F0 m pc ls [.int v]) :=
  W.widen hc hs (W.zret F.1 F.2.1 hr hn (fun t ht _ => ⟨⟨_, sg, rfl, hp, by rw [ht]; exact hW⟩, hS.F ht⟩) hS.2.2 hdg hlocks)
theorem kx_rv {post : Option Value → kx_S → Prop} (F : kx_F p s m c cc nL own args Ts G z0) (hr : meth.sig.returnType = none) (hlocks : meth.locks = false) (hW : kx_Wd G z0 ad nb sg H) (hS : va_S (kx_Ad z0) s.heap H locs) (hc : cells ≤ mc) (hs : slots ≤ ms) (hp : post none sg) (hdg : decode cc pc = .ok (.return_, 1)) : W p l e R s m args below meth c H locs cells slots (MQ below (kx_Q G z0 ad nb post) args s mc ms (kx_Ad z0)) (F0 m pc ls []) :=
  W.widen hc hs (W.vret F.1 F.2.1 hr (fun t ht _ => ⟨⟨_, sg, rfl, hp, by rw [ht]; exact hW⟩, hS.F ht⟩) hS.2.2 hdg hlocks)
theorem kx_ra {post : Option Value → kx_S → Prop} {rt : String} (F : kx_F p s m c cc nL own args Ts G z0) (hr : meth.sig.returnType = some (.object rt)) (hlocks : meth.locks = false) (hW : kx_Wd G z0 ad nb sg H) (hS : va_S (kx_Ad z0) s.heap H locs) (hc : cells ≤ mc) (hs : slots ≤ ms) {v : Nat} (hp : post (some (.ref v)) sg) (hdg : decode cc pc = .ok (.areturn, 1)) : W p l e R s m args below meth c H locs cells slots (MQ below (kx_Q G z0 ad nb post) args s mc ms (kx_Ad z0)) (F0 m pc ls [.ref v]) :=
  W.widen hc hs (W.aret F.1 F.2.1 hr (Or.inl ⟨rt, rfl⟩) (Or.inr ⟨v, rfl⟩) (fun t ht _ => ⟨⟨_, sg, rfl, hp, by rw [ht]; exact hW⟩, hS.F ht⟩) hS.2.2 hdg hlocks)
/-- a callee's throw goes through -/
theorem kx_out {post : Option Value → kx_S → Prop} {px : String → Prop} {E : String} {ce : Cell} {q : Addr} (htab : ∀ x ∈ c.exceptionTable.toList, False) (hlocks : meth.locks = false) (hW : kx_Wd G z0 ad nb sg H) (hS : va_S (kx_Ad z0) s.heap H locs) (hc : cells ≤ mc) (hs : slots ≤ ms) (hp : px E) (hcell : H[q]? = some ce) (hv : ce.vm = .none) (hcl : s.vm.findClass E = some ce.cls) : vx_W p l e R s m args below meth c H locs cells slots (vx_MQ below (kx_Q G z0 ad nb post) (kx_X G z0 ad nb sg px) args s mc ms (kx_Ad z0)) (F0 m pc ls rest) q :=
  vx_out (fun x hx => (htab x hx).elim) hlocks hcell hv hcl (fun t ht _ => ⟨hp, by rw [ht]; exact hW, hS.F ht⟩) hS.2.2 hc hs
/-- 'throw new E(text)' in Whichbox -/
theorem kx_thr {post : Option Value → kx_S → Prop} {px : String → Prop} (F : kx_F p s m c cc nL RX3 args Ts G z0) (hl : l.stackTraces = false) (htab : ∀ x ∈ c.exceptionTable.toList, False) (hlocks : meth.locks = false) {cls text : String} {ik is ic : Nat} (hcls : Bundle.fit cls = true) (hk : Cond.classLink RX3 ik cls ∈ Ts) (hini : Cond.initialized cls ∈ Ts) (hat : ∀ w ∈ (vx_atS RX3 ic cls ["java/lang/RuntimeException", "java/lang/Exception"]).filter goodWord, w ∈ Ts) (hbad : ∀ w ∈ (vx_atS RX3 ic cls ["java/lang/RuntimeException", "java/lang/Exception"]).filter (fun w => !goodWord w), w ∈ kx_bd) (hgood : ∀ w ∈ Cond.classLink RX3 ik cls :: Cond.initialized cls :: vx_atS RX3 ic cls ["java/lang/RuntimeException", "java/lang/Exception"], vx_ot w = true) (htx : (is, text) ∈ kx_tx) (hW : kx_Wd G z0 ad nb sg H) (hS : va_S (kx_Ad z0) s.heap H locs) (hsize : ls.size = nL)
    (d0 : decode cc pc = .ok (.new ik, 3)) (d3 : decode cc (pc + 3) = .ok (.dup, 1)) (d4 : decode cc (pc + 4) = .ok (.ldc is, 2)) (d6 : decode cc (pc + 6) = .ok (.invokespecial ic, 3)) (d9 : decode cc (pc + 9) = .ok (.athrow, 1))
    (hRf : 6 ≤ R.frames) (hRl : (rest.map fun v => v.category).sum + 82 ≤ R.locals) (hRc : cells + 1 ≤ R.cells) (hRs : slots + 6 ≤ R.slots) (hc : cells + 1 ≤ mc) (hs : slots + 6 ≤ ms) (hp : px cls) : W p l e R s m args below meth c H locs cells slots (vx_MQ below (kx_Q G z0 ad nb post) (kx_X G z0 ad nb sg px) args s mc ms (kx_Ad z0)) (F0 m pc ls rest) := by
  obtain ⟨hx, hb, hml, hown, hts, hV⟩ := F
  obtain ⟨hK, -, hU, hN, -, hst, hbd, -⟩ := hV
  obtain ⟨sa, hstr⟩ := hst _ htx
  refine vx_throwS (A := kx_Ad z0) hx hb hl hown hcls (by decide +kernel) (hts _ hk) (hts _ hini) hstr (fun w hw => ?_) hgood hU hN hS (by rw [hsize, hml]) d0 d3 d4 d6 d9 (fun x hx => (htab x hx).elim) (by exact hRf) (by exact hRl) hRc hRs hlocks (fun t hA hz ho => ⟨hp, hW.keep ho, ?_⟩) hS.2.2 hc hs
  · cases h : goodWord w with
    | true => exact hts w (hat w (List.mem_filter.mpr ⟨hw, h⟩))
    | false =>
      have h2 := hbad w (List.mem_filter.mpr ⟨hw, by rw [h]; rfl⟩)
      exact va_Nw.use (kx_bd_tab w h2) (hbd w h2)
  · exact ⟨Nat.le_trans hS.1 hz, fun q h1 h2 => (ho q (Nat.lt_of_lt_of_le h1 hS.1)).trans (hS.2.1 q h1 h2)⟩
end KXR
end
section
/-! PURE WORDS: what the methods answer -/
def tw_b (p : Bool) : Int32 := if p then 1 else 0
theorem tw_b_t {p : Bool} (h : p = true) : (1 : Int32) = tw_b p := by rw [h]; rfl
theorem tw_b_f {p : Bool} (h : p = false) : (0 : Int32) = tw_b p := by rw [h]; rfl
theorem tw_b_nar (p : Bool) : narrow .boolean (.int (tw_b p)) = .int (tw_b p) := by cases p <;> rfl
theorem tw_b_0 {p : Bool} (h : tw_b p = 0) : p = false := by cases p with | false => rfl | true => exact absurd h (by decide)
theorem tw_b_1 {p : Bool} (h : ¬ tw_b p = 0) : p = true := by cases p with | true => rfl | false => exact absurd rfl h
theorem tw_le (a b : Int32) : a ≤ b ↔ a.toInt ≤ b.toInt := Int32.le_iff_toInt_le
theorem tw_lt (a b : Int32) : a < b ↔ a.toInt < b.toInt := Int32.lt_iff_toInt_lt
theorem tw_eq (a b : Int32) : a = b ↔ a.toInt = b.toInt := Int32.toInt_inj.symm
def tw_in (x a b : Int32) : Bool := decide (a ≤ x) && decide (x ≤ b)
theorem tw_in_1 {x a b : Int32} (h : x < a) : tw_in x a b = false := by
  have h2 : ¬ a ≤ x := by rw [tw_le]; rw [tw_lt] at h; omega
  simp [tw_in, h2]
theorem tw_in_2 {x a b : Int32} (h : b < x) : tw_in x a b = false := by
  have h2 : ¬ x ≤ b := by rw [tw_le]; rw [tw_lt] at h; omega
  simp [tw_in, h2]
theorem tw_in_3 {x a b : Int32} (h : ¬ x < a) (h2 : ¬ b < x) : tw_in x a b = true := by
  have h3 : a ≤ x := by rw [tw_le]; rw [tw_lt] at h; omega
  have h4 : x ≤ b := by rw [tw_le]; rw [tw_lt] at h2; omega
  simp [tw_in, h3, h4]
theorem tw_in_iff (x a b : Int32) : tw_in x a b = true ↔ a.toInt ≤ x.toInt ∧ x.toInt ≤ b.toInt := by
  simp [tw_in, tw_le]
theorem tw_in_iff' (x a b : Int32) : tw_in x a b = false ↔ ¬ (a.toInt ≤ x.toInt ∧ x.toInt ≤ b.toInt) := by
  rw [← tw_in_iff]; cases tw_in x a b <;> simp
/-- an index that is within: a small number -/
theorem tw_in_nI {x : Int32} {n : Nat} (hn : n < 2 ^ 30) (h0 : ¬ x < 0) (h1 : ¬ nI n ≤ x) : ∃ k : Nat, k < n ∧ x = nI k := by
  obtain ⟨j, hj, rfl⟩ := nI_of h0
  refine ⟨j, ?_, rfl⟩
  rcases Nat.lt_or_ge j n with q | q
  · exact q
  · exact absurd (nI_le q hj) h1
/-- the kind of a place: 0 depot, 1 courier, 2 locker, 3 receiver, -1 none -/
def tw_kind (p : Int32) : Int32 := if p = 0 then 0 else if tw_in p 1 4 = true then 1 else if tw_in p 10 19 = true then 2 else if p = 30 then 3 else -1
theorem tw_kind_5 (p : Int32) : tw_kind p = -1 ∨ ∃ k : Nat, k < 4 ∧ tw_kind p = nI k := by
  unfold tw_kind
  split
  · exact Or.inr ⟨0, by decide, rfl⟩
  · split
    · exact Or.inr ⟨1, by decide, rfl⟩
    · split
      · exact Or.inr ⟨2, by decide, rfl⟩
      · split
        · exact Or.inr ⟨3, by decide, rfl⟩
        · exact Or.inl rfl
def tw_cmn (p q : Int32) : Int32 := if p = q then 0 else if tw_kind p = -1 then 1000000 else if tw_kind q = -1 then 1000000 else kx_min (tw_kind p * 4 + tw_kind q).toNatClampNeg
theorem tw_kind_ix {a b : Int32} {i j : Nat} (ha : a = nI i) (hb : b = nI j) (hi : i < 4) (hj : j < 4) : a * 4 + b = nI (i * 4 + j) := by
  rw [ha, hb, show (4 : Int32) = nI 4 from rfl, pk_mul, nI_add]
def tw_cour1 (p : Int32) : Int32 := if tw_in p 1 4 = true then p - 1 else -1
/-- is bit x set in the set st? -/
def tw_tru (st x : Int32) : Bool := decide (((st >>> (x &&& 31)) &&& 1) = 1)
/-- the place that the story tells last -/
def tw_last (st : Int32) (pl : Nat → Int32) : Nat → Int32
  | 0 => 0
  | k + 1 => if tw_tru st (nI k) = true then pl k else tw_last st pl k
/-- the courier that the story tells last -/
def tw_cour (st : Int32) (pl : Nat → Int32) : Nat → Int32
  | 0 => -1
  | k + 1 => if tw_tru st (nI k) = true ∧ tw_cour1 (pl k) ≠ -1 then tw_cour1 (pl k) else tw_cour st pl k
/-- since when the story tells no other place -/
def tw_since (st : Int32) (pl tm : Nat → Int32) (w : Int32) : Nat → Int32 → Int32
  | 0, s => s
  | k + 1, s => if tw_tru st (nI k) = true then (if pl k = w then tw_since st pl tm w k (tm k) else s) else tw_since st pl tm w k s
def tw_lies (st : Int32) (mk : Nat → Int32) (who : Int32) : Nat → Int32
  | 0 => 0
  | k + 1 => if mk k = who ∧ tw_tru st (nI k) = false then tw_lies st mk who k + 1 else tw_lies st mk who k
theorem tw_last_t {st : Int32} {pl : Nat → Int32} {k : Nat} (h : tw_tru st (nI k) = true) : tw_last st pl (k + 1) = pl k := by simp [tw_last, h]
theorem tw_last_f {st : Int32} {pl : Nat → Int32} {k : Nat} (h : tw_tru st (nI k) = false) : tw_last st pl (k + 1) = tw_last st pl k := by simp [tw_last, h]
theorem tw_lies_t {st : Int32} {mk : Nat → Int32} {who : Int32} {k : Nat} (h1 : mk k = who) (h : tw_tru st (nI k) = false) : tw_lies st mk who (k + 1) = tw_lies st mk who k + 1 := by simp [tw_lies, h, h1]
theorem tw_lies_f1 {st : Int32} {mk : Nat → Int32} {who : Int32} {k : Nat} (h1 : ¬ mk k = who) : tw_lies st mk who (k + 1) = tw_lies st mk who k := by simp [tw_lies, h1]
theorem tw_lies_f2 {st : Int32} {mk : Nat → Int32} {who : Int32} {k : Nat} (h : tw_tru st (nI k) = true) : tw_lies st mk who (k + 1) = tw_lies st mk who k := by simp [tw_lies, h]
theorem tw_cour_f1 {st : Int32} {pl : Nat → Int32} {k : Nat} (h : tw_tru st (nI k) = false) : tw_cour st pl (k + 1) = tw_cour st pl k := by simp [tw_cour, h]
theorem tw_cour_f2 {st : Int32} {pl : Nat → Int32} {k : Nat} (h : tw_cour1 (pl k) = -1) : tw_cour st pl (k + 1) = tw_cour st pl k := by simp [tw_cour, h]
theorem tw_cour_t {st : Int32} {pl : Nat → Int32} {k : Nat} (h : tw_tru st (nI k) = true) (h2 : ¬ tw_cour1 (pl k) = -1) : tw_cour st pl (k + 1) = tw_cour1 (pl k) := by simp [tw_cour, h, h2]
theorem tw_m1 (k : Nat) : nI (k + 1) - 1 = nI k := by rw [nI_succ]; exact Int32.add_sub_cancel _ _
theorem tw_neg (k : Nat) (h : k < 2 ^ 31) : ¬ nI k < 0 := nI_pos h
theorem tw_dn0 : ¬ (0 : Int32) ≤ nI 0 - 1 := by decide
theorem tw_since_1 {st : Int32} {pl tm : Nat → Int32} {w z : Int32} {k : Nat} (h : tw_tru st (nI k) = false) : tw_since st pl tm w (k + 1) z = tw_since st pl tm w k z := by simp [tw_since, h]
theorem tw_since_2 {st : Int32} {pl tm : Nat → Int32} {w z : Int32} {k : Nat} (h : tw_tru st (nI k) = true) (h2 : ¬ pl k = w) : tw_since st pl tm w (k + 1) z = z := by simp [tw_since, h, h2]
theorem tw_since_3 {st : Int32} {pl tm : Nat → Int32} {w z : Int32} {k : Nat} (h : tw_tru st (nI k) = true) (h2 : pl k = w) : tw_since st pl tm w (k + 1) z = tw_since st pl tm w k (tm k) := by simp [tw_since, h, h2]
def tw_after (tm : Nat → Int32) (n : Nat) (x : Int32) : Bool := decide (0 < n ∧ x < tm (n - 1))
theorem tw_after_3 {n : Nat} (h : ¬ nI n ≤ 0) : ∃ k : Nat, n = k + 1 := by
  cases n with
  | zero => exact absurd (by decide) h
  | succ k => exact ⟨k, rfl⟩
theorem tw_after_0 {tm : Nat → Int32} {n : Nat} {x : Int32} (hn : n ≤ 12) (h : nI n ≤ 0) : tw_after tm n x = false := by
  cases n with
  | zero => simp [tw_after]
  | succ k => exact absurd h (nI_nle (by omega) (by omega))
theorem tw_after_1 {tm : Nat → Int32} {k : Nat} {x : Int32} (h : tm k ≤ x) : tw_after tm (k + 1) x = false := by
  have h2 : ¬ x < tm k := by rw [tw_lt]; rw [tw_le] at h; omega
  simp [tw_after, h2]
theorem tw_after_2 {tm : Nat → Int32} {k : Nat} {x : Int32} (h : ¬ tm k ≤ x) : tw_after tm (k + 1) x = true := by
  have h2 : x < tm k := by rw [tw_lt]; rw [tw_le] at h; omega
  simp [tw_after, h2]
end
section
/-! bits (begun with the given text on bits) -/
def bt (x : Int32) (i : Nat) : Bool := x.toBitVec.getLsbD i
theorem b_ext {x y : Int32} (h : ∀ i, i < 32 → bt x i = bt y i) : x = y := Int32.toBitVec_inj.mp (BitVec.eq_of_getLsbD_eq (fun i hi => h i hi))
theorem b_or (x y : Int32) (i : Nat) : bt (x ||| y) i = (bt x i || bt y i) := by unfold bt; rw [Int32.toBitVec_or, BitVec.getLsbD_or]
theorem b_and (x y : Int32) (i : Nat) : bt (x &&& y) i = (bt x i && bt y i) := by unfold bt; rw [Int32.toBitVec_and, BitVec.getLsbD_and]
theorem s_l : ∀ n, n < 32 → ((nI n &&& 31).toBitVec.smod 32).toNat = n := by decide +kernel
theorem b_shl (n : Nat) (hn : n < 32) (x : Int32) {i : Nat} (hi : i < 32) : bt (x <<< (nI n &&& 31)) i = (decide (n ≤ i) && bt x (i - n)) := by
  unfold bt
  rw [Int32.toBitVec_shiftLeft]
  show (x.toBitVec <<< ((nI n &&& 31).toBitVec.smod 32).toNat).getLsbD i = _
  rw [s_l n hn, BitVec.getLsbD_shiftLeft]
  rcases Nat.lt_or_ge i n with h | h
  · simp [h, Nat.not_le.mpr h]
  · simp [hi, h, Nat.not_lt.mpr h]
theorem b_sshr (n : Nat) (hn : n < 32) (x : Int32) {i : Nat} (hi : i < 32) : bt (x >>> (nI n &&& 31)) i = if n + i < 32 then bt x (n + i) else bt x 31 := by
  unfold bt
  rw [Int32.toBitVec_shiftRight]
  show (x.toBitVec.sshiftRight ((nI n &&& 31).toBitVec.smod 32).toNat).getLsbD i = _
  rw [s_l n hn, BitVec.getLsbD_sshiftRight, BitVec.msb_eq_getLsbD_last]
  simp [hi]
theorem tw_b1 (i : Nat) (hi : i < 32) : bt 1 i = decide (i = 0) := (by decide +kernel : ∀ i, i < 32 → bt 1 i = decide (i = 0)) i hi
theorem tw_and1 (y : Int32) : (y &&& 1 = 1 ∧ bt y 0 = true) ∨ (y &&& 1 = 0 ∧ bt y 0 = false) := by
  cases h : bt y 0 with
  | true =>
    refine Or.inl ⟨b_ext (fun i hi => ?_), rfl⟩
    rw [b_and, tw_b1 i hi]
    by_cases e : i = 0
    · subst e; simp [h]
    · simp [e]
  | false =>
    refine Or.inr ⟨b_ext (fun i hi => ?_), rfl⟩
    rw [b_and, tw_b1 i hi, show bt 0 i = false from BitVec.getLsbD_zero]
    by_cases e : i = 0
    · subst e; simp [h]
    · simp [e]
theorem tw_bt (st : Int32) (j : Nat) (hj : j < 32) : tw_tru st (nI j) = bt st j := by
  have h : bt (st >>> (nI j &&& 31)) 0 = bt st j := by rw [b_sshr j hj st (by decide), if_pos (by omega)]; rfl
  unfold tw_tru
  rcases tw_and1 (st >>> (nI j &&& 31)) with ⟨h1, h2⟩ | ⟨h1, h2⟩
  · rw [h1, ← h, h2]; rfl
  · rw [h1, ← h, h2]; rfl
theorem tw_or (a : Int32) (k : Nat) (hk : k < 32) (j : Nat) (hj : j < 32) : tw_tru (a ||| ((1 : Int32) <<< (nI k &&& 31))) (nI j) = (tw_tru a (nI j) || decide (j = k)) := by
  rw [tw_bt _ j hj, tw_bt _ j hj, b_or, b_shl k hk 1 hj]
  congr 1
  rcases Nat.lt_or_ge j k with h | h
  · simp [Nat.not_le.mpr h, Nat.ne_of_lt h]
  · rw [tw_b1 _ (by omega)]
    by_cases e : j = k
    · subst e; simp
    · have h2 : ¬ j - k = 0 := by omega
      simp [h, e, h2]
theorem tw_bit01 (st x : Int32) : ((st >>> (x &&& 31)) &&& 1 = 0 ↔ tw_tru st x = false) := by
  unfold tw_tru
  rcases tw_and1 (st >>> (x &&& 31)) with ⟨h1, -⟩ | ⟨h1, -⟩ <;> rw [h1] <;> decide
theorem tw_tru0 (j : Nat) (hj : j < 32) : tw_tru 0 (nI j) = false := by rw [tw_bt _ j hj]; exact BitVec.getLsbD_zero
theorem tw_tru4096 : ∀ j, j < 13 → tw_tru 4096 (nI j) = decide (j = 12) := by decide +kernel
/-! whole numbers -/
theorem tw_rng (x : Int32) : -2147483648 ≤ x.toInt ∧ x.toInt < 2147483648 := ⟨Int32.le_toInt x, Int32.toInt_lt x⟩
theorem tw_bmod {z : Int} (h1 : -2147483648 ≤ z) (h2 : z < 2147483648) : z.bmod (2 ^ 32) = z := Int.bmod_eq_of_le (by omega) (by omega)
theorem tw_addI {x y : Int32} (h1 : -2147483648 ≤ x.toInt + y.toInt) (h2 : x.toInt + y.toInt < 2147483648) : (x + y).toInt = x.toInt + y.toInt := by
  rw [Int32.toInt_add]; exact tw_bmod h1 h2
theorem tw_subI {x y : Int32} (h1 : -2147483648 ≤ x.toInt - y.toInt) (h2 : x.toInt - y.toInt < 2147483648) : (x - y).toInt = x.toInt - y.toInt := by
  rw [Int32.toInt_sub]; exact tw_bmod h1 h2
theorem tw_mulI {x y : Int32} (h1 : -2147483648 ≤ x.toInt * y.toInt) (h2 : x.toInt * y.toInt < 2147483648) : (x * y).toInt = x.toInt * y.toInt := by
  rw [Int32.toInt_mul]; exact tw_bmod h1 h2
theorem tw_max (x y : Int32) : (if x < y then y else x).toInt = max x.toInt y.toInt := by
  by_cases h : x < y
  · rw [if_pos h]; rw [tw_lt] at h; omega
  · rw [if_neg h]; rw [tw_lt] at h; omega
theorem tw_of {x : Int32} (h : 0 ≤ x.toInt) : x = nI x.toInt.toNat := by
  apply Int32.toInt_inj.mp
  have h2 := (tw_rng x).2
  rw [nI_toInt (by omega)]
  omega
theorem tw_rem {g : Int32} {B : Int} (h : g.toInt = B) (h0 : 0 ≤ B) : g - g / 4096 * 4096 = nI (B.toNat % 4096) := by
  have h2 := (tw_rng g).2
  rw [tw_of (x := g) (by omega), h]
  exact pk_rem (a := B.toNat) (d := 4096) (by omega) (by decide) (by decide)
theorem tw_pow : ∀ k, k < 12 → ((1 : Int32) <<< (nI k &&& 31)).toInt = 2 ^ k := by decide +kernel
theorem tw_pow_b : ∀ k, k < 12 → (0 : Int) < 2 ^ k ∧ (2 : Int) ^ k ≤ 2048 := by decide +kernel
/-! fees by courier -/
def tw_fee (row : Nat → Int32) (c a : Int32) : Nat → Int32 := fun j => if j < 4 ∧ nI j = c then row j + a else row j
theorem tw_fee_1 {row : Nat → Int32} {c a : Int32} (h : c < 0) : tw_fee row c a = row := by
  funext j
  unfold tw_fee
  rw [if_neg]
  rintro ⟨h1, h2⟩
  rw [← h2] at h
  exact nI_pos (by omega) h
theorem tw_fee_2 {row : Nat → Int32} {c a : Int32} (h : 4 ≤ c) : tw_fee row c a = row := by
  funext j
  unfold tw_fee
  rw [if_neg]
  rintro ⟨h1, h2⟩
  rw [← h2] at h
  exact nI_ge h1 (by omega) h
theorem tw_fee_3 {row : Nat → Int32} {k : Nat} {a : Int32} (h : k < 4) : tw_fee row (nI k) a = upd row k (row k + a) := by
  funext j
  unfold tw_fee upd
  by_cases e : j = k
  · subst e; simp [h]
  · rw [if_neg e, if_neg]
    rintro ⟨h1, h2⟩
    exact e ((nI_eq (by omega) (by omega)).mp h2)
/-- the trust of the maker k: couriers, doors, 14 for a finding -/
def tw_trust (tr jam : Nat → Int32) (k : Nat) : Int32 := if k = 14 then 50 else if 4 ≤ k ∧ ¬ jam (k - 4) = 0 then 1 else tr k
theorem tw_trust_1 {tr jam : Nat → Int32} {k : Nat} (hk : k ≤ 14) (h : nI k = 14) : tw_trust tr jam k = 50 := by
  have e : k = 14 := (nI_eq (b := 14) (by omega) (by decide)).mp h
  rw [tw_trust, if_pos e]
theorem tw_trust_0 {k : Nat} (h : ¬ nI k = 14) : ¬ k = 14 := fun e => h (by rw [e]; rfl)
theorem tw_trust_4 {k : Nat} (hk : k ≤ 14) (h : ¬ nI k < 4) : 4 ≤ k := by
  rcases Nat.lt_or_ge k 4 with q | q
  · exact absurd (nI_lt (b := 4) q (by decide)) h
  · exact q
theorem tw_trust_3 {k : Nat} (hk : k ≤ 14) (h : nI k < 4) : k < 4 := by
  rcases Nat.lt_or_ge k 4 with q | q
  · exact q
  · exact absurd h (nI_nlt (b := 4) q (by omega))
def tw_w (tr jam mk : Nat → Int32) (k : Nat) : Int32 := tw_trust tr jam (mk k).toNatClampNeg * 4096 + ((1 : Int32) <<< (nI k &&& 31))
theorem tw_m1ne : ∀ j, j < 13 → ¬ nI j = -1 := by decide +kernel
/-! the set of the scans that one can follow, as it grows -/
theorem tw_sa_0t {q t : Int32} {pl tm : Nat → Int32} (h : ¬ t < tw_cmn 0 q) : ∀ j, j < 13 → tw_tru 4096 (nI j) = (if j = 12 then decide (tw_cmn 0 q ≤ t) else if j < 0 then decide (tw_cmn (pl j) q ≤ t - tm j) else false) := by
  intro j hj
  rw [tw_tru4096 j hj]
  have h2 : tw_cmn 0 q ≤ t := by rw [tw_le]; rw [tw_lt] at h; omega
  by_cases e : j = 12
  · simp [e, h2]
  · simp [e]
theorem tw_sa_0f {q t : Int32} {pl tm : Nat → Int32} (h : t < tw_cmn 0 q) : ∀ j, j < 13 → tw_tru 0 (nI j) = (if j = 12 then decide (tw_cmn 0 q ≤ t) else if j < 0 then decide (tw_cmn (pl j) q ≤ t - tm j) else false) := by
  intro j hj
  rw [tw_tru0 j (by omega)]
  have h2 : ¬ tw_cmn 0 q ≤ t := by rw [tw_le]; rw [tw_lt] at h; omega
  by_cases e : j = 12
  · simp [e, h2]
  · simp [e]
theorem tw_sa_f {q t a : Int32} {k : Nat} {pl tm : Nat → Int32} (hk : k < 12) (hL : ∀ j, j < 13 → tw_tru a (nI j) = (if j = 12 then decide (tw_cmn 0 q ≤ t) else if j < k then decide (tw_cmn (pl j) q ≤ t - tm j) else false)) (h : t - tm k < tw_cmn (pl k) q) : ∀ j, j < 13 → tw_tru a (nI j) = (if j = 12 then decide (tw_cmn 0 q ≤ t) else if j < k + 1 then decide (tw_cmn (pl j) q ≤ t - tm j) else false) := by
  intro j hj
  rw [hL j hj]
  have h2 : ¬ tw_cmn (pl k) q ≤ t - tm k := by rw [tw_le]; rw [tw_lt] at h; omega
  by_cases e : j = 12
  · simp [e]
  · by_cases e2 : j = k
    · subst e2; simp [e, h2]
    · by_cases e3 : j < k
      · simp [e, e3, Nat.lt_succ_of_lt e3]
      · have e4 : ¬ j < k + 1 := by omega
        simp [e, e3, e4]
theorem tw_sa_t {q t a : Int32} {k : Nat} {pl tm : Nat → Int32} (hk : k < 12) (hL : ∀ j, j < 13 → tw_tru a (nI j) = (if j = 12 then decide (tw_cmn 0 q ≤ t) else if j < k then decide (tw_cmn (pl j) q ≤ t - tm j) else false)) (h : ¬ t - tm k < tw_cmn (pl k) q) : ∀ j, j < 13 → tw_tru (a ||| ((1 : Int32) <<< (nI k &&& 31))) (nI j) = (if j = 12 then decide (tw_cmn 0 q ≤ t) else if j < k + 1 then decide (tw_cmn (pl j) q ≤ t - tm j) else false) := by
  intro j hj
  rw [tw_or a k (by omega) j (by omega), hL j hj]
  have h2 : tw_cmn (pl k) q ≤ t - tm k := by rw [tw_le]; rw [tw_lt] at h; omega
  by_cases e : j = 12
  · have e5 : ¬ (12 : Nat) = k := by omega
    simp [e, e5]
  · by_cases e2 : j = k
    · subst e2; simp [e, h2]
    · by_cases e3 : j < k
      · simp [e, e2, e3, Nat.lt_succ_of_lt e3]
      · have e4 : ¬ j < k + 1 := by omega
        simp [e, e2, e3, e4]
theorem tw_note_e1 {f : Nat → Int32} {n j : Nat} {x : Int32} (h : j < n) : upd f n x j = f j := upd_n (by omega)
theorem tw_note_e2 {f : Nat → Int32} {n j : Nat} {x : Int32} (h : j < n) : upd f n x j = f j := upd_n (by omega)
end
section
/-! THE STORY: the best sums scan by scan; the greatest worth of all that go on -/
def dp_ah (fo : Nat → Nat → Bool) (st : Nat → Bool) (S : Nat → Int) (k : Nat) : Nat → Int
  | 0 => if st k = true then 0 else -1
  | j + 1 => if fo j k = true then max (dp_ah fo st S k j) (S j) else dp_ah fo st S k j
def dp_v (w : Nat → Int) (fo : Nat → Nat → Bool) (st : Nat → Bool) (S : Nat → Int) (k : Nat) : Int := if dp_ah fo st S k k = -1 then -1 else dp_ah fo st S k k + w k
def dp_n (w : Nat → Int) (fo : Nat → Nat → Bool) (st : Nat → Bool) : Nat → Nat → Int
  | 0 => fun _ => -1
  | n + 1 => fun k => if k = n then dp_v w fo st (dp_n w fo st n) n else dp_n w fo st n k
def dp_S (w : Nat → Int) (fo : Nat → Nat → Bool) (st : Nat → Bool) (k : Nat) : Int := dp_n w fo st (k + 1) k
def dp_best (S : Nat → Int) : Nat → Int
  | 0 => 0
  | k + 1 => max (dp_best S k) (S k)
theorem dp_ah_congr {fo : Nat → Nat → Bool} {st : Nat → Bool} {S S' : Nat → Int} {k : Nat} : ∀ (j : Nat), (∀ i, i < j → S i = S' i) → dp_ah fo st S k j = dp_ah fo st S' k j := by
  intro j
  induction j with
  | zero => intro _; rfl
  | succ j ih =>
    intro h
    rw [dp_ah, dp_ah, ih (fun i hi => h i (by omega)), h j (by omega)]
theorem dp_n_S {w : Nat → Int} {fo : Nat → Nat → Bool} {st : Nat → Bool} {k : Nat} : ∀ n, k < n → dp_n w fo st n k = dp_S w fo st k := by
  intro n
  induction n with
  | zero => intro h; omega
  | succ n ih =>
    intro h
    by_cases e : k = n
    · subst e; rfl
    · rw [dp_n]
      simp only [if_neg e]
      exact ih (by omega)
theorem dp_S_eq (w : Nat → Int) (fo : Nat → Nat → Bool) (st : Nat → Bool) (k : Nat) : dp_S w fo st k = dp_v w fo st (dp_S w fo st) k := by
  have h : dp_S w fo st k = dp_v w fo st (dp_n w fo st k) k := by
    unfold dp_S
    rw [dp_n]
    simp
  rw [h]
  unfold dp_v
  rw [dp_ah_congr k (fun i hi => dp_n_S k hi)]
theorem dp_ah_lo {fo : Nat → Nat → Bool} {st : Nat → Bool} {S : Nat → Int} {k : Nat} : ∀ j, -1 ≤ dp_ah fo st S k j := by
  intro j
  induction j with
  | zero => rw [dp_ah]; split <;> omega
  | succ j ih => rw [dp_ah]; split <;> omega
/-- bounds: at most b a scan -/
theorem dp_ah_hi {fo : Nat → Nat → Bool} {st : Nat → Bool} {S : Nat → Int} {k : Nat} {M : Int} (hM : 0 ≤ M) : ∀ j, (∀ i, i < j → S i ≤ M) → dp_ah fo st S k j ≤ M := by
  intro j
  induction j with
  | zero => intro _; rw [dp_ah]; split <;> omega
  | succ j ih =>
    intro h
    have h1 := ih (fun i hi => h i (by omega))
    have h2 := h j (by omega)
    rw [dp_ah]; split <;> omega
theorem dp_S_bd {w : Nat → Int} {fo : Nat → Nat → Bool} {st : Nat → Bool} {B : Int} (hB : 0 ≤ B) : ∀ n, (∀ k, k < n → 0 < w k ∧ w k ≤ B) → ∀ k, k < n → -1 ≤ dp_S w fo st k ∧ dp_S w fo st k ≤ (k + 1) * B := by
  intro n h k
  induction k using Nat.strongRecOn with
  | ind k ih =>
    intro hk
    obtain ⟨h1, h2⟩ := h k hk
    have e := dp_S_eq w fo st k
    have hM : (0 : Int) ≤ k * B := Int.mul_nonneg (by omega) hB
    have h3 : dp_ah fo st (dp_S w fo st) k k ≤ k * B := dp_ah_hi hM k (fun i hi => by
      have h4 := (ih i hi (by omega)).2
      have h5 : ((i : Int) + 1) * B ≤ k * B := Int.mul_le_mul_of_nonneg_right (by omega) hB
      omega)
    have h6 := dp_ah_lo (fo := fo) (st := st) (S := dp_S w fo st) (k := k) k
    have h7 : ((k : Int) + 1) * B = k * B + B := by rw [Int.add_mul, Int.one_mul]
    rw [e]
    unfold dp_v
    split <;> omega
theorem dp_best_bd {S : Nat → Int} {M : Int} (hM : 0 ≤ M) : ∀ n, (∀ k, k < n → S k ≤ M) → 0 ≤ dp_best S n ∧ dp_best S n ≤ M := by
  intro n
  induction n with
  | zero => intro _; rw [dp_best]; omega
  | succ n ih =>
    intro h
    have h1 := ih (fun k hk => h k (by omega))
    have h2 := h n (by omega)
    rw [dp_best]; omega
theorem dp_best_congr {S S' : Nat → Int} : ∀ n, (∀ k, k < n → S k = S' k) → dp_best S n = dp_best S' n := by
  intro n
  induction n with
  | zero => intro _; rfl
  | succ n ih => intro h; rw [dp_best, dp_best, ih (fun k hk => h k (by omega)), h n (by omega)]
theorem dp_ah_congr2 {fo fo' : Nat → Nat → Bool} {st st' : Nat → Bool} {S : Nat → Int} {k : Nat} (hs : st k = st' k) : ∀ (j : Nat), (∀ i, i < j → fo i k = fo' i k) → dp_ah fo st S k j = dp_ah fo' st' S k j := by
  intro j
  induction j with
  | zero => intro _; rw [dp_ah, dp_ah, hs]
  | succ j ih =>
    intro h
    rw [dp_ah, dp_ah, ih (fun i hi => h i (by omega)), h j (by omega)]
theorem dp_S_congr {w w' : Nat → Int} {fo fo' : Nat → Nat → Bool} {st st' : Nat → Bool} {n : Nat} (hw : ∀ k, k < n → w k = w' k) (hs : ∀ k, k < n → st k = st' k) (hf : ∀ k, k < n → ∀ j, j < k → fo j k = fo' j k) : ∀ k, k < n → dp_S w fo st k = dp_S w' fo' st' k := by
  intro k
  induction k using Nat.strongRecOn with
  | ind k ih =>
    intro hk
    rw [dp_S_eq, dp_S_eq]
    unfold dp_v
    rw [dp_ah_congr2 (hs k hk) k (hf k hk), dp_ah_congr k (fun i hi => ih i hi (by omega)), hw k hk]
/-! all that go on: from x (the last scan is x - 1, none if x is 0), by a depth -/
def dp_g (fo : Nat → Nat → Bool) (st : Nat → Bool) : Nat → Nat → Bool
  | 0, k => st k
  | j + 1, k => fo j k
def dp_fi (g : Nat → Nat → Bool) (w : Nat → Int) (E : Nat → Int) (x : Nat) : Nat → Int
  | 0 => 0
  | j + 1 => if g x (x + j) = true then max (dp_fi g w E x j) (w (x + j) + E (x + j + 1)) else dp_fi g w E x j
def dp_e (g : Nat → Nat → Bool) (w : Nat → Int) (n : Nat) : Nat → Nat → Int
  | 0, _ => 0
  | d + 1, x => dp_fi g w (dp_e g w n d) x (n - x)
theorem dp_fi_lo {g : Nat → Nat → Bool} {w E : Nat → Int} {x : Nat} : ∀ j, 0 ≤ dp_fi g w E x j := by
  intro j
  induction j with
  | zero => rw [dp_fi]; omega
  | succ j ih => rw [dp_fi]; split <;> omega
theorem dp_fi_ge {g : Nat → Nat → Bool} {w E : Nat → Int} {x i : Nat} : ∀ j, i < j → g x (x + i) = true → w (x + i) + E (x + i + 1) ≤ dp_fi g w E x j := by
  intro j
  induction j with
  | zero => intro h; omega
  | succ j ih =>
    intro h hg
    rw [dp_fi]
    by_cases e : i = j
    · subst e
      rw [if_pos hg]; omega
    · have := ih (by omega) hg
      split <;> omega
theorem dp_fi_le {g : Nat → Nat → Bool} {w E : Nat → Int} {x : Nat} {B : Int} (hB : 0 ≤ B) : ∀ j, (∀ i, i < j → g x (x + i) = true → w (x + i) + E (x + i + 1) ≤ B) → dp_fi g w E x j ≤ B := by
  intro j
  induction j with
  | zero => intro _; rw [dp_fi]; exact hB
  | succ j ih =>
    intro h
    have h1 := ih (fun i hi => h i (by omega))
    rw [dp_fi]
    split
    · have h2 := h j (by omega) (by assumption)
      omega
    · exact h1
theorem dp_fi_congr {g : Nat → Nat → Bool} {w E E' : Nat → Int} {x : Nat} : ∀ j, (∀ i, i < j → E (x + i + 1) = E' (x + i + 1)) → dp_fi g w E x j = dp_fi g w E' x j := by
  intro j
  induction j with
  | zero => intro _; rfl
  | succ j ih => intro h; rw [dp_fi, dp_fi, ih (fun i hi => h i (by omega)), h j (by omega)]
theorem dp_e_n {g : Nat → Nat → Bool} {w : Nat → Int} {n x : Nat} (h : n ≤ x) : ∀ d, dp_e g w n d x = 0 := by
  intro d
  cases d with
  | zero => rfl
  | succ d => rw [dp_e, show n - x = 0 by omega, dp_fi]
theorem dp_e_fuel {g : Nat → Nat → Bool} {w : Nat → Int} {n : Nat} : ∀ d d' x, n - x ≤ d → n - x ≤ d' → dp_e g w n d x = dp_e g w n d' x := by
  intro d
  induction d with
  | zero => intro d' x h h'; rw [dp_e_n (by omega), dp_e_n (by omega)]
  | succ d ih =>
    intro d' x h h'
    cases d' with
    | zero => rw [dp_e_n (by omega), dp_e_n (by omega)]
    | succ d' =>
      rw [dp_e, dp_e]
      exact dp_fi_congr _ (fun i hi => ih d' (x + i + 1) (by omega) (by omega))
theorem dp_e_bd {g : Nat → Nat → Bool} {w : Nat → Int} {n : Nat} {B : Int} (hB : 0 ≤ B) (hw : ∀ k, k < n → w k ≤ B) : ∀ d x, 0 ≤ dp_e g w n d x ∧ dp_e g w n d x ≤ ((n - x : Nat) : Int) * B := by
  intro d
  induction d with
  | zero => intro x; rw [dp_e]; exact ⟨Int.le_refl 0, Int.mul_nonneg (by omega) hB⟩
  | succ d ih =>
    intro x
    rw [dp_e]
    refine ⟨dp_fi_lo _, dp_fi_le (Int.mul_nonneg (by omega) hB) _ (fun i hi hg => ?_)⟩
    have h1 := (ih (x + i + 1)).2
    have h2 := hw (x + i) (by omega)
    have h3 : (((n - (x + i + 1) : Nat) : Int) + 1) * B ≤ ((n - x : Nat) : Int) * B := Int.mul_le_mul_of_nonneg_right (by omega) hB
    rw [Int.add_mul, Int.one_mul] at h3
    omega
theorem dp_ah_ge {fo : Nat → Nat → Bool} {st : Nat → Bool} {S : Nat → Int} {k i : Nat} : ∀ j, i < j → fo i k = true → S i ≤ dp_ah fo st S k j := by
  intro j
  induction j with
  | zero => intro h; omega
  | succ j ih =>
    intro h hf
    rw [dp_ah]
    by_cases e : i = j
    · subst e; rw [if_pos hf]; omega
    · have := ih (by omega) hf
      split <;> omega
theorem dp_ah_st {fo : Nat → Nat → Bool} {st : Nat → Bool} {S : Nat → Int} {k : Nat} (h : st k = true) : ∀ j, 0 ≤ dp_ah fo st S k j := by
  intro j
  induction j with
  | zero => rw [dp_ah, if_pos h]; omega
  | succ j ih => rw [dp_ah]; split <;> omega
theorem dp_ah_at {fo : Nat → Nat → Bool} {st : Nat → Bool} {S : Nat → Int} {k : Nat} : ∀ j, dp_ah fo st S k j = -1 ∨ (dp_ah fo st S k j = 0 ∧ st k = true) ∨ ∃ i, i < j ∧ fo i k = true ∧ dp_ah fo st S k j = S i := by
  intro j
  induction j with
  | zero =>
    rw [dp_ah]
    split
    · exact Or.inr (Or.inl ⟨rfl, by assumption⟩)
    · exact Or.inl rfl
  | succ j ih =>
    rw [dp_ah]
    split
    · rename_i hf
      rcases Int.le_total (dp_ah fo st S k j) (S j) with h | h
      · exact Or.inr (Or.inr ⟨j, by omega, hf, by omega⟩)
      · rw [show max (dp_ah fo st S k j) (S j) = dp_ah fo st S k j by omega]
        rcases ih with h1 | h1 | ⟨i, h1, h2, h3⟩
        · exact Or.inl h1
        · exact Or.inr (Or.inl h1)
        · exact Or.inr (Or.inr ⟨i, by omega, h2, h3⟩)
    · rcases ih with h1 | h1 | ⟨i, h1, h2, h3⟩
      · exact Or.inl h1
      · exact Or.inr (Or.inl h1)
      · exact Or.inr (Or.inr ⟨i, by omega, h2, h3⟩)
theorem dp_best_ge {S : Nat → Int} {k : Nat} : ∀ n, k < n → S k ≤ dp_best S n := by
  intro n
  induction n with
  | zero => intro h; omega
  | succ n ih =>
    intro h
    rw [dp_best]
    by_cases e : k = n
    · subst e; omega
    · have := ih (by omega); omega
theorem dp_best_0 {S : Nat → Int} : ∀ n, 0 ≤ dp_best S n := by
  intro n
  induction n with
  | zero => rw [dp_best]; omega
  | succ n ih => rw [dp_best]; omega
theorem dp_best_le {S : Nat → Int} {B : Int} (hB : 0 ≤ B) : ∀ n, (∀ k, k < n → S k ≤ B) → dp_best S n ≤ B := by
  intro n
  induction n with
  | zero => intro _; rw [dp_best]; exact hB
  | succ n ih =>
    intro h
    have h1 := ih (fun k hk => h k (by omega))
    have h2 := h n (by omega)
    rw [dp_best]; omega
/-- going through all that go on finds what the best sums find -/
theorem dp_all {w : Nat → Int} {fo : Nat → Nat → Bool} {st : Nat → Bool} {n d : Nat} (hw : ∀ k, k < n → 0 < w k) (hd : n ≤ d) : dp_e (dp_g fo st) w n d 0 = dp_best (dp_S w fo st) n := by
  have hS : ∀ k, dp_S w fo st k = if dp_ah fo st (dp_S w fo st) k k = -1 then -1 else dp_ah fo st (dp_S w fo st) k k + w k := fun k => dp_S_eq w fo st k
  generalize dp_S w fo st = S at hS
  have hE : ∀ x, x < n → dp_e (dp_g fo st) w n d x = dp_fi (dp_g fo st) w (dp_e (dp_g fo st) w n d) x (n - x) := by
    intro x hx
    cases d with
    | zero => omega
    | succ d =>
      rw [dp_e]
      exact dp_fi_congr _ (fun i hi => dp_e_fuel d (d + 1) _ (by omega) (by omega))
  generalize hEe : dp_e (dp_g fo st) w n d = E at hE
  have hE0 : ∀ x, 0 ≤ E x := by
    intro x
    rw [← hEe]
    cases d with
    | zero => exact Int.le_refl 0
    | succ d => exact dp_fi_lo _
  have hEn : ∀ x, n ≤ x → E x = 0 := fun x hx => by rw [← hEe]; exact dp_e_n hx d
  -- a sum and what goes on from it is no more than the best sum
  have up : ∀ m k, n - (k + 1) ≤ m → k < n → S k ≠ -1 → S k + E (k + 1) ≤ dp_best S n := by
    intro m
    induction m with
    | zero =>
      intro k h hk hne
      rw [hEn (k + 1) (by omega)]
      have := dp_best_ge (S := S) n hk
      omega
    | succ m ih =>
      intro k h hk hne
      have hb := dp_best_ge (S := S) n hk
      rcases Nat.lt_or_ge (k + 1) n with q | q
      · rw [hE (k + 1) q]
        have := dp_fi_le (g := dp_g fo st) (w := w) (E := E) (x := k + 1) (B := dp_best S n - S k) (by omega) (n - (k + 1)) (fun i hi hg => by
          have hg : fo k (k + 1 + i) = true := hg
          have hl : k + 1 + i < n := by omega
          have h1 := dp_ah_ge (fo := fo) (st := st) (S := S) (k := k + 1 + i) (i := k) (k + 1 + i) (by omega) hg
          have h2 := hS (k + 1 + i)
          have h3 := hw (k + 1 + i) hl
          have hsk : 0 ≤ S k := by
            have h4 := hS k
            have h5 := dp_ah_lo (fo := fo) (st := st) (S := S) (k := k) k
            have h6 := hw k hk
            split at h4
            · exact absurd h4 hne
            · omega
          have h7 : ¬ dp_ah fo st S (k + 1 + i) (k + 1 + i) = -1 := by omega
          rw [if_neg h7] at h2
          have h8 := ih (k + 1 + i) (by omega) hl (by omega)
          omega)
        omega
      · rw [hEn (k + 1) q]
        omega
  have dn : ∀ k, k < n → S k ≠ -1 → S k + E (k + 1) ≤ E 0 := by
    intro k
    induction k using Nat.strongRecOn with
    | ind k ih =>
      intro hk hne
      have h2 := hS k
      have h3 := hw k hk
      rcases dp_ah_at (fo := fo) (st := st) (S := S) (k := k) k with h1 | ⟨h1, h4⟩ | ⟨i, h1, h4, h5⟩
      · rw [if_pos h1] at h2
        exact absurd h2 hne
      · rw [if_neg (by omega), h1] at h2
        rw [hE 0 (by omega)]
        have := dp_fi_ge (g := dp_g fo st) (w := w) (E := E) (x := 0) (i := k) (n - 0) (by omega) (by rw [Nat.zero_add]; exact h4)
        rw [Nat.zero_add] at this
        omega
      · have h6 : ¬ dp_ah fo st S k k = -1 := by
          intro h
          rw [if_pos h] at h2
          exact hne h2
        rw [if_neg h6, h5] at h2
        have h7 := ih i h1 (by omega) (by rw [← h5]; exact h6)
        have h8 : w k + E (k + 1) ≤ E (i + 1) := by
          rw [hE (i + 1) (by omega)]
          have := dp_fi_ge (g := dp_g fo st) (w := w) (E := E) (x := i + 1) (i := k - (i + 1)) (n - (i + 1)) (by omega) (by rw [show i + 1 + (k - (i + 1)) = k by omega]; exact h4)
          rw [show i + 1 + (k - (i + 1)) = k by omega] at this
          exact this
        omega
  apply Int.le_antisymm
  · rcases Nat.eq_zero_or_pos n with q | q
    · rw [hEn 0 (by omega)]; exact dp_best_0 n
    · rw [hE 0 q]
      refine dp_fi_le (dp_best_0 n) _ (fun i hi hg => ?_)
      rw [Nat.zero_add] at hg ⊢
      have hg : st i = true := hg
      have hl : i < n := by omega
      have h1 := dp_ah_st (fo := fo) (S := S) hg i
      have h2 := hS i
      have h3 := hw i hl
      rw [if_neg (by omega)] at h2
      have := up n i (by omega) hl (by omega)
      omega
  · refine dp_best_le (hE0 0) n (fun k hk => ?_)
    by_cases e : S k = -1
    · have := hE0 0; omega
    · have h1 := dn k hk e
      have h2 := hE0 (k + 1)
      omega
end
section
set_option maxHeartbeats 4000000 in
set_option maxRecDepth 100000 in
/-- is it within? -/
theorem c_X3_isWithin (l : Launch) (G : kx_G) (z0 : Nat) (ad : kx_A) (nb : Nat) (sg : kx_S) (x a b : Int32) : kx_M l yX3_isWithin wsX3_isWithin 0 0 0 0 G z0 ad nb sg [.int x, .int a, .int b] (fun r sg' => r = some (.int (tw_b (tw_in x a b))) ∧ sg' = sg) := by
  refine Met.ofW (cc := cX3_isWithin) (maxL := 3) (ret := (some .boolean)) (by decide) rfl ?_
  intro p e s m args below meth c s₁ B hml hv
  obtain ⟨rfl, hW, hV⟩ := hv
  have hts := atoms_spec (ws := wsX3_isWithin) B.pre
  have F : kx_F p s m c cX3_isWithin 3 RX3 _ wsX3_isWithin G z0 := ⟨B.exec, B.bytes, hml, findClass_of_methodNamed B.named, hts, hV⟩
  have hx := B.exec; have hb := B.bytes; have hr := B.returns; have hlocks := B.notSynchronized
  have hS : va_S (kx_Ad z0) s.heap s.heap [] := va_S.rf
  have hl := lv_entry ([.int x, .int a, .int b]) (n := 3) (Nat.le_of_ble_eq_true rfl)
  rw [lg_entry_eq]
  generalize (lg_sl ([.int x, .int a, .int b]) ++ List.replicate (3 - (lg_sl ([.int x, .int a, .int b])).length) Slot.unset).toArray = ls at hl ⊢
  have hl : lv_has ls 3 [(0, .int x), (1, .int a), (2, .int b)] := hl
  refine lv_iload_n hx hb dX3_isWithin_0 rfl (lv_at hl 0 rfl) ?_
  refine lv_iload_n hx hb dX3_isWithin_1 rfl (lv_at hl 1 rfl) ?_
  refine lv_icmp_lt (tgt := 14) hx hb dX3_isWithin_2 (by decide) (fun c_2 => ?_) (fun c_2 => ?_)
  · refine lv_iconst (v := 0) hx hb dX3_isWithin_14 (by decide) ?_
    exact kx_rz F hr hlocks hW hS (by first | exact Nat.le_of_ble_eq_true rfl | omega) (by first | exact Nat.le_of_ble_eq_true rfl | omega) (by rfl) (⟨congrArg (fun z => some (Value.int z)) (tw_b_f (tw_in_1 c_2)), rfl⟩) dX3_isWithin_15
  · refine lv_iload_n hx hb dX3_isWithin_5 rfl (lv_at hl 0 rfl) ?_
    refine lv_iload_n hx hb dX3_isWithin_6 rfl (lv_at hl 2 rfl) ?_
    refine lv_icmp_gt (tgt := 14) hx hb dX3_isWithin_7 (by decide) (fun c_7 => ?_) (fun c_7 => ?_)
    · refine lv_iconst (v := 0) hx hb dX3_isWithin_14 (by decide) ?_
      exact kx_rz F hr hlocks hW hS (by first | exact Nat.le_of_ble_eq_true rfl | omega) (by first | exact Nat.le_of_ble_eq_true rfl | omega) (by rfl) (⟨congrArg (fun z => some (Value.int z)) (tw_b_f (tw_in_2 c_7)), rfl⟩) dX3_isWithin_15
    · refine lv_iconst (v := 1) hx hb dX3_isWithin_10 (by decide) ?_
      refine lv_goto (tgt := 15) hx hb dX3_isWithin_11 (by decide) ?_
      exact kx_rz F hr hlocks hW hS (by first | exact Nat.le_of_ble_eq_true rfl | omega) (by first | exact Nat.le_of_ble_eq_true rfl | omega) (by rfl) (⟨congrArg (fun z => some (Value.int z)) (tw_b_t (tw_in_3 c_2 c_7)), rfl⟩) dX3_isWithin_15

set_option maxHeartbeats 4000000 in
set_option maxRecDepth 100000 in
/-- the kind of a place -/
theorem c_X3_kindOf (l : Launch) (G : kx_G) (z0 : Nat) (ad : kx_A) (nb : Nat) (sg : kx_S) (x : Int32) : kx_M l yX3_kindOf wsX3_kindOf 1 22 0 0 G z0 ad nb sg [.int x] (fun r sg' => r = some (.int (tw_kind x)) ∧ sg' = sg) := by
  refine Met.ofW (cc := cX3_kindOf) (maxL := 1) (ret := (some .int)) (by decide) rfl ?_
  intro p e s m args below meth c s₁ B hml hv
  obtain ⟨rfl, hW, hV⟩ := hv
  have hts := atoms_spec (ws := wsX3_kindOf) B.pre
  have F : kx_F p s m c cX3_kindOf 1 RX3 _ wsX3_kindOf G z0 := ⟨B.exec, B.bytes, hml, findClass_of_methodNamed B.named, hts, hV⟩
  have hx := B.exec; have hb := B.bytes; have hr := B.returns; have hlocks := B.notSynchronized
  have hS : va_S (kx_Ad z0) s.heap s.heap [] := va_S.rf
  have hl := lv_entry ([.int x]) (n := 1) (Nat.le_of_ble_eq_true rfl)
  rw [lg_entry_eq]
  generalize (lg_sl ([.int x]) ++ List.replicate (1 - (lg_sl ([.int x])).length) Slot.unset).toArray = ls at hl ⊢
  have hl : lv_has ls 1 [(0, .int x)] := hl
  refine lv_iload_n hx hb dX3_kindOf_0 rfl (lv_at hl 0 rfl) ?_
  refine lv_if_ne (tgt := 6) hx hb dX3_kindOf_1 (by decide) (fun c_1 => ?_) (fun c_1 => ?_)
  · refine lv_iload_n hx hb dX3_kindOf_6 rfl (lv_at hl 0 rfl) ?_
    refine lv_iconst (v := 1) hx hb dX3_kindOf_7 (by decide) ?_
    refine lv_iconst (v := 4) hx hb dX3_kindOf_8 (by decide) ?_
    refine kx_cS (na := 3) F (c_X3_isWithin l G z0 ad nb sg x 1 4) gX3_kindOf_X3_isWithin rfl (by decide +kernel) ⟨Nat.le_of_ble_eq_true rfl, Nat.le_of_ble_eq_true rfl⟩ hW hS (As := [.int x, .int 1, .int 4]) (rest := []) rfl hl.1 rfl (by decide) dX3_kindOf_9 ⟨by first | exact Nat.le_of_ble_eq_true rfl | omega, by first | exact Nat.le_of_ble_eq_true rfl | omega⟩ (fun r9 sg9 H locs hq hW hS => ?_)
    obtain ⟨rfl, e9⟩ := hq
    rw [e9] at hW
    refine W.eq (g2 := F0 m 12 ls [.int (tw_b (tw_in x 1 4))]) rfl ?_
    refine lv_if_eq (tgt := 17) hx hb dX3_kindOf_12 (by decide) (fun c_12 => ?_) (fun c_12 => ?_)
    · refine lv_iload_n hx hb dX3_kindOf_17 rfl (lv_at hl 0 rfl) ?_
      refine lv_bipush (v := 10) hx hb dX3_kindOf_18 (by decide) ?_
      refine lv_bipush (v := 19) hx hb dX3_kindOf_20 (by decide) ?_
      refine kx_cS (na := 3) F (c_X3_isWithin l G z0 ad nb sg x 10 19) gX3_kindOf_X3_isWithin rfl (by decide +kernel) ⟨Nat.le_of_ble_eq_true rfl, Nat.le_of_ble_eq_true rfl⟩ hW hS (As := [.int x, .int 10, .int 19]) (rest := []) rfl hl.1 rfl (by decide) dX3_kindOf_22 ⟨by first | exact Nat.le_of_ble_eq_true rfl | omega, by first | exact Nat.le_of_ble_eq_true rfl | omega⟩ (fun r9 sg9 H locs hq hW hS => ?_)
      obtain ⟨rfl, e9⟩ := hq
      rw [e9] at hW
      refine W.eq (g2 := F0 m 25 ls [.int (tw_b (tw_in x 10 19))]) rfl ?_
      refine lv_if_eq (tgt := 30) hx hb dX3_kindOf_25 (by decide) (fun c_25 => ?_) (fun c_25 => ?_)
      · refine lv_iload_n hx hb dX3_kindOf_30 rfl (lv_at hl 0 rfl) ?_
        refine lv_bipush (v := 30) hx hb dX3_kindOf_31 (by decide) ?_
        refine lv_icmp_ne (tgt := 40) hx hb dX3_kindOf_33 (by decide) (fun c_33 => ?_) (fun c_33 => ?_)
        · refine lv_iconst (v := (-1)) hx hb dX3_kindOf_40 (by decide) ?_
          exact kx_ri F hr hlocks hW hS (by first | exact Nat.le_of_ble_eq_true rfl | omega) (by first | exact Nat.le_of_ble_eq_true rfl | omega) (⟨congrArg (fun z => some (Value.int z)) (by rw [tw_kind, if_neg c_1, if_neg (by rw [tw_b_0 c_12]; decide), if_neg (by rw [tw_b_0 c_25]; decide), if_neg c_33]), rfl⟩) dX3_kindOf_41
        · refine lv_iconst (v := 3) hx hb dX3_kindOf_36 (by decide) ?_
          refine lv_goto (tgt := 41) hx hb dX3_kindOf_37 (by decide) ?_
          exact kx_ri F hr hlocks hW hS (by first | exact Nat.le_of_ble_eq_true rfl | omega) (by first | exact Nat.le_of_ble_eq_true rfl | omega) (⟨congrArg (fun z => some (Value.int z)) (by rw [tw_kind, if_neg c_1, if_neg (by rw [tw_b_0 c_12]; decide), if_neg (by rw [tw_b_0 c_25]; decide), if_pos c_33]), rfl⟩) dX3_kindOf_41
      · refine lv_iconst (v := 2) hx hb dX3_kindOf_28 (by decide) ?_
        exact kx_ri F hr hlocks hW hS (by first | exact Nat.le_of_ble_eq_true rfl | omega) (by first | exact Nat.le_of_ble_eq_true rfl | omega) (⟨congrArg (fun z => some (Value.int z)) (by rw [tw_kind, if_neg c_1, if_neg (by rw [tw_b_0 c_12]; decide), if_pos (tw_b_1 c_25)]), rfl⟩) dX3_kindOf_29
    · refine lv_iconst (v := 1) hx hb dX3_kindOf_15 (by decide) ?_
      exact kx_ri F hr hlocks hW hS (by first | exact Nat.le_of_ble_eq_true rfl | omega) (by first | exact Nat.le_of_ble_eq_true rfl | omega) (⟨congrArg (fun z => some (Value.int z)) (by rw [tw_kind, if_neg c_1, if_pos (tw_b_1 c_12)]), rfl⟩) dX3_kindOf_16
  · refine lv_iconst (v := 0) hx hb dX3_kindOf_4 (by decide) ?_
    exact kx_ri F hr hlocks hW hS (by first | exact Nat.le_of_ble_eq_true rfl | omega) (by first | exact Nat.le_of_ble_eq_true rfl | omega) (⟨congrArg (fun z => some (Value.int z)) (by rw [tw_kind, if_pos c_1]), rfl⟩) dX3_kindOf_5

set_option maxHeartbeats 4000000 in
set_option maxRecDepth 100000 in
/-- the courier of a place -/
theorem c_X3_courierOfPlace (l : Launch) (G : kx_G) (z0 : Nat) (ad : kx_A) (nb : Nat) (sg : kx_S) (x : Int32) : kx_M l yX3_courierOfPlace wsX3_courierOfPlace 1 22 0 0 G z0 ad nb sg [.int x] (fun r sg' => r = some (.int (tw_cour1 x)) ∧ sg' = sg) := by
  refine Met.ofW (cc := cX3_courierOfPlace) (maxL := 1) (ret := (some .int)) (by decide) rfl ?_
  intro p e s m args below meth c s₁ B hml hv
  obtain ⟨rfl, hW, hV⟩ := hv
  have hts := atoms_spec (ws := wsX3_courierOfPlace) B.pre
  have F : kx_F p s m c cX3_courierOfPlace 1 RX3 _ wsX3_courierOfPlace G z0 := ⟨B.exec, B.bytes, hml, findClass_of_methodNamed B.named, hts, hV⟩
  have hx := B.exec; have hb := B.bytes; have hr := B.returns; have hlocks := B.notSynchronized
  have hS : va_S (kx_Ad z0) s.heap s.heap [] := va_S.rf
  have hl := lv_entry ([.int x]) (n := 1) (Nat.le_of_ble_eq_true rfl)
  rw [lg_entry_eq]
  generalize (lg_sl ([.int x]) ++ List.replicate (1 - (lg_sl ([.int x])).length) Slot.unset).toArray = ls at hl ⊢
  have hl : lv_has ls 1 [(0, .int x)] := hl
  refine lv_iload_n hx hb dX3_courierOfPlace_0 rfl (lv_at hl 0 rfl) ?_
  refine lv_iconst (v := 1) hx hb dX3_courierOfPlace_1 (by decide) ?_
  refine lv_iconst (v := 4) hx hb dX3_courierOfPlace_2 (by decide) ?_
  refine kx_cS (na := 3) F (c_X3_isWithin l G z0 ad nb sg x 1 4) gX3_courierOfPlace_X3_isWithin rfl (by decide +kernel) ⟨Nat.le_of_ble_eq_true rfl, Nat.le_of_ble_eq_true rfl⟩ hW hS (As := [.int x, .int 1, .int 4]) (rest := []) rfl hl.1 rfl (by decide) dX3_courierOfPlace_3 ⟨by first | exact Nat.le_of_ble_eq_true rfl | omega, by first | exact Nat.le_of_ble_eq_true rfl | omega⟩ (fun r9 sg9 H locs hq hW hS => ?_)
  obtain ⟨rfl, e9⟩ := hq
  rw [e9] at hW
  refine W.eq (g2 := F0 m 6 ls [.int (tw_b (tw_in x 1 4))]) rfl ?_
  refine lv_if_eq (tgt := 15) hx hb dX3_courierOfPlace_6 (by decide) (fun c_6 => ?_) (fun c_6 => ?_)
  · refine lv_iconst (v := (-1)) hx hb dX3_courierOfPlace_15 (by decide) ?_
    exact kx_ri F hr hlocks hW hS (by first | exact Nat.le_of_ble_eq_true rfl | omega) (by first | exact Nat.le_of_ble_eq_true rfl | omega) (⟨congrArg (fun z => some (Value.int z)) (by rw [tw_cour1, if_neg (by rw [tw_b_0 c_6]; decide)]), rfl⟩) dX3_courierOfPlace_16
  · refine lv_iload_n hx hb dX3_courierOfPlace_9 rfl (lv_at hl 0 rfl) ?_
    refine lv_iconst (v := 1) hx hb dX3_courierOfPlace_10 (by decide) ?_
    refine lv_isub hx hb dX3_courierOfPlace_11 ?_
    refine lv_goto (tgt := 16) hx hb dX3_courierOfPlace_12 (by decide) ?_
    exact kx_ri F hr hlocks hW hS (by first | exact Nat.le_of_ble_eq_true rfl | omega) (by first | exact Nat.le_of_ble_eq_true rfl | omega) (⟨congrArg (fun z => some (Value.int z)) (by rw [tw_cour1, if_pos (tw_b_1 c_6)]), rfl⟩) dX3_courierOfPlace_16

set_option maxHeartbeats 4000000 in
set_option maxRecDepth 100000 in
/-- the minutes between two places -/
theorem c_X3_minutesBetween (l : Launch) (G : kx_G) (z0 : Nat) (ad : kx_A) (nb : Nat) (sg : kx_S) (x y : Int32) : kx_M l yX3_minutesBetween wsX3_minutesBetween 2 42 0 0 G z0 ad nb sg [.int x, .int y] (fun r sg' => r = some (.int (tw_cmn x y)) ∧ sg' = sg) := by
  refine Met.ofW (cc := cX3_minutesBetween) (maxL := 4) (ret := (some .int)) (by decide) rfl ?_
  intro p e s m args below meth c s₁ B hml hv
  obtain ⟨rfl, hW, hV⟩ := hv
  have hts := atoms_spec (ws := wsX3_minutesBetween) B.pre
  have F : kx_F p s m c cX3_minutesBetween 4 RX3 _ wsX3_minutesBetween G z0 := ⟨B.exec, B.bytes, hml, findClass_of_methodNamed B.named, hts, hV⟩
  have hx := B.exec; have hb := B.bytes; have hr := B.returns; have hlocks := B.notSynchronized
  have hS : va_S (kx_Ad z0) s.heap s.heap [] := va_S.rf
  have hl := lv_entry ([.int x, .int y]) (n := 4) (Nat.le_of_ble_eq_true rfl)
  rw [lg_entry_eq]
  generalize (lg_sl ([.int x, .int y]) ++ List.replicate (4 - (lg_sl ([.int x, .int y])).length) Slot.unset).toArray = ls at hl ⊢
  have hl : lv_has ls 4 [(0, .int x), (1, .int y)] := hl
  refine lv_iload_n hx hb dX3_minutesBetween_0 rfl (lv_at hl 0 rfl) ?_
  refine kx_cS (na := 1) F (c_X3_kindOf l G z0 ad nb sg x) gX3_minutesBetween_X3_kindOf rfl (by decide +kernel) ⟨Nat.le_of_ble_eq_true rfl, Nat.le_of_ble_eq_true rfl⟩ hW hS (As := [.int x]) (rest := []) rfl hl.1 rfl (by decide) dX3_minutesBetween_1 ⟨by first | exact Nat.le_of_ble_eq_true rfl | omega, by first | exact Nat.le_of_ble_eq_true rfl | omega⟩ (fun r9 sg9 H locs hq hW hS => ?_)
  obtain ⟨rfl, e9⟩ := hq
  rw [e9] at hW
  refine W.eq (g2 := F0 m 4 ls [.int (tw_kind x)]) rfl ?_
  refine lv_istore_n (lv' := [(2, .int (tw_kind x)), (0, .int x), (1, .int y)]) hx hb dX3_minutesBetween_4 rfl hl (by decide) rfl (fun ls hl => ?_)
  refine lv_iload_n hx hb dX3_minutesBetween_5 rfl (lv_at hl 2 rfl) ?_
  refine kx_cS (na := 1) F (c_X3_kindOf l G z0 ad nb sg y) gX3_minutesBetween_X3_kindOf rfl (by decide +kernel) ⟨Nat.le_of_ble_eq_true rfl, Nat.le_of_ble_eq_true rfl⟩ hW hS (As := [.int y]) (rest := []) rfl hl.1 rfl (by decide) dX3_minutesBetween_6 ⟨by first | exact Nat.le_of_ble_eq_true rfl | omega, by first | exact Nat.le_of_ble_eq_true rfl | omega⟩ (fun r9 sg9 H locs hq hW hS => ?_)
  obtain ⟨rfl, e9⟩ := hq
  rw [e9] at hW
  refine W.eq (g2 := F0 m 9 ls [.int (tw_kind y)]) rfl ?_
  refine lv_istore_n (lv' := [(3, .int (tw_kind y)), (2, .int (tw_kind x)), (0, .int x), (1, .int y)]) hx hb dX3_minutesBetween_9 rfl hl (by decide) rfl (fun ls hl => ?_)
  refine lv_iload_n hx hb dX3_minutesBetween_10 rfl (lv_at hl 2 rfl) ?_
  refine lv_iload_n hx hb dX3_minutesBetween_11 rfl (lv_at hl 3 rfl) ?_
  refine lv_icmp_ne (tgt := 17) hx hb dX3_minutesBetween_12 (by decide) (fun c_12 => ?_) (fun c_12 => ?_)
  · refine lv_iload_n hx hb dX3_minutesBetween_17 rfl (lv_at hl 1 rfl) ?_
    refine lv_iconst (v := (-1)) hx hb dX3_minutesBetween_18 (by decide) ?_
    refine lv_icmp_eq (tgt := 27) hx hb dX3_minutesBetween_19 (by decide) (fun c_19 => ?_) (fun c_19 => ?_)
    · refine lv_ldc (v := 1000000) hx hb F.2.2.2.1 (hts (.constant RX3 221 1000000) (by decide +kernel)) dX3_minutesBetween_27 ?_
      exact kx_ri F hr hlocks hW hS (by first | exact Nat.le_of_ble_eq_true rfl | omega) (by first | exact Nat.le_of_ble_eq_true rfl | omega) (⟨congrArg (fun z => some (Value.int z)) (by rw [tw_cmn, if_neg c_12, if_pos c_19]), rfl⟩) dX3_minutesBetween_29
    · refine lv_iload_n hx hb dX3_minutesBetween_22 rfl (lv_at hl 0 rfl) ?_
      refine lv_iconst (v := (-1)) hx hb dX3_minutesBetween_23 (by decide) ?_
      refine lv_icmp_ne (tgt := 30) hx hb dX3_minutesBetween_24 (by decide) (fun c_24 => ?_) (fun c_24 => ?_)
      · have hin : vp_in (tw_kind x * 4 + tw_kind y) 16 := by
          rcases tw_kind_5 x with h1 | ⟨i, hi, h1⟩
          · exact absurd h1 c_19
          · rcases tw_kind_5 y with h2 | ⟨j, hj, h2⟩
            · exact absurd h2 c_24
            · rw [tw_kind_ix h1 h2 hi hj]
              exact vp_in_nI (by omega) (by decide)
        refine kx_min_ld (ic := 0) F hS (hl := by decide +kernel) (index := 222) dX3_minutesBetween_30 (fun tt hT => ?_)
        refine lv_iload_n hx hb dX3_minutesBetween_33 rfl (lv_at hl 1 rfl) ?_
        refine lv_iconst (v := 4) hx hb dX3_minutesBetween_34 (by decide) ?_
        refine lv_imul hx hb dX3_minutesBetween_35 ?_
        refine lv_iload_n hx hb dX3_minutesBetween_36 rfl (lv_at hl 0 rfl) ?_
        refine lv_iadd hx hb dX3_minutesBetween_37 ?_
        refine va_ti hx hb hT hS (v := .int (kx_min (tw_kind x * 4 + tw_kind y).toNatClampNeg)) hin rfl dX3_minutesBetween_38 ?_
        exact kx_ri F hr hlocks hW hS (by first | exact Nat.le_of_ble_eq_true rfl | omega) (by first | exact Nat.le_of_ble_eq_true rfl | omega) (⟨congrArg (fun z => some (Value.int z)) (by rw [tw_cmn, if_neg c_12, if_neg c_19, if_neg c_24]), rfl⟩) dX3_minutesBetween_39
      · refine lv_ldc (v := 1000000) hx hb F.2.2.2.1 (hts (.constant RX3 221 1000000) (by decide +kernel)) dX3_minutesBetween_27 ?_
        exact kx_ri F hr hlocks hW hS (by first | exact Nat.le_of_ble_eq_true rfl | omega) (by first | exact Nat.le_of_ble_eq_true rfl | omega) (⟨congrArg (fun z => some (Value.int z)) (by rw [tw_cmn, if_neg c_12, if_neg c_19, if_pos c_24]), rfl⟩) dX3_minutesBetween_29
  · refine lv_iconst (v := 0) hx hb dX3_minutesBetween_15 (by decide) ?_
    exact kx_ri F hr hlocks hW hS (by first | exact Nat.le_of_ble_eq_true rfl | omega) (by first | exact Nat.le_of_ble_eq_true rfl | omega) (⟨congrArg (fun z => some (Value.int z)) (by rw [tw_cmn, if_pos c_12]), rfl⟩) dX3_minutesBetween_16

set_option maxHeartbeats 4000000 in
set_option maxRecDepth 100000 in
/-- is the scan in the story? -/
theorem c_X0_isTrue (l : Launch) (G : kx_G) (z0 : Nat) (ad : kx_A) (nb : Nat) (sg : kx_S) (i : Nat) (hi : i < nb) (x : Int32) : kx_M l yX0_isTrue wsX0_isTrue 0 0 0 0 G z0 ad nb sg [.ref (ad 9 i), .int x] (fun r sg' => r = some (.int (tw_b (tw_tru (sg 9 i 7) x))) ∧ sg' = sg) := by
  refine Met.ofW (cc := cX0_isTrue) (maxL := 2) (ret := (some .boolean)) (by decide) rfl ?_
  intro p e s m args below meth c s₁ B hml hv
  obtain ⟨rfl, hW, hV⟩ := hv
  have hts := atoms_spec (ws := wsX0_isTrue) B.pre
  have F : kx_F p s m c cX0_isTrue 2 RX0 _ wsX0_isTrue G z0 := ⟨B.exec, B.bytes, hml, findClass_of_methodNamed B.named, hts, hV⟩
  have hx := B.exec; have hb := B.bytes; have hr := B.returns; have hlocks := B.notSynchronized
  have hS : va_S (kx_Ad z0) s.heap s.heap [] := va_S.rf
  have L_28 : Cond.fieldLink RX0 28 (TX0 7).1 (TX0 7).2.1 (TX0 7).2.2.1 ∈ wsX0_isTrue := by decide +kernel
  have inX0 : ∀ w ∈ u_ws RX0 TX0 11, w ∈ wsX0_isTrue := by decide +kernel
  have hl := lv_entry ([.ref (ad 9 i), .int x]) (n := 2) (Nat.le_of_ble_eq_true rfl)
  rw [lg_entry_eq]
  generalize (lg_sl ([.ref (ad 9 i), .int x]) ++ List.replicate (2 - (lg_sl ([.ref (ad 9 i), .int x])).length) Slot.unset).toArray = ls at hl ⊢
  have hl : lv_has ls 2 [(0, .ref (ad 9 i)), (1, .int x)] := hl
  refine lv_aload_n hx hb dX0_isTrue_0 rfl (lv_at hl 0 rfl) ?_
  refine kx_g F inX0 hW 9 i hi rfl rfl 7 (by decide) L_28 (v := .int (sg 9 i 7)) rfl dX0_isTrue_1 ?_
  refine lv_iload_n hx hb dX0_isTrue_4 rfl (lv_at hl 1 rfl) ?_
  refine lv_ishr hx hb dX0_isTrue_5 ?_
  refine lv_iconst (v := 1) hx hb dX0_isTrue_6 (by decide) ?_
  refine lv_iand hx hb dX0_isTrue_7 ?_
  refine lv_iconst (v := 1) hx hb dX0_isTrue_8 (by decide) ?_
  refine lv_icmp_ne (tgt := 16) hx hb dX0_isTrue_9 (by decide) (fun c_9 => ?_) (fun c_9 => ?_)
  · refine lv_iconst (v := 0) hx hb dX0_isTrue_16 (by decide) ?_
    exact kx_rz F hr hlocks hW hS (by first | exact Nat.le_of_ble_eq_true rfl | omega) (by first | exact Nat.le_of_ble_eq_true rfl | omega) (by rfl) (⟨congrArg (fun z => some (Value.int z)) (tw_b_f (decide_eq_false c_9)), rfl⟩) dX0_isTrue_17
  · refine lv_iconst (v := 1) hx hb dX0_isTrue_12 (by decide) ?_
    refine lv_goto (tgt := 17) hx hb dX0_isTrue_13 (by decide) ?_
    exact kx_rz F hr hlocks hW hS (by first | exact Nat.le_of_ble_eq_true rfl | omega) (by first | exact Nat.le_of_ble_eq_true rfl | omega) (by rfl) (⟨congrArg (fun z => some (Value.int z)) (tw_b_t (decide_eq_true c_9)), rfl⟩) dX0_isTrue_17

set_option maxHeartbeats 4000000 in
set_option maxRecDepth 100000 in
/-- can the scan k follow the scan a? -/
theorem c_X0_canFollow (l : Launch) (G : kx_G) (z0 : Nat) (ad : kx_A) (nb : Nat) (sg : kx_S) (i : Nat) (hi : i < nb) (a : Int32) (k : Nat) (hk : k < 12) : kx_M l yX0_canFollow wsX0_canFollow 0 0 0 0 G z0 ad nb sg [.ref (ad 9 i), .int a, .int (nI k)] (fun r sg' => r = some (.int (tw_b (tw_tru (sg 13 i k) (if a = -1 then 12 else a)))) ∧ sg' = sg) := by
  refine Met.ofW (cc := cX0_canFollow) (maxL := 4) (ret := (some .boolean)) (by decide) rfl ?_
  intro p e s m args below meth c s₁ B hml hv
  obtain ⟨rfl, hW, hV⟩ := hv
  have hts := atoms_spec (ws := wsX0_canFollow) B.pre
  have F : kx_F p s m c cX0_canFollow 4 RX0 _ wsX0_canFollow G z0 := ⟨B.exec, B.bytes, hml, findClass_of_methodNamed B.named, hts, hV⟩
  have hx := B.exec; have hb := B.bytes; have hr := B.returns; have hlocks := B.notSynchronized
  have hS : va_S (kx_Ad z0) s.heap s.heap [] := va_S.rf
  have L_21 : Cond.fieldLink RX0 21 (TX0 5).1 (TX0 5).2.1 (TX0 5).2.2.1 ∈ wsX0_canFollow := by decide +kernel
  have inX0 : ∀ w ∈ u_ws RX0 TX0 11, w ∈ wsX0_canFollow := by decide +kernel
  have hl := lv_entry ([.ref (ad 9 i), .int a, .int (nI k)]) (n := 4) (Nat.le_of_ble_eq_true rfl)
  rw [lg_entry_eq]
  generalize (lg_sl ([.ref (ad 9 i), .int a, .int (nI k)]) ++ List.replicate (4 - (lg_sl ([.ref (ad 9 i), .int a, .int (nI k)])).length) Slot.unset).toArray = ls at hl ⊢
  have hl : lv_has ls 4 [(0, .ref (ad 9 i)), (1, .int a), (2, .int (nI k))] := hl
  refine lv_iload_n hx hb dX0_canFollow_0 rfl (lv_at hl 1 rfl) ?_
  refine lv_iconst (v := (-1)) hx hb dX0_canFollow_1 (by decide) ?_
  refine lv_icmp_ne (tgt := 10) hx hb dX0_canFollow_2 (by decide) (fun c_2 => ?_) (fun c_2 => ?_)
  · refine lv_iload_n hx hb dX0_canFollow_10 rfl (lv_at hl 1 rfl) ?_
    refine lv_istore_n (lv' := [(3, .int a), (0, .ref (ad 9 i)), (1, .int a), (2, .int (nI k))]) hx hb dX0_canFollow_11 rfl hl (by decide) rfl (fun ls hl => ?_)
    refine lv_aload_n hx hb dX0_canFollow_12 rfl (lv_at hl 1 rfl) ?_
    refine kx_g F inX0 hW 9 i hi rfl rfl 5 (by decide) L_21 (v := .ref (ad 13 i)) rfl dX0_canFollow_13 ?_
    refine lv_iload_n hx hb dX0_canFollow_16 rfl (lv_at hl 3 rfl) ?_
    refine kx_ald F hW 13 i hi rfl k hk (by decide) (v := sg 13 i k) rfl dX0_canFollow_17 ?_
    refine lv_iload_n hx hb dX0_canFollow_18 rfl (lv_at hl 0 rfl) ?_
    refine lv_ishr hx hb dX0_canFollow_19 ?_
    refine lv_iconst (v := 1) hx hb dX0_canFollow_20 (by decide) ?_
    refine lv_iand hx hb dX0_canFollow_21 ?_
    refine lv_iconst (v := 1) hx hb dX0_canFollow_22 (by decide) ?_
    refine lv_icmp_ne (tgt := 30) hx hb dX0_canFollow_23 (by decide) (fun c_23 => ?_) (fun c_23 => ?_)
    · refine lv_iconst (v := 0) hx hb dX0_canFollow_30 (by decide) ?_
      exact kx_rz F hr hlocks hW hS (by first | exact Nat.le_of_ble_eq_true rfl | omega) (by first | exact Nat.le_of_ble_eq_true rfl | omega) (by rfl) (⟨congrArg (fun z => some (Value.int z)) (by rw [if_neg c_2]; exact tw_b_f (decide_eq_false c_23)), rfl⟩) dX0_canFollow_31
    · refine lv_iconst (v := 1) hx hb dX0_canFollow_26 (by decide) ?_
      refine lv_goto (tgt := 31) hx hb dX0_canFollow_27 (by decide) ?_
      exact kx_rz F hr hlocks hW hS (by first | exact Nat.le_of_ble_eq_true rfl | omega) (by first | exact Nat.le_of_ble_eq_true rfl | omega) (by rfl) (⟨congrArg (fun z => some (Value.int z)) (by rw [if_neg c_2]; exact tw_b_t (decide_eq_true c_23)), rfl⟩) dX0_canFollow_31
  · refine lv_bipush (v := 12) hx hb dX0_canFollow_5 (by decide) ?_
    refine lv_goto (tgt := 11) hx hb dX0_canFollow_7 (by decide) ?_
    refine lv_istore_n (lv' := [(3, .int 12), (0, .ref (ad 9 i)), (1, .int a), (2, .int (nI k))]) hx hb dX0_canFollow_11 rfl hl (by decide) rfl (fun ls hl => ?_)
    refine lv_aload_n hx hb dX0_canFollow_12 rfl (lv_at hl 1 rfl) ?_
    refine kx_g F inX0 hW 9 i hi rfl rfl 5 (by decide) L_21 (v := .ref (ad 13 i)) rfl dX0_canFollow_13 ?_
    refine lv_iload_n hx hb dX0_canFollow_16 rfl (lv_at hl 3 rfl) ?_
    refine kx_ald F hW 13 i hi rfl k hk (by decide) (v := sg 13 i k) rfl dX0_canFollow_17 ?_
    refine lv_iload_n hx hb dX0_canFollow_18 rfl (lv_at hl 0 rfl) ?_
    refine lv_ishr hx hb dX0_canFollow_19 ?_
    refine lv_iconst (v := 1) hx hb dX0_canFollow_20 (by decide) ?_
    refine lv_iand hx hb dX0_canFollow_21 ?_
    refine lv_iconst (v := 1) hx hb dX0_canFollow_22 (by decide) ?_
    refine lv_icmp_ne (tgt := 30) hx hb dX0_canFollow_23 (by decide) (fun c_23 => ?_) (fun c_23 => ?_)
    · refine lv_iconst (v := 0) hx hb dX0_canFollow_30 (by decide) ?_
      exact kx_rz F hr hlocks hW hS (by first | exact Nat.le_of_ble_eq_true rfl | omega) (by first | exact Nat.le_of_ble_eq_true rfl | omega) (by rfl) (⟨congrArg (fun z => some (Value.int z)) (by rw [if_pos c_2]; exact tw_b_f (decide_eq_false c_23)), rfl⟩) dX0_canFollow_31
    · refine lv_iconst (v := 1) hx hb dX0_canFollow_26 (by decide) ?_
      refine lv_goto (tgt := 31) hx hb dX0_canFollow_27 (by decide) ?_
      exact kx_rz F hr hlocks hW hS (by first | exact Nat.le_of_ble_eq_true rfl | omega) (by first | exact Nat.le_of_ble_eq_true rfl | omega) (by rfl) (⟨congrArg (fun z => some (Value.int z)) (by rw [if_pos c_2]; exact tw_b_t (decide_eq_true c_23)), rfl⟩) dX0_canFollow_31

set_option maxHeartbeats 4000000 in
set_option maxRecDepth 100000 in
/-- where the story tells the box last -/
theorem c_X0_whereabouts (l : Launch) (G : kx_G) (z0 : Nat) (ad : kx_A) (nb : Nat) (sg : kx_S) (i : Nat) (hi : i < nb) (n : Nat) (hn : sg 9 i 6 = nI n) (h12 : n ≤ 12) : kx_M l yX0_whereabouts wsX0_whereabouts 1 21 0 0 G z0 ad nb sg [.ref (ad 9 i)] (fun r sg' => r = some (.int (tw_last (sg 9 i 7) (sg 11 i) n)) ∧ sg' = sg) := by
  refine Met.ofW (cc := cX0_whereabouts) (maxL := 2) (ret := (some .int)) (by decide) rfl ?_
  intro p e s m args below meth c s₁ B hml hv
  obtain ⟨rfl, hW, hV⟩ := hv
  have hts := atoms_spec (ws := wsX0_whereabouts) B.pre
  have F : kx_F p s m c cX0_whereabouts 2 RX0 _ wsX0_whereabouts G z0 := ⟨B.exec, B.bytes, hml, findClass_of_methodNamed B.named, hts, hV⟩
  have hx := B.exec; have hb := B.bytes; have hr := B.returns; have hlocks := B.notSynchronized
  have hS : va_S (kx_Ad z0) s.heap s.heap [] := va_S.rf
  have L_15 : Cond.fieldLink RX0 15 (TX0 3).1 (TX0 3).2.1 (TX0 3).2.2.1 ∈ wsX0_whereabouts := by decide +kernel
  have L_24 : Cond.fieldLink RX0 24 (TX0 6).1 (TX0 6).2.1 (TX0 6).2.2.1 ∈ wsX0_whereabouts := by decide +kernel
  have inX0 : ∀ w ∈ u_ws RX0 TX0 11, w ∈ wsX0_whereabouts := by decide +kernel
  have hl := lv_entry ([.ref (ad 9 i)]) (n := 2) (Nat.le_of_ble_eq_true rfl)
  rw [lg_entry_eq]
  generalize (lg_sl ([.ref (ad 9 i)]) ++ List.replicate (2 - (lg_sl ([.ref (ad 9 i)])).length) Slot.unset).toArray = ls at hl ⊢
  have hl : lv_has ls 2 [(0, .ref (ad 9 i))] := hl
  have loop : ∀ (k : Nat), k ≤ n → tw_last (sg 9 i 7) (sg 11 i) n = tw_last (sg 9 i 7) (sg 11 i) k → ∀ (H : Heap) (locs : List Loc) (ls : Array Slot), kx_Wd G z0 ad nb sg H → va_S (kx_Ad z0) s.heap H locs → lv_has ls 2 [(1, .int (nI k - 1)), (0, .ref (ad 9 i))] → W p l e (headSpec wsX0_whereabouts { frames := 1, cells := 0, slots := 0, locals := 21 }).room s m ([.ref (ad 9 i)] : List Value).toArray below meth c H locs 0 0 (MQ below (kx_Q G z0 ad nb (fun r sg' => r = some (.int (tw_last (sg 9 i 7) (sg 11 i) n)) ∧ sg' = sg)) ([.ref (ad 9 i)] : List Value).toArray s 0 0 (kx_Ad z0)) (F0 m 7 ls []) := by
    intro k
    induction k with
    | zero =>
      intro  hk hL H locs ls hW hS hl
      refine lv_iload_n hx hb dX0_whereabouts_7 rfl (lv_at hl 0 rfl) ?_
      refine lv_if_lt (tgt := 32) hx hb dX0_whereabouts_8 (by decide) (fun c_8 => ?_) (fun c_8 => ?_)
      · refine lv_iconst (v := 0) hx hb dX0_whereabouts_32 (by decide) ?_
        exact kx_ri F hr hlocks hW hS (by first | exact Nat.le_of_ble_eq_true rfl | omega) (by first | exact Nat.le_of_ble_eq_true rfl | omega) (⟨congrArg (fun z => some (Value.int z)) (by rw [hL]; rfl), rfl⟩) dX0_whereabouts_33
      · exact absurd (by decide) c_8
    | succ k ih =>
      intro  hk hL H locs ls hW hS hl
      rw [tw_m1] at hl
      refine lv_iload_n hx hb dX0_whereabouts_7 rfl (lv_at hl 0 rfl) ?_
      refine lv_if_lt (tgt := 32) hx hb dX0_whereabouts_8 (by decide) (fun c_8 => ?_) (fun c_8 => ?_)
      · exact absurd c_8 (tw_neg k (by omega))
      · refine lv_aload_n hx hb dX0_whereabouts_11 rfl (lv_at hl 1 rfl) ?_
        refine lv_iload_n hx hb dX0_whereabouts_12 rfl (lv_at hl 0 rfl) ?_
        refine kx_cV (na := 1) F (q := 9) (n := i) (c_X0_isTrue l G z0 ad nb sg i hi (nI k)) gX0_whereabouts_X0_isTrue rfl (by decide +kernel) ⟨Nat.le_of_ble_eq_true rfl, Nat.le_of_ble_eq_true rfl⟩ hW hS hi rfl rfl (As := [.int (nI k)]) (rest := []) rfl hl.1 rfl (by decide) dX0_whereabouts_13 ⟨by first | exact Nat.le_of_ble_eq_true rfl | omega, by first | exact Nat.le_of_ble_eq_true rfl | omega⟩ (fun r9 sg9 H locs hq hW hS => ?_)
        obtain ⟨rfl, e9⟩ := hq
        rw [e9] at hW
        refine W.eq (g2 := F0 m 16 ls [.int (tw_b (tw_tru (sg 9 i 7) (nI k)))]) rfl ?_
        refine lv_if_eq (tgt := 26) hx hb dX0_whereabouts_16 (by decide) (fun c_16 => ?_) (fun c_16 => ?_)
        · refine lv_iinc (v := nI k - 1) (lv' := [(1, .int (nI k - 1)), (0, .ref (ad 9 i))]) hx hb dX0_whereabouts_26 hl (k := 0) rfl (by rw [Int32.sub_eq_add_neg]; rfl) (by decide) rfl (fun ls hl => ?_)
          refine lv_goto (tgt := 7) hx hb dX0_whereabouts_29 (by decide) ?_
          exact ih (by omega) (hL.trans (tw_last_f (tw_b_0 c_16))) H locs ls hW hS hl
        · refine lv_aload_n hx hb dX0_whereabouts_19 rfl (lv_at hl 1 rfl) ?_
          refine kx_g F inX0 hW 9 i hi rfl rfl 3 (by decide) L_15 (v := .ref (ad 11 i)) rfl dX0_whereabouts_20 ?_
          refine lv_iload_n hx hb dX0_whereabouts_23 rfl (lv_at hl 0 rfl) ?_
          refine kx_ald F hW 11 i hi rfl k (by omega) (by decide) (v := sg 11 i k) rfl dX0_whereabouts_24 ?_
          exact kx_ri F hr hlocks hW hS (by first | exact Nat.le_of_ble_eq_true rfl | omega) (by first | exact Nat.le_of_ble_eq_true rfl | omega) (⟨congrArg (fun z => some (Value.int z)) (by rw [hL, tw_last_t (tw_b_1 c_16)]), rfl⟩) dX0_whereabouts_25
  refine lv_aload_n hx hb dX0_whereabouts_0 rfl (lv_at hl 0 rfl) ?_
  refine kx_g F inX0 hW 9 i hi rfl rfl 6 (by decide) L_24 (v := .int (nI n)) (congrArg (fun z => some (Value.int z)) hn) dX0_whereabouts_1 ?_
  refine lv_iconst (v := 1) hx hb dX0_whereabouts_4 (by decide) ?_
  refine lv_isub hx hb dX0_whereabouts_5 ?_
  refine lv_istore_n (lv' := [(1, .int ((nI n) - 1)), (0, .ref (ad 9 i))]) hx hb dX0_whereabouts_6 rfl hl (by decide) rfl (fun ls hl => ?_)
  exact loop n (Nat.le_refl n) rfl _ _ ls hW hS hl

set_option maxHeartbeats 4000000 in
set_option maxRecDepth 100000 in
/-- is it delivered? -/
theorem c_X0_isDelivered (l : Launch) (G : kx_G) (z0 : Nat) (ad : kx_A) (nb : Nat) (sg : kx_S) (i : Nat) (hi : i < nb) (n : Nat) (hn : sg 9 i 6 = nI n) (h12 : n ≤ 12) : kx_M l yX0_isDelivered wsX0_isDelivered 2 42 0 0 G z0 ad nb sg [.ref (ad 9 i)] (fun r sg' => r = some (.int (tw_b (decide (tw_last (sg 9 i 7) (sg 11 i) n = 30)))) ∧ sg' = sg) := by
  refine Met.ofW (cc := cX0_isDelivered) (maxL := 1) (ret := (some .boolean)) (by decide) rfl ?_
  intro p e s m args below meth c s₁ B hml hv
  obtain ⟨rfl, hW, hV⟩ := hv
  have hts := atoms_spec (ws := wsX0_isDelivered) B.pre
  have F : kx_F p s m c cX0_isDelivered 1 RX0 _ wsX0_isDelivered G z0 := ⟨B.exec, B.bytes, hml, findClass_of_methodNamed B.named, hts, hV⟩
  have hx := B.exec; have hb := B.bytes; have hr := B.returns; have hlocks := B.notSynchronized
  have hS : va_S (kx_Ad z0) s.heap s.heap [] := va_S.rf
  have hl := lv_entry ([.ref (ad 9 i)]) (n := 1) (Nat.le_of_ble_eq_true rfl)
  rw [lg_entry_eq]
  generalize (lg_sl ([.ref (ad 9 i)]) ++ List.replicate (1 - (lg_sl ([.ref (ad 9 i)])).length) Slot.unset).toArray = ls at hl ⊢
  have hl : lv_has ls 1 [(0, .ref (ad 9 i))] := hl
  refine lv_aload_n hx hb dX0_isDelivered_0 rfl (lv_at hl 0 rfl) ?_
  refine kx_cV (na := 0) F (q := 9) (n := i) (c_X0_whereabouts l G z0 ad nb sg i hi n hn h12) gX0_isDelivered_X0_whereabouts rfl (by decide +kernel) ⟨Nat.le_of_ble_eq_true rfl, Nat.le_of_ble_eq_true rfl⟩ hW hS hi rfl rfl (As := []) (rest := []) rfl hl.1 rfl (by decide) dX0_isDelivered_1 ⟨by first | exact Nat.le_of_ble_eq_true rfl | omega, by first | exact Nat.le_of_ble_eq_true rfl | omega⟩ (fun r9 sg9 H locs hq hW hS => ?_)
  obtain ⟨rfl, e9⟩ := hq
  rw [e9] at hW
  refine W.eq (g2 := F0 m 4 ls [.int (tw_last (sg 9 i 7) (sg 11 i) n)]) rfl ?_
  refine lv_bipush (v := 30) hx hb dX0_isDelivered_4 (by decide) ?_
  refine lv_icmp_ne (tgt := 13) hx hb dX0_isDelivered_6 (by decide) (fun c_6 => ?_) (fun c_6 => ?_)
  · refine lv_iconst (v := 0) hx hb dX0_isDelivered_13 (by decide) ?_
    exact kx_rz F hr hlocks hW hS (by first | exact Nat.le_of_ble_eq_true rfl | omega) (by first | exact Nat.le_of_ble_eq_true rfl | omega) (by rfl) (⟨congrArg (fun z => some (Value.int z)) (tw_b_f (decide_eq_false c_6)), rfl⟩) dX0_isDelivered_14
  · refine lv_iconst (v := 1) hx hb dX0_isDelivered_9 (by decide) ?_
    refine lv_goto (tgt := 14) hx hb dX0_isDelivered_10 (by decide) ?_
    exact kx_rz F hr hlocks hW hS (by first | exact Nat.le_of_ble_eq_true rfl | omega) (by first | exact Nat.le_of_ble_eq_true rfl | omega) (by rfl) (⟨congrArg (fun z => some (Value.int z)) (tw_b_t (decide_eq_true c_6)), rfl⟩) dX0_isDelivered_14

set_option maxHeartbeats 4000000 in
set_option maxRecDepth 100000 in
/-- by whom it was brought -/
theorem c_X0_deliverer (l : Launch) (G : kx_G) (z0 : Nat) (ad : kx_A) (nb : Nat) (sg : kx_S) (i : Nat) (hi : i < nb) (n : Nat) (hn : sg 9 i 6 = nI n) (h12 : n ≤ 12) : kx_M l yX0_deliverer wsX0_deliverer 2 42 0 0 G z0 ad nb sg [.ref (ad 9 i)] (fun r sg' => r = some (.int (tw_cour (sg 9 i 7) (sg 11 i) n)) ∧ sg' = sg) := by
  refine Met.ofW (cc := cX0_deliverer) (maxL := 3) (ret := (some .int)) (by decide) rfl ?_
  intro p e s m args below meth c s₁ B hml hv
  obtain ⟨rfl, hW, hV⟩ := hv
  have hts := atoms_spec (ws := wsX0_deliverer) B.pre
  have F : kx_F p s m c cX0_deliverer 3 RX0 _ wsX0_deliverer G z0 := ⟨B.exec, B.bytes, hml, findClass_of_methodNamed B.named, hts, hV⟩
  have hx := B.exec; have hb := B.bytes; have hr := B.returns; have hlocks := B.notSynchronized
  have hS : va_S (kx_Ad z0) s.heap s.heap [] := va_S.rf
  have L_15 : Cond.fieldLink RX0 15 (TX0 3).1 (TX0 3).2.1 (TX0 3).2.2.1 ∈ wsX0_deliverer := by decide +kernel
  have L_24 : Cond.fieldLink RX0 24 (TX0 6).1 (TX0 6).2.1 (TX0 6).2.2.1 ∈ wsX0_deliverer := by decide +kernel
  have inX0 : ∀ w ∈ u_ws RX0 TX0 11, w ∈ wsX0_deliverer := by decide +kernel
  have hl := lv_entry ([.ref (ad 9 i)]) (n := 3) (Nat.le_of_ble_eq_true rfl)
  rw [lg_entry_eq]
  generalize (lg_sl ([.ref (ad 9 i)]) ++ List.replicate (3 - (lg_sl ([.ref (ad 9 i)])).length) Slot.unset).toArray = ls at hl ⊢
  have hl : lv_has ls 3 [(0, .ref (ad 9 i))] := hl
  have loop : ∀ (k : Nat), k ≤ n → tw_cour (sg 9 i 7) (sg 11 i) n = tw_cour (sg 9 i 7) (sg 11 i) k → ∀ (H : Heap) (locs : List Loc) (ls : Array Slot), kx_Wd G z0 ad nb sg H → va_S (kx_Ad z0) s.heap H locs → lv_has ls 3 [(1, .int (nI k - 1)), (0, .ref (ad 9 i))] → W p l e (headSpec wsX0_deliverer { frames := 2, cells := 0, slots := 0, locals := 42 }).room s m ([.ref (ad 9 i)] : List Value).toArray below meth c H locs 0 0 (MQ below (kx_Q G z0 ad nb (fun r sg' => r = some (.int (tw_cour (sg 9 i 7) (sg 11 i) n)) ∧ sg' = sg)) ([.ref (ad 9 i)] : List Value).toArray s 0 0 (kx_Ad z0)) (F0 m 7 ls []) := by
    intro k
    induction k with
    | zero =>
      intro  hk hL H locs ls hW hS hl
      refine lv_iload_n hx hb dX0_deliverer_7 rfl (lv_at hl 0 rfl) ?_
      refine lv_if_lt (tgt := 42) hx hb dX0_deliverer_8 (by decide) (fun c_8 => ?_) (fun c_8 => ?_)
      · refine lv_iconst (v := (-1)) hx hb dX0_deliverer_42 (by decide) ?_
        exact kx_ri F hr hlocks hW hS (by first | exact Nat.le_of_ble_eq_true rfl | omega) (by first | exact Nat.le_of_ble_eq_true rfl | omega) (⟨congrArg (fun z => some (Value.int z)) (by rw [hL]; rfl), rfl⟩) dX0_deliverer_43
      · exact absurd (by decide) c_8
    | succ k ih =>
      intro  hk hL H locs ls hW hS hl
      rw [tw_m1] at hl
      refine lv_iload_n hx hb dX0_deliverer_7 rfl (lv_at hl 0 rfl) ?_
      refine lv_if_lt (tgt := 42) hx hb dX0_deliverer_8 (by decide) (fun c_8 => ?_) (fun c_8 => ?_)
      · exact absurd c_8 (tw_neg k (by omega))
      · refine lv_aload_n hx hb dX0_deliverer_11 rfl (lv_at hl 1 rfl) ?_
        refine kx_g F inX0 hW 9 i hi rfl rfl 3 (by decide) L_15 (v := .ref (ad 11 i)) rfl dX0_deliverer_12 ?_
        refine lv_iload_n hx hb dX0_deliverer_15 rfl (lv_at hl 0 rfl) ?_
        refine kx_ald F hW 11 i hi rfl k (by omega) (by decide) (v := sg 11 i k) rfl dX0_deliverer_16 ?_
        refine kx_cN (na := 1) F (c_X3_courierOfPlace l G z0 ad nb sg (sg 11 i k)) gX0_deliverer_X3_courierOfPlace_n71 (by decide +kernel) (by decide +kernel) (host := "Whichbox") (by decide +kernel) rfl (by decide +kernel) ⟨Nat.le_of_ble_eq_true rfl, Nat.le_of_ble_eq_true rfl⟩ hW hS (As := [.int (sg 11 i k)]) (rest := []) rfl hl.1 rfl (by decide) dX0_deliverer_17 ⟨by first | exact Nat.le_of_ble_eq_true rfl | omega, by first | exact Nat.le_of_ble_eq_true rfl | omega⟩ (fun r9 sg9 H locs hq hW hS => ?_)
        obtain ⟨rfl, e9⟩ := hq
        rw [e9] at hW
        refine W.eq (g2 := F0 m 20 ls [.int (tw_cour1 (sg 11 i k))]) rfl ?_
        refine lv_istore_n (lv' := [(2, .int (tw_cour1 (sg 11 i k))), (1, .int (nI k)), (0, .ref (ad 9 i))]) hx hb dX0_deliverer_20 rfl hl (by decide) rfl (fun ls hl => ?_)
        refine lv_aload_n hx hb dX0_deliverer_21 rfl (lv_at hl 2 rfl) ?_
        refine lv_iload_n hx hb dX0_deliverer_22 rfl (lv_at hl 1 rfl) ?_
        refine kx_cV (na := 1) F (q := 9) (n := i) (c_X0_isTrue l G z0 ad nb sg i hi (nI k)) gX0_deliverer_X0_isTrue rfl (by decide +kernel) ⟨Nat.le_of_ble_eq_true rfl, Nat.le_of_ble_eq_true rfl⟩ hW hS hi rfl rfl (As := [.int (nI k)]) (rest := []) rfl hl.1 rfl (by decide) dX0_deliverer_23 ⟨by first | exact Nat.le_of_ble_eq_true rfl | omega, by first | exact Nat.le_of_ble_eq_true rfl | omega⟩ (fun r9 sg9 H locs hq hW hS => ?_)
        obtain ⟨rfl, e9⟩ := hq
        rw [e9] at hW
        refine W.eq (g2 := F0 m 26 ls [.int (tw_b (tw_tru (sg 9 i 7) (nI k)))]) rfl ?_
        refine lv_if_eq (tgt := 36) hx hb dX0_deliverer_26 (by decide) (fun c_26 => ?_) (fun c_26 => ?_)
        · refine lv_iinc (v := nI k - 1) (lv' := [(1, .int (nI k - 1)), (2, .int (tw_cour1 (sg 11 i k))), (0, .ref (ad 9 i))]) hx hb dX0_deliverer_36 hl (k := 1) rfl (by rw [Int32.sub_eq_add_neg]; rfl) (by decide) rfl (fun ls hl => ?_)
          refine lv_goto (tgt := 7) hx hb dX0_deliverer_39 (by decide) ?_
          exact ih (by omega) (hL.trans (tw_cour_f1 (tw_b_0 c_26))) H locs ls hW hS (lv_sub hl [0, 2] rfl)
        · refine lv_iload_n hx hb dX0_deliverer_29 rfl (lv_at hl 0 rfl) ?_
          refine lv_iconst (v := (-1)) hx hb dX0_deliverer_30 (by decide) ?_
          refine lv_icmp_eq (tgt := 36) hx hb dX0_deliverer_31 (by decide) (fun c_31 => ?_) (fun c_31 => ?_)
          · refine lv_iinc (v := nI k - 1) (lv' := [(1, .int (nI k - 1)), (2, .int (tw_cour1 (sg 11 i k))), (0, .ref (ad 9 i))]) hx hb dX0_deliverer_36 hl (k := 1) rfl (by rw [Int32.sub_eq_add_neg]; rfl) (by decide) rfl (fun ls hl => ?_)
            refine lv_goto (tgt := 7) hx hb dX0_deliverer_39 (by decide) ?_
            exact ih (by omega) (hL.trans (tw_cour_f2 c_31)) H locs ls hW hS (lv_sub hl [0, 2] rfl)
          · refine lv_iload_n hx hb dX0_deliverer_34 rfl (lv_at hl 0 rfl) ?_
            exact kx_ri F hr hlocks hW hS (by first | exact Nat.le_of_ble_eq_true rfl | omega) (by first | exact Nat.le_of_ble_eq_true rfl | omega) (⟨congrArg (fun z => some (Value.int z)) (by rw [hL, tw_cour_t (tw_b_1 c_26) c_31]), rfl⟩) dX0_deliverer_35
  refine lv_aload_n hx hb dX0_deliverer_0 rfl (lv_at hl 0 rfl) ?_
  refine kx_g F inX0 hW 9 i hi rfl rfl 6 (by decide) L_24 (v := .int (nI n)) (congrArg (fun z => some (Value.int z)) hn) dX0_deliverer_1 ?_
  refine lv_iconst (v := 1) hx hb dX0_deliverer_4 (by decide) ?_
  refine lv_isub hx hb dX0_deliverer_5 ?_
  refine lv_istore_n (lv' := [(1, .int ((nI n) - 1)), (0, .ref (ad 9 i))]) hx hb dX0_deliverer_6 rfl hl (by decide) rfl (fun ls hl => ?_)
  exact loop n (Nat.le_refl n) rfl _ _ ls hW hS hl

set_option maxHeartbeats 4000000 in
set_option maxRecDepth 100000 in
/-- since when it is told there -/
theorem c_X0_thereSince (l : Launch) (G : kx_G) (z0 : Nat) (ad : kx_A) (nb : Nat) (sg : kx_S) (i : Nat) (hi : i < nb) (n : Nat) (hn : sg 9 i 6 = nI n) (h12 : n ≤ 12) : kx_M l yX0_thereSince wsX0_thereSince 2 42 0 0 G z0 ad nb sg [.ref (ad 9 i)] (fun r sg' => r = some (.int (tw_since (sg 9 i 7) (sg 11 i) (sg 10 i) (tw_last (sg 9 i 7) (sg 11 i) n) n 0)) ∧ sg' = sg) := by
  refine Met.ofW (cc := cX0_thereSince) (maxL := 4) (ret := (some .int)) (by decide) rfl ?_
  intro p e s m args below meth c s₁ B hml hv
  obtain ⟨rfl, hW, hV⟩ := hv
  have hts := atoms_spec (ws := wsX0_thereSince) B.pre
  have F : kx_F p s m c cX0_thereSince 4 RX0 _ wsX0_thereSince G z0 := ⟨B.exec, B.bytes, hml, findClass_of_methodNamed B.named, hts, hV⟩
  have hx := B.exec; have hb := B.bytes; have hr := B.returns; have hlocks := B.notSynchronized
  have hS : va_S (kx_Ad z0) s.heap s.heap [] := va_S.rf
  have L_15 : Cond.fieldLink RX0 15 (TX0 3).1 (TX0 3).2.1 (TX0 3).2.2.1 ∈ wsX0_thereSince := by decide +kernel
  have L_24 : Cond.fieldLink RX0 24 (TX0 6).1 (TX0 6).2.1 (TX0 6).2.2.1 ∈ wsX0_thereSince := by decide +kernel
  have L_9 : Cond.fieldLink RX0 9 (TX0 2).1 (TX0 2).2.1 (TX0 2).2.2.1 ∈ wsX0_thereSince := by decide +kernel
  have inX0 : ∀ w ∈ u_ws RX0 TX0 11, w ∈ wsX0_thereSince := by decide +kernel
  have hl := lv_entry ([.ref (ad 9 i)]) (n := 4) (Nat.le_of_ble_eq_true rfl)
  rw [lg_entry_eq]
  generalize (lg_sl ([.ref (ad 9 i)]) ++ List.replicate (4 - (lg_sl ([.ref (ad 9 i)])).length) Slot.unset).toArray = ls at hl ⊢
  have hl : lv_has ls 4 [(0, .ref (ad 9 i))] := hl
  have loop : ∀ (k : Nat) (z : Int32), k ≤ n → tw_since (sg 9 i 7) (sg 11 i) (sg 10 i) (tw_last (sg 9 i 7) (sg 11 i) n) n 0 = tw_since (sg 9 i 7) (sg 11 i) (sg 10 i) (tw_last (sg 9 i 7) (sg 11 i) n) k z → ∀ (H : Heap) (locs : List Loc) (ls : Array Slot), kx_Wd G z0 ad nb sg H → va_S (kx_Ad z0) s.heap H locs → lv_has ls 4 [(3, .int (nI k - 1)), (2, .int z), (1, .int (tw_last (sg 9 i 7) (sg 11 i) n)), (0, .ref (ad 9 i))] → W p l e (headSpec wsX0_thereSince { frames := 2, cells := 0, slots := 0, locals := 42 }).room s m ([.ref (ad 9 i)] : List Value).toArray below meth c H locs 0 0 (MQ below (kx_Q G z0 ad nb (fun r sg' => r = some (.int (tw_since (sg 9 i 7) (sg 11 i) (sg 10 i) (tw_last (sg 9 i 7) (sg 11 i) n) n 0)) ∧ sg' = sg)) ([.ref (ad 9 i)] : List Value).toArray s 0 0 (kx_Ad z0)) (F0 m 14 ls []) := by
    intro k
    induction k with
    | zero =>
      intro z hk hL H locs ls hW hS hl
      refine lv_iload_n hx hb dX0_thereSince_14 rfl (lv_at hl 0 rfl) ?_
      refine lv_if_lt (tgt := 51) hx hb dX0_thereSince_15 (by decide) (fun c_15 => ?_) (fun c_15 => ?_)
      · refine lv_iload_n hx hb dX0_thereSince_51 rfl (lv_at hl 1 rfl) ?_
        exact kx_ri F hr hlocks hW hS (by first | exact Nat.le_of_ble_eq_true rfl | omega) (by first | exact Nat.le_of_ble_eq_true rfl | omega) (⟨congrArg (fun z => some (Value.int z)) (by rw [hL]; rfl), rfl⟩) dX0_thereSince_52
      · exact absurd (by decide) c_15
    | succ k ih =>
      intro z hk hL H locs ls hW hS hl
      rw [tw_m1] at hl
      refine lv_iload_n hx hb dX0_thereSince_14 rfl (lv_at hl 0 rfl) ?_
      refine lv_if_lt (tgt := 51) hx hb dX0_thereSince_15 (by decide) (fun c_15 => ?_) (fun c_15 => ?_)
      · exact absurd c_15 (tw_neg k (by omega))
      · refine lv_aload_n hx hb dX0_thereSince_18 rfl (lv_at hl 3 rfl) ?_
        refine lv_iload_n hx hb dX0_thereSince_19 rfl (lv_at hl 0 rfl) ?_
        refine kx_cV (na := 1) F (q := 9) (n := i) (c_X0_isTrue l G z0 ad nb sg i hi (nI k)) gX0_thereSince_X0_isTrue rfl (by decide +kernel) ⟨Nat.le_of_ble_eq_true rfl, Nat.le_of_ble_eq_true rfl⟩ hW hS hi rfl rfl (As := [.int (nI k)]) (rest := []) rfl hl.1 rfl (by decide) dX0_thereSince_20 ⟨by first | exact Nat.le_of_ble_eq_true rfl | omega, by first | exact Nat.le_of_ble_eq_true rfl | omega⟩ (fun r9 sg9 H locs hq hW hS => ?_)
        obtain ⟨rfl, e9⟩ := hq
        rw [e9] at hW
        refine W.eq (g2 := F0 m 23 ls [.int (tw_b (tw_tru (sg 9 i 7) (nI k)))]) rfl ?_
        refine lv_if_eq (tgt := 45) hx hb dX0_thereSince_23 (by decide) (fun c_23 => ?_) (fun c_23 => ?_)
        · refine lv_iinc (v := nI k - 1) (lv' := [(3, .int (nI k - 1)), (2, .int z), (1, .int (tw_last (sg 9 i 7) (sg 11 i) n)), (0, .ref (ad 9 i))]) hx hb dX0_thereSince_45 hl (k := 0) rfl (by rw [Int32.sub_eq_add_neg]; rfl) (by decide) rfl (fun ls hl => ?_)
          refine lv_goto (tgt := 14) hx hb dX0_thereSince_48 (by decide) ?_
          exact ih z (by omega) (hL.trans (tw_since_1 (tw_b_0 c_23))) H locs ls hW hS (lv_sub hl [0, 1, 2, 3] rfl)
        · refine lv_aload_n hx hb dX0_thereSince_26 rfl (lv_at hl 3 rfl) ?_
          refine kx_g F inX0 hW 9 i hi rfl rfl 3 (by decide) L_15 (v := .ref (ad 11 i)) rfl dX0_thereSince_27 ?_
          refine lv_iload_n hx hb dX0_thereSince_30 rfl (lv_at hl 0 rfl) ?_
          refine kx_ald F hW 11 i hi rfl k (by omega) (by decide) (v := sg 11 i k) rfl dX0_thereSince_31 ?_
          refine lv_iload_n hx hb dX0_thereSince_32 rfl (lv_at hl 2 rfl) ?_
          refine lv_icmp_eq (tgt := 38) hx hb dX0_thereSince_33 (by decide) (fun c_33 => ?_) (fun c_33 => ?_)
          · refine lv_aload_n hx hb dX0_thereSince_38 rfl (lv_at hl 3 rfl) ?_
            refine kx_g F inX0 hW 9 i hi rfl rfl 2 (by decide) L_9 (v := .ref (ad 10 i)) rfl dX0_thereSince_39 ?_
            refine lv_iload_n hx hb dX0_thereSince_42 rfl (lv_at hl 0 rfl) ?_
            refine kx_ald F hW 10 i hi rfl k (by omega) (by decide) (v := sg 10 i k) rfl dX0_thereSince_43 ?_
            refine lv_istore_n (lv' := [(2, .int (sg 10 i k)), (3, .int (nI k)), (1, .int (tw_last (sg 9 i 7) (sg 11 i) n)), (0, .ref (ad 9 i))]) hx hb dX0_thereSince_44 rfl hl (by decide) rfl (fun ls hl => ?_)
            refine lv_iinc (v := nI k - 1) (lv' := [(3, .int (nI k - 1)), (2, .int (sg 10 i k)), (1, .int (tw_last (sg 9 i 7) (sg 11 i) n)), (0, .ref (ad 9 i))]) hx hb dX0_thereSince_45 hl (k := 1) rfl (by rw [Int32.sub_eq_add_neg]; rfl) (by decide) rfl (fun ls hl => ?_)
            refine lv_goto (tgt := 14) hx hb dX0_thereSince_48 (by decide) ?_
            exact ih (sg 10 i k) (by omega) (hL.trans (tw_since_3 (tw_b_1 c_23) c_33)) H locs ls hW hS (lv_sub hl [0, 1, 2, 3] rfl)
          · refine lv_iload_n hx hb dX0_thereSince_36 rfl (lv_at hl 1 rfl) ?_
            exact kx_ri F hr hlocks hW hS (by first | exact Nat.le_of_ble_eq_true rfl | omega) (by first | exact Nat.le_of_ble_eq_true rfl | omega) (⟨congrArg (fun z => some (Value.int z)) (by rw [hL, tw_since_2 (tw_b_1 c_23) c_33]), rfl⟩) dX0_thereSince_37
  refine lv_aload_n hx hb dX0_thereSince_0 rfl (lv_at hl 0 rfl) ?_
  refine kx_cV (na := 0) F (q := 9) (n := i) (c_X0_whereabouts l G z0 ad nb sg i hi n hn h12) gX0_thereSince_X0_whereabouts rfl (by decide +kernel) ⟨Nat.le_of_ble_eq_true rfl, Nat.le_of_ble_eq_true rfl⟩ hW hS hi rfl rfl (As := []) (rest := []) rfl hl.1 rfl (by decide) dX0_thereSince_1 ⟨by first | exact Nat.le_of_ble_eq_true rfl | omega, by first | exact Nat.le_of_ble_eq_true rfl | omega⟩ (fun r9 sg9 H locs hq hW hS => ?_)
  obtain ⟨rfl, e9⟩ := hq
  rw [e9] at hW
  refine W.eq (g2 := F0 m 4 ls [.int (tw_last (sg 9 i 7) (sg 11 i) n)]) rfl ?_
  refine lv_istore_n (lv' := [(1, .int (tw_last (sg 9 i 7) (sg 11 i) n)), (0, .ref (ad 9 i))]) hx hb dX0_thereSince_4 rfl hl (by decide) rfl (fun ls hl => ?_)
  refine lv_iconst (v := 0) hx hb dX0_thereSince_5 (by decide) ?_
  refine lv_istore_n (lv' := [(2, .int 0), (1, .int (tw_last (sg 9 i 7) (sg 11 i) n)), (0, .ref (ad 9 i))]) hx hb dX0_thereSince_6 rfl hl (by decide) rfl (fun ls hl => ?_)
  refine lv_aload_n hx hb dX0_thereSince_7 rfl (lv_at hl 2 rfl) ?_
  refine kx_g F inX0 hW 9 i hi rfl rfl 6 (by decide) L_24 (v := .int (nI n)) (congrArg (fun z => some (Value.int z)) hn) dX0_thereSince_8 ?_
  refine lv_iconst (v := 1) hx hb dX0_thereSince_11 (by decide) ?_
  refine lv_isub hx hb dX0_thereSince_12 ?_
  refine lv_istore_n (lv' := [(3, .int ((nI n) - 1)), (2, .int 0), (1, .int (tw_last (sg 9 i 7) (sg 11 i) n)), (0, .ref (ad 9 i))]) hx hb dX0_thereSince_13 rfl hl (by decide) rfl (fun ls hl => ?_)
  exact loop n 0 (Nat.le_refl n) rfl _ _ ls hW hS (lv_sub hl [0, 1, 2, 3] rfl)

set_option maxHeartbeats 4000000 in
set_option maxRecDepth 100000 in
/-- was it scanned later than x? -/
theorem c_X0_wasScannedAfter (l : Launch) (G : kx_G) (z0 : Nat) (ad : kx_A) (nb : Nat) (sg : kx_S) (i : Nat) (hi : i < nb) (n : Nat) (hn : sg 9 i 6 = nI n) (h12 : n ≤ 12) (x : Int32) : kx_M l yX0_wasScannedAfter wsX0_wasScannedAfter 0 0 0 0 G z0 ad nb sg [.ref (ad 9 i), .int x] (fun r sg' => r = some (.int (tw_b (tw_after (sg 10 i) n x))) ∧ sg' = sg) := by
  refine Met.ofW (cc := cX0_wasScannedAfter) (maxL := 2) (ret := (some .boolean)) (by decide) rfl ?_
  intro p e s m args below meth c s₁ B hml hv
  obtain ⟨rfl, hW, hV⟩ := hv
  have hts := atoms_spec (ws := wsX0_wasScannedAfter) B.pre
  have F : kx_F p s m c cX0_wasScannedAfter 2 RX0 _ wsX0_wasScannedAfter G z0 := ⟨B.exec, B.bytes, hml, findClass_of_methodNamed B.named, hts, hV⟩
  have hx := B.exec; have hb := B.bytes; have hr := B.returns; have hlocks := B.notSynchronized
  have hS : va_S (kx_Ad z0) s.heap s.heap [] := va_S.rf
  have L_24 : Cond.fieldLink RX0 24 (TX0 6).1 (TX0 6).2.1 (TX0 6).2.2.1 ∈ wsX0_wasScannedAfter := by decide +kernel
  have L_9 : Cond.fieldLink RX0 9 (TX0 2).1 (TX0 2).2.1 (TX0 2).2.2.1 ∈ wsX0_wasScannedAfter := by decide +kernel
  have inX0 : ∀ w ∈ u_ws RX0 TX0 11, w ∈ wsX0_wasScannedAfter := by decide +kernel
  have hl := lv_entry ([.ref (ad 9 i), .int x]) (n := 2) (Nat.le_of_ble_eq_true rfl)
  rw [lg_entry_eq]
  generalize (lg_sl ([.ref (ad 9 i), .int x]) ++ List.replicate (2 - (lg_sl ([.ref (ad 9 i), .int x])).length) Slot.unset).toArray = ls at hl ⊢
  have hl : lv_has ls 2 [(0, .ref (ad 9 i)), (1, .int x)] := hl
  refine lv_aload_n hx hb dX0_wasScannedAfter_0 rfl (lv_at hl 0 rfl) ?_
  refine kx_g F inX0 hW 9 i hi rfl rfl 6 (by decide) L_24 (v := .int (nI n)) (congrArg (fun z => some (Value.int z)) hn) dX0_wasScannedAfter_1 ?_
  refine lv_if_le (tgt := 26) hx hb dX0_wasScannedAfter_4 (by decide) (fun c_4 => ?_) (fun c_4 => ?_)
  · refine lv_iconst (v := 0) hx hb dX0_wasScannedAfter_26 (by decide) ?_
    exact kx_rz F hr hlocks hW hS (by first | exact Nat.le_of_ble_eq_true rfl | omega) (by first | exact Nat.le_of_ble_eq_true rfl | omega) (by rfl) (⟨congrArg (fun z => some (Value.int z)) (tw_b_f (tw_after_0 h12 c_4)), rfl⟩) dX0_wasScannedAfter_27
  · obtain ⟨k9, rfl⟩ : ∃ k9 : Nat, n = k9 + 1 := tw_after_3 c_4
    refine lv_aload_n hx hb dX0_wasScannedAfter_7 rfl (lv_at hl 0 rfl) ?_
    refine kx_g F inX0 hW 9 i hi rfl rfl 2 (by decide) L_9 (v := .ref (ad 10 i)) rfl dX0_wasScannedAfter_8 ?_
    refine lv_aload_n hx hb dX0_wasScannedAfter_11 rfl (lv_at hl 0 rfl) ?_
    refine kx_g F inX0 hW 9 i hi rfl rfl 6 (by decide) L_24 (v := .int (nI (k9 + 1))) (congrArg (fun z => some (Value.int z)) hn) dX0_wasScannedAfter_12 ?_
    refine lv_iconst (v := 1) hx hb dX0_wasScannedAfter_15 (by decide) ?_
    refine lv_isub hx hb dX0_wasScannedAfter_16 ?_
    rw [tw_m1]
    refine kx_ald F hW 10 i hi rfl k9 (by omega) (by decide) (v := sg 10 i k9) rfl dX0_wasScannedAfter_17 ?_
    refine lv_iload_n hx hb dX0_wasScannedAfter_18 rfl (lv_at hl 1 rfl) ?_
    refine lv_icmp_le (tgt := 26) hx hb dX0_wasScannedAfter_19 (by decide) (fun c_19 => ?_) (fun c_19 => ?_)
    · refine lv_iconst (v := 0) hx hb dX0_wasScannedAfter_26 (by decide) ?_
      exact kx_rz F hr hlocks hW hS (by first | exact Nat.le_of_ble_eq_true rfl | omega) (by first | exact Nat.le_of_ble_eq_true rfl | omega) (by rfl) (⟨congrArg (fun z => some (Value.int z)) (tw_b_f (tw_after_1 c_19)), rfl⟩) dX0_wasScannedAfter_27
    · refine lv_iconst (v := 1) hx hb dX0_wasScannedAfter_22 (by decide) ?_
      refine lv_goto (tgt := 27) hx hb dX0_wasScannedAfter_23 (by decide) ?_
      exact kx_rz F hr hlocks hW hS (by first | exact Nat.le_of_ble_eq_true rfl | omega) (by first | exact Nat.le_of_ble_eq_true rfl | omega) (by rfl) (⟨congrArg (fun z => some (Value.int z)) (tw_b_t (tw_after_2 c_19)), rfl⟩) dX0_wasScannedAfter_27

set_option maxHeartbeats 4000000 in
set_option maxRecDepth 100000 in
/-- how many of x lie -/
theorem c_X0_countLies (l : Launch) (G : kx_G) (z0 : Nat) (ad : kx_A) (nb : Nat) (sg : kx_S) (i : Nat) (hi : i < nb) (n : Nat) (hn : sg 9 i 6 = nI n) (h12 : n ≤ 12) (x : Int32) : kx_M l yX0_countLies wsX0_countLies 1 21 0 0 G z0 ad nb sg [.ref (ad 9 i), .int x] (fun r sg' => r = some (.int (tw_lies (sg 9 i 7) (sg 12 i) x n)) ∧ sg' = sg) := by
  refine Met.ofW (cc := cX0_countLies) (maxL := 4) (ret := (some .int)) (by decide) rfl ?_
  intro p e s m args below meth c s₁ B hml hv
  obtain ⟨rfl, hW, hV⟩ := hv
  have hts := atoms_spec (ws := wsX0_countLies) B.pre
  have F : kx_F p s m c cX0_countLies 4 RX0 _ wsX0_countLies G z0 := ⟨B.exec, B.bytes, hml, findClass_of_methodNamed B.named, hts, hV⟩
  have hx := B.exec; have hb := B.bytes; have hr := B.returns; have hlocks := B.notSynchronized
  have hS : va_S (kx_Ad z0) s.heap s.heap [] := va_S.rf
  have L_18 : Cond.fieldLink RX0 18 (TX0 4).1 (TX0 4).2.1 (TX0 4).2.2.1 ∈ wsX0_countLies := by decide +kernel
  have L_24 : Cond.fieldLink RX0 24 (TX0 6).1 (TX0 6).2.1 (TX0 6).2.2.1 ∈ wsX0_countLies := by decide +kernel
  have inX0 : ∀ w ∈ u_ws RX0 TX0 11, w ∈ wsX0_countLies := by decide +kernel
  have hl := lv_entry ([.ref (ad 9 i), .int x]) (n := 4) (Nat.le_of_ble_eq_true rfl)
  rw [lg_entry_eq]
  generalize (lg_sl ([.ref (ad 9 i), .int x]) ++ List.replicate (4 - (lg_sl ([.ref (ad 9 i), .int x])).length) Slot.unset).toArray = ls at hl ⊢
  have hl : lv_has ls 4 [(0, .ref (ad 9 i)), (1, .int x)] := hl
  have loop : ∀ (j k : Nat), n = k + j → ∀ (H : Heap) (locs : List Loc) (ls : Array Slot), kx_Wd G z0 ad nb sg H → va_S (kx_Ad z0) s.heap H locs → lv_has ls 4 [(3, .int (nI k)), (2, .int (tw_lies (sg 9 i 7) (sg 12 i) x k)), (0, .ref (ad 9 i)), (1, .int x)] → W p l e (headSpec wsX0_countLies { frames := 1, cells := 0, slots := 0, locals := 21 }).room s m ([.ref (ad 9 i), .int x] : List Value).toArray below meth c H locs 0 0 (MQ below (kx_Q G z0 ad nb (fun r sg' => r = some (.int (tw_lies (sg 9 i 7) (sg 12 i) x n)) ∧ sg' = sg)) ([.ref (ad 9 i), .int x] : List Value).toArray s 0 0 (kx_Ad z0)) (F0 m 4 ls []) := by
    intro j
    induction j with
    | zero =>
      intro k  hk H locs ls hW hS hl
      refine lv_iload_n hx hb dX0_countLies_4 rfl (lv_at hl 0 rfl) ?_
      refine lv_aload_n hx hb dX0_countLies_5 rfl (lv_at hl 2 rfl) ?_
      refine kx_g F inX0 hW 9 i hi rfl rfl 6 (by decide) L_24 (v := .int (nI n)) (congrArg (fun z => some (Value.int z)) hn) dX0_countLies_6 ?_
      refine lv_icmp_ge (tgt := 39) hx hb dX0_countLies_9 (by decide) (fun c_9 => ?_) (fun c_9 => ?_)
      · refine lv_iload_n hx hb dX0_countLies_39 rfl (lv_at hl 1 rfl) ?_
        exact kx_ri F hr hlocks hW hS (by first | exact Nat.le_of_ble_eq_true rfl | omega) (by first | exact Nat.le_of_ble_eq_true rfl | omega) (⟨congrArg (fun z => some (Value.int z)) (by rw [show n = k from by omega]), rfl⟩) dX0_countLies_40
      · exact absurd (nI_le (by omega) (by omega)) c_9
    | succ j ih =>
      intro k  hk H locs ls hW hS hl
      refine lv_iload_n hx hb dX0_countLies_4 rfl (lv_at hl 0 rfl) ?_
      refine lv_aload_n hx hb dX0_countLies_5 rfl (lv_at hl 2 rfl) ?_
      refine kx_g F inX0 hW 9 i hi rfl rfl 6 (by decide) L_24 (v := .int (nI n)) (congrArg (fun z => some (Value.int z)) hn) dX0_countLies_6 ?_
      refine lv_icmp_ge (tgt := 39) hx hb dX0_countLies_9 (by decide) (fun c_9 => ?_) (fun c_9 => ?_)
      · exact absurd c_9 (nI_ge (by omega) (by omega))
      · refine lv_aload_n hx hb dX0_countLies_12 rfl (lv_at hl 2 rfl) ?_
        refine kx_g F inX0 hW 9 i hi rfl rfl 4 (by decide) L_18 (v := .ref (ad 12 i)) rfl dX0_countLies_13 ?_
        refine lv_iload_n hx hb dX0_countLies_16 rfl (lv_at hl 0 rfl) ?_
        refine kx_ald F hW 12 i hi rfl k (by omega) (by decide) (v := sg 12 i k) rfl dX0_countLies_17 ?_
        refine lv_iload_n hx hb dX0_countLies_18 rfl (lv_at hl 3 rfl) ?_
        refine lv_icmp_ne (tgt := 33) hx hb dX0_countLies_19 (by decide) (fun c_19 => ?_) (fun c_19 => ?_)
        · refine lv_iinc (v := nI (k + 1)) (lv' := [(3, .int (nI (k + 1))), (2, .int (tw_lies (sg 9 i 7) (sg 12 i) x k)), (0, .ref (ad 9 i)), (1, .int x)]) hx hb dX0_countLies_33 hl (k := 0) rfl (nI_1 k) (by decide) rfl (fun ls hl => ?_)
          refine lv_goto (tgt := 4) hx hb dX0_countLies_36 (by decide) ?_
          exact ih (k + 1) (by omega) H locs ls hW hS (by rw [tw_lies_f1 c_19]; exact lv_sub hl [0, 1, 2, 3] rfl)
        · refine lv_aload_n hx hb dX0_countLies_22 rfl (lv_at hl 2 rfl) ?_
          refine lv_iload_n hx hb dX0_countLies_23 rfl (lv_at hl 0 rfl) ?_
          refine kx_cV (na := 1) F (q := 9) (n := i) (c_X0_isTrue l G z0 ad nb sg i hi (nI k)) gX0_countLies_X0_isTrue rfl (by decide +kernel) ⟨Nat.le_of_ble_eq_true rfl, Nat.le_of_ble_eq_true rfl⟩ hW hS hi rfl rfl (As := [.int (nI k)]) (rest := []) rfl hl.1 rfl (by decide) dX0_countLies_24 ⟨by first | exact Nat.le_of_ble_eq_true rfl | omega, by first | exact Nat.le_of_ble_eq_true rfl | omega⟩ (fun r9 sg9 H locs hq hW hS => ?_)
          obtain ⟨rfl, e9⟩ := hq
          rw [e9] at hW
          refine W.eq (g2 := F0 m 27 ls [.int (tw_b (tw_tru (sg 9 i 7) (nI k)))]) rfl ?_
          refine lv_if_ne (tgt := 33) hx hb dX0_countLies_27 (by decide) (fun c_27 => ?_) (fun c_27 => ?_)
          · refine lv_iinc (v := nI (k + 1)) (lv' := [(3, .int (nI (k + 1))), (2, .int (tw_lies (sg 9 i 7) (sg 12 i) x k)), (0, .ref (ad 9 i)), (1, .int x)]) hx hb dX0_countLies_33 hl (k := 0) rfl (nI_1 k) (by decide) rfl (fun ls hl => ?_)
            refine lv_goto (tgt := 4) hx hb dX0_countLies_36 (by decide) ?_
            exact ih (k + 1) (by omega) H locs ls hW hS (by rw [tw_lies_f2 (tw_b_1 c_27)]; exact lv_sub hl [0, 1, 2, 3] rfl)
          · refine lv_iinc (v := tw_lies (sg 9 i 7) (sg 12 i) x (k + 1)) (lv' := [(2, .int (tw_lies (sg 9 i 7) (sg 12 i) x (k + 1))), (3, .int (nI k)), (0, .ref (ad 9 i)), (1, .int x)]) hx hb dX0_countLies_30 hl (k := 1) rfl (by rw [tw_lies_t c_19 (tw_b_0 c_27)]; rfl) (by decide) rfl (fun ls hl => ?_)
            refine lv_iinc (v := nI (k + 1)) (lv' := [(3, .int (nI (k + 1))), (2, .int (tw_lies (sg 9 i 7) (sg 12 i) x (k + 1))), (0, .ref (ad 9 i)), (1, .int x)]) hx hb dX0_countLies_33 hl (k := 1) rfl (nI_1 k) (by decide) rfl (fun ls hl => ?_)
            refine lv_goto (tgt := 4) hx hb dX0_countLies_36 (by decide) ?_
            exact ih (k + 1) (by omega) H locs ls hW hS (lv_sub hl [0, 1, 2, 3] rfl)
  refine lv_iconst (v := 0) hx hb dX0_countLies_0 (by decide) ?_
  refine lv_istore_n (lv' := [(2, .int 0), (0, .ref (ad 9 i)), (1, .int x)]) hx hb dX0_countLies_1 rfl hl (by decide) rfl (fun ls hl => ?_)
  refine lv_iconst (v := 0) hx hb dX0_countLies_2 (by decide) ?_
  refine lv_istore_n (lv' := [(3, .int 0), (2, .int 0), (0, .ref (ad 9 i)), (1, .int x)]) hx hb dX0_countLies_3 rfl hl (by decide) rfl (fun ls hl => ?_)
  exact loop n 0 (by omega) _ _ ls hW hS (lv_sub hl [0, 1, 2, 3] rfl)
end
section
def tw_pay (r : Nat → Int32) (x : Int32) : Nat → Int32 := upd (upd r 1 (r 1 + x)) 2 (r 2 + 1)
def tw_back (r : Nat → Int32) (x : Int32) : Nat → Int32 := upd (upd r 1 (r 1 - x)) 2 (r 2 + 1)
def tw_note (r : Nat → Int32) : Nat → Int32 := upd r 2 (r 2 + 1)

set_option maxHeartbeats 4000000 in
set_option maxRecDepth 100000 in
/-- the insurer pays -/
theorem c_X2_payInsured (l : Launch) (G : kx_G) (z0 : Nat) (ad : kx_A) (nb : Nat) (sg : kx_S) (x : Int32) : kx_M l yX2_payInsured wsX2_payInsured 0 0 0 0 G z0 ad nb sg [.ref (ad 4 0), .int x] (fun r sg' => r = none ∧ sg' = kx_up sg 4 0 (tw_pay (sg 4 0) x)) := by
  refine Met.ofW (cc := cX2_payInsured) (maxL := 2) (ret := none) (by decide) rfl ?_
  intro p e s m args below meth c s₁ B hml hv
  obtain ⟨rfl, hW, hV⟩ := hv
  have hts := atoms_spec (ws := wsX2_payInsured) B.pre
  have F : kx_F p s m c cX2_payInsured 2 RX2 _ wsX2_payInsured G z0 := ⟨B.exec, B.bytes, hml, findClass_of_methodNamed B.named, hts, hV⟩
  have hx := B.exec; have hb := B.bytes; have hr := B.returns; have hlocks := B.notSynchronized
  have hS : va_S (kx_Ad z0) s.heap s.heap [] := va_S.rf
  have L_15 : Cond.fieldLink RX2 15 (TX2 1).1 (TX2 1).2.1 (TX2 1).2.2.1 ∈ wsX2_payInsured := by decide +kernel
  have L_19 : Cond.fieldLink RX2 19 (TX2 2).1 (TX2 2).2.1 (TX2 2).2.2.1 ∈ wsX2_payInsured := by decide +kernel
  have inX2 : ∀ w ∈ u_ws RX2 TX2 3, w ∈ wsX2_payInsured := by decide +kernel
  have hl := lv_entry ([.ref (ad 4 0), .int x]) (n := 2) (Nat.le_of_ble_eq_true rfl)
  rw [lg_entry_eq]
  generalize (lg_sl ([.ref (ad 4 0), .int x]) ++ List.replicate (2 - (lg_sl ([.ref (ad 4 0), .int x])).length) Slot.unset).toArray = ls at hl ⊢
  have hl : lv_has ls 2 [(0, .ref (ad 4 0)), (1, .int x)] := hl
  refine lv_aload_n hx hb dX2_payInsured_0 rfl (lv_at hl 0 rfl) ?_
  refine lv_dup hx hb dX2_payInsured_1 rfl ?_
  refine kx_g F inX2 hW 4 0 ⟨by decide, rfl⟩ rfl rfl 1 (by decide) L_15 (v := .int (sg 4 0 1)) rfl dX2_payInsured_2 ?_
  refine lv_iload_n hx hb dX2_payInsured_5 rfl (lv_at hl 1 rfl) ?_
  refine lv_iadd hx hb dX2_payInsured_6 ?_
  refine kx_p F inX2 tyX2 tyX2_ok nmX2 hW hS 4 0 ⟨by decide, rfl⟩ rfl rfl 1 (by decide) L_15 rfl (v := .int ((sg 4 0 1) + x)) rfl rfl (Nat.le_of_ble_eq_true rfl) (upd (sg 4 0) 1 ((sg 4 0 1) + x)) rfl dX2_payInsured_7 (fun H locs hW hS => ?_)
  have hW : kx_Wd G z0 ad nb (kx_up sg 4 0 (upd (sg 4 0) 1 ((sg 4 0 1) + x))) H := by first | exact hW | (simp only [kx_up_s, kx_up_up] at hW; exact hW) | (simp only [kx_up_s, kx_up_up, upd_s] at hW; exact hW)
  refine lv_aload_n hx hb dX2_payInsured_10 rfl (lv_at hl 0 rfl) ?_
  refine lv_dup hx hb dX2_payInsured_11 rfl ?_
  refine kx_g F inX2 hW 4 0 ⟨by decide, rfl⟩ rfl rfl 2 (by decide) L_19 (v := .int (sg 4 0 2)) (by first | rfl | (simp only [kx_up_s]; done) | (simp only [kx_up_s, upd_s]; done) | (simp only [kx_up_s]; rfl) | (simp [kx_up, upd]; done)) dX2_payInsured_12 ?_
  refine lv_iconst (v := 1) hx hb dX2_payInsured_15 (by decide) ?_
  refine lv_iadd hx hb dX2_payInsured_16 ?_
  refine kx_p F inX2 tyX2 tyX2_ok nmX2 hW hS 4 0 ⟨by decide, rfl⟩ rfl rfl 2 (by decide) L_19 rfl (v := .int ((sg 4 0 2) + 1)) rfl rfl (Nat.le_of_ble_eq_true rfl) (upd ((kx_up sg 4 0 (upd (sg 4 0) 1 ((sg 4 0 1) + x))) 4 0) 2 ((sg 4 0 2) + 1)) rfl dX2_payInsured_17 (fun H locs hW hS => ?_)
  have hW : kx_Wd G z0 ad nb (kx_up sg 4 0 (upd (upd (sg 4 0) 1 ((sg 4 0 1) + x)) 2 ((sg 4 0 2) + 1))) H := by first | exact hW | (simp only [kx_up_s, kx_up_up] at hW; exact hW) | (simp only [kx_up_s, kx_up_up, upd_s] at hW; exact hW)
  exact kx_rv F hr hlocks hW hS (by first | exact Nat.le_of_ble_eq_true rfl | omega) (by first | exact Nat.le_of_ble_eq_true rfl | omega) (⟨rfl, rfl⟩) dX2_payInsured_20

set_option maxHeartbeats 4000000 in
set_option maxRecDepth 100000 in
/-- the insurer claims back -/
theorem c_X2_claimBack (l : Launch) (G : kx_G) (z0 : Nat) (ad : kx_A) (nb : Nat) (sg : kx_S) (x : Int32) : kx_M l yX2_claimBack wsX2_claimBack 0 0 0 0 G z0 ad nb sg [.ref (ad 4 0), .int x] (fun r sg' => r = none ∧ sg' = kx_up sg 4 0 (tw_back (sg 4 0) x)) := by
  refine Met.ofW (cc := cX2_claimBack) (maxL := 2) (ret := none) (by decide) rfl ?_
  intro p e s m args below meth c s₁ B hml hv
  obtain ⟨rfl, hW, hV⟩ := hv
  have hts := atoms_spec (ws := wsX2_claimBack) B.pre
  have F : kx_F p s m c cX2_claimBack 2 RX2 _ wsX2_claimBack G z0 := ⟨B.exec, B.bytes, hml, findClass_of_methodNamed B.named, hts, hV⟩
  have hx := B.exec; have hb := B.bytes; have hr := B.returns; have hlocks := B.notSynchronized
  have hS : va_S (kx_Ad z0) s.heap s.heap [] := va_S.rf
  have L_15 : Cond.fieldLink RX2 15 (TX2 1).1 (TX2 1).2.1 (TX2 1).2.2.1 ∈ wsX2_claimBack := by decide +kernel
  have L_19 : Cond.fieldLink RX2 19 (TX2 2).1 (TX2 2).2.1 (TX2 2).2.2.1 ∈ wsX2_claimBack := by decide +kernel
  have inX2 : ∀ w ∈ u_ws RX2 TX2 3, w ∈ wsX2_claimBack := by decide +kernel
  have hl := lv_entry ([.ref (ad 4 0), .int x]) (n := 2) (Nat.le_of_ble_eq_true rfl)
  rw [lg_entry_eq]
  generalize (lg_sl ([.ref (ad 4 0), .int x]) ++ List.replicate (2 - (lg_sl ([.ref (ad 4 0), .int x])).length) Slot.unset).toArray = ls at hl ⊢
  have hl : lv_has ls 2 [(0, .ref (ad 4 0)), (1, .int x)] := hl
  refine lv_aload_n hx hb dX2_claimBack_0 rfl (lv_at hl 0 rfl) ?_
  refine lv_dup hx hb dX2_claimBack_1 rfl ?_
  refine kx_g F inX2 hW 4 0 ⟨by decide, rfl⟩ rfl rfl 1 (by decide) L_15 (v := .int (sg 4 0 1)) rfl dX2_claimBack_2 ?_
  refine lv_iload_n hx hb dX2_claimBack_5 rfl (lv_at hl 1 rfl) ?_
  refine lv_isub hx hb dX2_claimBack_6 ?_
  refine kx_p F inX2 tyX2 tyX2_ok nmX2 hW hS 4 0 ⟨by decide, rfl⟩ rfl rfl 1 (by decide) L_15 rfl (v := .int ((sg 4 0 1) - x)) rfl rfl (Nat.le_of_ble_eq_true rfl) (upd (sg 4 0) 1 ((sg 4 0 1) - x)) rfl dX2_claimBack_7 (fun H locs hW hS => ?_)
  have hW : kx_Wd G z0 ad nb (kx_up sg 4 0 (upd (sg 4 0) 1 ((sg 4 0 1) - x))) H := by first | exact hW | (simp only [kx_up_s, kx_up_up] at hW; exact hW) | (simp only [kx_up_s, kx_up_up, upd_s] at hW; exact hW)
  refine lv_aload_n hx hb dX2_claimBack_10 rfl (lv_at hl 0 rfl) ?_
  refine lv_dup hx hb dX2_claimBack_11 rfl ?_
  refine kx_g F inX2 hW 4 0 ⟨by decide, rfl⟩ rfl rfl 2 (by decide) L_19 (v := .int (sg 4 0 2)) (by first | rfl | (simp only [kx_up_s]; done) | (simp only [kx_up_s, upd_s]; done) | (simp only [kx_up_s]; rfl) | (simp [kx_up, upd]; done)) dX2_claimBack_12 ?_
  refine lv_iconst (v := 1) hx hb dX2_claimBack_15 (by decide) ?_
  refine lv_iadd hx hb dX2_claimBack_16 ?_
  refine kx_p F inX2 tyX2 tyX2_ok nmX2 hW hS 4 0 ⟨by decide, rfl⟩ rfl rfl 2 (by decide) L_19 rfl (v := .int ((sg 4 0 2) + 1)) rfl rfl (Nat.le_of_ble_eq_true rfl) (upd ((kx_up sg 4 0 (upd (sg 4 0) 1 ((sg 4 0 1) - x))) 4 0) 2 ((sg 4 0 2) + 1)) rfl dX2_claimBack_17 (fun H locs hW hS => ?_)
  have hW : kx_Wd G z0 ad nb (kx_up sg 4 0 (upd (upd (sg 4 0) 1 ((sg 4 0 1) - x)) 2 ((sg 4 0 2) + 1))) H := by first | exact hW | (simp only [kx_up_s, kx_up_up] at hW; exact hW) | (simp only [kx_up_s, kx_up_up, upd_s] at hW; exact hW)
  exact kx_rv F hr hlocks hW hS (by first | exact Nat.le_of_ble_eq_true rfl | omega) (by first | exact Nat.le_of_ble_eq_true rfl | omega) (⟨rfl, rfl⟩) dX2_claimBack_20

set_option maxHeartbeats 4000000 in
set_option maxRecDepth 100000 in
/-- a fee, or what is undone -/
theorem c_X2_writeFee (l : Launch) (G : kx_G) (z0 : Nat) (ad : kx_A) (nb : Nat) (sg : kx_S) (x a : Int32) : kx_M l yX2_writeFee wsX2_writeFee 0 0 0 0 G z0 ad nb sg [.ref (ad 4 0), .int x, .int a] (fun r sg' => r = none ∧ sg' = kx_up (kx_up sg 5 0 (tw_fee (sg 5 0) x a)) 4 0 (tw_note (sg 4 0))) := by
  refine Met.ofW (cc := cX2_writeFee) (maxL := 3) (ret := none) (by decide) rfl ?_
  intro p e s m args below meth c s₁ B hml hv
  obtain ⟨rfl, hW, hV⟩ := hv
  have hts := atoms_spec (ws := wsX2_writeFee) B.pre
  have F : kx_F p s m c cX2_writeFee 3 RX2 _ wsX2_writeFee G z0 := ⟨B.exec, B.bytes, hml, findClass_of_methodNamed B.named, hts, hV⟩
  have hx := B.exec; have hb := B.bytes; have hr := B.returns; have hlocks := B.notSynchronized
  have hS : va_S (kx_Ad z0) s.heap s.heap [] := va_S.rf
  have L_19 : Cond.fieldLink RX2 19 (TX2 2).1 (TX2 2).2.1 (TX2 2).2.2.1 ∈ wsX2_writeFee := by decide +kernel
  have L_9 : Cond.fieldLink RX2 9 (TX2 0).1 (TX2 0).2.1 (TX2 0).2.2.1 ∈ wsX2_writeFee := by decide +kernel
  have inX2 : ∀ w ∈ u_ws RX2 TX2 3, w ∈ wsX2_writeFee := by decide +kernel
  have hl := lv_entry ([.ref (ad 4 0), .int x, .int a]) (n := 3) (Nat.le_of_ble_eq_true rfl)
  rw [lg_entry_eq]
  generalize (lg_sl ([.ref (ad 4 0), .int x, .int a]) ++ List.replicate (3 - (lg_sl ([.ref (ad 4 0), .int x, .int a])).length) Slot.unset).toArray = ls at hl ⊢
  have hl : lv_has ls 3 [(0, .ref (ad 4 0)), (1, .int x), (2, .int a)] := hl
  refine lv_iload_n hx hb dX2_writeFee_0 rfl (lv_at hl 1 rfl) ?_
  refine lv_if_lt (tgt := 19) hx hb dX2_writeFee_1 (by decide) (fun c_1 => ?_) (fun c_1 => ?_)
  · refine lv_aload_n hx hb dX2_writeFee_19 rfl (lv_at hl 0 rfl) ?_
    refine lv_dup hx hb dX2_writeFee_20 rfl ?_
    refine kx_g F inX2 hW 4 0 ⟨by decide, rfl⟩ rfl rfl 2 (by decide) L_19 (v := .int (sg 4 0 2)) rfl dX2_writeFee_21 ?_
    refine lv_iconst (v := 1) hx hb dX2_writeFee_24 (by decide) ?_
    refine lv_iadd hx hb dX2_writeFee_25 ?_
    refine kx_p F inX2 tyX2 tyX2_ok nmX2 hW hS 4 0 ⟨by decide, rfl⟩ rfl rfl 2 (by decide) L_19 rfl (v := .int ((sg 4 0 2) + 1)) rfl rfl (Nat.le_of_ble_eq_true rfl) (upd (sg 4 0) 2 ((sg 4 0 2) + 1)) rfl dX2_writeFee_26 (fun H locs hW hS => ?_)
    have hW : kx_Wd G z0 ad nb (kx_up sg 4 0 (upd (sg 4 0) 2 ((sg 4 0 2) + 1))) H := by first | exact hW | (simp only [kx_up_s, kx_up_up] at hW; exact hW) | (simp only [kx_up_s, kx_up_up, upd_s] at hW; exact hW)
    exact kx_rv F hr hlocks hW hS (by first | exact Nat.le_of_ble_eq_true rfl | omega) (by first | exact Nat.le_of_ble_eq_true rfl | omega) (⟨rfl, by rw [tw_fee_1 c_1, kx_up_id]; rfl⟩) dX2_writeFee_29
  · refine lv_iload_n hx hb dX2_writeFee_4 rfl (lv_at hl 1 rfl) ?_
    refine lv_iconst (v := 4) hx hb dX2_writeFee_5 (by decide) ?_
    refine lv_icmp_ge (tgt := 19) hx hb dX2_writeFee_6 (by decide) (fun c_6 => ?_) (fun c_6 => ?_)
    · refine lv_aload_n hx hb dX2_writeFee_19 rfl (lv_at hl 0 rfl) ?_
      refine lv_dup hx hb dX2_writeFee_20 rfl ?_
      refine kx_g F inX2 hW 4 0 ⟨by decide, rfl⟩ rfl rfl 2 (by decide) L_19 (v := .int (sg 4 0 2)) rfl dX2_writeFee_21 ?_
      refine lv_iconst (v := 1) hx hb dX2_writeFee_24 (by decide) ?_
      refine lv_iadd hx hb dX2_writeFee_25 ?_
      refine kx_p F inX2 tyX2 tyX2_ok nmX2 hW hS 4 0 ⟨by decide, rfl⟩ rfl rfl 2 (by decide) L_19 rfl (v := .int ((sg 4 0 2) + 1)) rfl rfl (Nat.le_of_ble_eq_true rfl) (upd (sg 4 0) 2 ((sg 4 0 2) + 1)) rfl dX2_writeFee_26 (fun H locs hW hS => ?_)
      have hW : kx_Wd G z0 ad nb (kx_up sg 4 0 (upd (sg 4 0) 2 ((sg 4 0 2) + 1))) H := by first | exact hW | (simp only [kx_up_s, kx_up_up] at hW; exact hW) | (simp only [kx_up_s, kx_up_up, upd_s] at hW; exact hW)
      exact kx_rv F hr hlocks hW hS (by first | exact Nat.le_of_ble_eq_true rfl | omega) (by first | exact Nat.le_of_ble_eq_true rfl | omega) (⟨rfl, by rw [tw_fee_2 c_6, kx_up_id]; rfl⟩) dX2_writeFee_29
    · obtain ⟨k, hk, rfl⟩ := tw_in_nI (n := 4) (by decide) c_1 c_6
      refine lv_aload_n hx hb dX2_writeFee_9 rfl (lv_at hl 0 rfl) ?_
      refine kx_g F inX2 hW 4 0 ⟨by decide, rfl⟩ rfl rfl 0 (by decide) L_9 (v := .ref (ad 5 0)) rfl dX2_writeFee_10 ?_
      refine lv_iload_n hx hb dX2_writeFee_13 rfl (lv_at hl 1 rfl) ?_
      refine lv_dup2_11 hx hb dX2_writeFee_14 rfl rfl ?_
      refine kx_ald F hW 5 0 ⟨by decide, rfl⟩ rfl k hk (by decide) (v := sg 5 0 k) rfl dX2_writeFee_15 ?_
      refine lv_iload_n hx hb dX2_writeFee_16 rfl (lv_at hl 2 rfl) ?_
      refine lv_iadd hx hb dX2_writeFee_17 ?_
      refine kx_ast F hW hS 5 0 ⟨by decide, rfl⟩ rfl k hk (by decide) (x := ((sg 5 0 k) + a)) rfl dX2_writeFee_18 (fun H locs hW hS => ?_)
      have hW : kx_Wd G z0 ad nb (kx_up sg 5 0 (upd (sg 5 0) k ((sg 5 0 k) + a))) H := by first | exact hW | (simp only [kx_up_s, kx_up_up] at hW; exact hW) | (simp only [kx_up_s, kx_up_up, upd_s] at hW; exact hW)
      refine lv_aload_n hx hb dX2_writeFee_19 rfl (lv_at hl 0 rfl) ?_
      refine lv_dup hx hb dX2_writeFee_20 rfl ?_
      refine kx_g F inX2 hW 4 0 ⟨by decide, rfl⟩ rfl rfl 2 (by decide) L_19 (v := .int (sg 4 0 2)) (by first | rfl | (simp only [kx_up_s]; done) | (simp only [kx_up_s, upd_s]; done) | (simp only [kx_up_s]; rfl) | (simp [kx_up, upd]; done)) dX2_writeFee_21 ?_
      refine lv_iconst (v := 1) hx hb dX2_writeFee_24 (by decide) ?_
      refine lv_iadd hx hb dX2_writeFee_25 ?_
      refine kx_p F inX2 tyX2 tyX2_ok nmX2 hW hS 4 0 ⟨by decide, rfl⟩ rfl rfl 2 (by decide) L_19 rfl (v := .int ((sg 4 0 2) + 1)) rfl rfl (Nat.le_of_ble_eq_true rfl) (upd ((kx_up sg 5 0 (upd (sg 5 0) k ((sg 5 0 k) + a))) 4 0) 2 ((sg 4 0 2) + 1)) rfl dX2_writeFee_26 (fun H locs hW hS => ?_)
      have hW : kx_Wd G z0 ad nb (kx_up (kx_up sg 5 0 (upd (sg 5 0) k ((sg 5 0 k) + a))) 4 0 (upd (sg 4 0) 2 ((sg 4 0 2) + 1))) H := by first | exact hW | (simp only [kx_up_s, kx_up_up] at hW; exact hW) | (simp only [kx_up_s, kx_up_up, upd_s] at hW; exact hW)
      exact kx_rv F hr hlocks hW hS (by first | exact Nat.le_of_ble_eq_true rfl | omega) (by first | exact Nat.le_of_ble_eq_true rfl | omega) (⟨rfl, by rw [tw_fee_3 hk]; rfl⟩) dX2_writeFee_29

set_option maxHeartbeats 4000000 in
set_option maxRecDepth 100000 in
/-- is the door kept? -/
theorem c_X1_isKept (l : Launch) (G : kx_G) (z0 : Nat) (ad : kx_A) (nb : Nat) (sg : kx_S) (d : Nat) (hd : d < 10) : kx_M l yX1_isKept wsX1_isKept 0 0 0 0 G z0 ad nb sg [.ref (ad 8 d)] (fun r sg' => r = some (.int (tw_b (decide (¬ sg 8 d 2 = -1)))) ∧ sg' = sg) := by
  refine Met.ofW (cc := cX1_isKept) (maxL := 1) (ret := (some .boolean)) (by decide) rfl ?_
  intro p e s m args below meth c s₁ B hml hv
  obtain ⟨rfl, hW, hV⟩ := hv
  have hts := atoms_spec (ws := wsX1_isKept) B.pre
  have F : kx_F p s m c cX1_isKept 1 RX1 _ wsX1_isKept G z0 := ⟨B.exec, B.bytes, hml, findClass_of_methodNamed B.named, hts, hV⟩
  have hx := B.exec; have hb := B.bytes; have hr := B.returns; have hlocks := B.notSynchronized
  have hS : va_S (kx_Ad z0) s.heap s.heap [] := va_S.rf
  have L_19 : Cond.fieldLink RX1 19 (TX1 2).1 (TX1 2).2.1 (TX1 2).2.2.1 ∈ wsX1_isKept := by decide +kernel
  have inX1 : ∀ w ∈ u_ws RX1 TX1 5, w ∈ wsX1_isKept := by decide +kernel
  have hl := lv_entry ([.ref (ad 8 d)]) (n := 1) (Nat.le_of_ble_eq_true rfl)
  rw [lg_entry_eq]
  generalize (lg_sl ([.ref (ad 8 d)]) ++ List.replicate (1 - (lg_sl ([.ref (ad 8 d)])).length) Slot.unset).toArray = ls at hl ⊢
  have hl : lv_has ls 1 [(0, .ref (ad 8 d))] := hl
  refine lv_aload_n hx hb dX1_isKept_0 rfl (lv_at hl 0 rfl) ?_
  refine kx_g F inX1 hW 8 d hd rfl rfl 2 (by decide) L_19 (v := .int (sg 8 d 2)) rfl dX1_isKept_1 ?_
  refine lv_iconst (v := (-1)) hx hb dX1_isKept_4 (by decide) ?_
  refine lv_icmp_eq (tgt := 12) hx hb dX1_isKept_5 (by decide) (fun c_5 => ?_) (fun c_5 => ?_)
  · refine lv_iconst (v := 0) hx hb dX1_isKept_12 (by decide) ?_
    exact kx_rz F hr hlocks hW hS (by first | exact Nat.le_of_ble_eq_true rfl | omega) (by first | exact Nat.le_of_ble_eq_true rfl | omega) (by rfl) (⟨congrArg (fun z => some (Value.int z)) (tw_b_f (decide_eq_false (fun h => h c_5))), rfl⟩) dX1_isKept_13
  · refine lv_iconst (v := 1) hx hb dX1_isKept_8 (by decide) ?_
    refine lv_goto (tgt := 13) hx hb dX1_isKept_9 (by decide) ?_
    exact kx_rz F hr hlocks hW hS (by first | exact Nat.le_of_ble_eq_true rfl | omega) (by first | exact Nat.le_of_ble_eq_true rfl | omega) (by rfl) (⟨congrArg (fun z => some (Value.int z)) (tw_b_t (decide_eq_true c_5)), rfl⟩) dX1_isKept_13

set_option maxHeartbeats 4000000 in
set_option maxRecDepth 100000 in
/-- which scans the next one can follow -/
theorem c_X0_scansAheadOf (l : Launch) (G : kx_G) (z0 : Nat) (ad : kx_A) (nb : Nat) (sg : kx_S) (i : Nat) (hi : i < nb) (n : Nat) (hn : sg 9 i 6 = nI n) (h12 : n ≤ 12) (t q : Int32) : kx_M l yX0_scansAheadOf wsX0_scansAheadOf 3 65 0 0 G z0 ad nb sg [.ref (ad 9 i), .int t, .int q] (fun r sg' => ∃ a : Int32, r = some (.int a) ∧ sg' = sg ∧ tw_tru a (nI 12) = decide (tw_cmn 0 q ≤ t) ∧ ∀ j, j < n → tw_tru a (nI j) = decide (tw_cmn (sg 11 i j) q ≤ t - sg 10 i j)) := by
  refine Met.ofW (cc := cX0_scansAheadOf) (maxL := 5) (ret := (some .int)) (by decide) rfl ?_
  intro p e s m args below meth c s₁ B hml hv
  obtain ⟨rfl, hW, hV⟩ := hv
  have hts := atoms_spec (ws := wsX0_scansAheadOf) B.pre
  have F : kx_F p s m c cX0_scansAheadOf 5 RX0 _ wsX0_scansAheadOf G z0 := ⟨B.exec, B.bytes, hml, findClass_of_methodNamed B.named, hts, hV⟩
  have hx := B.exec; have hb := B.bytes; have hr := B.returns; have hlocks := B.notSynchronized
  have hS : va_S (kx_Ad z0) s.heap s.heap [] := va_S.rf
  have L_15 : Cond.fieldLink RX0 15 (TX0 3).1 (TX0 3).2.1 (TX0 3).2.2.1 ∈ wsX0_scansAheadOf := by decide +kernel
  have L_24 : Cond.fieldLink RX0 24 (TX0 6).1 (TX0 6).2.1 (TX0 6).2.2.1 ∈ wsX0_scansAheadOf := by decide +kernel
  have L_9 : Cond.fieldLink RX0 9 (TX0 2).1 (TX0 2).2.1 (TX0 2).2.2.1 ∈ wsX0_scansAheadOf := by decide +kernel
  have inX0 : ∀ w ∈ u_ws RX0 TX0 11, w ∈ wsX0_scansAheadOf := by decide +kernel
  have hl := lv_entry ([.ref (ad 9 i), .int t, .int q]) (n := 5) (Nat.le_of_ble_eq_true rfl)
  rw [lg_entry_eq]
  generalize (lg_sl ([.ref (ad 9 i), .int t, .int q]) ++ List.replicate (5 - (lg_sl ([.ref (ad 9 i), .int t, .int q])).length) Slot.unset).toArray = ls at hl ⊢
  have hl : lv_has ls 5 [(0, .ref (ad 9 i)), (1, .int t), (2, .int q)] := hl
  have loop : ∀ (j k : Nat) (a : Int32), n = k + j → (∀ j, j < 13 → tw_tru a (nI j) = (if j = 12 then decide (tw_cmn 0 q ≤ t) else if j < k then decide (tw_cmn (sg 11 i j) q ≤ t - sg 10 i j) else false)) → ∀ (H : Heap) (locs : List Loc) (ls : Array Slot), kx_Wd G z0 ad nb sg H → va_S (kx_Ad z0) s.heap H locs → lv_has ls 5 [(4, .int (nI k)), (3, .int a), (0, .ref (ad 9 i)), (1, .int t), (2, .int q)] → W p l e (headSpec wsX0_scansAheadOf { frames := 3, cells := 0, slots := 0, locals := 65 }).room s m ([.ref (ad 9 i), .int t, .int q] : List Value).toArray below meth c H locs 0 0 (MQ below (kx_Q G z0 ad nb (fun r sg' => ∃ a : Int32, r = some (.int a) ∧ sg' = sg ∧ tw_tru a (nI 12) = decide (tw_cmn 0 q ≤ t) ∧ ∀ j, j < n → tw_tru a (nI j) = decide (tw_cmn (sg 11 i j) q ≤ t - sg 10 i j))) ([.ref (ad 9 i), .int t, .int q] : List Value).toArray s 0 0 (kx_Ad z0)) (F0 m 20 ls []) := by
    intro j
    induction j with
    | zero =>
      intro k a hk hL H locs ls hW hS hl
      refine lv_iload hx hb dX0_scansAheadOf_20 (lv_at hl 0 rfl) ?_
      refine lv_aload_n hx hb dX0_scansAheadOf_22 rfl (lv_at hl 2 rfl) ?_
      refine kx_g F inX0 hW 9 i hi rfl rfl 6 (by decide) L_24 (v := .int (nI n)) (congrArg (fun z => some (Value.int z)) hn) dX0_scansAheadOf_23 ?_
      refine lv_icmp_ge (tgt := 65) hx hb dX0_scansAheadOf_26 (by decide) (fun c_26 => ?_) (fun c_26 => ?_)
      · refine lv_iload_n hx hb dX0_scansAheadOf_65 rfl (lv_at hl 1 rfl) ?_
        exact kx_ri F hr hlocks hW hS (by first | exact Nat.le_of_ble_eq_true rfl | omega) (by first | exact Nat.le_of_ble_eq_true rfl | omega) (⟨a, rfl, rfl, (hL 12 (by decide)).trans (by rw [if_pos rfl]), fun j9 hj9 => (hL j9 (by omega)).trans (by rw [if_neg (by omega), if_pos (by omega)])⟩) dX0_scansAheadOf_66
      · exact absurd (nI_le (by omega) (by omega)) c_26
    | succ j ih =>
      intro k a hk hL H locs ls hW hS hl
      refine lv_iload hx hb dX0_scansAheadOf_20 (lv_at hl 0 rfl) ?_
      refine lv_aload_n hx hb dX0_scansAheadOf_22 rfl (lv_at hl 2 rfl) ?_
      refine kx_g F inX0 hW 9 i hi rfl rfl 6 (by decide) L_24 (v := .int (nI n)) (congrArg (fun z => some (Value.int z)) hn) dX0_scansAheadOf_23 ?_
      refine lv_icmp_ge (tgt := 65) hx hb dX0_scansAheadOf_26 (by decide) (fun c_26 => ?_) (fun c_26 => ?_)
      · exact absurd c_26 (nI_ge (by omega) (by omega))
      · refine lv_aload_n hx hb dX0_scansAheadOf_29 rfl (lv_at hl 2 rfl) ?_
        refine kx_g F inX0 hW 9 i hi rfl rfl 3 (by decide) L_15 (v := .ref (ad 11 i)) rfl dX0_scansAheadOf_30 ?_
        refine lv_iload hx hb dX0_scansAheadOf_33 (lv_at hl 0 rfl) ?_
        refine kx_ald F hW 11 i hi rfl k (by omega) (by decide) (v := sg 11 i k) rfl dX0_scansAheadOf_35 ?_
        refine lv_iload_n hx hb dX0_scansAheadOf_36 rfl (lv_at hl 4 rfl) ?_
        refine kx_cN (na := 2) F (c_X3_minutesBetween l G z0 ad nb sg (sg 11 i k) q) gX0_scansAheadOf_X3_minutesBetween_n51 (by decide +kernel) (by decide +kernel) (host := "Whichbox") (by decide +kernel) rfl (by decide +kernel) ⟨Nat.le_of_ble_eq_true rfl, Nat.le_of_ble_eq_true rfl⟩ hW hS (As := [.int (sg 11 i k), .int q]) (rest := []) rfl hl.1 rfl (Nat.le_of_ble_eq_true rfl) dX0_scansAheadOf_37 ⟨by first | exact Nat.le_of_ble_eq_true rfl | omega, by first | exact Nat.le_of_ble_eq_true rfl | omega⟩ (fun r9 sg9 H locs hq hW hS => ?_)
        obtain ⟨rfl, e9⟩ := hq
        rw [e9] at hW
        refine W.eq (g2 := F0 m 40 ls [.int (tw_cmn (sg 11 i k) q)]) rfl ?_
        refine lv_iload_n hx hb dX0_scansAheadOf_40 rfl (lv_at hl 3 rfl) ?_
        refine lv_aload_n hx hb dX0_scansAheadOf_41 rfl (lv_at hl 2 rfl) ?_
        refine kx_g F inX0 hW 9 i hi rfl rfl 2 (by decide) L_9 (v := .ref (ad 10 i)) rfl dX0_scansAheadOf_42 ?_
        refine lv_iload hx hb dX0_scansAheadOf_45 (lv_at hl 0 rfl) ?_
        refine kx_ald F hW 10 i hi rfl k (by omega) (by decide) (v := sg 10 i k) rfl dX0_scansAheadOf_47 ?_
        refine lv_isub hx hb dX0_scansAheadOf_48 ?_
        refine lv_icmp_gt (tgt := 59) hx hb dX0_scansAheadOf_49 (by decide) (fun c_49 => ?_) (fun c_49 => ?_)
        · refine lv_iinc (v := nI (k + 1)) (lv' := [(4, .int (nI (k + 1))), (3, .int a), (0, .ref (ad 9 i)), (1, .int t), (2, .int q)]) hx hb dX0_scansAheadOf_59 hl (k := 0) rfl (nI_1 k) (by decide) rfl (fun ls hl => ?_)
          refine lv_goto (tgt := 20) hx hb dX0_scansAheadOf_62 (by decide) ?_
          exact ih (k + 1) a (by omega) (tw_sa_f (by omega) hL c_49) H locs ls hW hS (lv_sub hl [0, 1, 2, 3, 4] rfl)
        · refine lv_iload_n hx hb dX0_scansAheadOf_52 rfl (lv_at hl 1 rfl) ?_
          refine lv_iconst (v := 1) hx hb dX0_scansAheadOf_53 (by decide) ?_
          refine lv_iload hx hb dX0_scansAheadOf_54 (lv_at hl 0 rfl) ?_
          refine lv_ishl hx hb dX0_scansAheadOf_56 ?_
          refine lv_ior hx hb dX0_scansAheadOf_57 ?_
          refine lv_istore_n (lv' := [(3, .int (a ||| (1 <<< ((nI k) &&& 31)))), (4, .int (nI k)), (0, .ref (ad 9 i)), (1, .int t), (2, .int q)]) hx hb dX0_scansAheadOf_58 rfl hl (by decide) rfl (fun ls hl => ?_)
          refine lv_iinc (v := nI (k + 1)) (lv' := [(4, .int (nI (k + 1))), (3, .int (a ||| (1 <<< ((nI k) &&& 31)))), (0, .ref (ad 9 i)), (1, .int t), (2, .int q)]) hx hb dX0_scansAheadOf_59 hl (k := 1) rfl (nI_1 k) (by decide) rfl (fun ls hl => ?_)
          refine lv_goto (tgt := 20) hx hb dX0_scansAheadOf_62 (by decide) ?_
          exact ih (k + 1) _ (by omega) (tw_sa_t (by omega) hL c_49) H locs ls hW hS (lv_sub hl [0, 1, 2, 3, 4] rfl)
  refine lv_iconst (v := 0) hx hb dX0_scansAheadOf_0 (by decide) ?_
  refine lv_iload_n hx hb dX0_scansAheadOf_1 rfl (lv_at hl 2 rfl) ?_
  refine kx_cN (na := 2) F (c_X3_minutesBetween l G z0 ad nb sg 0 q) gX0_scansAheadOf_X3_minutesBetween_n51 (by decide +kernel) (by decide +kernel) (host := "Whichbox") (by decide +kernel) rfl (by decide +kernel) ⟨Nat.le_of_ble_eq_true rfl, Nat.le_of_ble_eq_true rfl⟩ hW hS (As := [.int 0, .int q]) (rest := []) rfl hl.1 rfl (Nat.le_of_ble_eq_true rfl) dX0_scansAheadOf_2 ⟨by first | exact Nat.le_of_ble_eq_true rfl | omega, by first | exact Nat.le_of_ble_eq_true rfl | omega⟩ (fun r9 sg9 H locs hq hW hS => ?_)
  obtain ⟨rfl, e9⟩ := hq
  rw [e9] at hW
  refine W.eq (g2 := F0 m 5 ls [.int (tw_cmn 0 q)]) rfl ?_
  refine lv_iload_n hx hb dX0_scansAheadOf_5 rfl (lv_at hl 1 rfl) ?_
  refine lv_icmp_gt (tgt := 15) hx hb dX0_scansAheadOf_6 (by decide) (fun c_6 => ?_) (fun c_6 => ?_)
  · refine lv_iconst (v := 0) hx hb dX0_scansAheadOf_15 (by decide) ?_
    refine lv_istore_n (lv' := [(3, .int 0), (0, .ref (ad 9 i)), (1, .int t), (2, .int q)]) hx hb dX0_scansAheadOf_16 rfl hl (by decide) rfl (fun ls hl => ?_)
    refine lv_iconst (v := 0) hx hb dX0_scansAheadOf_17 (by decide) ?_
    refine lv_istore (lv' := [(4, .int 0), (3, .int 0), (0, .ref (ad 9 i)), (1, .int t), (2, .int q)]) hx hb dX0_scansAheadOf_18 hl (by decide) rfl (fun ls hl => ?_)
    exact loop n 0 _ (by omega) (tw_sa_0f c_6) _ _ ls hW hS (lv_sub hl [0, 1, 2, 3, 4] rfl)
  · refine lv_sipush (v := 4096) hx hb dX0_scansAheadOf_9 (by decide) ?_
    refine lv_goto (tgt := 16) hx hb dX0_scansAheadOf_12 (by decide) ?_
    refine lv_istore_n (lv' := [(3, .int 4096), (0, .ref (ad 9 i)), (1, .int t), (2, .int q)]) hx hb dX0_scansAheadOf_16 rfl hl (by decide) rfl (fun ls hl => ?_)
    refine lv_iconst (v := 0) hx hb dX0_scansAheadOf_17 (by decide) ?_
    refine lv_istore (lv' := [(4, .int 0), (3, .int 4096), (0, .ref (ad 9 i)), (1, .int t), (2, .int q)]) hx hb dX0_scansAheadOf_18 hl (by decide) rfl (fun ls hl => ?_)
    exact loop n 0 _ (by omega) (tw_sa_0t c_6) _ _ ls hW hS (lv_sub hl [0, 1, 2, 3, 4] rfl)

set_option maxHeartbeats 4000000 in
set_option maxRecDepth 100000 in
/-- a scan is noted -/
theorem c_X0_note (l : Launch) (G : kx_G) (z0 : Nat) (ad : kx_A) (nb : Nat) (sg : kx_S) (i : Nat) (hi : i < nb) (n : Nat) (hn : sg 9 i 6 = nI n) (h12 : n < 12) (t q mk : Int32) : kx_M l yX0_note wsX0_note 4 89 0 0 G z0 ad nb sg [.ref (ad 9 i), .int t, .int q, .int mk] (fun r sg' => r = some (.int (nI n)) ∧ ∃ a : Int32, (tw_tru a (nI 12) = decide (tw_cmn 0 q ≤ t) ∧ ∀ j, j < n → tw_tru a (nI j) = decide (tw_cmn (sg 11 i j) q ≤ t - sg 10 i j)) ∧ sg' = kx_up (kx_up (kx_up (kx_up (kx_up sg 10 i (upd (sg 10 i) n t)) 11 i (upd (sg 11 i) n q)) 12 i (upd (sg 12 i) n mk)) 13 i (upd (sg 13 i) n a)) 9 i (upd (sg 9 i) 6 (nI (n + 1)))) := by
  refine Met.ofW (cc := cX0_note) (maxL := 5) (ret := (some .int)) (by decide) rfl ?_
  intro p e s m args below meth c s₁ B hml hv
  obtain ⟨rfl, hW, hV⟩ := hv
  have hts := atoms_spec (ws := wsX0_note) B.pre
  have F : kx_F p s m c cX0_note 5 RX0 _ wsX0_note G z0 := ⟨B.exec, B.bytes, hml, findClass_of_methodNamed B.named, hts, hV⟩
  have hx := B.exec; have hb := B.bytes; have hr := B.returns; have hlocks := B.notSynchronized
  have hS : va_S (kx_Ad z0) s.heap s.heap [] := va_S.rf
  have L_15 : Cond.fieldLink RX0 15 (TX0 3).1 (TX0 3).2.1 (TX0 3).2.2.1 ∈ wsX0_note := by decide +kernel
  have L_18 : Cond.fieldLink RX0 18 (TX0 4).1 (TX0 4).2.1 (TX0 4).2.2.1 ∈ wsX0_note := by decide +kernel
  have L_21 : Cond.fieldLink RX0 21 (TX0 5).1 (TX0 5).2.1 (TX0 5).2.2.1 ∈ wsX0_note := by decide +kernel
  have L_24 : Cond.fieldLink RX0 24 (TX0 6).1 (TX0 6).2.1 (TX0 6).2.2.1 ∈ wsX0_note := by decide +kernel
  have L_9 : Cond.fieldLink RX0 9 (TX0 2).1 (TX0 2).2.1 (TX0 2).2.2.1 ∈ wsX0_note := by decide +kernel
  have inX0 : ∀ w ∈ u_ws RX0 TX0 11, w ∈ wsX0_note := by decide +kernel
  have hl := lv_entry ([.ref (ad 9 i), .int t, .int q, .int mk]) (n := 5) (Nat.le_of_ble_eq_true rfl)
  rw [lg_entry_eq]
  generalize (lg_sl ([.ref (ad 9 i), .int t, .int q, .int mk]) ++ List.replicate (5 - (lg_sl ([.ref (ad 9 i), .int t, .int q, .int mk])).length) Slot.unset).toArray = ls at hl ⊢
  have hl : lv_has ls 5 [(0, .ref (ad 9 i)), (1, .int t), (2, .int q), (3, .int mk)] := hl
  refine lv_aload_n hx hb dX0_note_0 rfl (lv_at hl 0 rfl) ?_
  refine kx_g F inX0 hW 9 i hi rfl rfl 6 (by decide) L_24 (v := .int (nI n)) (congrArg (fun z => some (Value.int z)) hn) dX0_note_1 ?_
  refine lv_bipush (v := 12) hx hb dX0_note_4 (by decide) ?_
  refine lv_icmp_lt (tgt := 11) hx hb dX0_note_6 (by decide) (fun c_6 => ?_) (fun c_6 => ?_)
  · refine lv_aload_n hx hb dX0_note_11 rfl (lv_at hl 0 rfl) ?_
    refine kx_g F inX0 hW 9 i hi rfl rfl 6 (by decide) L_24 (v := .int (nI n)) (congrArg (fun z => some (Value.int z)) hn) dX0_note_12 ?_
    refine lv_istore (lv' := [(4, .int (nI n)), (0, .ref (ad 9 i)), (1, .int t), (2, .int q), (3, .int mk)]) hx hb dX0_note_15 hl (by decide) rfl (fun ls hl => ?_)
    refine lv_aload_n hx hb dX0_note_17 rfl (lv_at hl 1 rfl) ?_
    refine kx_g F inX0 hW 9 i hi rfl rfl 2 (by decide) L_9 (v := .ref (ad 10 i)) rfl dX0_note_18 ?_
    refine lv_iload hx hb dX0_note_21 (lv_at hl 0 rfl) ?_
    refine lv_iload_n hx hb dX0_note_23 rfl (lv_at hl 2 rfl) ?_
    refine kx_ast F hW hS 10 i hi rfl n h12 (by decide) (x := t) rfl dX0_note_24 (fun H locs hW hS => ?_)
    have hW : kx_Wd G z0 ad nb (kx_up sg 10 i (upd (sg 10 i) n t)) H := by first | exact hW | (simp only [kx_up_s, kx_up_up] at hW; exact hW) | (simp only [kx_up_s, kx_up_up, upd_s] at hW; exact hW)
    refine lv_aload_n hx hb dX0_note_25 rfl (lv_at hl 1 rfl) ?_
    refine kx_g F inX0 hW 9 i hi rfl rfl 3 (by decide) L_15 (v := .ref (ad 11 i)) rfl dX0_note_26 ?_
    refine lv_iload hx hb dX0_note_29 (lv_at hl 0 rfl) ?_
    refine lv_iload_n hx hb dX0_note_31 rfl (lv_at hl 3 rfl) ?_
    refine kx_ast F hW hS 11 i hi rfl n h12 (by decide) (x := q) rfl dX0_note_32 (fun H locs hW hS => ?_)
    have hW : kx_Wd G z0 ad nb (kx_up (kx_up sg 10 i (upd (sg 10 i) n t)) 11 i (upd (sg 11 i) n q)) H := by first | exact hW | (simp only [kx_up_s, kx_up_up] at hW; exact hW) | (simp only [kx_up_s, kx_up_up, upd_s] at hW; exact hW)
    refine lv_aload_n hx hb dX0_note_33 rfl (lv_at hl 1 rfl) ?_
    refine kx_g F inX0 hW 9 i hi rfl rfl 4 (by decide) L_18 (v := .ref (ad 12 i)) rfl dX0_note_34 ?_
    refine lv_iload hx hb dX0_note_37 (lv_at hl 0 rfl) ?_
    refine lv_iload_n hx hb dX0_note_39 rfl (lv_at hl 4 rfl) ?_
    refine kx_ast F hW hS 12 i hi rfl n h12 (by decide) (x := mk) rfl dX0_note_40 (fun H locs hW hS => ?_)
    have hW : kx_Wd G z0 ad nb (kx_up (kx_up (kx_up sg 10 i (upd (sg 10 i) n t)) 11 i (upd (sg 11 i) n q)) 12 i (upd (sg 12 i) n mk)) H := by first | exact hW | (simp only [kx_up_s, kx_up_up] at hW; exact hW) | (simp only [kx_up_s, kx_up_up, upd_s] at hW; exact hW)
    refine lv_aload_n hx hb dX0_note_41 rfl (lv_at hl 1 rfl) ?_
    refine kx_g F inX0 hW 9 i hi rfl rfl 5 (by decide) L_21 (v := .ref (ad 13 i)) rfl dX0_note_42 ?_
    refine lv_iload hx hb dX0_note_45 (lv_at hl 0 rfl) ?_
    refine lv_aload_n hx hb dX0_note_47 rfl (lv_at hl 1 rfl) ?_
    refine lv_iload_n hx hb dX0_note_48 rfl (lv_at hl 2 rfl) ?_
    refine lv_iload_n hx hb dX0_note_49 rfl (lv_at hl 3 rfl) ?_
    refine kx_cV (na := 2) F (q := 9) (n := i) (c_X0_scansAheadOf l G z0 ad nb (kx_up (kx_up (kx_up sg 10 i (upd (sg 10 i) n t)) 11 i (upd (sg 11 i) n q)) 12 i (upd (sg 12 i) n mk)) i hi n hn (Nat.le_of_lt h12) t q) gX0_note_X0_scansAheadOf rfl (by decide +kernel) ⟨Nat.le_of_ble_eq_true rfl, Nat.le_of_ble_eq_true rfl⟩ hW hS hi rfl rfl (As := [.int t, .int q]) (rest := [.int (nI n), .ref (ad 13 i)]) rfl hl.1 rfl (Nat.le_of_ble_eq_true rfl) dX0_note_50 ⟨by first | exact Nat.le_of_ble_eq_true rfl | omega, by first | exact Nat.le_of_ble_eq_true rfl | omega⟩ (fun r9 sg9 H locs hq hW hS => ?_)
    obtain ⟨a9, rfl, e9, hb1, hb2⟩ := hq
    rw [e9] at hW
    refine W.eq (g2 := F0 m 53 ls [.int a9, .int (nI n), .ref (ad 13 i)]) rfl ?_
    refine kx_ast F hW hS 13 i hi rfl n h12 (by decide) (x := a9) rfl dX0_note_53 (fun H locs hW hS => ?_)
    have hW : kx_Wd G z0 ad nb (kx_up (kx_up (kx_up (kx_up sg 10 i (upd (sg 10 i) n t)) 11 i (upd (sg 11 i) n q)) 12 i (upd (sg 12 i) n mk)) 13 i (upd (sg 13 i) n a9)) H := by first | exact hW | (simp only [kx_up_s, kx_up_up] at hW; exact hW) | (simp only [kx_up_s, kx_up_up, upd_s] at hW; exact hW)
    refine lv_aload_n hx hb dX0_note_54 rfl (lv_at hl 1 rfl) ?_
    refine lv_dup hx hb dX0_note_55 rfl ?_
    refine kx_g F inX0 hW 9 i hi rfl rfl 6 (by decide) L_24 (v := .int (nI n)) (by exact congrArg (fun z => some (Value.int z)) hn) dX0_note_56 ?_
    refine lv_iconst (v := 1) hx hb dX0_note_59 (by decide) ?_
    refine lv_iadd hx hb dX0_note_60 ?_
    rw [nI_1 n]
    refine kx_p F inX0 tyX0 tyX0_ok nmX0 hW hS 9 i hi rfl rfl 6 (by decide) L_24 rfl (v := .int (nI (n + 1))) rfl rfl (Nat.le_of_ble_eq_true rfl) (upd ((kx_up (kx_up (kx_up (kx_up sg 10 i (upd (sg 10 i) n t)) 11 i (upd (sg 11 i) n q)) 12 i (upd (sg 12 i) n mk)) 13 i (upd (sg 13 i) n a9)) 9 i) 6 (nI (n + 1))) rfl dX0_note_61 (fun H locs hW hS => ?_)
    have hW : kx_Wd G z0 ad nb (kx_up (kx_up (kx_up (kx_up (kx_up sg 10 i (upd (sg 10 i) n t)) 11 i (upd (sg 11 i) n q)) 12 i (upd (sg 12 i) n mk)) 13 i (upd (sg 13 i) n a9)) 9 i (upd (sg 9 i) 6 (nI (n + 1)))) H := by first | exact hW | (simp only [kx_up_s, kx_up_up] at hW; exact hW) | (simp only [kx_up_s, kx_up_up, upd_s] at hW; exact hW)
    refine lv_iload hx hb dX0_note_64 (lv_at hl 0 rfl) ?_
    exact kx_ri F hr hlocks hW hS (by first | exact Nat.le_of_ble_eq_true rfl | omega) (by first | exact Nat.le_of_ble_eq_true rfl | omega) (⟨rfl, a9, ⟨hb1, fun j hj => (hb2 j hj).trans (by simp [kx_up, upd, Nat.ne_of_lt hj])⟩, rfl⟩) dX0_note_66
  · exact absurd (nI_lt (b := 12) h12 (by decide)) c_6

set_option maxHeartbeats 4000000 in
set_option maxRecDepth 100000 in
/-- no room for a scan -/
theorem c_X0_note_full (l : Launch) (G : kx_G) (z0 : Nat) (ad : kx_A) (nb : Nat) (sg : kx_S) (i : Nat) (hi : i < nb) (hn : sg 9 i 6 = nI 12) (t q mk : Int32) : kx_M l yX0_note wsX0_note 4 89 0 0 G z0 ad nb sg [.ref (ad 9 i), .int t, .int q, .int mk] (fun r sg' => r = some (.int (-1)) ∧ sg' = sg) := by
  refine Met.ofW (cc := cX0_note) (maxL := 5) (ret := (some .int)) (by decide) rfl ?_
  intro p e s m args below meth c s₁ B hml hv
  obtain ⟨rfl, hW, hV⟩ := hv
  have hts := atoms_spec (ws := wsX0_note) B.pre
  have F : kx_F p s m c cX0_note 5 RX0 _ wsX0_note G z0 := ⟨B.exec, B.bytes, hml, findClass_of_methodNamed B.named, hts, hV⟩
  have hx := B.exec; have hb := B.bytes; have hr := B.returns; have hlocks := B.notSynchronized
  have hS : va_S (kx_Ad z0) s.heap s.heap [] := va_S.rf
  have L_24 : Cond.fieldLink RX0 24 (TX0 6).1 (TX0 6).2.1 (TX0 6).2.2.1 ∈ wsX0_note := by decide +kernel
  have inX0 : ∀ w ∈ u_ws RX0 TX0 11, w ∈ wsX0_note := by decide +kernel
  have hl := lv_entry ([.ref (ad 9 i), .int t, .int q, .int mk]) (n := 5) (Nat.le_of_ble_eq_true rfl)
  rw [lg_entry_eq]
  generalize (lg_sl ([.ref (ad 9 i), .int t, .int q, .int mk]) ++ List.replicate (5 - (lg_sl ([.ref (ad 9 i), .int t, .int q, .int mk])).length) Slot.unset).toArray = ls at hl ⊢
  have hl : lv_has ls 5 [(0, .ref (ad 9 i)), (1, .int t), (2, .int q), (3, .int mk)] := hl
  refine lv_aload_n hx hb dX0_note_0 rfl (lv_at hl 0 rfl) ?_
  refine kx_g F inX0 hW 9 i hi rfl rfl 6 (by decide) L_24 (v := .int (nI 12)) (congrArg (fun z => some (Value.int z)) hn) dX0_note_1 ?_
  refine lv_bipush (v := 12) hx hb dX0_note_4 (by decide) ?_
  refine lv_icmp_lt (tgt := 11) hx hb dX0_note_6 (by decide) (fun c_6 => ?_) (fun c_6 => ?_)
  · exact absurd c_6 (nI_nlt (b := 12) (a := 12) (by decide) (by decide))
  · refine lv_iconst (v := (-1)) hx hb dX0_note_9 (by decide) ?_
    exact kx_ri F hr hlocks hW hS (by first | exact Nat.le_of_ble_eq_true rfl | omega) (by first | exact Nat.le_of_ble_eq_true rfl | omega) (⟨rfl, rfl⟩) dX0_note_10
end
section
theorem tw_trust_5 {k : Nat} (hk : k ≤ 14) (h : tw_in (nI k) 0 13 = true) : ¬ nI k = 14 := by
  intro e
  rw [e] at h
  exact absurd h (by decide)
theorem tw_trust_6 {k : Nat} (hk : k ≤ 14) (h : tw_in (nI k) 0 13 = false) : nI k = 14 := by
  have h2 := (tw_in_iff' _ _ _).mp h
  rw [nI_toInt (by omega), show ((0 : Int32)).toInt = 0 from rfl, show ((13 : Int32)).toInt = 13 from rfl] at h2
  rw [show k = 14 by omega]
  rfl

set_option maxHeartbeats 4000000 in
set_option maxRecDepth 100000 in
/-- the trust of who makes scans -/
theorem c_X3_trustOf (l : Launch) (G : kx_G) (z0 : Nat) (ad : kx_A) (nb : Nat) (sg : kx_S) (k : Nat) (hk : k ≤ 14) : kx_M l yX3_trustOf wsX3_trustOf 1 22 0 0 G z0 ad nb sg [.ref (ad 0 0), .int (nI k)] (fun r sg' => r = some (.int (tw_trust (sg 3 0) (fun d => sg 8 d 1) k)) ∧ sg' = sg) := by
  refine Met.ofW (cc := cX3_trustOf) (maxL := 2) (ret := (some .int)) (by decide) rfl ?_
  intro p e s m args below meth c s₁ B hml hv
  obtain ⟨rfl, hW, hV⟩ := hv
  have hts := atoms_spec (ws := wsX3_trustOf) B.pre
  have F : kx_F p s m c cX3_trustOf 2 RX3 _ wsX3_trustOf G z0 := ⟨B.exec, B.bytes, hml, findClass_of_methodNamed B.named, hts, hV⟩
  have hx := B.exec; have hb := B.bytes; have hr := B.returns; have hlocks := B.notSynchronized
  have hS : va_S (kx_Ad z0) s.heap s.heap [] := va_S.rf
  have L_130 : Cond.fieldLink RX3 130 (TX1 1).1 (TX1 1).2.1 (TX1 1).2.2.1 ∈ wsX3_trustOf := by decide +kernel
  have L_17 : Cond.fieldLink RX3 17 (TX3 1).1 (TX3 1).2.1 (TX3 1).2.2.1 ∈ wsX3_trustOf := by decide +kernel
  have L_21 : Cond.fieldLink RX3 21 (TX3 2).1 (TX3 2).2.1 (TX3 2).2.2.1 ∈ wsX3_trustOf := by decide +kernel
  have inX1 : ∀ w ∈ u_ws RX1 TX1 5, w ∈ wsX3_trustOf := by decide +kernel
  have inX3 : ∀ w ∈ u_ws RX3 TX3 9, w ∈ wsX3_trustOf := by decide +kernel
  have hl := lv_entry ([.ref (ad 0 0), .int (nI k)]) (n := 2) (Nat.le_of_ble_eq_true rfl)
  rw [lg_entry_eq]
  generalize (lg_sl ([.ref (ad 0 0), .int (nI k)]) ++ List.replicate (2 - (lg_sl ([.ref (ad 0 0), .int (nI k)])).length) Slot.unset).toArray = ls at hl ⊢
  have hl : lv_has ls 2 [(0, .ref (ad 0 0)), (1, .int (nI k))] := hl
  refine lv_iload_n hx hb dX3_trustOf_0 rfl (lv_at hl 1 rfl) ?_
  refine lv_iconst (v := 0) hx hb dX3_trustOf_1 (by decide) ?_
  refine lv_bipush (v := 13) hx hb dX3_trustOf_2 (by decide) ?_
  refine kx_cS (na := 3) F (c_X3_isWithin l G z0 ad nb sg (nI k) 0 13) gX3_trustOf_X3_isWithin rfl (by decide +kernel) ⟨Nat.le_of_ble_eq_true rfl, Nat.le_of_ble_eq_true rfl⟩ hW hS (As := [.int (nI k), .int 0, .int 13]) (rest := []) rfl hl.1 rfl (Nat.le_of_ble_eq_true rfl) dX3_trustOf_4 ⟨by first | exact Nat.le_of_ble_eq_true rfl | omega, by first | exact Nat.le_of_ble_eq_true rfl | omega⟩ (fun r9 sg9 H locs hq hW hS => ?_)
  obtain ⟨rfl, e9⟩ := hq
  rw [e9] at hW
  refine W.eq (g2 := F0 m 7 ls [.int (tw_b (tw_in (nI k) 0 13))]) rfl ?_
  refine lv_if_ne (tgt := 13) hx hb dX3_trustOf_7 (by decide) (fun c_7 => ?_) (fun c_7 => ?_)
  · have c_3 : ¬ nI k = 14 := tw_trust_5 hk (tw_b_1 c_7)
    refine lv_iload_n hx hb dX3_trustOf_13 rfl (lv_at hl 1 rfl) ?_
    refine lv_iconst (v := 4) hx hb dX3_trustOf_14 (by decide) ?_
    refine lv_icmp_lt (tgt := 34) hx hb dX3_trustOf_15 (by decide) (fun c_15 => ?_) (fun c_15 => ?_)
    · refine lv_aload_n hx hb dX3_trustOf_34 rfl (lv_at hl 0 rfl) ?_
      refine kx_g F inX3 hW 0 0 ⟨by decide, rfl⟩ rfl rfl 2 (by decide) L_21 (v := .ref (ad 3 0)) rfl dX3_trustOf_35 ?_
      refine lv_iload_n hx hb dX3_trustOf_38 rfl (lv_at hl 1 rfl) ?_
      refine kx_ald F hW 3 0 ⟨by decide, rfl⟩ rfl k (by have := tw_trust_0 c_3; omega) (by decide) (v := sg 3 0 k) rfl dX3_trustOf_39 ?_
      exact kx_ri F hr hlocks hW hS (by first | exact Nat.le_of_ble_eq_true rfl | omega) (by first | exact Nat.le_of_ble_eq_true rfl | omega) (⟨congrArg (fun z => some (Value.int z)) (by rw [tw_trust, if_neg (tw_trust_0 c_3), if_neg (fun h => absurd (tw_trust_3 hk c_15) (by omega))]), rfl⟩) dX3_trustOf_40
    · refine lv_aload_n hx hb dX3_trustOf_18 rfl (lv_at hl 0 rfl) ?_
      refine kx_g F inX3 hW 0 0 ⟨by decide, rfl⟩ rfl rfl 1 (by decide) L_17 (v := .ref (ad 2 0)) rfl dX3_trustOf_19 ?_
      refine lv_iload_n hx hb dX3_trustOf_22 rfl (lv_at hl 1 rfl) ?_
      refine lv_iconst (v := 4) hx hb dX3_trustOf_23 (by decide) ?_
      refine lv_isub hx hb dX3_trustOf_24 ?_
      have h14 := tw_trust_0 c_3
      have h4 := tw_trust_4 hk c_15
      rw [show nI k - 4 = nI (k - 4) from pk_sub (b := 4) h4]
      refine kx_aaldD F hW (k - 4) (by omega) dX3_trustOf_25 ?_
      refine kx_g F inX1 hW 8 (k - 4) (show k - 4 < 10 by omega) rfl rfl 1 (by decide) L_130 (v := .int ((sg 8 (k - 4)) 1)) rfl dX3_trustOf_26 ?_
      refine lv_if_eq (tgt := 34) hx hb dX3_trustOf_29 (by decide) (fun c_29 => ?_) (fun c_29 => ?_)
      · refine lv_aload_n hx hb dX3_trustOf_34 rfl (lv_at hl 0 rfl) ?_
        refine kx_g F inX3 hW 0 0 ⟨by decide, rfl⟩ rfl rfl 2 (by decide) L_21 (v := .ref (ad 3 0)) rfl dX3_trustOf_35 ?_
        refine lv_iload_n hx hb dX3_trustOf_38 rfl (lv_at hl 1 rfl) ?_
        refine kx_ald F hW 3 0 ⟨by decide, rfl⟩ rfl k (by have := tw_trust_0 c_3; omega) (by decide) (v := sg 3 0 k) rfl dX3_trustOf_39 ?_
        exact kx_ri F hr hlocks hW hS (by first | exact Nat.le_of_ble_eq_true rfl | omega) (by first | exact Nat.le_of_ble_eq_true rfl | omega) (⟨congrArg (fun z => some (Value.int z)) (by rw [tw_trust, if_neg (tw_trust_0 c_3), if_neg (fun h => h.2 c_29)]), rfl⟩) dX3_trustOf_40
      · refine lv_iconst (v := 1) hx hb dX3_trustOf_32 (by decide) ?_
        exact kx_ri F hr hlocks hW hS (by first | exact Nat.le_of_ble_eq_true rfl | omega) (by first | exact Nat.le_of_ble_eq_true rfl | omega) (⟨congrArg (fun z => some (Value.int z)) (by rw [tw_trust, if_neg (tw_trust_0 c_3), if_pos ⟨h4, c_29⟩]), rfl⟩) dX3_trustOf_33
  · have c_3 : nI k = 14 := tw_trust_6 hk (tw_b_0 c_7)
    refine lv_bipush (v := 50) hx hb dX3_trustOf_10 (by decide) ?_
    exact kx_ri F hr hlocks hW hS (by first | exact Nat.le_of_ble_eq_true rfl | omega) (by first | exact Nat.le_of_ble_eq_true rfl | omega) (⟨congrArg (fun z => some (Value.int z)) ((tw_trust_1 hk c_3).symm), rfl⟩) dX3_trustOf_12

set_option maxHeartbeats 4000000 in
set_option maxRecDepth 100000 in
/-- the worth of each scan -/
theorem c_X3_weighScans (l : Launch) (G : kx_G) (z0 : Nat) (ad : kx_A) (nb : Nat) (sg : kx_S) (i : Nat) (hi : i < nb) (n : Nat) (hn : sg 9 i 6 = nI n) (h12 : n ≤ 12) (hm : ∀ k, k < n → ∃ j : Nat, j ≤ 14 ∧ sg 12 i k = nI j) : kx_M l yX3_weighScans wsX3_weighScans 2 43 0 0 G z0 ad nb sg [.ref (ad 0 0), .ref (ad 9 i)] (fun r sg' => r = none ∧ ∃ f : Nat → Int32, sg' = kx_up sg 6 0 f ∧ ∀ k, k < n → f k = tw_w (sg 3 0) (fun d => sg 8 d 1) (sg 12 i) k) := by
  refine Met.ofW (cc := cX3_weighScans) (maxL := 3) (ret := none) (by decide) rfl ?_
  intro p e s m args below meth c s₁ B hml hv
  obtain ⟨rfl, hW, hV⟩ := hv
  have hts := atoms_spec (ws := wsX3_weighScans) B.pre
  have F : kx_F p s m c cX3_weighScans 3 RX3 _ wsX3_weighScans G z0 := ⟨B.exec, B.bytes, hml, findClass_of_methodNamed B.named, hts, hV⟩
  have hx := B.exec; have hb := B.bytes; have hr := B.returns; have hlocks := B.notSynchronized
  have hS : va_S (kx_Ad z0) s.heap s.heap [] := va_S.rf
  have L_171 : Cond.fieldLink RX3 171 (TX0 6).1 (TX0 6).2.1 (TX0 6).2.2.1 ∈ wsX3_weighScans := by decide +kernel
  have L_232 : Cond.fieldLink RX3 232 (TX0 4).1 (TX0 4).2.1 (TX0 4).2.2.1 ∈ wsX3_weighScans := by decide +kernel
  have L_32 : Cond.fieldLink RX3 32 (TX3 4).1 (TX3 4).2.1 (TX3 4).2.2.1 ∈ wsX3_weighScans := by decide +kernel
  have inX0 : ∀ w ∈ u_ws RX0 TX0 11, w ∈ wsX3_weighScans := by decide +kernel
  have inX3 : ∀ w ∈ u_ws RX3 TX3 9, w ∈ wsX3_weighScans := by decide +kernel
  have hl := lv_entry ([.ref (ad 0 0), .ref (ad 9 i)]) (n := 3) (Nat.le_of_ble_eq_true rfl)
  rw [lg_entry_eq]
  generalize (lg_sl ([.ref (ad 0 0), .ref (ad 9 i)]) ++ List.replicate (3 - (lg_sl ([.ref (ad 0 0), .ref (ad 9 i)])).length) Slot.unset).toArray = ls at hl ⊢
  have hl : lv_has ls 3 [(0, .ref (ad 0 0)), (1, .ref (ad 9 i))] := hl
  have loop : ∀ (j k : Nat) (f : Nat → Int32), n = k + j → (∀ k1, k1 < k → f k1 = tw_w (sg 3 0) (fun d => sg 8 d 1) (sg 12 i) k1) → ∀ (H : Heap) (locs : List Loc) (ls : Array Slot), kx_Wd G z0 ad nb (kx_up sg 6 0 f) H → va_S (kx_Ad z0) s.heap H locs → lv_has ls 3 [(2, .int (nI k)), (0, .ref (ad 0 0)), (1, .ref (ad 9 i))] → W p l e (headSpec wsX3_weighScans { frames := 2, cells := 0, slots := 0, locals := 43 }).room s m ([.ref (ad 0 0), .ref (ad 9 i)] : List Value).toArray below meth c H locs 0 0 (MQ below (kx_Q G z0 ad nb (fun r sg' => r = none ∧ ∃ f : Nat → Int32, sg' = kx_up sg 6 0 f ∧ ∀ k, k < n → f k = tw_w (sg 3 0) (fun d => sg 8 d 1) (sg 12 i) k)) ([.ref (ad 0 0), .ref (ad 9 i)] : List Value).toArray s 0 0 (kx_Ad z0)) (F0 m 2 ls []) := by
    intro j
    induction j with
    | zero =>
      intro k f hk hL H locs ls hW hS hl
      refine lv_iload_n hx hb dX3_weighScans_2 rfl (lv_at hl 0 rfl) ?_
      refine lv_aload_n hx hb dX3_weighScans_3 rfl (lv_at hl 2 rfl) ?_
      refine kx_g F inX0 hW 9 i hi rfl rfl 6 (by decide) L_171 (v := .int (nI n)) (by exact congrArg (fun z => some (Value.int z)) hn) dX3_weighScans_4 ?_
      refine lv_icmp_ge (tgt := 40) hx hb dX3_weighScans_7 (by decide) (fun c_7 => ?_) (fun c_7 => ?_)
      · exact kx_rv F hr hlocks hW hS (by first | exact Nat.le_of_ble_eq_true rfl | omega) (by first | exact Nat.le_of_ble_eq_true rfl | omega) (⟨rfl, f, rfl, fun k1 h1 => hL k1 (by omega)⟩) dX3_weighScans_40
      · exact absurd (nI_le (by omega) (by omega)) c_7
    | succ j ih =>
      intro k f hk hL H locs ls hW hS hl
      refine lv_iload_n hx hb dX3_weighScans_2 rfl (lv_at hl 0 rfl) ?_
      refine lv_aload_n hx hb dX3_weighScans_3 rfl (lv_at hl 2 rfl) ?_
      refine kx_g F inX0 hW 9 i hi rfl rfl 6 (by decide) L_171 (v := .int (nI n)) (by exact congrArg (fun z => some (Value.int z)) hn) dX3_weighScans_4 ?_
      refine lv_icmp_ge (tgt := 40) hx hb dX3_weighScans_7 (by decide) (fun c_7 => ?_) (fun c_7 => ?_)
      · exact absurd c_7 (nI_ge (by omega) (by omega))
      · refine lv_aload_n hx hb dX3_weighScans_10 rfl (lv_at hl 1 rfl) ?_
        refine kx_g F inX3 hW 0 0 ⟨by decide, rfl⟩ rfl rfl 4 (by decide) L_32 (v := .ref (ad 6 0)) rfl dX3_weighScans_11 ?_
        refine lv_iload_n hx hb dX3_weighScans_14 rfl (lv_at hl 0 rfl) ?_
        refine lv_aload_n hx hb dX3_weighScans_15 rfl (lv_at hl 1 rfl) ?_
        refine lv_aload_n hx hb dX3_weighScans_16 rfl (lv_at hl 2 rfl) ?_
        refine kx_g F inX0 hW 9 i hi rfl rfl 4 (by decide) L_232 (v := .ref (ad 12 i)) rfl dX3_weighScans_17 ?_
        refine lv_iload_n hx hb dX3_weighScans_20 rfl (lv_at hl 0 rfl) ?_
        refine kx_ald F hW 12 i hi rfl k (by omega) (by decide) (v := sg 12 i k) (by first | rfl | (simp only [kx_up_s]; done) | (simp only [kx_up_s, upd_s]; done) | (simp only [kx_up_s]; rfl) | (simp [kx_up, upd]; done)) dX3_weighScans_21 ?_
        obtain ⟨m9, hm9, em9⟩ := hm k (by omega)
        rw [em9]
        refine kx_cV (na := 1) F (q := 0) (n := 0) (c_X3_trustOf l G z0 ad nb (kx_up sg 6 0 f) m9 hm9) gX3_weighScans_X3_trustOf rfl (by decide +kernel) ⟨Nat.le_of_ble_eq_true rfl, Nat.le_of_ble_eq_true rfl⟩ hW hS ⟨by decide, rfl⟩ rfl rfl (As := [.int (nI m9)]) (rest := [.int (nI k), .ref (ad 6 0)]) rfl hl.1 rfl (Nat.le_of_ble_eq_true rfl) dX3_weighScans_22 ⟨by first | exact Nat.le_of_ble_eq_true rfl | omega, by first | exact Nat.le_of_ble_eq_true rfl | omega⟩ (fun r9 sg9 H locs hq hW hS => ?_)
        obtain ⟨rfl, e9⟩ := hq
        rw [e9] at hW
        refine W.eq (g2 := F0 m 25 ls [.int (tw_trust (sg 3 0) (fun d => (kx_up sg 6 0 f) 8 d 1) m9), .int (nI k), .ref (ad 6 0)]) rfl ?_
        refine lv_sipush (v := 4096) hx hb dX3_weighScans_25 (by decide) ?_
        refine lv_imul hx hb dX3_weighScans_28 ?_
        refine lv_iconst (v := 1) hx hb dX3_weighScans_29 (by decide) ?_
        refine lv_iload_n hx hb dX3_weighScans_30 rfl (lv_at hl 0 rfl) ?_
        refine lv_ishl hx hb dX3_weighScans_31 ?_
        refine lv_iadd hx hb dX3_weighScans_32 ?_
        refine kx_ast F hW hS 6 0 ⟨by decide, rfl⟩ rfl k (by omega) (by decide) (x := (((tw_trust (sg 3 0) (fun d => (kx_up sg 6 0 f) 8 d 1) m9) * 4096) + ((1 : Int32) <<< ((nI k) &&& 31)))) rfl dX3_weighScans_33 (fun H locs hW hS => ?_)
        have er9 : (kx_up sg 6 0 f) 6 0 = f := by first | rfl | (simp only [kx_up_s]; done) | (simp [kx_up]; done)
        rw [er9] at hW
        rw [kx_up_up] at hW
        have hW : kx_Wd G z0 ad nb (kx_up sg 6 0 (upd f k (((tw_trust (sg 3 0) (fun d => (kx_up sg 6 0 f) 8 d 1) m9) * 4096) + ((1 : Int32) <<< ((nI k) &&& 31))))) H := hW
        refine lv_iinc (v := nI (k + 1)) (lv' := [(2, .int (nI (k + 1))), (0, .ref (ad 0 0)), (1, .ref (ad 9 i))]) hx hb dX3_weighScans_34 hl (k := 0) rfl (nI_1 k) (by decide) rfl (fun ls hl => ?_)
        refine lv_goto (tgt := 2) hx hb dX3_weighScans_37 (by decide) ?_
        exact ih (k + 1) _ (by omega) (fun k1 h1 => by
          by_cases e1 : k1 = k
          · subst e1
            rw [upd_s, tw_w, em9, nI_clamp (by omega)]
            rfl
          · rw [upd_n e1]
            exact hL k1 (by omega)) H locs ls hW hS (lv_sub hl [0, 1, 2] rfl)
  refine lv_iconst (v := 0) hx hb dX3_weighScans_0 (by decide) ?_
  refine lv_istore_n (lv' := [(2, .int 0), (0, .ref (ad 0 0)), (1, .ref (ad 9 i))]) hx hb dX3_weighScans_1 rfl hl (by decide) rfl (fun ls hl => ?_)
  exact loop n 0 (sg 6 0) (by omega) (fun k1 h1 => absurd h1 (Nat.not_lt_zero _)) _ _ ls (by rw [kx_up_id]; exact hW) hS (lv_sub hl [0, 1, 2] rfl)

set_option maxHeartbeats 4000000 in
set_option maxRecDepth 100000 in
/-- the story that counts, scan by scan -/
theorem c_X0_chooseStory (l : Launch) (G : kx_G) (z0 : Nat) (ad : kx_A) (nb : Nat) (sg : kx_S) (i : Nat) (hi : i < nb) (n : Nat) (hn : sg 9 i 6 = nI n) (h12 : n ≤ 12) (hw : ∀ k, k < n → 0 < (sg 6 0 k).toInt ∧ (sg 6 0 k).toInt ≤ 300000) : kx_M l yX0_chooseStory wsX0_chooseStory 1 23 0 0 G z0 ad nb sg [.ref (ad 9 i), .ref (ad 6 0), .ref (ad 7 0)] (fun r sg' => r = none ∧ ∃ f : Nat → Int32, sg' = kx_up (kx_up sg 7 0 f) 9 i (upd (sg 9 i) 7 (nI ((dp_best (dp_S (fun k => (sg 6 0 k).toInt) (fun j k => tw_tru (sg 13 i k) (nI j)) (fun k => tw_tru (sg 13 i k) 12)) n).toNat % 4096)))) := by
  refine Met.ofW (cc := cX0_chooseStory) (maxL := 7) (ret := none) (by decide) rfl ?_
  intro p e s m args below meth c s₁ B hml hv
  obtain ⟨rfl, hW, hV⟩ := hv
  have hts := atoms_spec (ws := wsX0_chooseStory) B.pre
  have F : kx_F p s m c cX0_chooseStory 7 RX0 _ wsX0_chooseStory G z0 := ⟨B.exec, B.bytes, hml, findClass_of_methodNamed B.named, hts, hV⟩
  have hx := B.exec; have hb := B.bytes; have hr := B.returns; have hlocks := B.notSynchronized
  have hS : va_S (kx_Ad z0) s.heap s.heap [] := va_S.rf
  have L_24 : Cond.fieldLink RX0 24 (TX0 6).1 (TX0 6).2.1 (TX0 6).2.2.1 ∈ wsX0_chooseStory := by decide +kernel
  have L_28 : Cond.fieldLink RX0 28 (TX0 7).1 (TX0 7).2.1 (TX0 7).2.2.1 ∈ wsX0_chooseStory := by decide +kernel
  have inX0 : ∀ w ∈ u_ws RX0 TX0 11, w ∈ wsX0_chooseStory := by decide +kernel
  have hl := lv_entry ([.ref (ad 9 i), .ref (ad 6 0), .ref (ad 7 0)]) (n := 7) (Nat.le_of_ble_eq_true rfl)
  rw [lg_entry_eq]
  generalize (lg_sl ([.ref (ad 9 i), .ref (ad 6 0), .ref (ad 7 0)]) ++ List.replicate (7 - (lg_sl ([.ref (ad 9 i), .ref (ad 6 0), .ref (ad 7 0)])).length) Slot.unset).toArray = ls at hl ⊢
  have hl : lv_has ls 7 [(0, .ref (ad 9 i)), (1, .ref (ad 6 0)), (2, .ref (ad 7 0))] := hl
  have hSb : ∀ k, k < n → -1 ≤ (dp_S (fun k => (sg 6 0 k).toInt) (fun j k => tw_tru (sg 13 i k) (nI j)) (fun k => tw_tru (sg 13 i k) 12)) k ∧ (dp_S (fun k => (sg 6 0 k).toInt) (fun j k => tw_tru (sg 13 i k) (nI j)) (fun k => tw_tru (sg 13 i k) 12)) k ≤ 3600000 := fun k hk => by
    have h9 := dp_S_bd (w := (fun k => (sg 6 0 k).toInt)) (fo := (fun j k => tw_tru (sg 13 i k) (nI j))) (st := (fun k => tw_tru (sg 13 i k) 12)) (B := 300000) (by decide) n hw k hk
    have h8 : ((k : Int) + 1) * 300000 ≤ 3600000 := by omega
    exact ⟨h9.1, Int.le_trans h9.2 h8⟩
  have outer : ∀ (j k : Nat) (f : Nat → Int32) (g : Int32), n = k + j → (∀ k1, k1 < k → (f k1).toInt = (dp_S (fun k => (sg 6 0 k).toInt) (fun j k => tw_tru (sg 13 i k) (nI j)) (fun k => tw_tru (sg 13 i k) 12)) k1) → g.toInt = dp_best (dp_S (fun k => (sg 6 0 k).toInt) (fun j k => tw_tru (sg 13 i k) (nI j)) (fun k => tw_tru (sg 13 i k) 12)) k → ∀ (H : Heap) (locs : List Loc) (ls : Array Slot), kx_Wd G z0 ad nb (kx_up sg 7 0 f) H → va_S (kx_Ad z0) s.heap H locs → lv_has ls 7 [(4, .int (nI k)), (3, .int g), (0, .ref (ad 9 i)), (1, .ref (ad 6 0)), (2, .ref (ad 7 0))] → W p l e (headSpec wsX0_chooseStory { frames := 1, cells := 0, slots := 0, locals := 23 }).room s m ([.ref (ad 9 i), .ref (ad 6 0), .ref (ad 7 0)] : List Value).toArray below meth c H locs 0 0 (MQ below (kx_Q G z0 ad nb (fun r sg' => r = none ∧ ∃ f : Nat → Int32, sg' = kx_up (kx_up sg 7 0 f) 9 i (upd (sg 9 i) 7 (nI ((dp_best (dp_S (fun k => (sg 6 0 k).toInt) (fun j k => tw_tru (sg 13 i k) (nI j)) (fun k => tw_tru (sg 13 i k) 12)) n).toNat % 4096))))) ([.ref (ad 9 i), .ref (ad 6 0), .ref (ad 7 0)] : List Value).toArray s 0 0 (kx_Ad z0)) (F0 m 5 ls []) := by
    intro j
    induction j with
    | zero =>
      intro k f g hk hL hg H locs ls hW hS hl
      refine lv_iload hx hb dX0_chooseStory_5 (lv_at hl 0 rfl) ?_
      refine lv_aload_n hx hb dX0_chooseStory_7 rfl (lv_at hl 2 rfl) ?_
      refine kx_g F inX0 hW 9 i hi rfl rfl 6 (by decide) L_24 (v := .int (nI n)) (by exact congrArg (fun z => some (Value.int z)) hn) dX0_chooseStory_8 ?_
      refine lv_icmp_ge (tgt := 105) hx hb dX0_chooseStory_11 (by decide) (fun c_11 => ?_) (fun c_11 => ?_)
      · refine lv_aload_n hx hb dX0_chooseStory_105 rfl (lv_at hl 2 rfl) ?_
        refine lv_iload_n hx hb dX0_chooseStory_106 rfl (lv_at hl 1 rfl) ?_
        refine lv_sipush (v := 4096) hx hb dX0_chooseStory_107 (by decide) ?_
        refine lv_irem hx hb dX0_chooseStory_110 (by decide) ?_
        have hb9 := dp_best_bd (S := (dp_S (fun k => (sg 6 0 k).toInt) (fun j k => tw_tru (sg 13 i k) (nI j)) (fun k => tw_tru (sg 13 i k) 12))) (M := 3600000) (by decide) n (fun k1 h1 => (hSb k1 h1).2)
        rw [show k = n by omega] at hg
        rw [tw_rem hg hb9.1]
        refine kx_p F inX0 tyX0 tyX0_ok nmX0 hW hS 9 i hi rfl rfl 7 (by decide) L_28 rfl (v := .int (nI ((dp_best (dp_S (fun k => (sg 6 0 k).toInt) (fun j k => tw_tru (sg 13 i k) (nI j)) (fun k => tw_tru (sg 13 i k) 12)) n).toNat % 4096))) rfl rfl (Nat.le_of_ble_eq_true rfl) (upd ((kx_up sg 7 0 f) 9 i) 7 (nI ((dp_best (dp_S (fun k => (sg 6 0 k).toInt) (fun j k => tw_tru (sg 13 i k) (nI j)) (fun k => tw_tru (sg 13 i k) 12)) n).toNat % 4096))) rfl dX0_chooseStory_111 (fun H locs hW hS => ?_)
        have er9 : (kx_up sg 7 0 f) 9 i = sg 9 i := by first | rfl | (simp only [kx_up_s]; done) | (simp [kx_up]; done)
        rw [er9] at hW
        have hW : kx_Wd G z0 ad nb (kx_up (kx_up sg 7 0 f) 9 i (upd (sg 9 i) 7 (nI ((dp_best (dp_S (fun k => (sg 6 0 k).toInt) (fun j k => tw_tru (sg 13 i k) (nI j)) (fun k => tw_tru (sg 13 i k) 12)) n).toNat % 4096)))) H := hW
        exact kx_rv F hr hlocks hW hS (by first | exact Nat.le_of_ble_eq_true rfl | omega) (by first | exact Nat.le_of_ble_eq_true rfl | omega) (⟨rfl, f, rfl⟩) dX0_chooseStory_114
      · exact absurd (nI_le (by omega) (by omega)) c_11
    | succ j ih =>
      intro k f g hk hL hg H locs ls hW hS hl
      have inner : ∀ (jj j1 : Nat) (a : Int32), k = j1 + jj → a.toInt = dp_ah (fun j k => tw_tru (sg 13 i k) (nI j)) (fun k => tw_tru (sg 13 i k) 12) (dp_S (fun k => (sg 6 0 k).toInt) (fun j k => tw_tru (sg 13 i k) (nI j)) (fun k => tw_tru (sg 13 i k) 12)) k j1 → ∀ (H : Heap) (locs : List Loc) (ls : Array Slot), kx_Wd G z0 ad nb (kx_up sg 7 0 f) H → va_S (kx_Ad z0) s.heap H locs → lv_has ls 7 [(6, .int (nI j1)), (5, .int a), (4, .int (nI k)), (3, .int g), (0, .ref (ad 9 i)), (1, .ref (ad 6 0)), (2, .ref (ad 7 0))] → W p l e (headSpec wsX0_chooseStory { frames := 1, cells := 0, slots := 0, locals := 23 }).room s m ([.ref (ad 9 i), .ref (ad 6 0), .ref (ad 7 0)] : List Value).toArray below meth c H locs 0 0 (MQ below (kx_Q G z0 ad nb (fun r sg' => r = none ∧ ∃ f : Nat → Int32, sg' = kx_up (kx_up sg 7 0 f) 9 i (upd (sg 9 i) 7 (nI ((dp_best (dp_S (fun k => (sg 6 0 k).toInt) (fun j k => tw_tru (sg 13 i k) (nI j)) (fun k => tw_tru (sg 13 i k) 12)) n).toNat % 4096))))) ([.ref (ad 9 i), .ref (ad 6 0), .ref (ad 7 0)] : List Value).toArray s 0 0 (kx_Ad z0)) (F0 m 34 ls []) := by
        intro jj
        induction jj with
        | zero =>
          intro j1 a hj ha H locs ls hW hS hl
          rw [show j1 = k by omega] at ha
          have hlo := dp_ah_lo (fo := (fun j k => tw_tru (sg 13 i k) (nI j))) (st := (fun k => tw_tru (sg 13 i k) 12)) (S := (dp_S (fun k => (sg 6 0 k).toInt) (fun j k => tw_tru (sg 13 i k) (nI j)) (fun k => tw_tru (sg 13 i k) 12))) (k := k) k
          have hbk := hSb k (by omega)
          have hbe := dp_best_bd (S := (dp_S (fun k => (sg 6 0 k).toInt) (fun j k => tw_tru (sg 13 i k) (nI j)) (fun k => tw_tru (sg 13 i k) 12))) (M := 3600000) (by decide) k (fun k1 h1 => (hSb k1 (by omega)).2)
          have hS1 : (dp_S (fun k => (sg 6 0 k).toInt) (fun j k => tw_tru (sg 13 i k) (nI j)) (fun k => tw_tru (sg 13 i k) 12)) k = if dp_ah (fun j k => tw_tru (sg 13 i k) (nI j)) (fun k => tw_tru (sg 13 i k) 12) (dp_S (fun k => (sg 6 0 k).toInt) (fun j k => tw_tru (sg 13 i k) (nI j)) (fun k => tw_tru (sg 13 i k) 12)) k k = -1 then -1 else dp_ah (fun j k => tw_tru (sg 13 i k) (nI j)) (fun k => tw_tru (sg 13 i k) 12) (dp_S (fun k => (sg 6 0 k).toInt) (fun j k => tw_tru (sg 13 i k) (nI j)) (fun k => tw_tru (sg 13 i k) 12)) k k + (sg 6 0 k).toInt := dp_S_eq (fun k => (sg 6 0 k).toInt) (fun j k => tw_tru (sg 13 i k) (nI j)) (fun k => tw_tru (sg 13 i k) 12) k
          have hhi := dp_ah_hi (fo := (fun j k => tw_tru (sg 13 i k) (nI j))) (st := (fun k => tw_tru (sg 13 i k) 12)) (S := (dp_S (fun k => (sg 6 0 k).toInt) (fun j k => tw_tru (sg 13 i k) (nI j)) (fun k => tw_tru (sg 13 i k) 12))) (k := k) (M := 3600000) (by decide) k (fun i1 h1 => (hSb i1 (by omega)).2)
          have hwk := hw k (by omega)
          refine lv_iload hx hb dX0_chooseStory_34 (lv_at hl 0 rfl) ?_
          refine lv_iload hx hb dX0_chooseStory_36 (lv_at hl 2 rfl) ?_
          refine lv_icmp_ge (tgt := 69) hx hb dX0_chooseStory_38 (by decide) (fun c_38 => ?_) (fun c_38 => ?_)
          · refine lv_aload_n hx hb dX0_chooseStory_69 rfl (lv_at hl 6 rfl) ?_
            refine lv_iload hx hb dX0_chooseStory_70 (lv_at hl 2 rfl) ?_
            refine lv_iload hx hb dX0_chooseStory_72 (lv_at hl 1 rfl) ?_
            refine lv_iconst (v := (-1)) hx hb dX0_chooseStory_74 (by decide) ?_
            refine lv_icmp_ne (tgt := 82) hx hb dX0_chooseStory_75 (by decide) (fun c_75 => ?_) (fun c_75 => ?_)
            · refine lv_iload hx hb dX0_chooseStory_82 (lv_at hl 1 rfl) ?_
              refine lv_aload_n hx hb dX0_chooseStory_84 rfl (lv_at hl 5 rfl) ?_
              refine lv_iload hx hb dX0_chooseStory_85 (lv_at hl 2 rfl) ?_
              refine kx_ald F hW 6 0 ⟨by decide, rfl⟩ rfl k (by omega) (by decide) (v := sg 6 0 k) (by first | rfl | (simp only [kx_up_s]; done) | (simp only [kx_up_s, upd_s]; done) | (simp only [kx_up_s]; rfl) | (simp [kx_up, upd]; done)) dX0_chooseStory_87 ?_
              refine lv_iadd hx hb dX0_chooseStory_88 ?_
              have hne : ¬ dp_ah (fun j k => tw_tru (sg 13 i k) (nI j)) (fun k => tw_tru (sg 13 i k) 12) (dp_S (fun k => (sg 6 0 k).toInt) (fun j k => tw_tru (sg 13 i k) (nI j)) (fun k => tw_tru (sg 13 i k) 12)) k k = -1 := fun h => c_75 (Int32.toInt_inj.mp (ha.trans h))
              have hv9 : ((a + (sg 6 0 k))).toInt = (dp_S (fun k => (sg 6 0 k).toInt) (fun j k => tw_tru (sg 13 i k) (nI j)) (fun k => tw_tru (sg 13 i k) 12)) k := by
                rw [if_neg hne] at hS1
                rw [tw_addI (by rw [ha]; omega) (by rw [ha]; omega), ha, hS1]
              refine kx_ast F hW hS 7 0 ⟨by decide, rfl⟩ rfl k (by omega) (by decide) (x := (a + (sg 6 0 k))) rfl dX0_chooseStory_89 (fun H locs hW hS => ?_)
              have er9 : (kx_up sg 7 0 f) 7 0 = f := by first | rfl | (simp only [kx_up_s]; done) | (simp [kx_up]; done)
              rw [er9] at hW
              rw [kx_up_up] at hW
              have hW : kx_Wd G z0 ad nb (kx_up sg 7 0 (upd f k (a + (sg 6 0 k)))) H := hW
              refine lv_iload_n hx hb dX0_chooseStory_90 rfl (lv_at hl 3 rfl) ?_
              refine lv_aload_n hx hb dX0_chooseStory_91 rfl (lv_at hl 6 rfl) ?_
              refine lv_iload hx hb dX0_chooseStory_92 (lv_at hl 2 rfl) ?_
              refine kx_ald F hW 7 0 ⟨by decide, rfl⟩ rfl k (by omega) (by decide) (v := (a + (sg 6 0 k))) (by first | rfl | (simp only [kx_up_s]; done) | (simp only [kx_up_s, upd_s]; done) | (simp only [kx_up_s]; rfl) | (simp [kx_up, upd]; done)) dX0_chooseStory_94 ?_
              refine va_mmax hx hb (F.2.2.1.trans hl.1.symm) F.2.2.2.1 (hts (.methodLink RX0 58 Lib.Math.max.name) (by decide +kernel)) (hts (.static Lib.Math.max.name) (by decide +kernel)) (hts (.initialized "java/lang/Math") (by decide +kernel)) (hts (.code Lib.Math.max.name Lib.Math.max.code 2 (some .int)) (by decide +kernel)) (Nat.le_of_ble_eq_true rfl) (Nat.le_of_ble_eq_true rfl) (by first | exact Nat.zero_le _ | exact Nat.le_of_ble_eq_true rfl | omega) (by first | exact Nat.zero_le _ | exact Nat.le_of_ble_eq_true rfl | omega) dX0_chooseStory_95 ?_
              refine lv_istore_n (lv' := [(3, .int (if g < (a + (sg 6 0 k)) then (a + (sg 6 0 k)) else g)), (6, .int (nI j1)), (5, .int a), (4, .int (nI k)), (0, .ref (ad 9 i)), (1, .ref (ad 6 0)), (2, .ref (ad 7 0))]) hx hb dX0_chooseStory_98 rfl hl (by decide) rfl (fun ls hl => ?_)
              refine lv_iinc (v := nI (k + 1)) (lv' := [(4, .int (nI (k + 1))), (3, .int (if g < (a + (sg 6 0 k)) then (a + (sg 6 0 k)) else g)), (6, .int (nI j1)), (5, .int a), (0, .ref (ad 9 i)), (1, .ref (ad 6 0)), (2, .ref (ad 7 0))]) hx hb dX0_chooseStory_99 hl (k := 3) rfl (nI_1 k) (by decide) rfl (fun ls hl => ?_)
              refine lv_goto (tgt := 5) hx hb dX0_chooseStory_102 (by decide) ?_
              exact ih (k + 1) _ _ (by omega) (fun k1 h1 => by
                by_cases e1 : k1 = k
                · subst e1; rw [upd_s]; exact hv9
                · rw [upd_n e1]; exact hL k1 (by omega)) (by
                rw [tw_max, hg, hv9, dp_best]) H locs ls hW hS (lv_sub hl [0, 1, 4, 5, 6] rfl)
            · refine lv_iconst (v := (-1)) hx hb dX0_chooseStory_78 (by decide) ?_
              refine lv_goto (tgt := 89) hx hb dX0_chooseStory_79 (by decide) ?_
              have hv9 : ((-1 : Int32)).toInt = (dp_S (fun k => (sg 6 0 k).toInt) (fun j k => tw_tru (sg 13 i k) (nI j)) (fun k => tw_tru (sg 13 i k) 12)) k := by
                rw [hS1, if_pos (by rw [← ha, c_75]; rfl)]
                rfl
              refine kx_ast F hW hS 7 0 ⟨by decide, rfl⟩ rfl k (by omega) (by decide) (x := (-1)) rfl dX0_chooseStory_89 (fun H locs hW hS => ?_)
              have er9 : (kx_up sg 7 0 f) 7 0 = f := by first | rfl | (simp only [kx_up_s]; done) | (simp [kx_up]; done)
              rw [er9] at hW
              rw [kx_up_up] at hW
              have hW : kx_Wd G z0 ad nb (kx_up sg 7 0 (upd f k (-1))) H := hW
              refine lv_iload_n hx hb dX0_chooseStory_90 rfl (lv_at hl 3 rfl) ?_
              refine lv_aload_n hx hb dX0_chooseStory_91 rfl (lv_at hl 6 rfl) ?_
              refine lv_iload hx hb dX0_chooseStory_92 (lv_at hl 2 rfl) ?_
              refine kx_ald F hW 7 0 ⟨by decide, rfl⟩ rfl k (by omega) (by decide) (v := (-1)) (by first | rfl | (simp only [kx_up_s]; done) | (simp only [kx_up_s, upd_s]; done) | (simp only [kx_up_s]; rfl) | (simp [kx_up, upd]; done)) dX0_chooseStory_94 ?_
              refine va_mmax hx hb (F.2.2.1.trans hl.1.symm) F.2.2.2.1 (hts (.methodLink RX0 58 Lib.Math.max.name) (by decide +kernel)) (hts (.static Lib.Math.max.name) (by decide +kernel)) (hts (.initialized "java/lang/Math") (by decide +kernel)) (hts (.code Lib.Math.max.name Lib.Math.max.code 2 (some .int)) (by decide +kernel)) (Nat.le_of_ble_eq_true rfl) (Nat.le_of_ble_eq_true rfl) (by first | exact Nat.zero_le _ | exact Nat.le_of_ble_eq_true rfl | omega) (by first | exact Nat.zero_le _ | exact Nat.le_of_ble_eq_true rfl | omega) dX0_chooseStory_95 ?_
              refine lv_istore_n (lv' := [(3, .int (if g < (-1) then (-1) else g)), (6, .int (nI j1)), (5, .int a), (4, .int (nI k)), (0, .ref (ad 9 i)), (1, .ref (ad 6 0)), (2, .ref (ad 7 0))]) hx hb dX0_chooseStory_98 rfl hl (by decide) rfl (fun ls hl => ?_)
              refine lv_iinc (v := nI (k + 1)) (lv' := [(4, .int (nI (k + 1))), (3, .int (if g < (-1) then (-1) else g)), (6, .int (nI j1)), (5, .int a), (0, .ref (ad 9 i)), (1, .ref (ad 6 0)), (2, .ref (ad 7 0))]) hx hb dX0_chooseStory_99 hl (k := 3) rfl (nI_1 k) (by decide) rfl (fun ls hl => ?_)
              refine lv_goto (tgt := 5) hx hb dX0_chooseStory_102 (by decide) ?_
              exact ih (k + 1) _ _ (by omega) (fun k1 h1 => by
                by_cases e1 : k1 = k
                · subst e1; rw [upd_s]; exact hv9
                · rw [upd_n e1]; exact hL k1 (by omega)) (by
                rw [tw_max, hg, hv9, dp_best]) H locs ls hW hS (lv_sub hl [0, 1, 4, 5, 6] rfl)
          · exact absurd (nI_le (by omega) (by omega)) c_38
        | succ jj ih2 =>
          intro j1 a hj ha H locs ls hW hS hl
          refine lv_iload hx hb dX0_chooseStory_34 (lv_at hl 0 rfl) ?_
          refine lv_iload hx hb dX0_chooseStory_36 (lv_at hl 2 rfl) ?_
          refine lv_icmp_ge (tgt := 69) hx hb dX0_chooseStory_38 (by decide) (fun c_38 => ?_) (fun c_38 => ?_)
          · exact absurd c_38 (nI_ge (by omega) (by omega))
          · refine lv_aload_n hx hb dX0_chooseStory_41 rfl (lv_at hl 4 rfl) ?_
            refine lv_iload hx hb dX0_chooseStory_42 (lv_at hl 0 rfl) ?_
            refine lv_iload hx hb dX0_chooseStory_44 (lv_at hl 2 rfl) ?_
            refine kx_cV (na := 2) F (q := 9) (n := i) (c_X0_canFollow l G z0 ad nb (kx_up sg 7 0 f) i hi (nI j1) k (by omega)) gX0_chooseStory_X0_canFollow rfl (by decide +kernel) ⟨Nat.le_of_ble_eq_true rfl, Nat.le_of_ble_eq_true rfl⟩ hW hS hi rfl rfl (As := [.int (nI j1), .int (nI k)]) (rest := []) rfl hl.1 rfl (Nat.le_of_ble_eq_true rfl) dX0_chooseStory_46 ⟨by first | exact Nat.le_of_ble_eq_true rfl | omega, by first | exact Nat.le_of_ble_eq_true rfl | omega⟩ (fun r9 sg9 H locs hq hW hS => ?_)
            obtain ⟨rfl, e9⟩ := hq
            rw [e9] at hW
            refine W.eq (g2 := F0 m 49 ls [.int (tw_b (tw_tru ((kx_up sg 7 0 f) 13 i k) (if (nI j1) = -1 then 12 else (nI j1))))]) rfl ?_
            refine lv_if_eq (tgt := 63) hx hb dX0_chooseStory_49 (by decide) (fun c_49 => ?_) (fun c_49 => ?_)
            · refine lv_iinc (v := nI (j1 + 1)) (lv' := [(6, .int (nI (j1 + 1))), (5, .int a), (4, .int (nI k)), (3, .int g), (0, .ref (ad 9 i)), (1, .ref (ad 6 0)), (2, .ref (ad 7 0))]) hx hb dX0_chooseStory_63 hl (k := 0) rfl (nI_1 j1) (by decide) rfl (fun ls hl => ?_)
              refine lv_goto (tgt := 34) hx hb dX0_chooseStory_66 (by decide) ?_
              exact ih2 (j1 + 1) a (by omega) (by
                have h9 := tw_b_0 c_49
                rw [if_neg (tw_m1ne j1 (by omega))] at h9
                rw [ha, dp_ah, if_neg (by rw [show tw_tru (sg 13 i k) (nI j1) = false from h9]; decide)]) H locs ls hW hS (lv_sub hl [0, 1, 2, 3, 4, 5, 6] rfl)
            · refine lv_iload hx hb dX0_chooseStory_52 (lv_at hl 1 rfl) ?_
              refine lv_aload_n hx hb dX0_chooseStory_54 rfl (lv_at hl 6 rfl) ?_
              refine lv_iload hx hb dX0_chooseStory_55 (lv_at hl 0 rfl) ?_
              refine kx_ald F hW 7 0 ⟨by decide, rfl⟩ rfl j1 (by omega) (by decide) (v := f j1) (by first | rfl | (simp only [kx_up_s]; done) | (simp only [kx_up_s, upd_s]; done) | (simp only [kx_up_s]; rfl) | (simp [kx_up, upd]; done)) dX0_chooseStory_57 ?_
              refine va_mmax hx hb (F.2.2.1.trans hl.1.symm) F.2.2.2.1 (hts (.methodLink RX0 58 Lib.Math.max.name) (by decide +kernel)) (hts (.static Lib.Math.max.name) (by decide +kernel)) (hts (.initialized "java/lang/Math") (by decide +kernel)) (hts (.code Lib.Math.max.name Lib.Math.max.code 2 (some .int)) (by decide +kernel)) (Nat.le_of_ble_eq_true rfl) (Nat.le_of_ble_eq_true rfl) (by first | exact Nat.zero_le _ | exact Nat.le_of_ble_eq_true rfl | omega) (by first | exact Nat.zero_le _ | exact Nat.le_of_ble_eq_true rfl | omega) dX0_chooseStory_58 ?_
              refine lv_istore (lv' := [(5, .int (if a < (f j1) then (f j1) else a)), (6, .int (nI j1)), (4, .int (nI k)), (3, .int g), (0, .ref (ad 9 i)), (1, .ref (ad 6 0)), (2, .ref (ad 7 0))]) hx hb dX0_chooseStory_61 hl (by decide) rfl (fun ls hl => ?_)
              refine lv_iinc (v := nI (j1 + 1)) (lv' := [(6, .int (nI (j1 + 1))), (5, .int (if a < (f j1) then (f j1) else a)), (4, .int (nI k)), (3, .int g), (0, .ref (ad 9 i)), (1, .ref (ad 6 0)), (2, .ref (ad 7 0))]) hx hb dX0_chooseStory_63 hl (k := 1) rfl (nI_1 j1) (by decide) rfl (fun ls hl => ?_)
              refine lv_goto (tgt := 34) hx hb dX0_chooseStory_66 (by decide) ?_
              exact ih2 (j1 + 1) _ (by omega) (by
                have h9 := tw_b_1 c_49
                rw [if_neg (tw_m1ne j1 (by omega))] at h9
                rw [tw_max, ha, hL j1 (by omega), dp_ah, if_pos (show tw_tru (sg 13 i k) (nI j1) = true from h9)]) H locs ls hW hS (lv_sub hl [0, 1, 2, 3, 4, 5, 6] rfl)
      refine lv_iload hx hb dX0_chooseStory_5 (lv_at hl 0 rfl) ?_
      refine lv_aload_n hx hb dX0_chooseStory_7 rfl (lv_at hl 2 rfl) ?_
      refine kx_g F inX0 hW 9 i hi rfl rfl 6 (by decide) L_24 (v := .int (nI n)) (by exact congrArg (fun z => some (Value.int z)) hn) dX0_chooseStory_8 ?_
      refine lv_icmp_ge (tgt := 105) hx hb dX0_chooseStory_11 (by decide) (fun c_11 => ?_) (fun c_11 => ?_)
      · exact absurd c_11 (nI_ge (by omega) (by omega))
      · refine lv_aload_n hx hb dX0_chooseStory_14 rfl (lv_at hl 2 rfl) ?_
        refine lv_iconst (v := (-1)) hx hb dX0_chooseStory_15 (by decide) ?_
        refine lv_iload hx hb dX0_chooseStory_16 (lv_at hl 0 rfl) ?_
        refine kx_cV (na := 2) F (q := 9) (n := i) (c_X0_canFollow l G z0 ad nb (kx_up sg 7 0 f) i hi (-1) k (by omega)) gX0_chooseStory_X0_canFollow rfl (by decide +kernel) ⟨Nat.le_of_ble_eq_true rfl, Nat.le_of_ble_eq_true rfl⟩ hW hS hi rfl rfl (As := [.int (-1), .int (nI k)]) (rest := []) rfl hl.1 rfl (Nat.le_of_ble_eq_true rfl) dX0_chooseStory_18 ⟨by first | exact Nat.le_of_ble_eq_true rfl | omega, by first | exact Nat.le_of_ble_eq_true rfl | omega⟩ (fun r9 sg9 H locs hq hW hS => ?_)
        obtain ⟨rfl, e9⟩ := hq
        rw [e9] at hW
        refine W.eq (g2 := F0 m 21 ls [.int (tw_b (tw_tru ((kx_up sg 7 0 f) 13 i k) (if (-1) = -1 then 12 else (-1))))]) rfl ?_
        refine lv_if_eq (tgt := 28) hx hb dX0_chooseStory_21 (by decide) (fun c_21 => ?_) (fun c_21 => ?_)
        · refine lv_iconst (v := (-1)) hx hb dX0_chooseStory_28 (by decide) ?_
          refine lv_istore (lv' := [(5, .int (-1)), (4, .int (nI k)), (3, .int g), (0, .ref (ad 9 i)), (1, .ref (ad 6 0)), (2, .ref (ad 7 0))]) hx hb dX0_chooseStory_29 hl (by decide) rfl (fun ls hl => ?_)
          refine lv_iconst (v := 0) hx hb dX0_chooseStory_31 (by decide) ?_
          refine lv_istore (lv' := [(6, .int 0), (5, .int (-1)), (4, .int (nI k)), (3, .int g), (0, .ref (ad 9 i)), (1, .ref (ad 6 0)), (2, .ref (ad 7 0))]) hx hb dX0_chooseStory_32 hl (by decide) rfl (fun ls hl => ?_)
          have h9 := tw_b_0 c_21
          rw [if_pos rfl] at h9
          exact inner k 0 _ (by omega) (by
            rw [dp_ah, if_neg (by rw [show tw_tru (sg 13 i k) 12 = false from h9]; decide)]
            rfl) H locs ls hW hS (lv_sub hl [0, 1, 2, 3, 4, 5, 6] rfl)
        · refine lv_iconst (v := 0) hx hb dX0_chooseStory_24 (by decide) ?_
          refine lv_goto (tgt := 29) hx hb dX0_chooseStory_25 (by decide) ?_
          refine lv_istore (lv' := [(5, .int 0), (4, .int (nI k)), (3, .int g), (0, .ref (ad 9 i)), (1, .ref (ad 6 0)), (2, .ref (ad 7 0))]) hx hb dX0_chooseStory_29 hl (by decide) rfl (fun ls hl => ?_)
          refine lv_iconst (v := 0) hx hb dX0_chooseStory_31 (by decide) ?_
          refine lv_istore (lv' := [(6, .int 0), (5, .int 0), (4, .int (nI k)), (3, .int g), (0, .ref (ad 9 i)), (1, .ref (ad 6 0)), (2, .ref (ad 7 0))]) hx hb dX0_chooseStory_32 hl (by decide) rfl (fun ls hl => ?_)
          have h9 := tw_b_1 c_21
          rw [if_pos rfl] at h9
          exact inner k 0 _ (by omega) (by
            rw [dp_ah, if_pos (show tw_tru (sg 13 i k) 12 = true from h9)]
            rfl) H locs ls hW hS (lv_sub hl [0, 1, 2, 3, 4, 5, 6] rfl)
  refine lv_iconst (v := 0) hx hb dX0_chooseStory_0 (by decide) ?_
  refine lv_istore_n (lv' := [(3, .int 0), (0, .ref (ad 9 i)), (1, .ref (ad 6 0)), (2, .ref (ad 7 0))]) hx hb dX0_chooseStory_1 rfl hl (by decide) rfl (fun ls hl => ?_)
  refine lv_iconst (v := 0) hx hb dX0_chooseStory_2 (by decide) ?_
  refine lv_istore (lv' := [(4, .int 0), (3, .int 0), (0, .ref (ad 9 i)), (1, .ref (ad 6 0)), (2, .ref (ad 7 0))]) hx hb dX0_chooseStory_3 hl (by decide) rfl (fun ls hl => ?_)
  exact outer n 0 (sg 7 0) 0 (by omega) (fun k1 h1 => absurd h1 (Nat.not_lt_zero _)) rfl _ _ ls (by rw [kx_up_id]; exact hW) hS (lv_sub hl [0, 1, 2, 3, 4] rfl)
end
section
/-- the story of box i, of n scans, out of the town's cells -/
def tw_st (sg : kx_S) (i n : Nat) : Int32 := nI ((dp_best (dp_S (fun k => (tw_w (sg 3 0) (fun d => sg 8 d 1) (sg 12 i) k).toInt) (fun j k => tw_tru (sg 13 i k) (nI j)) (fun k => tw_tru (sg 13 i k) 12)) n).toNat % 4096)
abbrev tw_R : Type := (Nat → Int32) × (Nat → Int32) × (Nat → Int32)
def tw_debA (dl : Bool) (x : tw_R) : tw_R := if dl = true ∧ ¬ x.1 8 = 0 then (upd x.1 8 0, tw_back x.2.1 (x.1 1), x.2.2) else x
def tw_debB (dl : Bool) (co : Int32) (x : tw_R) : tw_R := if dl = true ∧ x.1 9 = 0 then (upd (upd x.1 9 1) 10 co, tw_note x.2.1, tw_fee x.2.2 co (10 * x.1 0)) else x
def tw_debC (dl : Bool) (x : tw_R) : tw_R := if dl = false ∧ ¬ x.1 9 = 0 then (upd x.1 9 0, tw_note x.2.1, tw_fee x.2.2 (x.1 10) ((-10) * x.1 0)) else x
def tw_deb (dl : Bool) (co : Int32) (x : tw_R) : tw_R := tw_debC dl (tw_debB dl co (tw_debA dl x))
def tw_SR (sg sg' : kx_S) (i : Nat) (x : tw_R) : Prop := (∀ q m, q ≠ 4 → q ≠ 5 → q ≠ 6 → q ≠ 7 → ¬ (q = 9 ∧ m = i) → sg' q m = sg q m) ∧ sg' 9 i = x.1 ∧ sg' 4 0 = x.2.1 ∧ sg' 5 0 = x.2.2
/-- what settling does to the rows of box i, of the ledger and of the fees -/
def tw_stl (sg : kx_S) (i n : Nat) : tw_R := tw_deb (decide (tw_last (tw_st sg i n) (sg 11 i) n = 30)) (tw_cour (tw_st sg i n) (sg 11 i) n) (upd (sg 9 i) 7 (tw_st sg i n), sg 4 0, sg 5 0)
theorem tw_trust_bd {tr jam : Nat → Int32} {k : Nat} (hk : k ≤ 14) (ht : ∀ w, w < 14 → 1 ≤ (tr w).toInt ∧ (tr w).toInt ≤ 9) : 1 ≤ (tw_trust tr jam k).toInt ∧ (tw_trust tr jam k).toInt ≤ 50 := by
  unfold tw_trust
  split
  · decide
  · split
    · decide
    · have h := ht k (by omega)
      omega
theorem tw_w_eq {tr jam mk : Nat → Int32} {k j : Nat} (hk : k < 12) (hj : j ≤ 14) (hm : mk k = nI j) (ht : ∀ w, w < 14 → 1 ≤ (tr w).toInt ∧ (tr w).toInt ≤ 9) : (tw_w tr jam mk k).toInt = (tw_trust tr jam j).toInt * 4096 + 2 ^ k := by
  have h1 := tw_trust_bd (jam := jam) hj ht
  have h2 := tw_pow_b k hk
  have h3 := tw_pow k hk
  have h4 : ((4096 : Int32)).toInt = 4096 := by decide
  unfold tw_w
  rw [hm, nI_clamp (by omega)]
  have h5 : (tw_trust tr jam j * 4096).toInt = (tw_trust tr jam j).toInt * 4096 := by
    rw [tw_mulI (by rw [h4]; omega) (by rw [h4]; omega), h4]
  rw [tw_addI (by rw [h5, h3]; omega) (by rw [h5, h3]; omega), h5, h3]
theorem tw_w_bd {tr jam mk : Nat → Int32} {k j : Nat} (hk : k < 12) (hj : j ≤ 14) (hm : mk k = nI j) (ht : ∀ w, w < 14 → 1 ≤ (tr w).toInt ∧ (tr w).toInt ≤ 9) : 0 < (tw_w tr jam mk k).toInt ∧ (tw_w tr jam mk k).toInt ≤ 300000 := by
  have h1 := tw_trust_bd (jam := jam) hj ht
  have h2 := tw_pow_b k hk
  rw [tw_w_eq hk hj hm ht]
  omega
theorem tw_st_of {sg : kx_S} {i n : Nat} {w : Nat → Int} {fo : Nat → Nat → Bool} {st : Nat → Bool} (hw : ∀ k, k < n → w k = (tw_w (sg 3 0) (fun d => sg 8 d 1) (sg 12 i) k).toInt) (hf : fo = fun j k => tw_tru (sg 13 i k) (nI j)) (hs : st = fun k => tw_tru (sg 13 i k) 12) : nI ((dp_best (dp_S w fo st) n).toNat % 4096) = tw_st sg i n := by
  subst hf; subst hs
  unfold tw_st
  rw [dp_best_congr n (dp_S_congr (n := n) hw (fun _ _ => rfl) (fun _ _ _ _ => rfl))]

theorem c_X0_isDelivered2 (l : Launch) (G : kx_G) (z0 : Nat) (ad : kx_A) (nb : Nat) (sg : kx_S) (i : Nat) (hi : i < nb) (n : Nat) (hn : sg 9 i 6 = nI n) (h12 : n ≤ 12) (st : Int32) (pl : Nat → Int32) (h7 : sg 9 i 7 = st) (h11 : sg 11 i = pl) : kx_M l yX0_isDelivered wsX0_isDelivered 2 42 0 0 G z0 ad nb sg [.ref (ad 9 i)] (fun r sg' => r = some (.int (tw_b (decide (tw_last st pl n = 30)))) ∧ sg' = sg) := by
  subst h7; subst h11
  exact c_X0_isDelivered l G z0 ad nb sg i hi n hn h12

theorem c_X0_deliverer2 (l : Launch) (G : kx_G) (z0 : Nat) (ad : kx_A) (nb : Nat) (sg : kx_S) (i : Nat) (hi : i < nb) (n : Nat) (hn : sg 9 i 6 = nI n) (h12 : n ≤ 12) (st : Int32) (pl : Nat → Int32) (h7 : sg 9 i 7 = st) (h11 : sg 11 i = pl) : kx_M l yX0_deliverer wsX0_deliverer 2 42 0 0 G z0 ad nb sg [.ref (ad 9 i)] (fun r sg' => r = some (.int (tw_cour st pl n)) ∧ sg' = sg) := by
  subst h7; subst h11
  exact c_X0_deliverer l G z0 ad nb sg i hi n hn h12

set_option maxHeartbeats 16000000 in
set_option maxRecDepth 100000 in
/-- story and debts of a box -/
theorem c_X3_settle (l : Launch) (G : kx_G) (z0 : Nat) (ad : kx_A) (nb : Nat) (sg : kx_S) (i : Nat) (hi : i < nb) (n : Nat) (hn : sg 9 i 6 = nI n) (h12 : n ≤ 12) (hm : ∀ k, k < n → ∃ j : Nat, j ≤ 14 ∧ sg 12 i k = nI j) (ht : ∀ w, w < 14 → 1 ≤ (sg 3 0 w).toInt ∧ (sg 3 0 w).toInt ≤ 9) : kx_M l yX3_settle wsX3_settle 3 65 0 0 G z0 ad nb sg [.ref (ad 0 0), .ref (ad 9 i)] (fun r sg' => r = none ∧ tw_SR sg sg' i (tw_stl sg i n)) := by
  refine Met.ofW (cc := cX3_settle) (maxL := 3) (ret := none) (by decide) rfl ?_
  intro p e s m args below meth c s₁ B hml hv
  obtain ⟨rfl, hW, hV⟩ := hv
  have hts := atoms_spec (ws := wsX3_settle) B.pre
  have F : kx_F p s m c cX3_settle 3 RX3 _ wsX3_settle G z0 := ⟨B.exec, B.bytes, hml, findClass_of_methodNamed B.named, hts, hV⟩
  have hx := B.exec; have hb := B.bytes; have hr := B.returns; have hlocks := B.notSynchronized
  have hS : va_S (kx_Ad z0) s.heap s.heap [] := va_S.rf
  have L_107 : Cond.fieldLink RX3 107 (TX0 0).1 (TX0 0).2.1 (TX0 0).2.2.1 ∈ wsX3_settle := by decide +kernel
  have L_156 : Cond.fieldLink RX3 156 (TX0 8).1 (TX0 8).2.1 (TX0 8).2.2.1 ∈ wsX3_settle := by decide +kernel
  have L_165 : Cond.fieldLink RX3 165 (TX0 1).1 (TX0 1).2.1 (TX0 1).2.2.1 ∈ wsX3_settle := by decide +kernel
  have L_191 : Cond.fieldLink RX3 191 (TX0 9).1 (TX0 9).2.1 (TX0 9).2.2.1 ∈ wsX3_settle := by decide +kernel
  have L_252 : Cond.fieldLink RX3 252 (TX0 10).1 (TX0 10).2.1 (TX0 10).2.2.1 ∈ wsX3_settle := by decide +kernel
  have L_28 : Cond.fieldLink RX3 28 (TX3 3).1 (TX3 3).2.1 (TX3 3).2.2.1 ∈ wsX3_settle := by decide +kernel
  have L_32 : Cond.fieldLink RX3 32 (TX3 4).1 (TX3 4).2.1 (TX3 4).2.2.1 ∈ wsX3_settle := by decide +kernel
  have L_35 : Cond.fieldLink RX3 35 (TX3 5).1 (TX3 5).2.1 (TX3 5).2.2.1 ∈ wsX3_settle := by decide +kernel
  have inX0 : ∀ w ∈ u_ws RX0 TX0 11, w ∈ wsX3_settle := by decide +kernel
  have inX3 : ∀ w ∈ u_ws RX3 TX3 9, w ∈ wsX3_settle := by decide +kernel
  have hl := lv_entry ([.ref (ad 0 0), .ref (ad 9 i)]) (n := 3) (Nat.le_of_ble_eq_true rfl)
  rw [lg_entry_eq]
  generalize (lg_sl ([.ref (ad 0 0), .ref (ad 9 i)]) ++ List.replicate (3 - (lg_sl ([.ref (ad 0 0), .ref (ad 9 i)])).length) Slot.unset).toArray = ls at hl ⊢
  have hl : lv_has ls 3 [(0, .ref (ad 0 0)), (1, .ref (ad 9 i))] := hl
  refine lv_aload_n hx hb dX3_settle_0 rfl (lv_at hl 0 rfl) ?_
  refine lv_aload_n hx hb dX3_settle_1 rfl (lv_at hl 1 rfl) ?_
  refine kx_cV (na := 1) F (q := 0) (n := 0) (c_X3_weighScans l G z0 ad nb sg i hi n hn h12 hm) gX3_settle_X3_weighScans rfl (by decide +kernel) ⟨Nat.le_of_ble_eq_true rfl, Nat.le_of_ble_eq_true rfl⟩ hW hS ⟨by decide, rfl⟩ rfl rfl (As := [.ref (ad 9 i)]) (rest := []) rfl hl.1 rfl (Nat.le_of_ble_eq_true rfl) dX3_settle_2 ⟨by first | exact Nat.le_of_ble_eq_true rfl | omega, by first | exact Nat.le_of_ble_eq_true rfl | omega⟩ (fun r9 sg9 H locs hq hW hS => ?_)
  obtain ⟨rfl, f6, e9, hf6⟩ := hq
  rw [e9] at hW
  have hW : kx_Wd G z0 ad nb (kx_up sg 6 0 f6) H := by first | exact hW | (simp only [kx_up_s, kx_up_up] at hW; exact hW) | (simp only [kx_up_s, kx_up_up, upd_s] at hW; exact hW)
  refine W.eq (g2 := F0 m 5 ls []) rfl ?_
  refine lv_aload_n hx hb dX3_settle_5 rfl (lv_at hl 1 rfl) ?_
  refine lv_aload_n hx hb dX3_settle_6 rfl (lv_at hl 0 rfl) ?_
  refine kx_g F inX3 hW 0 0 ⟨by decide, rfl⟩ rfl rfl 4 (by decide) L_32 (v := .ref (ad 6 0)) rfl dX3_settle_7 ?_
  refine lv_aload_n hx hb dX3_settle_10 rfl (lv_at hl 0 rfl) ?_
  refine kx_g F inX3 hW 0 0 ⟨by decide, rfl⟩ rfl rfl 5 (by decide) L_35 (v := .ref (ad 7 0)) rfl dX3_settle_11 ?_
  have hw6 : ∀ k, k < n → 0 < ((kx_up sg 6 0 f6) 6 0 k).toInt ∧ ((kx_up sg 6 0 f6) 6 0 k).toInt ≤ 300000 := fun k hk => by
    obtain ⟨j, hj, hmj⟩ := hm k hk
    have h9 := tw_w_bd (jam := fun d => sg 8 d 1) (by omega : k < 12) hj hmj ht
    rw [show (kx_up sg 6 0 f6) 6 0 k = f6 k from rfl, hf6 k hk]
    exact h9
  refine kx_cV (na := 2) F (q := 9) (n := i) (c_X0_chooseStory l G z0 ad nb (kx_up sg 6 0 f6) i hi n hn h12 hw6) gX3_settle_X0_chooseStory rfl (by decide +kernel) ⟨Nat.le_of_ble_eq_true rfl, Nat.le_of_ble_eq_true rfl⟩ hW hS hi rfl rfl (As := [.ref (ad 6 0), .ref (ad 7 0)]) (rest := []) rfl hl.1 rfl (Nat.le_of_ble_eq_true rfl) dX3_settle_14 ⟨by first | exact Nat.le_of_ble_eq_true rfl | omega, by first | exact Nat.le_of_ble_eq_true rfl | omega⟩ (fun r9 sg9 H locs hq hW hS => ?_)
  obtain ⟨rfl, f7, e9⟩ := hq
  rw [e9] at hW
  have est := tw_st_of (sg := sg) (i := i) (n := n) (w := fun k => ((kx_up sg 6 0 f6) 6 0 k).toInt) (fo := fun j k => tw_tru ((kx_up sg 6 0 f6) 13 i k) (nI j)) (st := fun k => tw_tru ((kx_up sg 6 0 f6) 13 i k) 12) (fun k hk => congrArg Int32.toInt (hf6 k hk)) rfl rfl
  rw [est] at hW
  have hW : kx_Wd G z0 ad nb (kx_up (kx_up (kx_up sg 6 0 f6) 7 0 f7) 9 i (upd (sg 9 i) 7 (tw_st sg i n))) H := by first | exact hW | (simp only [kx_up_s, kx_up_up] at hW; exact hW) | (simp only [kx_up_s, kx_up_up, upd_s] at hW; exact hW)
  refine W.eq (g2 := F0 m 17 ls []) rfl ?_
  refine lv_aload_n hx hb dX3_settle_17 rfl (lv_at hl 1 rfl) ?_
  refine kx_cV (na := 0) F (q := 9) (n := i) (c_X0_isDelivered2 l G z0 ad nb (kx_up (kx_up (kx_up sg 6 0 f6) 7 0 f7) 9 i (upd (sg 9 i) 7 (tw_st sg i n))) i hi n (by simp [kx_up, upd, hn]) h12 (tw_st sg i n) (sg 11 i) (by simp [kx_up, upd]) rfl) gX3_settle_X0_isDelivered rfl (by decide +kernel) ⟨Nat.le_of_ble_eq_true rfl, Nat.le_of_ble_eq_true rfl⟩ hW hS hi rfl rfl (As := []) (rest := []) rfl hl.1 rfl (Nat.le_of_ble_eq_true rfl) dX3_settle_18 ⟨by first | exact Nat.le_of_ble_eq_true rfl | omega, by first | exact Nat.le_of_ble_eq_true rfl | omega⟩ (fun r9 sg9 H locs hq hW hS => ?_)
  obtain ⟨rfl, e9⟩ := hq
  rw [e9] at hW
  refine W.eq (g2 := F0 m 21 ls [.int (tw_b (decide (tw_last (tw_st sg i n) (sg 11 i) n = 30)))]) rfl ?_
  refine lv_istore_n (lv' := [(2, .int (tw_b (decide (tw_last (tw_st sg i n) (sg 11 i) n = 30)))), (0, .ref (ad 0 0)), (1, .ref (ad 9 i))]) hx hb dX3_settle_21 rfl hl (by decide) rfl (fun ls hl => ?_)
  refine lv_iload_n hx hb dX3_settle_22 rfl (lv_at hl 0 rfl) ?_
  refine lv_if_eq (tgt := 49) hx hb dX3_settle_23 (by decide) (fun c_23 => ?_) (fun c_23 => ?_)
  · refine lv_iload_n hx hb dX3_settle_49 rfl (lv_at hl 0 rfl) ?_
    refine lv_if_eq (tgt := 91) hx hb dX3_settle_50 (by decide) (fun c_50 => ?_) (fun c_50 => ?_)
    · refine lv_iload_n hx hb dX3_settle_91 rfl (lv_at hl 0 rfl) ?_
      refine lv_if_ne (tgt := 125) hx hb dX3_settle_92 (by decide) (fun c_92 => ?_) (fun c_92 => ?_)
      · exact absurd c_23 c_92
      · refine lv_aload_n hx hb dX3_settle_95 rfl (lv_at hl 2 rfl) ?_
        refine kx_g F inX0 hW 9 i hi rfl rfl 9 (by decide) L_191 (v := .int (sg 9 i 9)) (by first | rfl | (simp only [kx_up_s]; done) | (simp only [kx_up_s, upd_s]; done) | (simp only [kx_up_s]; rfl) | (simp [kx_up, upd]; done)) dX3_settle_96 ?_
        refine lv_if_eq (tgt := 125) hx hb dX3_settle_99 (by decide) (fun c_99 => ?_) (fun c_99 => ?_)
        · have hdl : decide (tw_last (tw_st sg i n) (sg 11 i) n = 30) = false := tw_b_0 c_23
          have hA : tw_debA (decide (tw_last (tw_st sg i n) (sg 11 i) n = 30)) (upd (sg 9 i) 7 (tw_st sg i n), sg 4 0, sg 5 0) = (upd (sg 9 i) 7 (tw_st sg i n), sg 4 0, sg 5 0) := if_neg (fun h => by rw [hdl] at h; exact absurd h.1 (by decide))
          have hB : tw_debB (decide (tw_last (tw_st sg i n) (sg 11 i) n = 30)) (tw_cour (tw_st sg i n) (sg 11 i) n) (upd (sg 9 i) 7 (tw_st sg i n), sg 4 0, sg 5 0) = (upd (sg 9 i) 7 (tw_st sg i n), sg 4 0, sg 5 0) := if_neg (fun h => by rw [hdl] at h; exact absurd h.1 (by decide))
          have hC : tw_debC (decide (tw_last (tw_st sg i n) (sg 11 i) n = 30)) (upd (sg 9 i) 7 (tw_st sg i n), sg 4 0, sg 5 0) = (upd (sg 9 i) 7 (tw_st sg i n), sg 4 0, sg 5 0) := if_neg (fun h => h.2 c_99)
          have hpost : tw_SR sg (kx_up (kx_up (kx_up sg 6 0 f6) 7 0 f7) 9 i (upd (sg 9 i) 7 (tw_st sg i n))) i (tw_stl sg i n) := by
            rw [tw_stl, tw_deb, hA, hB, hC]
            refine ⟨fun q m h4 h5 h6 h7 h9 => ?_, ?_, ?_, ?_⟩
            · simp [kx_up, h4, h5, h6, h7, h9]
            · simp [kx_up]
            · simp [kx_up]
            · simp [kx_up]
          exact kx_rv F hr hlocks hW hS (by first | exact Nat.le_of_ble_eq_true rfl | omega) (by first | exact Nat.le_of_ble_eq_true rfl | omega) (⟨rfl, hpost⟩) dX3_settle_125
        · refine lv_aload_n hx hb dX3_settle_102 rfl (lv_at hl 2 rfl) ?_
          refine lv_iconst (v := 0) hx hb dX3_settle_103 (by decide) ?_
          refine kx_p F inX0 tyX0 tyX0_ok nmX0 hW hS 9 i hi rfl rfl 9 (by decide) L_191 rfl (v := .int 0) rfl rfl (Nat.le_of_ble_eq_true rfl) (upd ((kx_up (kx_up (kx_up sg 6 0 f6) 7 0 f7) 9 i (upd (sg 9 i) 7 (tw_st sg i n))) 9 i) 9 0) rfl dX3_settle_104 (fun H locs hW hS => ?_)
          have er9 : (kx_up (kx_up (kx_up sg 6 0 f6) 7 0 f7) 9 i (upd (sg 9 i) 7 (tw_st sg i n))) 9 i = upd (sg 9 i) 7 (tw_st sg i n) := by first | rfl | (simp only [kx_up_s]; done) | (simp [kx_up]; done)
          rw [er9] at hW
          rw [kx_up_up] at hW
          have hW : kx_Wd G z0 ad nb (kx_up (kx_up (kx_up sg 6 0 f6) 7 0 f7) 9 i (upd (upd (sg 9 i) 7 (tw_st sg i n)) 9 0)) H := hW
          refine lv_aload_n hx hb dX3_settle_107 rfl (lv_at hl 1 rfl) ?_
          refine kx_g F inX3 hW 0 0 ⟨by decide, rfl⟩ rfl rfl 3 (by decide) L_28 (v := .ref (ad 4 0)) rfl dX3_settle_108 ?_
          refine lv_aload_n hx hb dX3_settle_111 rfl (lv_at hl 2 rfl) ?_
          refine kx_g F inX0 hW 9 i hi rfl rfl 10 (by decide) L_252 (v := .int (sg 9 i 10)) (by first | rfl | (simp only [kx_up_s]; done) | (simp only [kx_up_s, upd_s]; done) | (simp only [kx_up_s]; rfl) | (simp [kx_up, upd]; done)) dX3_settle_112 ?_
          refine lv_bipush (v := (-10)) hx hb dX3_settle_115 (by decide) ?_
          refine lv_aload_n hx hb dX3_settle_117 rfl (lv_at hl 2 rfl) ?_
          refine kx_g F inX0 hW 9 i hi rfl rfl 0 (by decide) L_107 (v := .int (sg 9 i 0)) (by first | rfl | (simp only [kx_up_s]; done) | (simp only [kx_up_s, upd_s]; done) | (simp only [kx_up_s]; rfl) | (simp [kx_up, upd]; done)) dX3_settle_118 ?_
          refine lv_imul hx hb dX3_settle_121 ?_
          refine kx_cV (na := 2) F (q := 4) (n := 0) (c_X2_writeFee l G z0 ad nb (kx_up (kx_up (kx_up sg 6 0 f6) 7 0 f7) 9 i (upd (upd (sg 9 i) 7 (tw_st sg i n)) 9 0)) (sg 9 i 10) ((-10) * (sg 9 i 0))) gX3_settle_X2_writeFee rfl (by decide +kernel) ⟨Nat.le_of_ble_eq_true rfl, Nat.le_of_ble_eq_true rfl⟩ hW hS ⟨by decide, rfl⟩ rfl rfl (As := [.int (sg 9 i 10), .int ((-10) * (sg 9 i 0))]) (rest := []) rfl hl.1 rfl (Nat.le_of_ble_eq_true rfl) dX3_settle_122 ⟨by first | exact Nat.le_of_ble_eq_true rfl | omega, by first | exact Nat.le_of_ble_eq_true rfl | omega⟩ (fun r9 sg9 H locs hq hW hS => ?_)
          obtain ⟨rfl, e9⟩ := hq
          rw [e9] at hW
          have hW : kx_Wd G z0 ad nb (kx_up (kx_up (kx_up (kx_up (kx_up sg 6 0 f6) 7 0 f7) 9 i (upd (upd (sg 9 i) 7 (tw_st sg i n)) 9 0)) 5 0 (tw_fee (sg 5 0) (sg 9 i 10) ((-10) * (sg 9 i 0)))) 4 0 (tw_note (sg 4 0))) H := by first | exact hW | (simp only [kx_up_s, kx_up_up] at hW; exact hW) | (simp only [kx_up_s, kx_up_up, upd_s] at hW; exact hW)
          refine W.eq (g2 := F0 m 125 ls []) rfl ?_
          have hdl : decide (tw_last (tw_st sg i n) (sg 11 i) n = 30) = false := tw_b_0 c_23
          have hA : tw_debA (decide (tw_last (tw_st sg i n) (sg 11 i) n = 30)) (upd (sg 9 i) 7 (tw_st sg i n), sg 4 0, sg 5 0) = (upd (sg 9 i) 7 (tw_st sg i n), sg 4 0, sg 5 0) := if_neg (fun h => by rw [hdl] at h; exact absurd h.1 (by decide))
          have hB : tw_debB (decide (tw_last (tw_st sg i n) (sg 11 i) n = 30)) (tw_cour (tw_st sg i n) (sg 11 i) n) (upd (sg 9 i) 7 (tw_st sg i n), sg 4 0, sg 5 0) = (upd (sg 9 i) 7 (tw_st sg i n), sg 4 0, sg 5 0) := if_neg (fun h => by rw [hdl] at h; exact absurd h.1 (by decide))
          have hC : tw_debC (decide (tw_last (tw_st sg i n) (sg 11 i) n = 30)) (upd (sg 9 i) 7 (tw_st sg i n), sg 4 0, sg 5 0) = (upd (upd (sg 9 i) 7 (tw_st sg i n)) 9 0, tw_note (sg 4 0), tw_fee (sg 5 0) (sg 9 i 10) ((-10) * sg 9 i 0)) := if_pos ⟨hdl, c_99⟩
          have hpost : tw_SR sg (kx_up (kx_up (kx_up (kx_up (kx_up sg 6 0 f6) 7 0 f7) 9 i (upd (upd (sg 9 i) 7 (tw_st sg i n)) 9 0)) 5 0 (tw_fee (sg 5 0) (sg 9 i 10) ((-10) * (sg 9 i 0)))) 4 0 (tw_note (sg 4 0))) i (tw_stl sg i n) := by
            rw [tw_stl, tw_deb, hA, hB, hC]
            refine ⟨fun q m h4 h5 h6 h7 h9 => ?_, ?_, ?_, ?_⟩
            · simp [kx_up, h4, h5, h6, h7, h9]
            · simp [kx_up]
            · simp [kx_up]
            · simp [kx_up]
          exact kx_rv F hr hlocks hW hS (by first | exact Nat.le_of_ble_eq_true rfl | omega) (by first | exact Nat.le_of_ble_eq_true rfl | omega) (⟨rfl, hpost⟩) dX3_settle_125
    · exact absurd c_23 c_50
  · refine lv_aload_n hx hb dX3_settle_26 rfl (lv_at hl 2 rfl) ?_
    refine kx_g F inX0 hW 9 i hi rfl rfl 8 (by decide) L_156 (v := .int (sg 9 i 8)) (by first | rfl | (simp only [kx_up_s]; done) | (simp only [kx_up_s, upd_s]; done) | (simp only [kx_up_s]; rfl) | (simp [kx_up, upd]; done)) dX3_settle_27 ?_
    refine lv_if_eq (tgt := 49) hx hb dX3_settle_30 (by decide) (fun c_30 => ?_) (fun c_30 => ?_)
    · refine lv_iload_n hx hb dX3_settle_49 rfl (lv_at hl 0 rfl) ?_
      refine lv_if_eq (tgt := 91) hx hb dX3_settle_50 (by decide) (fun c_50 => ?_) (fun c_50 => ?_)
      · exact absurd c_50 c_23
      · refine lv_aload_n hx hb dX3_settle_53 rfl (lv_at hl 2 rfl) ?_
        refine kx_g F inX0 hW 9 i hi rfl rfl 9 (by decide) L_191 (v := .int (sg 9 i 9)) (by first | rfl | (simp only [kx_up_s]; done) | (simp only [kx_up_s, upd_s]; done) | (simp only [kx_up_s]; rfl) | (simp [kx_up, upd]; done)) dX3_settle_54 ?_
        refine lv_if_ne (tgt := 91) hx hb dX3_settle_57 (by decide) (fun c_57 => ?_) (fun c_57 => ?_)
        · refine lv_iload_n hx hb dX3_settle_91 rfl (lv_at hl 0 rfl) ?_
          refine lv_if_ne (tgt := 125) hx hb dX3_settle_92 (by decide) (fun c_92 => ?_) (fun c_92 => ?_)
          · have hdl : decide (tw_last (tw_st sg i n) (sg 11 i) n = 30) = true := tw_b_1 c_23
            have hA : tw_debA (decide (tw_last (tw_st sg i n) (sg 11 i) n = 30)) (upd (sg 9 i) 7 (tw_st sg i n), sg 4 0, sg 5 0) = (upd (sg 9 i) 7 (tw_st sg i n), sg 4 0, sg 5 0) := if_neg (fun h => h.2 c_30)
            have hB : tw_debB (decide (tw_last (tw_st sg i n) (sg 11 i) n = 30)) (tw_cour (tw_st sg i n) (sg 11 i) n) (upd (sg 9 i) 7 (tw_st sg i n), sg 4 0, sg 5 0) = (upd (sg 9 i) 7 (tw_st sg i n), sg 4 0, sg 5 0) := if_neg (fun h => c_57 h.2)
            have hC : tw_debC (decide (tw_last (tw_st sg i n) (sg 11 i) n = 30)) (upd (sg 9 i) 7 (tw_st sg i n), sg 4 0, sg 5 0) = (upd (sg 9 i) 7 (tw_st sg i n), sg 4 0, sg 5 0) := if_neg (fun h => by rw [hdl] at h; exact absurd h.1 (by decide))
            have hpost : tw_SR sg (kx_up (kx_up (kx_up sg 6 0 f6) 7 0 f7) 9 i (upd (sg 9 i) 7 (tw_st sg i n))) i (tw_stl sg i n) := by
              rw [tw_stl, tw_deb, hA, hB, hC]
              refine ⟨fun q m h4 h5 h6 h7 h9 => ?_, ?_, ?_, ?_⟩
              · simp [kx_up, h4, h5, h6, h7, h9]
              · simp [kx_up]
              · simp [kx_up]
              · simp [kx_up]
            exact kx_rv F hr hlocks hW hS (by first | exact Nat.le_of_ble_eq_true rfl | omega) (by first | exact Nat.le_of_ble_eq_true rfl | omega) (⟨rfl, hpost⟩) dX3_settle_125
          · exact absurd c_92 c_23
        · refine lv_aload_n hx hb dX3_settle_60 rfl (lv_at hl 2 rfl) ?_
          refine lv_iconst (v := 1) hx hb dX3_settle_61 (by decide) ?_
          refine kx_p F inX0 tyX0 tyX0_ok nmX0 hW hS 9 i hi rfl rfl 9 (by decide) L_191 rfl (v := .int 1) rfl rfl (Nat.le_of_ble_eq_true rfl) (upd ((kx_up (kx_up (kx_up sg 6 0 f6) 7 0 f7) 9 i (upd (sg 9 i) 7 (tw_st sg i n))) 9 i) 9 1) rfl dX3_settle_62 (fun H locs hW hS => ?_)
          have er9 : (kx_up (kx_up (kx_up sg 6 0 f6) 7 0 f7) 9 i (upd (sg 9 i) 7 (tw_st sg i n))) 9 i = upd (sg 9 i) 7 (tw_st sg i n) := by first | rfl | (simp only [kx_up_s]; done) | (simp [kx_up]; done)
          rw [er9] at hW
          rw [kx_up_up] at hW
          have hW : kx_Wd G z0 ad nb (kx_up (kx_up (kx_up sg 6 0 f6) 7 0 f7) 9 i (upd (upd (sg 9 i) 7 (tw_st sg i n)) 9 1)) H := hW
          refine lv_aload_n hx hb dX3_settle_65 rfl (lv_at hl 2 rfl) ?_
          refine lv_aload_n hx hb dX3_settle_66 rfl (lv_at hl 2 rfl) ?_
          refine kx_cV (na := 0) F (q := 9) (n := i) (c_X0_deliverer2 l G z0 ad nb (kx_up (kx_up (kx_up sg 6 0 f6) 7 0 f7) 9 i (upd (upd (sg 9 i) 7 (tw_st sg i n)) 9 1)) i hi n (by simp [kx_up, upd, hn]) h12 (tw_st sg i n) (sg 11 i) (by simp [kx_up, upd]) rfl) gX3_settle_X0_deliverer rfl (by decide +kernel) ⟨Nat.le_of_ble_eq_true rfl, Nat.le_of_ble_eq_true rfl⟩ hW hS hi rfl rfl (As := []) (rest := [.ref (ad 9 i)]) rfl hl.1 rfl (Nat.le_of_ble_eq_true rfl) dX3_settle_67 ⟨by first | exact Nat.le_of_ble_eq_true rfl | omega, by first | exact Nat.le_of_ble_eq_true rfl | omega⟩ (fun r9 sg9 H locs hq hW hS => ?_)
          obtain ⟨rfl, e9⟩ := hq
          rw [e9] at hW
          refine W.eq (g2 := F0 m 70 ls [.int (tw_cour (tw_st sg i n) (sg 11 i) n), .ref (ad 9 i)]) rfl ?_
          refine kx_p F inX0 tyX0 tyX0_ok nmX0 hW hS 9 i hi rfl rfl 10 (by decide) L_252 rfl (v := .int (tw_cour (tw_st sg i n) (sg 11 i) n)) rfl rfl (Nat.le_of_ble_eq_true rfl) (upd ((kx_up (kx_up (kx_up sg 6 0 f6) 7 0 f7) 9 i (upd (upd (sg 9 i) 7 (tw_st sg i n)) 9 1)) 9 i) 10 (tw_cour (tw_st sg i n) (sg 11 i) n)) rfl dX3_settle_70 (fun H locs hW hS => ?_)
          have er9 : (kx_up (kx_up (kx_up sg 6 0 f6) 7 0 f7) 9 i (upd (upd (sg 9 i) 7 (tw_st sg i n)) 9 1)) 9 i = upd (upd (sg 9 i) 7 (tw_st sg i n)) 9 1 := by first | rfl | (simp only [kx_up_s]; done) | (simp [kx_up]; done)
          rw [er9] at hW
          rw [kx_up_up] at hW
          have hW : kx_Wd G z0 ad nb (kx_up (kx_up (kx_up sg 6 0 f6) 7 0 f7) 9 i (upd (upd (upd (sg 9 i) 7 (tw_st sg i n)) 9 1) 10 (tw_cour (tw_st sg i n) (sg 11 i) n))) H := hW
          refine lv_aload_n hx hb dX3_settle_73 rfl (lv_at hl 1 rfl) ?_
          refine kx_g F inX3 hW 0 0 ⟨by decide, rfl⟩ rfl rfl 3 (by decide) L_28 (v := .ref (ad 4 0)) rfl dX3_settle_74 ?_
          refine lv_aload_n hx hb dX3_settle_77 rfl (lv_at hl 2 rfl) ?_
          refine kx_g F inX0 hW 9 i hi rfl rfl 10 (by decide) L_252 (v := .int (tw_cour (tw_st sg i n) (sg 11 i) n)) (by first | rfl | (simp only [kx_up_s]; done) | (simp only [kx_up_s, upd_s]; done) | (simp only [kx_up_s]; rfl) | (simp [kx_up, upd]; done)) dX3_settle_78 ?_
          refine lv_bipush (v := 10) hx hb dX3_settle_81 (by decide) ?_
          refine lv_aload_n hx hb dX3_settle_83 rfl (lv_at hl 2 rfl) ?_
          refine kx_g F inX0 hW 9 i hi rfl rfl 0 (by decide) L_107 (v := .int (sg 9 i 0)) (by first | rfl | (simp only [kx_up_s]; done) | (simp only [kx_up_s, upd_s]; done) | (simp only [kx_up_s]; rfl) | (simp [kx_up, upd]; done)) dX3_settle_84 ?_
          refine lv_imul hx hb dX3_settle_87 ?_
          refine kx_cV (na := 2) F (q := 4) (n := 0) (c_X2_writeFee l G z0 ad nb (kx_up (kx_up (kx_up sg 6 0 f6) 7 0 f7) 9 i (upd (upd (upd (sg 9 i) 7 (tw_st sg i n)) 9 1) 10 (tw_cour (tw_st sg i n) (sg 11 i) n))) (tw_cour (tw_st sg i n) (sg 11 i) n) (10 * (sg 9 i 0))) gX3_settle_X2_writeFee rfl (by decide +kernel) ⟨Nat.le_of_ble_eq_true rfl, Nat.le_of_ble_eq_true rfl⟩ hW hS ⟨by decide, rfl⟩ rfl rfl (As := [.int (tw_cour (tw_st sg i n) (sg 11 i) n), .int (10 * (sg 9 i 0))]) (rest := []) rfl hl.1 rfl (Nat.le_of_ble_eq_true rfl) dX3_settle_88 ⟨by first | exact Nat.le_of_ble_eq_true rfl | omega, by first | exact Nat.le_of_ble_eq_true rfl | omega⟩ (fun r9 sg9 H locs hq hW hS => ?_)
          obtain ⟨rfl, e9⟩ := hq
          rw [e9] at hW
          have hW : kx_Wd G z0 ad nb (kx_up (kx_up (kx_up (kx_up (kx_up sg 6 0 f6) 7 0 f7) 9 i (upd (upd (upd (sg 9 i) 7 (tw_st sg i n)) 9 1) 10 (tw_cour (tw_st sg i n) (sg 11 i) n))) 5 0 (tw_fee (sg 5 0) (tw_cour (tw_st sg i n) (sg 11 i) n) (10 * (sg 9 i 0)))) 4 0 (tw_note (sg 4 0))) H := by first | exact hW | (simp only [kx_up_s, kx_up_up] at hW; exact hW) | (simp only [kx_up_s, kx_up_up, upd_s] at hW; exact hW)
          refine W.eq (g2 := F0 m 91 ls []) rfl ?_
          refine lv_iload_n hx hb dX3_settle_91 rfl (lv_at hl 0 rfl) ?_
          refine lv_if_ne (tgt := 125) hx hb dX3_settle_92 (by decide) (fun c_92 => ?_) (fun c_92 => ?_)
          · have hdl : decide (tw_last (tw_st sg i n) (sg 11 i) n = 30) = true := tw_b_1 c_23
            have hA : tw_debA (decide (tw_last (tw_st sg i n) (sg 11 i) n = 30)) (upd (sg 9 i) 7 (tw_st sg i n), sg 4 0, sg 5 0) = (upd (sg 9 i) 7 (tw_st sg i n), sg 4 0, sg 5 0) := if_neg (fun h => h.2 c_30)
            have hB : tw_debB (decide (tw_last (tw_st sg i n) (sg 11 i) n = 30)) (tw_cour (tw_st sg i n) (sg 11 i) n) (upd (sg 9 i) 7 (tw_st sg i n), sg 4 0, sg 5 0) = (upd (upd (upd (sg 9 i) 7 (tw_st sg i n)) 9 1) 10 (tw_cour (tw_st sg i n) (sg 11 i) n), tw_note (sg 4 0), tw_fee (sg 5 0) (tw_cour (tw_st sg i n) (sg 11 i) n) (10 * sg 9 i 0)) := if_pos ⟨hdl, c_57⟩
            have hC : tw_debC (decide (tw_last (tw_st sg i n) (sg 11 i) n = 30)) (upd (upd (upd (sg 9 i) 7 (tw_st sg i n)) 9 1) 10 (tw_cour (tw_st sg i n) (sg 11 i) n), tw_note (sg 4 0), tw_fee (sg 5 0) (tw_cour (tw_st sg i n) (sg 11 i) n) (10 * sg 9 i 0)) = (upd (upd (upd (sg 9 i) 7 (tw_st sg i n)) 9 1) 10 (tw_cour (tw_st sg i n) (sg 11 i) n), tw_note (sg 4 0), tw_fee (sg 5 0) (tw_cour (tw_st sg i n) (sg 11 i) n) (10 * sg 9 i 0)) := if_neg (fun h => by rw [hdl] at h; exact absurd h.1 (by decide))
            have hpost : tw_SR sg (kx_up (kx_up (kx_up (kx_up (kx_up sg 6 0 f6) 7 0 f7) 9 i (upd (upd (upd (sg 9 i) 7 (tw_st sg i n)) 9 1) 10 (tw_cour (tw_st sg i n) (sg 11 i) n))) 5 0 (tw_fee (sg 5 0) (tw_cour (tw_st sg i n) (sg 11 i) n) (10 * (sg 9 i 0)))) 4 0 (tw_note (sg 4 0))) i (tw_stl sg i n) := by
              rw [tw_stl, tw_deb, hA, hB, hC]
              refine ⟨fun q m h4 h5 h6 h7 h9 => ?_, ?_, ?_, ?_⟩
              · simp [kx_up, h4, h5, h6, h7, h9]
              · simp [kx_up]
              · simp [kx_up]
              · simp [kx_up]
            exact kx_rv F hr hlocks hW hS (by first | exact Nat.le_of_ble_eq_true rfl | omega) (by first | exact Nat.le_of_ble_eq_true rfl | omega) (⟨rfl, hpost⟩) dX3_settle_125
          · exact absurd c_92 c_23
    · refine lv_aload_n hx hb dX3_settle_33 rfl (lv_at hl 2 rfl) ?_
      refine lv_iconst (v := 0) hx hb dX3_settle_34 (by decide) ?_
      refine kx_p F inX0 tyX0 tyX0_ok nmX0 hW hS 9 i hi rfl rfl 8 (by decide) L_156 rfl (v := .int 0) rfl rfl (Nat.le_of_ble_eq_true rfl) (upd ((kx_up (kx_up (kx_up sg 6 0 f6) 7 0 f7) 9 i (upd (sg 9 i) 7 (tw_st sg i n))) 9 i) 8 0) rfl dX3_settle_35 (fun H locs hW hS => ?_)
      have er9 : (kx_up (kx_up (kx_up sg 6 0 f6) 7 0 f7) 9 i (upd (sg 9 i) 7 (tw_st sg i n))) 9 i = upd (sg 9 i) 7 (tw_st sg i n) := by first | rfl | (simp only [kx_up_s]; done) | (simp [kx_up]; done)
      rw [er9] at hW
      rw [kx_up_up] at hW
      have hW : kx_Wd G z0 ad nb (kx_up (kx_up (kx_up sg 6 0 f6) 7 0 f7) 9 i (upd (upd (sg 9 i) 7 (tw_st sg i n)) 8 0)) H := hW
      refine lv_aload_n hx hb dX3_settle_38 rfl (lv_at hl 1 rfl) ?_
      refine kx_g F inX3 hW 0 0 ⟨by decide, rfl⟩ rfl rfl 3 (by decide) L_28 (v := .ref (ad 4 0)) rfl dX3_settle_39 ?_
      refine lv_aload_n hx hb dX3_settle_42 rfl (lv_at hl 2 rfl) ?_
      refine kx_g F inX0 hW 9 i hi rfl rfl 1 (by decide) L_165 (v := .int (sg 9 i 1)) (by first | rfl | (simp only [kx_up_s]; done) | (simp only [kx_up_s, upd_s]; done) | (simp only [kx_up_s]; rfl) | (simp [kx_up, upd]; done)) dX3_settle_43 ?_
      refine kx_cV (na := 1) F (q := 4) (n := 0) (c_X2_claimBack l G z0 ad nb (kx_up (kx_up (kx_up sg 6 0 f6) 7 0 f7) 9 i (upd (upd (sg 9 i) 7 (tw_st sg i n)) 8 0)) (sg 9 i 1)) gX3_settle_X2_claimBack rfl (by decide +kernel) ⟨Nat.le_of_ble_eq_true rfl, Nat.le_of_ble_eq_true rfl⟩ hW hS ⟨by decide, rfl⟩ rfl rfl (As := [.int (sg 9 i 1)]) (rest := []) rfl hl.1 rfl (Nat.le_of_ble_eq_true rfl) dX3_settle_46 ⟨by first | exact Nat.le_of_ble_eq_true rfl | omega, by first | exact Nat.le_of_ble_eq_true rfl | omega⟩ (fun r9 sg9 H locs hq hW hS => ?_)
      obtain ⟨rfl, e9⟩ := hq
      rw [e9] at hW
      have hW : kx_Wd G z0 ad nb (kx_up (kx_up (kx_up (kx_up sg 6 0 f6) 7 0 f7) 9 i (upd (upd (sg 9 i) 7 (tw_st sg i n)) 8 0)) 4 0 (tw_back (sg 4 0) (sg 9 i 1))) H := by first | exact hW | (simp only [kx_up_s, kx_up_up] at hW; exact hW) | (simp only [kx_up_s, kx_up_up, upd_s] at hW; exact hW)
      refine W.eq (g2 := F0 m 49 ls []) rfl ?_
      refine lv_iload_n hx hb dX3_settle_49 rfl (lv_at hl 0 rfl) ?_
      refine lv_if_eq (tgt := 91) hx hb dX3_settle_50 (by decide) (fun c_50 => ?_) (fun c_50 => ?_)
      · exact absurd c_50 c_23
      · refine lv_aload_n hx hb dX3_settle_53 rfl (lv_at hl 2 rfl) ?_
        refine kx_g F inX0 hW 9 i hi rfl rfl 9 (by decide) L_191 (v := .int (sg 9 i 9)) (by first | rfl | (simp only [kx_up_s]; done) | (simp only [kx_up_s, upd_s]; done) | (simp only [kx_up_s]; rfl) | (simp [kx_up, upd]; done)) dX3_settle_54 ?_
        refine lv_if_ne (tgt := 91) hx hb dX3_settle_57 (by decide) (fun c_57 => ?_) (fun c_57 => ?_)
        · refine lv_iload_n hx hb dX3_settle_91 rfl (lv_at hl 0 rfl) ?_
          refine lv_if_ne (tgt := 125) hx hb dX3_settle_92 (by decide) (fun c_92 => ?_) (fun c_92 => ?_)
          · have hdl : decide (tw_last (tw_st sg i n) (sg 11 i) n = 30) = true := tw_b_1 c_23
            have hA : tw_debA (decide (tw_last (tw_st sg i n) (sg 11 i) n = 30)) (upd (sg 9 i) 7 (tw_st sg i n), sg 4 0, sg 5 0) = (upd (upd (sg 9 i) 7 (tw_st sg i n)) 8 0, tw_back (sg 4 0) (sg 9 i 1), sg 5 0) := if_pos ⟨hdl, c_30⟩
            have hB : tw_debB (decide (tw_last (tw_st sg i n) (sg 11 i) n = 30)) (tw_cour (tw_st sg i n) (sg 11 i) n) (upd (upd (sg 9 i) 7 (tw_st sg i n)) 8 0, tw_back (sg 4 0) (sg 9 i 1), sg 5 0) = (upd (upd (sg 9 i) 7 (tw_st sg i n)) 8 0, tw_back (sg 4 0) (sg 9 i 1), sg 5 0) := if_neg (fun h => c_57 h.2)
            have hC : tw_debC (decide (tw_last (tw_st sg i n) (sg 11 i) n = 30)) (upd (upd (sg 9 i) 7 (tw_st sg i n)) 8 0, tw_back (sg 4 0) (sg 9 i 1), sg 5 0) = (upd (upd (sg 9 i) 7 (tw_st sg i n)) 8 0, tw_back (sg 4 0) (sg 9 i 1), sg 5 0) := if_neg (fun h => by rw [hdl] at h; exact absurd h.1 (by decide))
            have hpost : tw_SR sg (kx_up (kx_up (kx_up (kx_up sg 6 0 f6) 7 0 f7) 9 i (upd (upd (sg 9 i) 7 (tw_st sg i n)) 8 0)) 4 0 (tw_back (sg 4 0) (sg 9 i 1))) i (tw_stl sg i n) := by
              rw [tw_stl, tw_deb, hA, hB, hC]
              refine ⟨fun q m h4 h5 h6 h7 h9 => ?_, ?_, ?_, ?_⟩
              · simp [kx_up, h4, h5, h6, h7, h9]
              · simp [kx_up]
              · simp [kx_up]
              · simp [kx_up]
            exact kx_rv F hr hlocks hW hS (by first | exact Nat.le_of_ble_eq_true rfl | omega) (by first | exact Nat.le_of_ble_eq_true rfl | omega) (⟨rfl, hpost⟩) dX3_settle_125
          · exact absurd c_92 c_23
        · refine lv_aload_n hx hb dX3_settle_60 rfl (lv_at hl 2 rfl) ?_
          refine lv_iconst (v := 1) hx hb dX3_settle_61 (by decide) ?_
          refine kx_p F inX0 tyX0 tyX0_ok nmX0 hW hS 9 i hi rfl rfl 9 (by decide) L_191 rfl (v := .int 1) rfl rfl (Nat.le_of_ble_eq_true rfl) (upd ((kx_up (kx_up (kx_up (kx_up sg 6 0 f6) 7 0 f7) 9 i (upd (upd (sg 9 i) 7 (tw_st sg i n)) 8 0)) 4 0 (tw_back (sg 4 0) (sg 9 i 1))) 9 i) 9 1) rfl dX3_settle_62 (fun H locs hW hS => ?_)
          have er9 : (kx_up (kx_up (kx_up (kx_up sg 6 0 f6) 7 0 f7) 9 i (upd (upd (sg 9 i) 7 (tw_st sg i n)) 8 0)) 4 0 (tw_back (sg 4 0) (sg 9 i 1))) 9 i = upd (upd (sg 9 i) 7 (tw_st sg i n)) 8 0 := by first | rfl | (simp only [kx_up_s]; done) | (simp [kx_up]; done)
          rw [er9] at hW
          have hW : kx_Wd G z0 ad nb (kx_up (kx_up (kx_up (kx_up (kx_up sg 6 0 f6) 7 0 f7) 9 i (upd (upd (sg 9 i) 7 (tw_st sg i n)) 8 0)) 4 0 (tw_back (sg 4 0) (sg 9 i 1))) 9 i (upd (upd (upd (sg 9 i) 7 (tw_st sg i n)) 8 0) 9 1)) H := hW
          refine lv_aload_n hx hb dX3_settle_65 rfl (lv_at hl 2 rfl) ?_
          refine lv_aload_n hx hb dX3_settle_66 rfl (lv_at hl 2 rfl) ?_
          refine kx_cV (na := 0) F (q := 9) (n := i) (c_X0_deliverer2 l G z0 ad nb (kx_up (kx_up (kx_up (kx_up (kx_up sg 6 0 f6) 7 0 f7) 9 i (upd (upd (sg 9 i) 7 (tw_st sg i n)) 8 0)) 4 0 (tw_back (sg 4 0) (sg 9 i 1))) 9 i (upd (upd (upd (sg 9 i) 7 (tw_st sg i n)) 8 0) 9 1)) i hi n (by simp [kx_up, upd, hn]) h12 (tw_st sg i n) (sg 11 i) (by simp [kx_up, upd]) rfl) gX3_settle_X0_deliverer rfl (by decide +kernel) ⟨Nat.le_of_ble_eq_true rfl, Nat.le_of_ble_eq_true rfl⟩ hW hS hi rfl rfl (As := []) (rest := [.ref (ad 9 i)]) rfl hl.1 rfl (Nat.le_of_ble_eq_true rfl) dX3_settle_67 ⟨by first | exact Nat.le_of_ble_eq_true rfl | omega, by first | exact Nat.le_of_ble_eq_true rfl | omega⟩ (fun r9 sg9 H locs hq hW hS => ?_)
          obtain ⟨rfl, e9⟩ := hq
          rw [e9] at hW
          refine W.eq (g2 := F0 m 70 ls [.int (tw_cour (tw_st sg i n) (sg 11 i) n), .ref (ad 9 i)]) rfl ?_
          refine kx_p F inX0 tyX0 tyX0_ok nmX0 hW hS 9 i hi rfl rfl 10 (by decide) L_252 rfl (v := .int (tw_cour (tw_st sg i n) (sg 11 i) n)) rfl rfl (Nat.le_of_ble_eq_true rfl) (upd ((kx_up (kx_up (kx_up (kx_up (kx_up sg 6 0 f6) 7 0 f7) 9 i (upd (upd (sg 9 i) 7 (tw_st sg i n)) 8 0)) 4 0 (tw_back (sg 4 0) (sg 9 i 1))) 9 i (upd (upd (upd (sg 9 i) 7 (tw_st sg i n)) 8 0) 9 1)) 9 i) 10 (tw_cour (tw_st sg i n) (sg 11 i) n)) rfl dX3_settle_70 (fun H locs hW hS => ?_)
          have er9 : (kx_up (kx_up (kx_up (kx_up (kx_up sg 6 0 f6) 7 0 f7) 9 i (upd (upd (sg 9 i) 7 (tw_st sg i n)) 8 0)) 4 0 (tw_back (sg 4 0) (sg 9 i 1))) 9 i (upd (upd (upd (sg 9 i) 7 (tw_st sg i n)) 8 0) 9 1)) 9 i = upd (upd (upd (sg 9 i) 7 (tw_st sg i n)) 8 0) 9 1 := by first | rfl | (simp only [kx_up_s]; done) | (simp [kx_up]; done)
          rw [er9] at hW
          rw [kx_up_up] at hW
          have hW : kx_Wd G z0 ad nb (kx_up (kx_up (kx_up (kx_up (kx_up sg 6 0 f6) 7 0 f7) 9 i (upd (upd (sg 9 i) 7 (tw_st sg i n)) 8 0)) 4 0 (tw_back (sg 4 0) (sg 9 i 1))) 9 i (upd (upd (upd (upd (sg 9 i) 7 (tw_st sg i n)) 8 0) 9 1) 10 (tw_cour (tw_st sg i n) (sg 11 i) n))) H := hW
          refine lv_aload_n hx hb dX3_settle_73 rfl (lv_at hl 1 rfl) ?_
          refine kx_g F inX3 hW 0 0 ⟨by decide, rfl⟩ rfl rfl 3 (by decide) L_28 (v := .ref (ad 4 0)) rfl dX3_settle_74 ?_
          refine lv_aload_n hx hb dX3_settle_77 rfl (lv_at hl 2 rfl) ?_
          refine kx_g F inX0 hW 9 i hi rfl rfl 10 (by decide) L_252 (v := .int (tw_cour (tw_st sg i n) (sg 11 i) n)) (by first | rfl | (simp only [kx_up_s]; done) | (simp only [kx_up_s, upd_s]; done) | (simp only [kx_up_s]; rfl) | (simp [kx_up, upd]; done)) dX3_settle_78 ?_
          refine lv_bipush (v := 10) hx hb dX3_settle_81 (by decide) ?_
          refine lv_aload_n hx hb dX3_settle_83 rfl (lv_at hl 2 rfl) ?_
          refine kx_g F inX0 hW 9 i hi rfl rfl 0 (by decide) L_107 (v := .int (sg 9 i 0)) (by first | rfl | (simp only [kx_up_s]; done) | (simp only [kx_up_s, upd_s]; done) | (simp only [kx_up_s]; rfl) | (simp [kx_up, upd]; done)) dX3_settle_84 ?_
          refine lv_imul hx hb dX3_settle_87 ?_
          refine kx_cV (na := 2) F (q := 4) (n := 0) (c_X2_writeFee l G z0 ad nb (kx_up (kx_up (kx_up (kx_up (kx_up sg 6 0 f6) 7 0 f7) 9 i (upd (upd (sg 9 i) 7 (tw_st sg i n)) 8 0)) 4 0 (tw_back (sg 4 0) (sg 9 i 1))) 9 i (upd (upd (upd (upd (sg 9 i) 7 (tw_st sg i n)) 8 0) 9 1) 10 (tw_cour (tw_st sg i n) (sg 11 i) n))) (tw_cour (tw_st sg i n) (sg 11 i) n) (10 * (sg 9 i 0))) gX3_settle_X2_writeFee rfl (by decide +kernel) ⟨Nat.le_of_ble_eq_true rfl, Nat.le_of_ble_eq_true rfl⟩ hW hS ⟨by decide, rfl⟩ rfl rfl (As := [.int (tw_cour (tw_st sg i n) (sg 11 i) n), .int (10 * (sg 9 i 0))]) (rest := []) rfl hl.1 rfl (Nat.le_of_ble_eq_true rfl) dX3_settle_88 ⟨by first | exact Nat.le_of_ble_eq_true rfl | omega, by first | exact Nat.le_of_ble_eq_true rfl | omega⟩ (fun r9 sg9 H locs hq hW hS => ?_)
          obtain ⟨rfl, e9⟩ := hq
          rw [e9] at hW
          have hW : kx_Wd G z0 ad nb (kx_up (kx_up (kx_up (kx_up (kx_up (kx_up (kx_up sg 6 0 f6) 7 0 f7) 9 i (upd (upd (sg 9 i) 7 (tw_st sg i n)) 8 0)) 4 0 (tw_back (sg 4 0) (sg 9 i 1))) 9 i (upd (upd (upd (upd (sg 9 i) 7 (tw_st sg i n)) 8 0) 9 1) 10 (tw_cour (tw_st sg i n) (sg 11 i) n))) 5 0 (tw_fee (sg 5 0) (tw_cour (tw_st sg i n) (sg 11 i) n) (10 * (sg 9 i 0)))) 4 0 (tw_note (tw_back (sg 4 0) (sg 9 i 1)))) H := by first | exact hW | (simp only [kx_up_s, kx_up_up] at hW; exact hW) | (simp only [kx_up_s, kx_up_up, upd_s] at hW; exact hW)
          refine W.eq (g2 := F0 m 91 ls []) rfl ?_
          refine lv_iload_n hx hb dX3_settle_91 rfl (lv_at hl 0 rfl) ?_
          refine lv_if_ne (tgt := 125) hx hb dX3_settle_92 (by decide) (fun c_92 => ?_) (fun c_92 => ?_)
          · have hdl : decide (tw_last (tw_st sg i n) (sg 11 i) n = 30) = true := tw_b_1 c_23
            have hA : tw_debA (decide (tw_last (tw_st sg i n) (sg 11 i) n = 30)) (upd (sg 9 i) 7 (tw_st sg i n), sg 4 0, sg 5 0) = (upd (upd (sg 9 i) 7 (tw_st sg i n)) 8 0, tw_back (sg 4 0) (sg 9 i 1), sg 5 0) := if_pos ⟨hdl, c_30⟩
            have hB : tw_debB (decide (tw_last (tw_st sg i n) (sg 11 i) n = 30)) (tw_cour (tw_st sg i n) (sg 11 i) n) (upd (upd (sg 9 i) 7 (tw_st sg i n)) 8 0, tw_back (sg 4 0) (sg 9 i 1), sg 5 0) = (upd (upd (upd (upd (sg 9 i) 7 (tw_st sg i n)) 8 0) 9 1) 10 (tw_cour (tw_st sg i n) (sg 11 i) n), tw_note (tw_back (sg 4 0) (sg 9 i 1)), tw_fee (sg 5 0) (tw_cour (tw_st sg i n) (sg 11 i) n) (10 * sg 9 i 0)) := if_pos ⟨hdl, c_57⟩
            have hC : tw_debC (decide (tw_last (tw_st sg i n) (sg 11 i) n = 30)) (upd (upd (upd (upd (sg 9 i) 7 (tw_st sg i n)) 8 0) 9 1) 10 (tw_cour (tw_st sg i n) (sg 11 i) n), tw_note (tw_back (sg 4 0) (sg 9 i 1)), tw_fee (sg 5 0) (tw_cour (tw_st sg i n) (sg 11 i) n) (10 * sg 9 i 0)) = (upd (upd (upd (upd (sg 9 i) 7 (tw_st sg i n)) 8 0) 9 1) 10 (tw_cour (tw_st sg i n) (sg 11 i) n), tw_note (tw_back (sg 4 0) (sg 9 i 1)), tw_fee (sg 5 0) (tw_cour (tw_st sg i n) (sg 11 i) n) (10 * sg 9 i 0)) := if_neg (fun h => by rw [hdl] at h; exact absurd h.1 (by decide))
            have hpost : tw_SR sg (kx_up (kx_up (kx_up (kx_up (kx_up (kx_up (kx_up sg 6 0 f6) 7 0 f7) 9 i (upd (upd (sg 9 i) 7 (tw_st sg i n)) 8 0)) 4 0 (tw_back (sg 4 0) (sg 9 i 1))) 9 i (upd (upd (upd (upd (sg 9 i) 7 (tw_st sg i n)) 8 0) 9 1) 10 (tw_cour (tw_st sg i n) (sg 11 i) n))) 5 0 (tw_fee (sg 5 0) (tw_cour (tw_st sg i n) (sg 11 i) n) (10 * (sg 9 i 0)))) 4 0 (tw_note (tw_back (sg 4 0) (sg 9 i 1)))) i (tw_stl sg i n) := by
              rw [tw_stl, tw_deb, hA, hB, hC]
              refine ⟨fun q m h4 h5 h6 h7 h9 => ?_, ?_, ?_, ?_⟩
              · simp [kx_up, h4, h5, h6, h7, h9]
              · simp [kx_up]
              · simp [kx_up]
              · simp [kx_up]
            exact kx_rv F hr hlocks hW hS (by first | exact Nat.le_of_ble_eq_true rfl | omega) (by first | exact Nat.le_of_ble_eq_true rfl | omega) (⟨rfl, hpost⟩) dX3_settle_125
          · exact absurd c_92 c_23
end
section
theorem tw_in_nI2 {x : Int32} {n : Nat} (hn : n < 2 ^ 30) (h0 : ¬ x < 0) (h1 : x < nI n) : ∃ k : Nat, k < n ∧ x = nI k := by
  obtain ⟨j, hj, rfl⟩ := nI_of h0
  refine ⟨j, ?_, rfl⟩
  rcases Nat.lt_or_ge j n with q | q
  · exact q
  · exact absurd h1 (nI_nlt q hj)
def tw_pt (c w : Int32) : Int32 := if w = 0 then 1 + c else if w = 1 then 0 else 30
/-- well kept: every box has at most twelve scans, their makers are known, trust is from 1 to 9 -/
def tw_WF (nb : Nat) (sg : kx_S) : Prop := (∀ i, i < nb → ∃ n : Nat, sg 9 i 6 = nI n ∧ n ≤ 12 ∧ ∀ k, k < n → ∃ j : Nat, j ≤ 14 ∧ sg 12 i k = nI j) ∧ ∀ w, w < 14 → 1 ≤ (sg 3 0 w).toInt ∧ (sg 3 0 w).toInt ≤ 9
def tw_St (sg : kx_S) (i : Nat) (sg' : kx_S) : Prop := ∃ n : Nat, sg 9 i 6 = nI n ∧ n ≤ 12 ∧ tw_SR sg sg' i (tw_stl sg i n)
def tw_SA : Nat → kx_S → kx_S → Prop
  | 0, s, s' => s' = s
  | k + 1, s, s' => ∃ s1, tw_SA k s s1 ∧ tw_St s1 k s'
theorem tw_stl_6 (sg : kx_S) (i n : Nat) : (tw_stl sg i n).1 6 = sg 9 i 6 := by
  have hA : ∀ (dl : Bool) (x : tw_R), (tw_debA dl x).1 6 = x.1 6 := by
    intro dl x; unfold tw_debA; split
    · simp [upd]
    · rfl
  have hB : ∀ (dl : Bool) (co : Int32) (x : tw_R), (tw_debB dl co x).1 6 = x.1 6 := by
    intro dl co x; unfold tw_debB; split
    · simp [upd]
    · rfl
  have hC : ∀ (dl : Bool) (x : tw_R), (tw_debC dl x).1 6 = x.1 6 := by
    intro dl x; unfold tw_debC; split
    · simp [upd]
    · rfl
  unfold tw_stl tw_deb
  rw [hC, hB, hA]
  simp [upd]
theorem tw_WF_St {nb : Nat} {sg sg' : kx_S} {i : Nat} (h : tw_WF nb sg) (hs : tw_St sg i sg') : tw_WF nb sg' := by
  obtain ⟨n, hn, h12, hS, h9, h4, h5⟩ := hs
  have e12 : ∀ m, sg' 12 m = sg 12 m := fun m => hS 12 m (by decide) (by decide) (by decide) (by decide) (by omega)
  have e3 : ∀ m, sg' 3 m = sg 3 m := fun m => hS 3 m (by decide) (by decide) (by decide) (by decide) (by omega)
  refine ⟨fun j hj => ?_, fun w hw => by rw [e3]; exact h.2 w hw⟩
  obtain ⟨n2, q1, q2, q3⟩ := h.1 j hj
  refine ⟨n2, ?_, q2, fun k hk => by rw [e12]; exact q3 k hk⟩
  by_cases e : j = i
  · subst e
    rw [h9, tw_stl_6]
    exact q1
  · rw [hS 9 j (by decide) (by decide) (by decide) (by decide) (fun z => e z.2)]
    exact q1
theorem tw_WF_SA {nb : Nat} : ∀ {k : Nat} {sg sg' : kx_S}, tw_WF nb sg → tw_SA k sg sg' → tw_WF nb sg' := by
  intro k
  induction k with
  | zero => intro sg sg' h hs; rw [show sg' = sg from hs]; exact h
  | succ k ih =>
    intro sg sg' h hs
    obtain ⟨s1, h1, h2⟩ := hs
    exact tw_WF_St (ih h h1) h2

set_option maxHeartbeats 4000000 in
set_option maxRecDepth 100000 in
/-- all boxes, by rising numbers -/
theorem c_X3_settleAll (l : Launch) (G : kx_G) (z0 : Nat) (ad : kx_A) (nb : Nat) (sg : kx_S) (hnb : nb ≤ 16) (hwf : tw_WF nb sg) : kx_M l yX3_settleAll wsX3_settleAll 4 87 0 0 G z0 ad nb sg [.ref (ad 0 0)] (fun r sg' => r = none ∧ tw_SA nb sg sg') := by
  refine Met.ofW (cc := cX3_settleAll) (maxL := 5) (ret := none) (by decide) rfl ?_
  intro p e s m args below meth c s₁ B hml hv
  obtain ⟨rfl, hW, hV⟩ := hv
  have hts := atoms_spec (ws := wsX3_settleAll) B.pre
  have F : kx_F p s m c cX3_settleAll 5 RX3 _ wsX3_settleAll G z0 := ⟨B.exec, B.bytes, hml, findClass_of_methodNamed B.named, hts, hV⟩
  have hx := B.exec; have hb := B.bytes; have hr := B.returns; have hlocks := B.notSynchronized
  have hS : va_S (kx_Ad z0) s.heap s.heap [] := va_S.rf
  have L_11 : Cond.fieldLink RX3 11 (TX3 0).1 (TX3 0).2.1 (TX3 0).2.2.1 ∈ wsX3_settleAll := by decide +kernel
  have inX3 : ∀ w ∈ u_ws RX3 TX3 9, w ∈ wsX3_settleAll := by decide +kernel
  have hl := lv_entry ([.ref (ad 0 0)]) (n := 5) (Nat.le_of_ble_eq_true rfl)
  rw [lg_entry_eq]
  generalize (lg_sl ([.ref (ad 0 0)]) ++ List.replicate (5 - (lg_sl ([.ref (ad 0 0)])).length) Slot.unset).toArray = ls at hl ⊢
  have hl : lv_has ls 5 [(0, .ref (ad 0 0))] := hl
  have loop : ∀ (j k : Nat) (s1 : kx_S), 16 = k + j → tw_SA (min k nb) sg s1 → tw_WF nb s1 → ∀ (H : Heap) (locs : List Loc) (ls : Array Slot), kx_Wd G z0 ad nb s1 H → va_S (kx_Ad z0) s.heap H locs → lv_has ls 5 [(3, .int (nI k)), (2, .int (nI 16)), (1, .ref (ad 1 0)), (0, .ref (ad 0 0))] → W p l e (headSpec wsX3_settleAll { frames := 4, cells := 0, slots := 0, locals := 87 }).room s m ([.ref (ad 0 0)] : List Value).toArray below meth c H locs 0 0 (MQ below (kx_Q G z0 ad nb (fun r sg' => r = none ∧ tw_SA nb sg sg')) ([.ref (ad 0 0)] : List Value).toArray s 0 0 (kx_Ad z0)) (F0 m 10 ls []) := by
    intro j
    induction j with
    | zero =>
      intro k s1 hk hL hw1 H locs ls hW hS hl
      refine lv_iload_n hx hb dX3_settleAll_10 rfl (lv_at hl 0 rfl) ?_
      refine lv_iload_n hx hb dX3_settleAll_11 rfl (lv_at hl 1 rfl) ?_
      refine lv_icmp_ge (tgt := 37) hx hb dX3_settleAll_12 (by decide) (fun c_12 => ?_) (fun c_12 => ?_)
      · exact kx_rv F hr hlocks hW hS (by first | exact Nat.le_of_ble_eq_true rfl | omega) (by first | exact Nat.le_of_ble_eq_true rfl | omega) (⟨rfl, by rw [show min k nb = nb by omega] at hL; exact hL⟩) dX3_settleAll_37
      · exact absurd (nI_le (by omega) (by omega)) c_12
    | succ j ih =>
      intro k s1 hk hL hw1 H locs ls hW hS hl
      refine lv_iload_n hx hb dX3_settleAll_10 rfl (lv_at hl 0 rfl) ?_
      refine lv_iload_n hx hb dX3_settleAll_11 rfl (lv_at hl 1 rfl) ?_
      refine lv_icmp_ge (tgt := 37) hx hb dX3_settleAll_12 (by decide) (fun c_12 => ?_) (fun c_12 => ?_)
      · exact absurd c_12 (nI_ge (by omega) (by omega))
      · refine lv_aload_n hx hb dX3_settleAll_15 rfl (lv_at hl 2 rfl) ?_
        refine lv_iload_n hx hb dX3_settleAll_16 rfl (lv_at hl 0 rfl) ?_
        refine kx_aaldB F hW k (by omega) dX3_settleAll_17 (fun b_17 => ?_) (fun b_17 => ?_)
        · refine lv_astore (lv' := [(4, .ref (ad 9 k)), (3, .int (nI k)), (2, .int (nI 16)), (1, .ref (ad 1 0)), (0, .ref (ad 0 0))]) hx hb dX3_settleAll_18 hl (by decide) rfl (fun ls hl => ?_)
          refine lv_aload hx hb dX3_settleAll_20 (lv_at hl 0 rfl) ?_
          refine lv_ifnull hx hb dX3_settleAll_22 ?_
          obtain ⟨n9, hn9, h129, hm9⟩ := hw1.1 k b_17
          refine lv_aload_n hx hb dX3_settleAll_25 rfl (lv_at hl 4 rfl) ?_
          refine lv_aload hx hb dX3_settleAll_26 (lv_at hl 0 rfl) ?_
          refine kx_cV (na := 1) F (q := 0) (n := 0) (c_X3_settle l G z0 ad nb s1 k b_17 n9 hn9 h129 hm9 hw1.2) gX3_settleAll_X3_settle rfl (by decide +kernel) ⟨Nat.le_of_ble_eq_true rfl, Nat.le_of_ble_eq_true rfl⟩ hW hS ⟨by decide, rfl⟩ rfl rfl (As := [.ref (ad 9 k)]) (rest := []) rfl hl.1 rfl (Nat.le_of_ble_eq_true rfl) dX3_settleAll_28 ⟨by first | exact Nat.le_of_ble_eq_true rfl | omega, by first | exact Nat.le_of_ble_eq_true rfl | omega⟩ (fun r9 sg9 H locs hq hW hS => ?_)
          obtain ⟨rfl, hsr9⟩ := hq
          have hW : kx_Wd G z0 ad nb (sg9) H := by first | exact hW | (simp only [kx_up_s, kx_up_up] at hW; exact hW) | (simp only [kx_up_s, kx_up_up, upd_s] at hW; exact hW)
          refine W.eq (g2 := F0 m 31 ls []) rfl ?_
          refine lv_iinc (v := nI (k + 1)) (lv' := [(3, .int (nI (k + 1))), (4, .ref (ad 9 k)), (2, .int (nI 16)), (1, .ref (ad 1 0)), (0, .ref (ad 0 0))]) hx hb dX3_settleAll_31 hl (k := 1) rfl (nI_1 k) (by decide) rfl (fun ls hl => ?_)
          refine lv_goto (tgt := 10) hx hb dX3_settleAll_34 (by decide) ?_
          have hst9 : tw_St s1 k sg9 := ⟨n9, hn9, h129, hsr9⟩
          exact ih (k + 1) sg9 (by omega) (by
            rw [show min (k + 1) nb = k + 1 by omega]
            rw [show min k nb = k by omega] at hL
            exact ⟨s1, hL, hst9⟩) (tw_WF_St hw1 hst9) H locs ls hW hS (lv_sub hl [0, 2, 3, 4] rfl)
        · refine lv_astoreN (lv' := [(4, .null), (3, .int (nI k)), (2, .int (nI 16)), (1, .ref (ad 1 0)), (0, .ref (ad 0 0))]) hx hb dX3_settleAll_18 hl (by decide) rfl (fun ls hl => ?_)
          refine lv_aloadN hx hb dX3_settleAll_20 (lv_at hl 0 rfl) ?_
          refine lv_ifnullN (tgt := 31) hx hb dX3_settleAll_22 (by decide) ?_
          refine lv_iinc (v := nI (k + 1)) (lv' := [(3, .int (nI (k + 1))), (4, .null), (2, .int (nI 16)), (1, .ref (ad 1 0)), (0, .ref (ad 0 0))]) hx hb dX3_settleAll_31 hl (k := 1) rfl (nI_1 k) (by decide) rfl (fun ls hl => ?_)
          refine lv_goto (tgt := 10) hx hb dX3_settleAll_34 (by decide) ?_
          exact ih (k + 1) s1 (by omega) (by
            rw [show min (k + 1) nb = min k nb by omega]
            exact hL) hw1 H locs ls hW hS (lv_sub hl [0, 2, 3, 4] rfl)
  refine lv_aload_n hx hb dX3_settleAll_0 rfl (lv_at hl 0 rfl) ?_
  refine kx_g F inX3 hW 0 0 ⟨by decide, rfl⟩ rfl rfl 0 (by decide) L_11 (v := .ref (ad 1 0)) rfl dX3_settleAll_1 ?_
  refine lv_astore_n (lv' := [(1, .ref (ad 1 0)), (0, .ref (ad 0 0))]) hx hb dX3_settleAll_4 rfl hl (by decide) rfl (fun ls hl => ?_)
  refine lv_aload_n hx hb dX3_settleAll_5 rfl (lv_at hl 0 rfl) ?_
  refine kx_alenB F hW dX3_settleAll_6 ?_
  refine lv_istore_n (lv' := [(2, .int (nI 16)), (1, .ref (ad 1 0)), (0, .ref (ad 0 0))]) hx hb dX3_settleAll_7 rfl hl (by decide) rfl (fun ls hl => ?_)
  refine lv_iconst (v := 0) hx hb dX3_settleAll_8 (by decide) ?_
  refine lv_istore_n (lv' := [(3, .int 0), (2, .int (nI 16)), (1, .ref (ad 1 0)), (0, .ref (ad 0 0))]) hx hb dX3_settleAll_9 rfl hl (by decide) rfl (fun ls hl => ?_)
  exact loop 16 0 sg (by omega) (by rw [show min 0 nb = 0 by omega]; rfl) hwf _ _ ls hW hS (lv_sub hl [0, 1, 2, 3] rfl)

set_option maxHeartbeats 4000000 in
set_option maxRecDepth 100000 in
/-- a scan of now -/
theorem c_X3_addScan (l : Launch) (G : kx_G) (z0 : Nat) (ad : kx_A) (nb : Nat) (sg : kx_S) (i : Nat) (hi : i < nb) (n : Nat) (hn : sg 9 i 6 = nI n) (h12 : n < 12) (hm : ∀ k, k < n → ∃ j : Nat, j ≤ 14 ∧ sg 12 i k = nI j) (ht : ∀ w, w < 14 → 1 ≤ (sg 3 0 w).toInt ∧ (sg 3 0 w).toInt ≤ 9) (q : Int32) (mj : Nat) (hmj : mj ≤ 14) : kx_M l yX3_addScan wsX3_addScan 5 113 0 0 G z0 ad nb sg [.ref (ad 0 0), .ref (ad 9 i), .int q, .int (nI mj)] (fun r sg' => r = some (.int (nI n)) ∧ ∃ (a : Int32) (s1 : kx_S), (tw_tru a (nI 12) = decide (tw_cmn 0 q ≤ sg 0 0 7) ∧ ∀ j, j < n → tw_tru a (nI j) = decide (tw_cmn (sg 11 i j) q ≤ sg 0 0 7 - sg 10 i j)) ∧ s1 = kx_up (kx_up (kx_up (kx_up (kx_up sg 10 i (upd (sg 10 i) n (sg 0 0 7))) 11 i (upd (sg 11 i) n q)) 12 i (upd (sg 12 i) n (nI mj))) 13 i (upd (sg 13 i) n a)) 9 i (upd (sg 9 i) 6 (nI (n + 1))) ∧ tw_SR s1 sg' i (tw_stl s1 i (n + 1))) := by
  refine Met.ofW (cc := cX3_addScan) (maxL := 5) (ret := (some .int)) (by decide) rfl ?_
  intro p e s m args below meth c s₁ B hml hv
  obtain ⟨rfl, hW, hV⟩ := hv
  have hts := atoms_spec (ws := wsX3_addScan) B.pre
  have F : kx_F p s m c cX3_addScan 5 RX3 _ wsX3_addScan G z0 := ⟨B.exec, B.bytes, hml, findClass_of_methodNamed B.named, hts, hV⟩
  have hx := B.exec; have hb := B.bytes; have hr := B.returns; have hlocks := B.notSynchronized
  have hS : va_S (kx_Ad z0) s.heap s.heap [] := va_S.rf
  have L_42 : Cond.fieldLink RX3 42 (TX3 7).1 (TX3 7).2.1 (TX3 7).2.2.1 ∈ wsX3_addScan := by decide +kernel
  have inX3 : ∀ w ∈ u_ws RX3 TX3 9, w ∈ wsX3_addScan := by decide +kernel
  have hl := lv_entry ([.ref (ad 0 0), .ref (ad 9 i), .int q, .int (nI mj)]) (n := 5) (Nat.le_of_ble_eq_true rfl)
  rw [lg_entry_eq]
  generalize (lg_sl ([.ref (ad 0 0), .ref (ad 9 i), .int q, .int (nI mj)]) ++ List.replicate (5 - (lg_sl ([.ref (ad 0 0), .ref (ad 9 i), .int q, .int (nI mj)])).length) Slot.unset).toArray = ls at hl ⊢
  have hl : lv_has ls 5 [(0, .ref (ad 0 0)), (1, .ref (ad 9 i)), (2, .int q), (3, .int (nI mj))] := hl
  refine lv_aload_n hx hb dX3_addScan_0 rfl (lv_at hl 1 rfl) ?_
  refine lv_aload_n hx hb dX3_addScan_1 rfl (lv_at hl 0 rfl) ?_
  refine kx_g F inX3 hW 0 0 ⟨by decide, rfl⟩ rfl rfl 7 (by decide) L_42 (v := .int (sg 0 0 7)) rfl dX3_addScan_2 ?_
  refine lv_iload_n hx hb dX3_addScan_5 rfl (lv_at hl 2 rfl) ?_
  refine lv_iload_n hx hb dX3_addScan_6 rfl (lv_at hl 3 rfl) ?_
  refine kx_cV (na := 3) F (q := 9) (n := i) (c_X0_note l G z0 ad nb sg i hi n hn h12 (sg 0 0 7) q (nI mj)) gX3_addScan_X0_note rfl (by decide +kernel) ⟨Nat.le_of_ble_eq_true rfl, Nat.le_of_ble_eq_true rfl⟩ hW hS hi rfl rfl (As := [.int (sg 0 0 7), .int q, .int (nI mj)]) (rest := []) rfl hl.1 rfl (Nat.le_of_ble_eq_true rfl) dX3_addScan_7 ⟨by first | exact Nat.le_of_ble_eq_true rfl | omega, by first | exact Nat.le_of_ble_eq_true rfl | omega⟩ (fun r9 sg9 H locs hq hW hS => ?_)
  obtain ⟨rfl, a9, hab9, e9⟩ := hq
  rw [e9] at hW
  obtain ⟨s1, hs1⟩ : ∃ z, z = kx_up (kx_up (kx_up (kx_up (kx_up sg 10 i (upd (sg 10 i) n (sg 0 0 7))) 11 i (upd (sg 11 i) n q)) 12 i (upd (sg 12 i) n (nI mj))) 13 i (upd (sg 13 i) n a9)) 9 i (upd (sg 9 i) 6 (nI (n + 1))) := ⟨_, rfl⟩
  rw [← hs1] at hW
  have hW : kx_Wd G z0 ad nb (s1) H := by first | exact hW | (simp only [kx_up_s, kx_up_up] at hW; exact hW) | (simp only [kx_up_s, kx_up_up, upd_s] at hW; exact hW)
  refine W.eq (g2 := F0 m 10 ls [.int (nI n)]) rfl ?_
  have e96 : s1 9 i 6 = nI (n + 1) := by rw [hs1]; simp [kx_up, upd]
  have e12 : s1 12 i = upd (sg 12 i) n (nI mj) := by rw [hs1]; simp [kx_up]
  have e3 : s1 3 0 = sg 3 0 := by rw [hs1]; simp [kx_up]
  have hm9 : ∀ k, k < n + 1 → ∃ j : Nat, j ≤ 14 ∧ s1 12 i k = nI j := fun k hk => by
    rw [e12]
    by_cases e : k = n
    · subst e; exact ⟨mj, hmj, upd_s⟩
    · rw [upd_n e]; exact hm k (by omega)
  refine lv_istore (lv' := [(4, .int (nI n)), (0, .ref (ad 0 0)), (1, .ref (ad 9 i)), (2, .int q), (3, .int (nI mj))]) hx hb dX3_addScan_10 hl (by decide) rfl (fun ls hl => ?_)
  refine lv_aload_n hx hb dX3_addScan_12 rfl (lv_at hl 1 rfl) ?_
  refine lv_aload_n hx hb dX3_addScan_13 rfl (lv_at hl 2 rfl) ?_
  refine kx_cV (na := 1) F (q := 0) (n := 0) (c_X3_settle l G z0 ad nb s1 i hi (n + 1) e96 (by omega) hm9 (by rw [e3]; exact ht)) gX3_addScan_X3_settle rfl (by decide +kernel) ⟨Nat.le_of_ble_eq_true rfl, Nat.le_of_ble_eq_true rfl⟩ hW hS ⟨by decide, rfl⟩ rfl rfl (As := [.ref (ad 9 i)]) (rest := []) rfl hl.1 rfl (Nat.le_of_ble_eq_true rfl) dX3_addScan_14 ⟨by first | exact Nat.le_of_ble_eq_true rfl | omega, by first | exact Nat.le_of_ble_eq_true rfl | omega⟩ (fun r9 sg9 H locs hq hW hS => ?_)
  obtain ⟨rfl, hsr9⟩ := hq
  have hW : kx_Wd G z0 ad nb (sg9) H := by first | exact hW | (simp only [kx_up_s, kx_up_up] at hW; exact hW) | (simp only [kx_up_s, kx_up_up, upd_s] at hW; exact hW)
  refine W.eq (g2 := F0 m 17 ls []) rfl ?_
  refine lv_iload hx hb dX3_addScan_17 (lv_at hl 0 rfl) ?_
  exact kx_ri F hr hlocks hW hS (by first | exact Nat.le_of_ble_eq_true rfl | omega) (by first | exact Nat.le_of_ble_eq_true rfl | omega) (⟨rfl, a9, s1, hab9, hs1, hsr9⟩) dX3_addScan_19

set_option maxHeartbeats 4000000 in
set_option maxRecDepth 100000 in
/-- no room: the box is settled, nothing else -/
theorem c_X3_addScan_full (l : Launch) (G : kx_G) (z0 : Nat) (ad : kx_A) (nb : Nat) (sg : kx_S) (i : Nat) (hi : i < nb) (hn : sg 9 i 6 = nI 12) (hm : ∀ k, k < 12 → ∃ j : Nat, j ≤ 14 ∧ sg 12 i k = nI j) (ht : ∀ w, w < 14 → 1 ≤ (sg 3 0 w).toInt ∧ (sg 3 0 w).toInt ≤ 9) (q mk : Int32) : kx_M l yX3_addScan wsX3_addScan 5 113 0 0 G z0 ad nb sg [.ref (ad 0 0), .ref (ad 9 i), .int q, .int mk] (fun r sg' => r = some (.int (-1)) ∧ tw_SR sg sg' i (tw_stl sg i 12)) := by
  refine Met.ofW (cc := cX3_addScan) (maxL := 5) (ret := (some .int)) (by decide) rfl ?_
  intro p e s m args below meth c s₁ B hml hv
  obtain ⟨rfl, hW, hV⟩ := hv
  have hts := atoms_spec (ws := wsX3_addScan) B.pre
  have F : kx_F p s m c cX3_addScan 5 RX3 _ wsX3_addScan G z0 := ⟨B.exec, B.bytes, hml, findClass_of_methodNamed B.named, hts, hV⟩
  have hx := B.exec; have hb := B.bytes; have hr := B.returns; have hlocks := B.notSynchronized
  have hS : va_S (kx_Ad z0) s.heap s.heap [] := va_S.rf
  have L_42 : Cond.fieldLink RX3 42 (TX3 7).1 (TX3 7).2.1 (TX3 7).2.2.1 ∈ wsX3_addScan := by decide +kernel
  have inX3 : ∀ w ∈ u_ws RX3 TX3 9, w ∈ wsX3_addScan := by decide +kernel
  have hl := lv_entry ([.ref (ad 0 0), .ref (ad 9 i), .int q, .int mk]) (n := 5) (Nat.le_of_ble_eq_true rfl)
  rw [lg_entry_eq]
  generalize (lg_sl ([.ref (ad 0 0), .ref (ad 9 i), .int q, .int mk]) ++ List.replicate (5 - (lg_sl ([.ref (ad 0 0), .ref (ad 9 i), .int q, .int mk])).length) Slot.unset).toArray = ls at hl ⊢
  have hl : lv_has ls 5 [(0, .ref (ad 0 0)), (1, .ref (ad 9 i)), (2, .int q), (3, .int mk)] := hl
  refine lv_aload_n hx hb dX3_addScan_0 rfl (lv_at hl 1 rfl) ?_
  refine lv_aload_n hx hb dX3_addScan_1 rfl (lv_at hl 0 rfl) ?_
  refine kx_g F inX3 hW 0 0 ⟨by decide, rfl⟩ rfl rfl 7 (by decide) L_42 (v := .int (sg 0 0 7)) rfl dX3_addScan_2 ?_
  refine lv_iload_n hx hb dX3_addScan_5 rfl (lv_at hl 2 rfl) ?_
  refine lv_iload_n hx hb dX3_addScan_6 rfl (lv_at hl 3 rfl) ?_
  refine kx_cV (na := 3) F (q := 9) (n := i) (c_X0_note_full l G z0 ad nb sg i hi hn (sg 0 0 7) q mk) gX3_addScan_X0_note rfl (by decide +kernel) ⟨Nat.le_of_ble_eq_true rfl, Nat.le_of_ble_eq_true rfl⟩ hW hS hi rfl rfl (As := [.int (sg 0 0 7), .int q, .int mk]) (rest := []) rfl hl.1 rfl (Nat.le_of_ble_eq_true rfl) dX3_addScan_7 ⟨by first | exact Nat.le_of_ble_eq_true rfl | omega, by first | exact Nat.le_of_ble_eq_true rfl | omega⟩ (fun r9 sg9 H locs hq hW hS => ?_)
  obtain ⟨rfl, e9⟩ := hq
  rw [e9] at hW
  refine W.eq (g2 := F0 m 10 ls [.int (-1)]) rfl ?_
  refine lv_istore (lv' := [(4, .int (-1)), (0, .ref (ad 0 0)), (1, .ref (ad 9 i)), (2, .int q), (3, .int mk)]) hx hb dX3_addScan_10 hl (by decide) rfl (fun ls hl => ?_)
  refine lv_aload_n hx hb dX3_addScan_12 rfl (lv_at hl 1 rfl) ?_
  refine lv_aload_n hx hb dX3_addScan_13 rfl (lv_at hl 2 rfl) ?_
  refine kx_cV (na := 1) F (q := 0) (n := 0) (c_X3_settle l G z0 ad nb sg i hi 12 hn (Nat.le_refl 12) hm ht) gX3_addScan_X3_settle rfl (by decide +kernel) ⟨Nat.le_of_ble_eq_true rfl, Nat.le_of_ble_eq_true rfl⟩ hW hS ⟨by decide, rfl⟩ rfl rfl (As := [.ref (ad 9 i)]) (rest := []) rfl hl.1 rfl (Nat.le_of_ble_eq_true rfl) dX3_addScan_14 ⟨by first | exact Nat.le_of_ble_eq_true rfl | omega, by first | exact Nat.le_of_ble_eq_true rfl | omega⟩ (fun r9 sg9 H locs hq hW hS => ?_)
  obtain ⟨rfl, hsr9⟩ := hq
  have hW : kx_Wd G z0 ad nb (sg9) H := by first | exact hW | (simp only [kx_up_s, kx_up_up] at hW; exact hW) | (simp only [kx_up_s, kx_up_up, upd_s] at hW; exact hW)
  refine W.eq (g2 := F0 m 17 ls []) rfl ?_
  refine lv_iload hx hb dX3_addScan_17 (lv_at hl 0 rfl) ?_
  exact kx_ri F hr hlocks hW hS (by first | exact Nat.le_of_ble_eq_true rfl | omega) (by first | exact Nat.le_of_ble_eq_true rfl | omega) (⟨rfl, hsr9⟩) dX3_addScan_19

theorem tw_WF_door {nb : Nat} {sg : kx_S} {d : Nat} {r : Nat → Int32} (h : tw_WF nb sg) : tw_WF nb (kx_up sg 8 d r) := ⟨fun i hi => h.1 i hi, fun w hw => h.2 w hw⟩

set_option maxHeartbeats 4000000 in
set_option maxRecDepth 100000 in
/-- a wrong code -/
theorem c_X3_countWrongCode (l : Launch) (G : kx_G) (z0 : Nat) (ad : kx_A) (nb : Nat) (sg : kx_S) (hnb : nb ≤ 16) (hwf : tw_WF nb sg) (d : Nat) (hd : d < 10) : kx_M l yX3_countWrongCode wsX3_countWrongCode 5 111 0 0 G z0 ad nb sg [.ref (ad 0 0), .ref (ad 8 d)] (fun r sg' => r = none ∧ ((sg 8 d 4 + 1 < 3 ∧ sg' = kx_up sg 8 d (upd (sg 8 d) 4 (sg 8 d 4 + 1))) ∨ (¬ sg 8 d 4 + 1 < 3 ∧ tw_SA nb (kx_up sg 8 d (upd (upd (sg 8 d) 4 (sg 8 d 4 + 1)) 1 1)) sg'))) := by
  refine Met.ofW (cc := cX3_countWrongCode) (maxL := 2) (ret := none) (by decide) rfl ?_
  intro p e s m args below meth c s₁ B hml hv
  obtain ⟨rfl, hW, hV⟩ := hv
  have hts := atoms_spec (ws := wsX3_countWrongCode) B.pre
  have F : kx_F p s m c cX3_countWrongCode 2 RX3 _ wsX3_countWrongCode G z0 := ⟨B.exec, B.bytes, hml, findClass_of_methodNamed B.named, hts, hV⟩
  have hx := B.exec; have hb := B.bytes; have hr := B.returns; have hlocks := B.notSynchronized
  have hS : va_S (kx_Ad z0) s.heap s.heap [] := va_S.rf
  have L_130 : Cond.fieldLink RX3 130 (TX1 1).1 (TX1 1).2.1 (TX1 1).2.2.1 ∈ wsX3_countWrongCode := by decide +kernel
  have L_142 : Cond.fieldLink RX3 142 (TX1 4).1 (TX1 4).2.1 (TX1 4).2.2.1 ∈ wsX3_countWrongCode := by decide +kernel
  have inX1 : ∀ w ∈ u_ws RX1 TX1 5, w ∈ wsX3_countWrongCode := by decide +kernel
  have hl := lv_entry ([.ref (ad 0 0), .ref (ad 8 d)]) (n := 2) (Nat.le_of_ble_eq_true rfl)
  rw [lg_entry_eq]
  generalize (lg_sl ([.ref (ad 0 0), .ref (ad 8 d)]) ++ List.replicate (2 - (lg_sl ([.ref (ad 0 0), .ref (ad 8 d)])).length) Slot.unset).toArray = ls at hl ⊢
  have hl : lv_has ls 2 [(0, .ref (ad 0 0)), (1, .ref (ad 8 d))] := hl
  refine lv_aload_n hx hb dX3_countWrongCode_0 rfl (lv_at hl 1 rfl) ?_
  refine lv_dup hx hb dX3_countWrongCode_1 rfl ?_
  refine kx_g F inX1 hW 8 d hd rfl rfl 4 (by decide) L_142 (v := .int (sg 8 d 4)) rfl dX3_countWrongCode_2 ?_
  refine lv_iconst (v := 1) hx hb dX3_countWrongCode_5 (by decide) ?_
  refine lv_iadd hx hb dX3_countWrongCode_6 ?_
  refine kx_p F inX1 tyX1 tyX1_ok nmX1 hW hS 8 d hd rfl rfl 4 (by decide) L_142 rfl (v := .int ((sg 8 d 4) + 1)) rfl rfl (Nat.le_of_ble_eq_true rfl) (upd (sg 8 d) 4 ((sg 8 d 4) + 1)) rfl dX3_countWrongCode_7 (fun H locs hW hS => ?_)
  have hW : kx_Wd G z0 ad nb (kx_up sg 8 d (upd (sg 8 d) 4 ((sg 8 d 4) + 1))) H := hW
  refine lv_aload_n hx hb dX3_countWrongCode_10 rfl (lv_at hl 1 rfl) ?_
  refine kx_g F inX1 hW 8 d hd rfl rfl 4 (by decide) L_142 (v := .int ((sg 8 d 4) + 1)) (by first | rfl | (simp only [kx_up_s]; done) | (simp only [kx_up_s, upd_s]; done) | (simp only [kx_up_s]; rfl) | (simp [kx_up, upd]; done)) dX3_countWrongCode_11 ?_
  refine lv_iconst (v := 3) hx hb dX3_countWrongCode_14 (by decide) ?_
  refine lv_icmp_lt (tgt := 27) hx hb dX3_countWrongCode_15 (by decide) (fun c_15 => ?_) (fun c_15 => ?_)
  · exact kx_rv F hr hlocks hW hS (by first | exact Nat.le_of_ble_eq_true rfl | omega) (by first | exact Nat.le_of_ble_eq_true rfl | omega) (⟨rfl, Or.inl ⟨c_15, rfl⟩⟩) dX3_countWrongCode_27
  · refine lv_aload_n hx hb dX3_countWrongCode_18 rfl (lv_at hl 1 rfl) ?_
    refine lv_iconst (v := 1) hx hb dX3_countWrongCode_19 (by decide) ?_
    refine kx_p F inX1 tyX1 tyX1_ok nmX1 hW hS 8 d hd rfl rfl 1 (by decide) L_130 rfl (v := .int 1) rfl rfl (Nat.le_of_ble_eq_true rfl) (upd ((kx_up sg 8 d (upd (sg 8 d) 4 ((sg 8 d 4) + 1))) 8 d) 1 1) rfl dX3_countWrongCode_20 (fun H locs hW hS => ?_)
    have er9 : (kx_up sg 8 d (upd (sg 8 d) 4 ((sg 8 d 4) + 1))) 8 d = upd (sg 8 d) 4 ((sg 8 d 4) + 1) := by first | rfl | (simp only [kx_up_s]; done) | (simp [kx_up]; done)
    rw [er9] at hW
    rw [kx_up_up] at hW
    have hW : kx_Wd G z0 ad nb (kx_up sg 8 d (upd (upd (sg 8 d) 4 ((sg 8 d 4) + 1)) 1 1)) H := hW
    refine lv_aload_n hx hb dX3_countWrongCode_23 rfl (lv_at hl 0 rfl) ?_
    refine kx_cV (na := 0) F (q := 0) (n := 0) (c_X3_settleAll l G z0 ad nb (kx_up sg 8 d (upd (upd (sg 8 d) 4 (sg 8 d 4 + 1)) 1 1)) hnb (tw_WF_door hwf)) gX3_countWrongCode_X3_settleAll rfl (by decide +kernel) ⟨Nat.le_of_ble_eq_true rfl, Nat.le_of_ble_eq_true rfl⟩ hW hS ⟨by decide, rfl⟩ rfl rfl (As := []) (rest := []) rfl hl.1 rfl (Nat.le_of_ble_eq_true rfl) dX3_countWrongCode_24 ⟨by first | exact Nat.le_of_ble_eq_true rfl | omega, by first | exact Nat.le_of_ble_eq_true rfl | omega⟩ (fun r9 sg9 H locs hq hW hS => ?_)
    obtain ⟨rfl, hsa9⟩ := hq
    have hW : kx_Wd G z0 ad nb (sg9) H := by first | exact hW | (simp only [kx_up_s, kx_up_up] at hW; exact hW) | (simp only [kx_up_s, kx_up_up, upd_s] at hW; exact hW)
    refine W.eq (g2 := F0 m 27 ls []) rfl ?_
    exact kx_rv F hr hlocks hW hS (by first | exact Nat.le_of_ble_eq_true rfl | omega) (by first | exact Nat.le_of_ble_eq_true rfl | omega) (⟨rfl, Or.inr ⟨c_15, hsa9⟩⟩) dX3_countWrongCode_27

set_option maxHeartbeats 4000000 in
set_option maxRecDepth 100000 in
/-- the place that is told -/
theorem c_X3_placeTold (l : Launch) (G : kx_G) (z0 : Nat) (ad : kx_A) (nb : Nat) (sg : kx_S) (x y : Int32) : kx_M l yX3_placeTold wsX3_placeTold 0 0 0 0 G z0 ad nb sg [.int x, .int y] (fun r sg' => r = some (.int (tw_pt x y)) ∧ sg' = sg) := by
  refine Met.ofW (cc := cX3_placeTold) (maxL := 2) (ret := (some .int)) (by decide) rfl ?_
  intro p e s m args below meth c s₁ B hml hv
  obtain ⟨rfl, hW, hV⟩ := hv
  have hts := atoms_spec (ws := wsX3_placeTold) B.pre
  have F : kx_F p s m c cX3_placeTold 2 RX3 _ wsX3_placeTold G z0 := ⟨B.exec, B.bytes, hml, findClass_of_methodNamed B.named, hts, hV⟩
  have hx := B.exec; have hb := B.bytes; have hr := B.returns; have hlocks := B.notSynchronized
  have hS : va_S (kx_Ad z0) s.heap s.heap [] := va_S.rf
  have hl := lv_entry ([.int x, .int y]) (n := 2) (Nat.le_of_ble_eq_true rfl)
  rw [lg_entry_eq]
  generalize (lg_sl ([.int x, .int y]) ++ List.replicate (2 - (lg_sl ([.int x, .int y])).length) Slot.unset).toArray = ls at hl ⊢
  have hl : lv_has ls 2 [(0, .int x), (1, .int y)] := hl
  refine lv_iload_n hx hb dX3_placeTold_0 rfl (lv_at hl 1 rfl) ?_
  refine lv_if_ne (tgt := 8) hx hb dX3_placeTold_1 (by decide) (fun c_1 => ?_) (fun c_1 => ?_)
  · refine lv_iload_n hx hb dX3_placeTold_8 rfl (lv_at hl 1 rfl) ?_
    refine lv_iconst (v := 1) hx hb dX3_placeTold_9 (by decide) ?_
    refine lv_icmp_ne (tgt := 17) hx hb dX3_placeTold_10 (by decide) (fun c_10 => ?_) (fun c_10 => ?_)
    · refine lv_bipush (v := 30) hx hb dX3_placeTold_17 (by decide) ?_
      exact kx_ri F hr hlocks hW hS (by first | exact Nat.le_of_ble_eq_true rfl | omega) (by first | exact Nat.le_of_ble_eq_true rfl | omega) (⟨congrArg (fun z => some (Value.int z)) (by rw [tw_pt, if_neg c_1, if_neg c_10]), rfl⟩) dX3_placeTold_19
    · refine lv_iconst (v := 0) hx hb dX3_placeTold_13 (by decide) ?_
      refine lv_goto (tgt := 19) hx hb dX3_placeTold_14 (by decide) ?_
      exact kx_ri F hr hlocks hW hS (by first | exact Nat.le_of_ble_eq_true rfl | omega) (by first | exact Nat.le_of_ble_eq_true rfl | omega) (⟨congrArg (fun z => some (Value.int z)) (by rw [tw_pt, if_neg c_1, if_pos c_10]), rfl⟩) dX3_placeTold_19
  · refine lv_iconst (v := 1) hx hb dX3_placeTold_4 (by decide) ?_
    refine lv_iload_n hx hb dX3_placeTold_5 rfl (lv_at hl 0 rfl) ?_
    refine lv_iadd hx hb dX3_placeTold_6 ?_
    exact kx_ri F hr hlocks hW hS (by first | exact Nat.le_of_ble_eq_true rfl | omega) (by first | exact Nat.le_of_ble_eq_true rfl | omega) (⟨congrArg (fun z => some (Value.int z)) (by rw [tw_pt, if_pos c_1]), rfl⟩) dX3_placeTold_7

set_option maxHeartbeats 4000000 in
set_option maxRecDepth 100000 in
/-- the box of a number -/
theorem c_X3_boxAt (l : Launch) (hlf : l.stackTraces = false) (G : kx_G) (z0 : Nat) (ad : kx_A) (nb : Nat) (sg : kx_S) (hnb : nb ≤ 16) (x : Int32) : kx_MX l yX3_boxAt wsX3_boxAt 6 90 1 6 G z0 ad nb sg [.ref (ad 0 0), .int x] (fun r sg' => ∃ k : Nat, k < nb ∧ x = nI k ∧ r = some (.ref (ad 9 k)) ∧ sg' = sg) (fun E => E = kx_ioe ∧ ∀ k, k < nb → ¬ x = nI k) := by
  refine vx_ofW (cc := cX3_boxAt) (maxL := 2) (ret := (some (.object "Whichbox$Box"))) (by decide) rfl ?_
  intro p e s m args below meth c s₁ B hml htab hv
  obtain ⟨rfl, hW, hV⟩ := hv
  have hts := atoms_spec (ws := wsX3_boxAt) B.pre
  have F : kx_F p s m c cX3_boxAt 2 RX3 _ wsX3_boxAt G z0 := ⟨B.exec, B.bytes, hml, findClass_of_methodNamed B.named, hts, hV⟩
  have hx := B.exec; have hb := B.bytes; have hr := B.returns; have hlocks := B.notSynchronized
  have hS : va_S (kx_Ad z0) s.heap s.heap [] := va_S.rf
  have L_11 : Cond.fieldLink RX3 11 (TX3 0).1 (TX3 0).2.1 (TX3 0).2.2.1 ∈ wsX3_boxAt := by decide +kernel
  have inX3 : ∀ w ∈ u_ws RX3 TX3 9, w ∈ wsX3_boxAt := by decide +kernel
  have hl := lv_entry ([.ref (ad 0 0), .int x]) (n := 2) (Nat.le_of_ble_eq_true rfl)
  rw [lg_entry_eq]
  generalize (lg_sl ([.ref (ad 0 0), .int x]) ++ List.replicate (2 - (lg_sl ([.ref (ad 0 0), .int x])).length) Slot.unset).toArray = ls at hl ⊢
  have hl : lv_has ls 2 [(0, .ref (ad 0 0)), (1, .int x)] := hl
  refine lv_iload_n hx hb dX3_boxAt_0 rfl (lv_at hl 1 rfl) ?_
  refine lv_if_lt (tgt := 19) hx hb dX3_boxAt_1 (by decide) (fun c_1 => ?_) (fun c_1 => ?_)
  · exact kx_thr F hlf htab hlocks (cls := "java/lang/IndexOutOfBoundsException") (text := "there is no such box") (ik := 117) (is := 211) (ic := 121) (by decide +kernel) (by decide +kernel) (by decide +kernel) (by decide +kernel) (by decide +kernel) (by decide +kernel) (by decide +kernel) hW hS hl.1 dX3_boxAt_19 dX3_boxAt_22 dX3_boxAt_23 dX3_boxAt_25 dX3_boxAt_28 (Nat.le_of_ble_eq_true rfl) (Nat.le_of_ble_eq_true rfl) (by first | exact Nat.le_of_ble_eq_true rfl | omega) (by first | exact Nat.le_of_ble_eq_true rfl | omega) (by first | exact Nat.le_of_ble_eq_true rfl | omega) (by first | exact Nat.le_of_ble_eq_true rfl | omega) (⟨rfl, fun k1 h1 e1 => by rw [e1] at c_1; exact nI_pos (by omega) c_1⟩)
  · refine lv_iload_n hx hb dX3_boxAt_4 rfl (lv_at hl 1 rfl) ?_
    refine lv_bipush (v := 16) hx hb dX3_boxAt_5 (by decide) ?_
    refine lv_icmp_ge (tgt := 19) hx hb dX3_boxAt_7 (by decide) (fun c_7 => ?_) (fun c_7 => ?_)
    · exact kx_thr F hlf htab hlocks (cls := "java/lang/IndexOutOfBoundsException") (text := "there is no such box") (ik := 117) (is := 211) (ic := 121) (by decide +kernel) (by decide +kernel) (by decide +kernel) (by decide +kernel) (by decide +kernel) (by decide +kernel) (by decide +kernel) hW hS hl.1 dX3_boxAt_19 dX3_boxAt_22 dX3_boxAt_23 dX3_boxAt_25 dX3_boxAt_28 (Nat.le_of_ble_eq_true rfl) (Nat.le_of_ble_eq_true rfl) (by first | exact Nat.le_of_ble_eq_true rfl | omega) (by first | exact Nat.le_of_ble_eq_true rfl | omega) (by first | exact Nat.le_of_ble_eq_true rfl | omega) (by first | exact Nat.le_of_ble_eq_true rfl | omega) (⟨rfl, fun k1 h1 e1 => by rw [e1] at c_7; exact nI_ge (b := 16) (by omega) (by decide) c_7⟩)
    · obtain ⟨k, hk, rfl⟩ := tw_in_nI (n := 16) (by decide) c_1 c_7
      refine lv_aload_n hx hb dX3_boxAt_10 rfl (lv_at hl 0 rfl) ?_
      refine kx_g F inX3 hW 0 0 ⟨by decide, rfl⟩ rfl rfl 0 (by decide) L_11 (v := .ref (ad 1 0)) rfl dX3_boxAt_11 ?_
      refine lv_iload_n hx hb dX3_boxAt_14 rfl (lv_at hl 1 rfl) ?_
      refine kx_aaldB F hW k hk dX3_boxAt_15 (fun b_15 => ?_) (fun b_15 => ?_)
      · refine lv_ifnonnull (tgt := 29) hx hb dX3_boxAt_16 (by decide) ?_
        refine lv_aload_n hx hb dX3_boxAt_29 rfl (lv_at hl 0 rfl) ?_
        refine kx_g F inX3 hW 0 0 ⟨by decide, rfl⟩ rfl rfl 0 (by decide) L_11 (v := .ref (ad 1 0)) rfl dX3_boxAt_30 ?_
        refine lv_iload_n hx hb dX3_boxAt_33 rfl (lv_at hl 1 rfl) ?_
        refine kx_aaldB F hW k hk dX3_boxAt_34 (fun b_34 => ?_) (fun b_34 => ?_)
        · refine vx_ret ?_
          exact kx_ra F hr hlocks hW hS (by first | exact Nat.le_of_ble_eq_true rfl | omega) (by first | exact Nat.le_of_ble_eq_true rfl | omega) (⟨k, b_15, rfl, rfl, rfl⟩) dX3_boxAt_35
        · exact absurd b_15 b_34
      · refine lv_ifnonnullN hx hb dX3_boxAt_16 ?_
        exact kx_thr F hlf htab hlocks (cls := "java/lang/IndexOutOfBoundsException") (text := "there is no such box") (ik := 117) (is := 211) (ic := 121) (by decide +kernel) (by decide +kernel) (by decide +kernel) (by decide +kernel) (by decide +kernel) (by decide +kernel) (by decide +kernel) hW hS hl.1 dX3_boxAt_19 dX3_boxAt_22 dX3_boxAt_23 dX3_boxAt_25 dX3_boxAt_28 (Nat.le_of_ble_eq_true rfl) (Nat.le_of_ble_eq_true rfl) (by first | exact Nat.le_of_ble_eq_true rfl | omega) (by first | exact Nat.le_of_ble_eq_true rfl | omega) (by first | exact Nat.le_of_ble_eq_true rfl | omega) (by first | exact Nat.le_of_ble_eq_true rfl | omega) (⟨rfl, fun k1 h1 e1 => b_15 (by rw [(nI_eq (by omega) (by omega)).mp e1]; exact h1)⟩)

set_option maxHeartbeats 4000000 in
set_option maxRecDepth 100000 in
/-- the door of a number -/
theorem c_X3_doorAt (l : Launch) (hlf : l.stackTraces = false) (G : kx_G) (z0 : Nat) (ad : kx_A) (nb : Nat) (sg : kx_S) (x : Int32) : kx_MX l yX3_doorAt wsX3_doorAt 6 90 1 6 G z0 ad nb sg [.ref (ad 0 0), .int x] (fun r sg' => ∃ k : Nat, k < 10 ∧ x = nI k ∧ r = some (.ref (ad 8 k)) ∧ sg' = sg) (fun E => E = kx_ioe ∧ ∀ k, k < 10 → ¬ x = nI k) := by
  refine vx_ofW (cc := cX3_doorAt) (maxL := 2) (ret := (some (.object "Whichbox$Door"))) (by decide) rfl ?_
  intro p e s m args below meth c s₁ B hml htab hv
  obtain ⟨rfl, hW, hV⟩ := hv
  have hts := atoms_spec (ws := wsX3_doorAt) B.pre
  have F : kx_F p s m c cX3_doorAt 2 RX3 _ wsX3_doorAt G z0 := ⟨B.exec, B.bytes, hml, findClass_of_methodNamed B.named, hts, hV⟩
  have hx := B.exec; have hb := B.bytes; have hr := B.returns; have hlocks := B.notSynchronized
  have hS : va_S (kx_Ad z0) s.heap s.heap [] := va_S.rf
  have L_17 : Cond.fieldLink RX3 17 (TX3 1).1 (TX3 1).2.1 (TX3 1).2.2.1 ∈ wsX3_doorAt := by decide +kernel
  have inX3 : ∀ w ∈ u_ws RX3 TX3 9, w ∈ wsX3_doorAt := by decide +kernel
  have hl := lv_entry ([.ref (ad 0 0), .int x]) (n := 2) (Nat.le_of_ble_eq_true rfl)
  rw [lg_entry_eq]
  generalize (lg_sl ([.ref (ad 0 0), .int x]) ++ List.replicate (2 - (lg_sl ([.ref (ad 0 0), .int x])).length) Slot.unset).toArray = ls at hl ⊢
  have hl : lv_has ls 2 [(0, .ref (ad 0 0)), (1, .int x)] := hl
  refine lv_iload_n hx hb dX3_doorAt_0 rfl (lv_at hl 1 rfl) ?_
  refine lv_if_lt (tgt := 10) hx hb dX3_doorAt_1 (by decide) (fun c_1 => ?_) (fun c_1 => ?_)
  · exact kx_thr F hlf htab hlocks (cls := "java/lang/IndexOutOfBoundsException") (text := "there is no such door") (ik := 117) (is := 213) (ic := 121) (by decide +kernel) (by decide +kernel) (by decide +kernel) (by decide +kernel) (by decide +kernel) (by decide +kernel) (by decide +kernel) hW hS hl.1 dX3_doorAt_10 dX3_doorAt_13 dX3_doorAt_14 dX3_doorAt_16 dX3_doorAt_19 (Nat.le_of_ble_eq_true rfl) (Nat.le_of_ble_eq_true rfl) (by first | exact Nat.le_of_ble_eq_true rfl | omega) (by first | exact Nat.le_of_ble_eq_true rfl | omega) (by first | exact Nat.le_of_ble_eq_true rfl | omega) (by first | exact Nat.le_of_ble_eq_true rfl | omega) (⟨rfl, fun k1 h1 e1 => by rw [e1] at c_1; exact nI_pos (by omega) c_1⟩)
  · refine lv_iload_n hx hb dX3_doorAt_4 rfl (lv_at hl 1 rfl) ?_
    refine lv_bipush (v := 10) hx hb dX3_doorAt_5 (by decide) ?_
    refine lv_icmp_lt (tgt := 20) hx hb dX3_doorAt_7 (by decide) (fun c_7 => ?_) (fun c_7 => ?_)
    · obtain ⟨k, hk, rfl⟩ := tw_in_nI2 (n := 10) (by decide) c_1 c_7
      refine lv_aload_n hx hb dX3_doorAt_20 rfl (lv_at hl 0 rfl) ?_
      refine kx_g F inX3 hW 0 0 ⟨by decide, rfl⟩ rfl rfl 1 (by decide) L_17 (v := .ref (ad 2 0)) rfl dX3_doorAt_21 ?_
      refine lv_iload_n hx hb dX3_doorAt_24 rfl (lv_at hl 1 rfl) ?_
      refine kx_aaldD F hW k hk dX3_doorAt_25 ?_
      refine vx_ret ?_
      exact kx_ra F hr hlocks hW hS (by first | exact Nat.le_of_ble_eq_true rfl | omega) (by first | exact Nat.le_of_ble_eq_true rfl | omega) (⟨k, hk, rfl, rfl, rfl⟩) dX3_doorAt_26
    · exact kx_thr F hlf htab hlocks (cls := "java/lang/IndexOutOfBoundsException") (text := "there is no such door") (ik := 117) (is := 213) (ic := 121) (by decide +kernel) (by decide +kernel) (by decide +kernel) (by decide +kernel) (by decide +kernel) (by decide +kernel) (by decide +kernel) hW hS hl.1 dX3_doorAt_10 dX3_doorAt_13 dX3_doorAt_14 dX3_doorAt_16 dX3_doorAt_19 (Nat.le_of_ble_eq_true rfl) (Nat.le_of_ble_eq_true rfl) (by first | exact Nat.le_of_ble_eq_true rfl | omega) (by first | exact Nat.le_of_ble_eq_true rfl | omega) (by first | exact Nat.le_of_ble_eq_true rfl | omega) (by first | exact Nat.le_of_ble_eq_true rfl | omega) (⟨rfl, fun k1 h1 e1 => by rw [e1] at c_7; exact c_7 (nI_lt (b := 10) h1 (by decide))⟩)

set_option maxHeartbeats 4000000 in
set_option maxRecDepth 100000 in
/-- is there such a one? -/
theorem c_X3_checkCourier (l : Launch) (hlf : l.stackTraces = false) (G : kx_G) (z0 : Nat) (ad : kx_A) (nb : Nat) (sg : kx_S) (x : Int32) : kx_MX l yX3_checkCourier wsX3_checkCourier 6 90 1 6 G z0 ad nb sg [.int x] (fun r sg' => r = none ∧ sg' = sg ∧ ∃ k : Nat, k < 4 ∧ x = nI k) (fun E => E = kx_ioe ∧ ∀ k, k < 4 → ¬ x = nI k) := by
  refine vx_ofW (cc := cX3_checkCourier) (maxL := 1) (ret := none) (by decide) rfl ?_
  intro p e s m args below meth c s₁ B hml htab hv
  obtain ⟨rfl, hW, hV⟩ := hv
  have hts := atoms_spec (ws := wsX3_checkCourier) B.pre
  have F : kx_F p s m c cX3_checkCourier 1 RX3 _ wsX3_checkCourier G z0 := ⟨B.exec, B.bytes, hml, findClass_of_methodNamed B.named, hts, hV⟩
  have hx := B.exec; have hb := B.bytes; have hr := B.returns; have hlocks := B.notSynchronized
  have hS : va_S (kx_Ad z0) s.heap s.heap [] := va_S.rf
  have hl := lv_entry ([.int x]) (n := 1) (Nat.le_of_ble_eq_true rfl)
  rw [lg_entry_eq]
  generalize (lg_sl ([.int x]) ++ List.replicate (1 - (lg_sl ([.int x])).length) Slot.unset).toArray = ls at hl ⊢
  have hl : lv_has ls 1 [(0, .int x)] := hl
  refine lv_iload_n hx hb dX3_checkCourier_0 rfl (lv_at hl 0 rfl) ?_
  refine lv_if_lt (tgt := 9) hx hb dX3_checkCourier_1 (by decide) (fun c_1 => ?_) (fun c_1 => ?_)
  · exact kx_thr F hlf htab hlocks (cls := "java/lang/IndexOutOfBoundsException") (text := "there is no such courier") (ik := 117) (is := 215) (ic := 121) (by decide +kernel) (by decide +kernel) (by decide +kernel) (by decide +kernel) (by decide +kernel) (by decide +kernel) (by decide +kernel) hW hS hl.1 dX3_checkCourier_9 dX3_checkCourier_12 dX3_checkCourier_13 dX3_checkCourier_15 dX3_checkCourier_18 (Nat.le_of_ble_eq_true rfl) (Nat.le_of_ble_eq_true rfl) (by first | exact Nat.le_of_ble_eq_true rfl | omega) (by first | exact Nat.le_of_ble_eq_true rfl | omega) (by first | exact Nat.le_of_ble_eq_true rfl | omega) (by first | exact Nat.le_of_ble_eq_true rfl | omega) (⟨rfl, fun k1 h1 e1 => by rw [e1] at c_1; exact nI_pos (by omega) c_1⟩)
  · refine lv_iload_n hx hb dX3_checkCourier_4 rfl (lv_at hl 0 rfl) ?_
    refine lv_iconst (v := 4) hx hb dX3_checkCourier_5 (by decide) ?_
    refine lv_icmp_lt (tgt := 19) hx hb dX3_checkCourier_6 (by decide) (fun c_6 => ?_) (fun c_6 => ?_)
    · refine vx_ret ?_
      exact kx_rv F hr hlocks hW hS (by first | exact Nat.le_of_ble_eq_true rfl | omega) (by first | exact Nat.le_of_ble_eq_true rfl | omega) (⟨rfl, rfl, tw_in_nI2 (n := 4) (by decide) c_1 c_6⟩) dX3_checkCourier_19
    · exact kx_thr F hlf htab hlocks (cls := "java/lang/IndexOutOfBoundsException") (text := "there is no such courier") (ik := 117) (is := 215) (ic := 121) (by decide +kernel) (by decide +kernel) (by decide +kernel) (by decide +kernel) (by decide +kernel) (by decide +kernel) (by decide +kernel) hW hS hl.1 dX3_checkCourier_9 dX3_checkCourier_12 dX3_checkCourier_13 dX3_checkCourier_15 dX3_checkCourier_18 (Nat.le_of_ble_eq_true rfl) (Nat.le_of_ble_eq_true rfl) (by first | exact Nat.le_of_ble_eq_true rfl | omega) (by first | exact Nat.le_of_ble_eq_true rfl | omega) (by first | exact Nat.le_of_ble_eq_true rfl | omega) (by first | exact Nat.le_of_ble_eq_true rfl | omega) (⟨rfl, fun k1 h1 e1 => by rw [e1] at c_6; exact c_6 (nI_lt (b := 4) h1 (by decide))⟩)

set_option maxHeartbeats 4000000 in
set_option maxRecDepth 100000 in
/-- is there such a one? -/
theorem c_X3_checkWho (l : Launch) (hlf : l.stackTraces = false) (G : kx_G) (z0 : Nat) (ad : kx_A) (nb : Nat) (sg : kx_S) (x : Int32) : kx_MX l yX3_checkWho wsX3_checkWho 6 90 1 6 G z0 ad nb sg [.int x] (fun r sg' => r = none ∧ sg' = sg ∧ ∃ k : Nat, k < 14 ∧ x = nI k) (fun E => E = kx_ioe ∧ ∀ k, k < 14 → ¬ x = nI k) := by
  refine vx_ofW (cc := cX3_checkWho) (maxL := 1) (ret := none) (by decide) rfl ?_
  intro p e s m args below meth c s₁ B hml htab hv
  obtain ⟨rfl, hW, hV⟩ := hv
  have hts := atoms_spec (ws := wsX3_checkWho) B.pre
  have F : kx_F p s m c cX3_checkWho 1 RX3 _ wsX3_checkWho G z0 := ⟨B.exec, B.bytes, hml, findClass_of_methodNamed B.named, hts, hV⟩
  have hx := B.exec; have hb := B.bytes; have hr := B.returns; have hlocks := B.notSynchronized
  have hS : va_S (kx_Ad z0) s.heap s.heap [] := va_S.rf
  have hl := lv_entry ([.int x]) (n := 1) (Nat.le_of_ble_eq_true rfl)
  rw [lg_entry_eq]
  generalize (lg_sl ([.int x]) ++ List.replicate (1 - (lg_sl ([.int x])).length) Slot.unset).toArray = ls at hl ⊢
  have hl : lv_has ls 1 [(0, .int x)] := hl
  refine lv_iload_n hx hb dX3_checkWho_0 rfl (lv_at hl 0 rfl) ?_
  refine lv_if_lt (tgt := 10) hx hb dX3_checkWho_1 (by decide) (fun c_1 => ?_) (fun c_1 => ?_)
  · exact kx_thr F hlf htab hlocks (cls := "java/lang/IndexOutOfBoundsException") (text := "there is no such courier or door") (ik := 117) (is := 217) (ic := 121) (by decide +kernel) (by decide +kernel) (by decide +kernel) (by decide +kernel) (by decide +kernel) (by decide +kernel) (by decide +kernel) hW hS hl.1 dX3_checkWho_10 dX3_checkWho_13 dX3_checkWho_14 dX3_checkWho_16 dX3_checkWho_19 (Nat.le_of_ble_eq_true rfl) (Nat.le_of_ble_eq_true rfl) (by first | exact Nat.le_of_ble_eq_true rfl | omega) (by first | exact Nat.le_of_ble_eq_true rfl | omega) (by first | exact Nat.le_of_ble_eq_true rfl | omega) (by first | exact Nat.le_of_ble_eq_true rfl | omega) (⟨rfl, fun k1 h1 e1 => by rw [e1] at c_1; exact nI_pos (by omega) c_1⟩)
  · refine lv_iload_n hx hb dX3_checkWho_4 rfl (lv_at hl 0 rfl) ?_
    refine lv_bipush (v := 14) hx hb dX3_checkWho_5 (by decide) ?_
    refine lv_icmp_lt (tgt := 20) hx hb dX3_checkWho_7 (by decide) (fun c_7 => ?_) (fun c_7 => ?_)
    · refine vx_ret ?_
      exact kx_rv F hr hlocks hW hS (by first | exact Nat.le_of_ble_eq_true rfl | omega) (by first | exact Nat.le_of_ble_eq_true rfl | omega) (⟨rfl, rfl, tw_in_nI2 (n := 14) (by decide) c_1 c_7⟩) dX3_checkWho_20
    · exact kx_thr F hlf htab hlocks (cls := "java/lang/IndexOutOfBoundsException") (text := "there is no such courier or door") (ik := 117) (is := 217) (ic := 121) (by decide +kernel) (by decide +kernel) (by decide +kernel) (by decide +kernel) (by decide +kernel) (by decide +kernel) (by decide +kernel) hW hS hl.1 dX3_checkWho_10 dX3_checkWho_13 dX3_checkWho_14 dX3_checkWho_16 dX3_checkWho_19 (Nat.le_of_ble_eq_true rfl) (Nat.le_of_ble_eq_true rfl) (by first | exact Nat.le_of_ble_eq_true rfl | omega) (by first | exact Nat.le_of_ble_eq_true rfl | omega) (by first | exact Nat.le_of_ble_eq_true rfl | omega) (by first | exact Nat.le_of_ble_eq_true rfl | omega) (⟨rfl, fun k1 h1 e1 => by rw [e1] at c_7; exact c_7 (nI_lt (b := 14) h1 (by decide))⟩)

theorem tw_room_1 {n : Nat} (h : n ≤ 12) (c : nI n < 12) : n < 12 := by
  rcases Nat.lt_or_ge n 12 with q | q
  · exact q
  · exact absurd c (nI_nlt (b := 12) q (by omega))
theorem tw_room_2 {n : Nat} (h : n ≤ 12) (c : ¬ nI n < 12) : n = 12 := by
  rcases Nat.lt_or_ge n 12 with q | q
  · exact absurd (nI_lt (b := 12) q (by decide)) c
  · omega

set_option maxHeartbeats 4000000 in
set_option maxRecDepth 100000 in
/-- is there room? -/
theorem c_X3_checkRoomForScan (l : Launch) (hlf : l.stackTraces = false) (G : kx_G) (z0 : Nat) (ad : kx_A) (nb : Nat) (sg : kx_S) (i : Nat) (hi : i < nb) (n : Nat) (hn : sg 9 i 6 = nI n) (h12 : n ≤ 12) : kx_MX l yX3_checkRoomForScan wsX3_checkRoomForScan 6 90 1 6 G z0 ad nb sg [.ref (ad 9 i)] (fun r sg' => r = none ∧ sg' = sg ∧ n < 12) (fun E => E = kx_ise ∧ n = 12) := by
  refine vx_ofW (cc := cX3_checkRoomForScan) (maxL := 1) (ret := none) (by decide) rfl ?_
  intro p e s m args below meth c s₁ B hml htab hv
  obtain ⟨rfl, hW, hV⟩ := hv
  have hts := atoms_spec (ws := wsX3_checkRoomForScan) B.pre
  have F : kx_F p s m c cX3_checkRoomForScan 1 RX3 _ wsX3_checkRoomForScan G z0 := ⟨B.exec, B.bytes, hml, findClass_of_methodNamed B.named, hts, hV⟩
  have hx := B.exec; have hb := B.bytes; have hr := B.returns; have hlocks := B.notSynchronized
  have hS : va_S (kx_Ad z0) s.heap s.heap [] := va_S.rf
  have L_171 : Cond.fieldLink RX3 171 (TX0 6).1 (TX0 6).2.1 (TX0 6).2.2.1 ∈ wsX3_checkRoomForScan := by decide +kernel
  have inX0 : ∀ w ∈ u_ws RX0 TX0 11, w ∈ wsX3_checkRoomForScan := by decide +kernel
  have hl := lv_entry ([.ref (ad 9 i)]) (n := 1) (Nat.le_of_ble_eq_true rfl)
  rw [lg_entry_eq]
  generalize (lg_sl ([.ref (ad 9 i)]) ++ List.replicate (1 - (lg_sl ([.ref (ad 9 i)])).length) Slot.unset).toArray = ls at hl ⊢
  have hl : lv_has ls 1 [(0, .ref (ad 9 i))] := hl
  refine lv_aload_n hx hb dX3_checkRoomForScan_0 rfl (lv_at hl 0 rfl) ?_
  refine kx_g F inX0 hW 9 i hi rfl rfl 6 (by decide) L_171 (v := .int (nI n)) (congrArg (fun z => some (Value.int z)) hn) dX3_checkRoomForScan_1 ?_
  refine lv_bipush (v := 12) hx hb dX3_checkRoomForScan_4 (by decide) ?_
  refine lv_icmp_lt (tgt := 19) hx hb dX3_checkRoomForScan_6 (by decide) (fun c_6 => ?_) (fun c_6 => ?_)
  · refine vx_ret ?_
    exact kx_rv F hr hlocks hW hS (by first | exact Nat.le_of_ble_eq_true rfl | omega) (by first | exact Nat.le_of_ble_eq_true rfl | omega) (⟨rfl, rfl, tw_room_1 h12 c_6⟩) dX3_checkRoomForScan_19
  · exact kx_thr F hlf htab hlocks (cls := "java/lang/IllegalStateException") (text := "the box has 12 scans") (ik := 60) (is := 219) (ic := 64) (by decide +kernel) (by decide +kernel) (by decide +kernel) (by decide +kernel) (by decide +kernel) (by decide +kernel) (by decide +kernel) hW hS hl.1 dX3_checkRoomForScan_9 dX3_checkRoomForScan_12 dX3_checkRoomForScan_13 dX3_checkRoomForScan_15 dX3_checkRoomForScan_18 (Nat.le_of_ble_eq_true rfl) (Nat.le_of_ble_eq_true rfl) (by first | exact Nat.le_of_ble_eq_true rfl | omega) (by first | exact Nat.le_of_ble_eq_true rfl | omega) (by first | exact Nat.le_of_ble_eq_true rfl | omega) (by first | exact Nat.le_of_ble_eq_true rfl | omega) (⟨rfl, tw_room_2 h12 c_6⟩)
end
section
theorem tw_gw_if {x : Nat} (hx : x < 13) : (if nI x - 1 = (-1 : Int32) then (12 : Int32) else nI x - 1) = (match x with | 0 => 12 | j + 1 => nI j) := by
  cases x with
  | zero => rw [if_pos (by decide)]
  | succ j => rw [tw_m1, if_neg (tw_m1ne j (by omega))]
theorem tw_gw_t (r : Nat → Int32) {x k : Nat} (hx : x < 13) (h : tw_tru (r k) (if nI x - 1 = (-1 : Int32) then (12 : Int32) else nI x - 1) = true) : dp_g (fun j k => tw_tru (r k) (nI j)) (fun k => tw_tru (r k) 12) x k = true := by
  rw [tw_gw_if hx] at h
  cases x with
  | zero => exact h
  | succ j => exact h
theorem tw_gw_f (r : Nat → Int32) {x k : Nat} (hx : x < 13) (h : tw_tru (r k) (if nI x - 1 = (-1 : Int32) then (12 : Int32) else nI x - 1) = false) : dp_g (fun j k => tw_tru (r k) (nI j)) (fun k => tw_tru (r k) 12) x k = false := by
  rw [tw_gw_if hx] at h
  cases x with
  | zero => exact h
  | succ j => exact h
theorem tw_gw_x {n x ln : Nat} (h12 : n ≤ 12) (hx : x ≤ n) (hl : ln ≤ x) (c : ¬ nI ln < nI n) : n ≤ x := by
  rcases Nat.lt_or_ge ln n with q | q
  · exact absurd (nI_lt q (by omega)) c
  · omega
theorem tw_gw_re {l : Launch} {fr lo : Nat} {G : kx_G} {z0 : Nat} {ad : kx_A} {nb : Nat} {sg : kx_S} {i k ln : Nat} {v : Int32} {post : Option Value → kx_S → Prop} (h : kx_M l yX3_greatestWorth wsX3_greatestWorth fr lo 0 0 G z0 ad nb sg [.ref (ad 9 i), .ref (ad 6 0), .int (nI (k + 1) - 1), .int v, .int (nI ln)] post) : kx_M l yX3_greatestWorth wsX3_greatestWorth fr lo 0 0 G z0 ad nb sg [.ref (ad 9 i), .ref (ad 6 0), .int (nI k), .int v, .int (nI ln)] post := by
  rw [tw_m1] at h
  exact h

set_option maxHeartbeats 1000000 in
set_option maxRecDepth 100000 in
/-- the greatest worth of all that go on, by the depth d that is left -/
theorem c_X3_greatestWorth (l : Launch) (G : kx_G) (z0 : Nat) (ad : kx_A) (nb : Nat) (sg : kx_S) (i : Nat) (hi : i < nb) (n : Nat) (hn : sg 9 i 6 = nI n) (h12 : n ≤ 12) (hw : ∀ k, k < n → 0 < (sg 6 0 k).toInt ∧ (sg 6 0 k).toInt ≤ 300000) : ∀ (d x ln : Nat) (v : Int32), x ≤ n → n - x ≤ d → ln ≤ x → 0 ≤ v.toInt → v.toInt ≤ (x : Int) * 300000 → kx_M l yX3_greatestWorth wsX3_greatestWorth (d + 1) (27 * d + 40) 0 0 G z0 ad nb sg [.ref (ad 9 i), .ref (ad 6 0), .int (nI x - 1), .int v, .int (nI ln)] (fun r sg' => ∃ a : Int32, r = some (.int a) ∧ sg' = sg ∧ a.toInt = v.toInt + dp_e (dp_g (fun j k => tw_tru (sg 13 i k) (nI j)) (fun k => tw_tru (sg 13 i k) 12)) (fun k => (sg 6 0 k).toInt) n d x) := by
  intro d
  induction d with
  | zero =>
    intro x ln v hxn hd hln hv0 hv1
    refine Met.ofW (cc := cX3_greatestWorth) (maxL := 8) (ret := (some .int)) (by decide) rfl ?_
    intro p e s m args below meth c s₁ B hml hv
    obtain ⟨rfl, hW, hV⟩ := hv
    have hts := atoms_spec (ws := wsX3_greatestWorth) B.pre
    have F : kx_F p s m c cX3_greatestWorth 8 RX3 _ wsX3_greatestWorth G z0 := ⟨B.exec, B.bytes, hml, findClass_of_methodNamed B.named, hts, hV⟩
    have hx := B.exec; have hb := B.bytes; have hr := B.returns; have hlocks := B.notSynchronized
    have hS : va_S (kx_Ad z0) s.heap s.heap [] := va_S.rf
    have L_171 : Cond.fieldLink RX3 171 (TX0 6).1 (TX0 6).2.1 (TX0 6).2.2.1 ∈ wsX3_greatestWorth := by decide +kernel
    have inX0 : ∀ w ∈ u_ws RX0 TX0 11, w ∈ wsX3_greatestWorth := by decide +kernel
    have hl := lv_entry ([.ref (ad 9 i), .ref (ad 6 0), .int (nI x - 1), .int v, .int (nI ln)]) (n := 8) (Nat.le_of_ble_eq_true rfl)
    rw [lg_entry_eq]
    generalize (lg_sl ([.ref (ad 9 i), .ref (ad 6 0), .int (nI x - 1), .int v, .int (nI ln)]) ++ List.replicate (8 - (lg_sl ([.ref (ad 9 i), .ref (ad 6 0), .int (nI x - 1), .int v, .int (nI ln)])).length) Slot.unset).toArray = ls at hl ⊢
    have hl : lv_has ls 8 [(0, .ref (ad 9 i)), (1, .ref (ad 6 0)), (2, .int (nI x - 1)), (3, .int v), (4, .int (nI ln))] := hl
    have loop : ∀ (j k : Nat) (g : Int32), n = k + j → x ≤ k → g.toInt = v.toInt + 0 → ∀ (H : Heap) (locs : List Loc) (ls : Array Slot), kx_Wd G z0 ad nb sg H → va_S (kx_Ad z0) s.heap H locs → lv_has ls 8 [(6, .int (nI k)), (5, .int g), (0, .ref (ad 9 i)), (1, .ref (ad 6 0)), (2, .int (nI x - 1)), (3, .int v), (4, .int (nI ln))] → W p l e (headSpec wsX3_greatestWorth { frames := 0 + 1, cells := 0, slots := 0, locals := 27 * 0 + 40 }).room s m ([.ref (ad 9 i), .ref (ad 6 0), .int (nI x - 1), .int v, .int (nI ln)] : List Value).toArray below meth c H locs 0 0 (MQ below (kx_Q G z0 ad nb (fun r sg' => ∃ a : Int32, r = some (.int a) ∧ sg' = sg ∧ a.toInt = v.toInt + dp_e (dp_g (fun j k => tw_tru (sg 13 i k) (nI j)) (fun k => tw_tru (sg 13 i k) 12)) (fun k => (sg 6 0 k).toInt) n 0 x)) ([.ref (ad 9 i), .ref (ad 6 0), .int (nI x - 1), .int v, .int (nI ln)] : List Value).toArray s 0 0 (kx_Ad z0)) (F0 m 20 ls []) := by
      intro j
      induction j with
      | zero =>
        intro k g hk hxk hg H locs ls hW hS hl
        refine lv_iload hx hb dX3_greatestWorth_20 (lv_at hl 0 rfl) ?_
        refine lv_aload_n hx hb dX3_greatestWorth_22 rfl (lv_at hl 2 rfl) ?_
        refine kx_g F inX0 hW 9 i hi rfl rfl 6 (by decide) L_171 (v := .int (nI n)) (congrArg (fun z => some (Value.int z)) hn) dX3_greatestWorth_23 ?_
        refine lv_icmp_ge (tgt := 73) hx hb dX3_greatestWorth_26 (by decide) (fun c_26 => ?_) (fun c_26 => ?_)
        · refine lv_iload hx hb dX3_greatestWorth_73 (lv_at hl 1 rfl) ?_
          exact kx_ri F hr hlocks hW hS (by first | exact Nat.le_of_ble_eq_true rfl | omega) (by first | exact Nat.le_of_ble_eq_true rfl | omega) (⟨g, rfl, rfl, by rw [hg, dp_e]⟩) dX3_greatestWorth_75
        · exact absurd (nI_le (by omega) (by omega)) c_26
      | succ j ih =>
        intro k g hk hxk hg H locs ls hW hS hl
        exact absurd hk (by omega)
    refine lv_iload_n hx hb dX3_greatestWorth_0 rfl (lv_at hl 3 rfl) ?_
    refine lv_istore (lv' := [(5, .int v), (0, .ref (ad 9 i)), (1, .ref (ad 6 0)), (2, .int (nI x - 1)), (3, .int v), (4, .int (nI ln))]) hx hb dX3_greatestWorth_1 hl (by decide) rfl (fun ls hl => ?_)
    refine lv_iload hx hb dX3_greatestWorth_3 (lv_at hl 5 rfl) ?_
    refine lv_aload_n hx hb dX3_greatestWorth_5 rfl (lv_at hl 1 rfl) ?_
    refine kx_g F inX0 hW 9 i hi rfl rfl 6 (by decide) L_171 (v := .int (nI n)) (congrArg (fun z => some (Value.int z)) hn) dX3_greatestWorth_6 ?_
    refine lv_icmp_lt (tgt := 15) hx hb dX3_greatestWorth_9 (by decide) (fun c_9 => ?_) (fun c_9 => ?_)
    · refine lv_iload_n hx hb dX3_greatestWorth_15 rfl (lv_at hl 3 rfl) ?_
      refine lv_iconst (v := 1) hx hb dX3_greatestWorth_16 (by decide) ?_
      refine lv_iadd hx hb dX3_greatestWorth_17 ?_
      rw [show nI x - 1 + 1 = nI x from Int32.sub_add_cancel _ _]
      refine lv_istore (lv' := [(6, .int (nI x)), (5, .int v), (0, .ref (ad 9 i)), (1, .ref (ad 6 0)), (2, .int (nI x - 1)), (3, .int v), (4, .int (nI ln))]) hx hb dX3_greatestWorth_18 hl (by decide) rfl (fun ls hl => ?_)
      exact loop (n - x) x v (by omega) (Nat.le_refl x) (by omega) _ _ ls hW hS (lv_sub hl [0, 1, 2, 3, 4, 5, 6] rfl)
    · refine lv_iload hx hb dX3_greatestWorth_12 (lv_at hl 0 rfl) ?_
      exact kx_ri F hr hlocks hW hS (by first | exact Nat.le_of_ble_eq_true rfl | omega) (by first | exact Nat.le_of_ble_eq_true rfl | omega) (⟨v, rfl, rfl, by rw [dp_e_n (show n ≤ x from tw_gw_x (by omega) (by omega) (by omega) c_9)]; omega⟩) dX3_greatestWorth_14
  | succ d ihd =>
    intro x ln v hxn hd hln hv0 hv1
    refine Met.ofW (cc := cX3_greatestWorth) (maxL := 8) (ret := (some .int)) (by decide) rfl ?_
    intro p e s m args below meth c s₁ B hml hv
    obtain ⟨rfl, hW, hV⟩ := hv
    have hts := atoms_spec (ws := wsX3_greatestWorth) B.pre
    have F : kx_F p s m c cX3_greatestWorth 8 RX3 _ wsX3_greatestWorth G z0 := ⟨B.exec, B.bytes, hml, findClass_of_methodNamed B.named, hts, hV⟩
    have hx := B.exec; have hb := B.bytes; have hr := B.returns; have hlocks := B.notSynchronized
    have hS : va_S (kx_Ad z0) s.heap s.heap [] := va_S.rf
    have L_171 : Cond.fieldLink RX3 171 (TX0 6).1 (TX0 6).2.1 (TX0 6).2.2.1 ∈ wsX3_greatestWorth := by decide +kernel
    have inX0 : ∀ w ∈ u_ws RX0 TX0 11, w ∈ wsX3_greatestWorth := by decide +kernel
    have hl := lv_entry ([.ref (ad 9 i), .ref (ad 6 0), .int (nI x - 1), .int v, .int (nI ln)]) (n := 8) (Nat.le_of_ble_eq_true rfl)
    rw [lg_entry_eq]
    generalize (lg_sl ([.ref (ad 9 i), .ref (ad 6 0), .int (nI x - 1), .int v, .int (nI ln)]) ++ List.replicate (8 - (lg_sl ([.ref (ad 9 i), .ref (ad 6 0), .int (nI x - 1), .int v, .int (nI ln)])).length) Slot.unset).toArray = ls at hl ⊢
    have hl : lv_has ls 8 [(0, .ref (ad 9 i)), (1, .ref (ad 6 0)), (2, .int (nI x - 1)), (3, .int v), (4, .int (nI ln))] := hl
    have loop : ∀ (j k : Nat) (g : Int32), n = k + j → x ≤ k → g.toInt = v.toInt + dp_fi (dp_g (fun j k => tw_tru (sg 13 i k) (nI j)) (fun k => tw_tru (sg 13 i k) 12)) (fun k => (sg 6 0 k).toInt) (dp_e (dp_g (fun j k => tw_tru (sg 13 i k) (nI j)) (fun k => tw_tru (sg 13 i k) 12)) (fun k => (sg 6 0 k).toInt) n d) x (k - x) → ∀ (H : Heap) (locs : List Loc) (ls : Array Slot), kx_Wd G z0 ad nb sg H → va_S (kx_Ad z0) s.heap H locs → lv_has ls 8 [(6, .int (nI k)), (5, .int g), (0, .ref (ad 9 i)), (1, .ref (ad 6 0)), (2, .int (nI x - 1)), (3, .int v), (4, .int (nI ln))] → W p l e (headSpec wsX3_greatestWorth { frames := (d + 1) + 1, cells := 0, slots := 0, locals := 27 * (d + 1) + 40 }).room s m ([.ref (ad 9 i), .ref (ad 6 0), .int (nI x - 1), .int v, .int (nI ln)] : List Value).toArray below meth c H locs 0 0 (MQ below (kx_Q G z0 ad nb (fun r sg' => ∃ a : Int32, r = some (.int a) ∧ sg' = sg ∧ a.toInt = v.toInt + dp_e (dp_g (fun j k => tw_tru (sg 13 i k) (nI j)) (fun k => tw_tru (sg 13 i k) 12)) (fun k => (sg 6 0 k).toInt) n (d + 1) x)) ([.ref (ad 9 i), .ref (ad 6 0), .int (nI x - 1), .int v, .int (nI ln)] : List Value).toArray s 0 0 (kx_Ad z0)) (F0 m 20 ls []) := by
      intro j
      induction j with
      | zero =>
        intro k g hk hxk hg H locs ls hW hS hl
        refine lv_iload hx hb dX3_greatestWorth_20 (lv_at hl 0 rfl) ?_
        refine lv_aload_n hx hb dX3_greatestWorth_22 rfl (lv_at hl 2 rfl) ?_
        refine kx_g F inX0 hW 9 i hi rfl rfl 6 (by decide) L_171 (v := .int (nI n)) (congrArg (fun z => some (Value.int z)) hn) dX3_greatestWorth_23 ?_
        refine lv_icmp_ge (tgt := 73) hx hb dX3_greatestWorth_26 (by decide) (fun c_26 => ?_) (fun c_26 => ?_)
        · refine lv_iload hx hb dX3_greatestWorth_73 (lv_at hl 1 rfl) ?_
          exact kx_ri F hr hlocks hW hS (by first | exact Nat.le_of_ble_eq_true rfl | omega) (by first | exact Nat.le_of_ble_eq_true rfl | omega) (⟨g, rfl, rfl, by rw [hg, dp_e, show n - x = k - x by omega]⟩) dX3_greatestWorth_75
        · exact absurd (nI_le (by omega) (by omega)) c_26
      | succ j ih =>
        intro k g hk hxk hg H locs ls hW hS hl
        refine lv_iload hx hb dX3_greatestWorth_20 (lv_at hl 0 rfl) ?_
        refine lv_aload_n hx hb dX3_greatestWorth_22 rfl (lv_at hl 2 rfl) ?_
        refine kx_g F inX0 hW 9 i hi rfl rfl 6 (by decide) L_171 (v := .int (nI n)) (congrArg (fun z => some (Value.int z)) hn) dX3_greatestWorth_23 ?_
        refine lv_icmp_ge (tgt := 73) hx hb dX3_greatestWorth_26 (by decide) (fun c_26 => ?_) (fun c_26 => ?_)
        · exact absurd c_26 (nI_ge (by omega) (by omega))
        · refine lv_aload_n hx hb dX3_greatestWorth_29 rfl (lv_at hl 2 rfl) ?_
          refine lv_iload_n hx hb dX3_greatestWorth_30 rfl (lv_at hl 4 rfl) ?_
          refine lv_iload hx hb dX3_greatestWorth_31 (lv_at hl 0 rfl) ?_
          refine kx_cV (na := 2) F (q := 9) (n := i) (c_X0_canFollow l G z0 ad nb sg i hi (nI x - 1) k (by omega)) gX3_greatestWorth_X0_canFollow rfl (by decide +kernel) ⟨by show 0 + 1 ≤ d + 1 + 1; omega, by show 8 + (4 + 11) + 0 ≤ 27 * (d + 1) + 40; omega⟩ hW hS hi rfl rfl (As := [.int (nI x - 1), .int (nI k)]) (rest := []) rfl hl.1 rfl (Nat.le_of_ble_eq_true rfl) dX3_greatestWorth_33 ⟨by first | exact Nat.le_of_ble_eq_true rfl | omega, by first | exact Nat.le_of_ble_eq_true rfl | omega⟩ (fun r9 sg9 H locs hq hW hS => ?_)
          obtain ⟨rfl, e9⟩ := hq
          rw [e9] at hW
          refine W.eq (g2 := F0 m 36 ls [.int (tw_b (tw_tru (sg 13 i k) (if (nI x - 1) = -1 then 12 else (nI x - 1))))]) rfl ?_
          refine lv_if_eq (tgt := 67) hx hb dX3_greatestWorth_36 (by decide) (fun c_36 => ?_) (fun c_36 => ?_)
          · refine lv_iinc (v := nI (k + 1)) (lv' := [(6, .int (nI (k + 1))), (5, .int g), (0, .ref (ad 9 i)), (1, .ref (ad 6 0)), (2, .int (nI x - 1)), (3, .int v), (4, .int (nI ln))]) hx hb dX3_greatestWorth_67 hl (k := 0) rfl (nI_1 k) (by decide) rfl (fun ls hl => ?_)
            refine lv_goto (tgt := 20) hx hb dX3_greatestWorth_70 (by decide) ?_
            exact ih (k + 1) g (by omega) (by omega) (by
              rw [hg, show k + 1 - x = (k - x) + 1 by omega, dp_fi, show x + (k - x) = k by omega, if_neg (by rw [tw_gw_f (sg 13 i) (by omega) (tw_b_0 c_36)]; decide)]) H locs ls hW hS (lv_sub hl [0, 1, 2, 3, 4, 5, 6] rfl)
          · have hwk := hw k (by omega)
            have hgk : dp_g (fun j k => tw_tru (sg 13 i k) (nI j)) (fun k => tw_tru (sg 13 i k) 12) x k = true := tw_gw_t (sg 13 i) (by omega) (tw_b_1 c_36)
            have hkx : ((x : Int) + 1) * 300000 ≤ (k + 1) * 300000 := Int.mul_le_mul_of_nonneg_right (by omega) (by decide)
            have hxx : ((x : Int) + 1) * 300000 = x * 300000 + 300000 := by rw [Int.add_mul, Int.one_mul]
            have hx12 : (x : Int) * 300000 ≤ 12 * 300000 := Int.mul_le_mul_of_nonneg_right (by omega) (by decide)
            refine lv_iload_n hx hb dX3_greatestWorth_39 rfl (lv_at hl 5 rfl) ?_
            refine lv_aload_n hx hb dX3_greatestWorth_40 rfl (lv_at hl 3 rfl) ?_
            refine lv_iload hx hb dX3_greatestWorth_41 (lv_at hl 0 rfl) ?_
            refine kx_ald F hW 6 0 ⟨by decide, rfl⟩ rfl k (by omega) (by decide) (v := sg 6 0 k) rfl dX3_greatestWorth_43 ?_
            refine lv_iadd hx hb dX3_greatestWorth_44 ?_
            refine lv_istore (lv' := [(7, .int (v + (sg 6 0 k))), (6, .int (nI k)), (5, .int g), (0, .ref (ad 9 i)), (1, .ref (ad 6 0)), (2, .int (nI x - 1)), (3, .int v), (4, .int (nI ln))]) hx hb dX3_greatestWorth_45 hl (by decide) rfl (fun ls hl => ?_)
            refine lv_iload hx hb dX3_greatestWorth_47 (lv_at hl 2 rfl) ?_
            refine lv_aload_n hx hb dX3_greatestWorth_49 rfl (lv_at hl 3 rfl) ?_
            refine lv_aload_n hx hb dX3_greatestWorth_50 rfl (lv_at hl 4 rfl) ?_
            refine lv_iload hx hb dX3_greatestWorth_51 (lv_at hl 1 rfl) ?_
            refine lv_iload hx hb dX3_greatestWorth_53 (lv_at hl 0 rfl) ?_
            refine lv_iload hx hb dX3_greatestWorth_55 (lv_at hl 7 rfl) ?_
            refine lv_iconst (v := 1) hx hb dX3_greatestWorth_57 (by decide) ?_
            refine lv_iadd hx hb dX3_greatestWorth_58 ?_
            have hlong : (v + sg 6 0 k).toInt = v.toInt + (sg 6 0 k).toInt := tw_addI (by omega) (by omega)
            rw [nI_1 ln]
            refine kx_cS (na := 5) F (tw_gw_re (ihd (k + 1) (ln + 1) (v + sg 6 0 k) (by omega) (by omega) (by omega) (by omega) (by rw [hlong]; push_cast; omega))) gX3_greatestWorth_X3_greatestWorth rfl (by decide +kernel) ⟨by show d + 1 + 1 ≤ d + 1 + 1; omega, by show 8 + (8 + 11) + (27 * d + 40) ≤ 27 * (d + 1) + 40; omega⟩ hW hS (As := [.ref (ad 9 i), .ref (ad 6 0), .int (nI k), .int (v + (sg 6 0 k)), .int (nI (ln + 1))]) (rest := [.int g]) rfl hl.1 rfl (Nat.le_of_ble_eq_true rfl) dX3_greatestWorth_59 ⟨by first | exact Nat.le_of_ble_eq_true rfl | omega, by first | exact Nat.le_of_ble_eq_true rfl | omega⟩ (fun r9 sg9 H locs hq hW hS => ?_)
            obtain ⟨a9, rfl, e9, ha9⟩ := hq
            rw [e9] at hW
            refine W.eq (g2 := F0 m 62 ls [.int a9, .int g]) rfl ?_
            refine va_mmax hx hb (F.2.2.1.trans hl.1.symm) F.2.2.2.1 (hts (.methodLink RX3 206 Lib.Math.max.name) (by decide +kernel)) (hts (.static Lib.Math.max.name) (by decide +kernel)) (hts (.initialized "java/lang/Math") (by decide +kernel)) (hts (.code Lib.Math.max.name Lib.Math.max.code 2 (some .int)) (by decide +kernel)) (Nat.le_of_ble_eq_true rfl) (Nat.le_of_ble_eq_true rfl) (by first | exact Nat.zero_le _ | omega) (by first | exact Nat.zero_le _ | omega) dX3_greatestWorth_62 ?_
            refine lv_istore (lv' := [(5, .int (if g < a9 then a9 else g)), (7, .int (v + (sg 6 0 k))), (6, .int (nI k)), (0, .ref (ad 9 i)), (1, .ref (ad 6 0)), (2, .int (nI x - 1)), (3, .int v), (4, .int (nI ln))]) hx hb dX3_greatestWorth_65 hl (by decide) rfl (fun ls hl => ?_)
            refine lv_iinc (v := nI (k + 1)) (lv' := [(6, .int (nI (k + 1))), (5, .int (if g < a9 then a9 else g)), (7, .int (v + (sg 6 0 k))), (0, .ref (ad 9 i)), (1, .ref (ad 6 0)), (2, .int (nI x - 1)), (3, .int v), (4, .int (nI ln))]) hx hb dX3_greatestWorth_67 hl (k := 2) rfl (nI_1 k) (by decide) rfl (fun ls hl => ?_)
            refine lv_goto (tgt := 20) hx hb dX3_greatestWorth_70 (by decide) ?_
            exact ih (k + 1) _ (by omega) (by omega) (by
              rw [tw_max, hg, ha9, hlong, show k + 1 - x = (k - x) + 1 by omega, dp_fi, show x + (k - x) = k by omega, if_pos hgk]
              omega) H locs ls hW hS (lv_sub hl [0, 1, 3, 4, 5, 6, 7] rfl)
    refine lv_iload_n hx hb dX3_greatestWorth_0 rfl (lv_at hl 3 rfl) ?_
    refine lv_istore (lv' := [(5, .int v), (0, .ref (ad 9 i)), (1, .ref (ad 6 0)), (2, .int (nI x - 1)), (3, .int v), (4, .int (nI ln))]) hx hb dX3_greatestWorth_1 hl (by decide) rfl (fun ls hl => ?_)
    refine lv_iload hx hb dX3_greatestWorth_3 (lv_at hl 5 rfl) ?_
    refine lv_aload_n hx hb dX3_greatestWorth_5 rfl (lv_at hl 1 rfl) ?_
    refine kx_g F inX0 hW 9 i hi rfl rfl 6 (by decide) L_171 (v := .int (nI n)) (congrArg (fun z => some (Value.int z)) hn) dX3_greatestWorth_6 ?_
    refine lv_icmp_lt (tgt := 15) hx hb dX3_greatestWorth_9 (by decide) (fun c_9 => ?_) (fun c_9 => ?_)
    · refine lv_iload_n hx hb dX3_greatestWorth_15 rfl (lv_at hl 3 rfl) ?_
      refine lv_iconst (v := 1) hx hb dX3_greatestWorth_16 (by decide) ?_
      refine lv_iadd hx hb dX3_greatestWorth_17 ?_
      rw [show nI x - 1 + 1 = nI x from Int32.sub_add_cancel _ _]
      refine lv_istore (lv' := [(6, .int (nI x)), (5, .int v), (0, .ref (ad 9 i)), (1, .ref (ad 6 0)), (2, .int (nI x - 1)), (3, .int v), (4, .int (nI ln))]) hx hb dX3_greatestWorth_18 hl (by decide) rfl (fun ls hl => ?_)
      exact loop (n - x) x v (by omega) (Nat.le_refl x) (by rw [Nat.sub_self, dp_fi]; omega) _ _ ls hW hS (lv_sub hl [0, 1, 2, 3, 4, 5, 6] rfl)
    · refine lv_iload hx hb dX3_greatestWorth_12 (lv_at hl 0 rfl) ?_
      exact kx_ri F hr hlocks hW hS (by first | exact Nat.le_of_ble_eq_true rfl | omega) (by first | exact Nat.le_of_ble_eq_true rfl | omega) (⟨v, rfl, rfl, by rw [dp_e_n (show n ≤ x from tw_gw_x (by omega) (by omega) (by omega) c_9)]; omega⟩) dX3_greatestWorth_14
end
section
theorem kx_M_imp {l : Launch} {y : MethodName} {ws : List Cond} {fr lo mc ms : Nat} {G : kx_G} {z0 : Nat} {ad : kx_A} {nb : Nat} {sg : kx_S} {av : List Value} {post post' : Option Value → kx_S → Prop} (h : kx_M l y ws fr lo mc ms G z0 ad nb sg av post) (hp : ∀ r s, post r s → post' r s) : kx_M l y ws fr lo mc ms G z0 ad nb sg av post' :=
  MetFree.mono h (fun _ _ q => q) (fun _ _ _ _ _ q => q) (fun _ _ _ _ _ q => ⟨⟨by obtain ⟨⟨⟨r, s9, h1, h2, h3⟩, -⟩, -⟩ := q; exact ⟨r, s9, h1, hp r s9 h2, h3⟩, q.1.2⟩, q.2⟩)
def tw_n (sg : kx_S) (i : Nat) : Nat := (sg 9 i 6).toNatClampNeg
theorem tw_n_eq {sg : kx_S} {i n : Nat} (h : sg 9 i 6 = nI n) (h12 : n ≤ 12) : tw_n sg i = n := by rw [tw_n, h, nI_clamp (by omega)]
def tw_01 (x : Int32) : Prop := x = 0 ∨ x = 1
theorem tw_01_nar {x : Int32} (h : tw_01 x) : narrow .boolean (.int x) = .int x := by rcases h with h | h <;> rw [h] <;> rfl
/-- what the town's methods lean on -/
def tw_CI (nb : Nat) (sg : kx_S) : Prop := nb ≤ 16 ∧ tw_WF nb sg ∧ (∀ i, i < nb → tw_01 (sg 9 i 8) ∧ tw_01 (sg 9 i 9)) ∧ (∀ d, d < 10 → tw_01 (sg 8 d 1)) ∧ (∀ d, d < 10 → sg 8 d 2 = -1 ∨ ∃ b : Nat, b < nb ∧ sg 8 d 2 = nI b) ∧ sg 0 0 6 = nI nb
/-- a scan is added, and its box is settled -/
def tw_AS (sg : kx_S) (i n : Nat) (q : Int32) (mj : Nat) (sg' : kx_S) : Prop := ∃ (a : Int32) (s1 : kx_S), (tw_tru a (nI 12) = decide (tw_cmn 0 q ≤ sg 0 0 7) ∧ ∀ j, j < n → tw_tru a (nI j) = decide (tw_cmn (sg 11 i j) q ≤ sg 0 0 7 - sg 10 i j)) ∧ s1 = kx_up (kx_up (kx_up (kx_up (kx_up sg 10 i (upd (sg 10 i) n (sg 0 0 7))) 11 i (upd (sg 11 i) n q)) 12 i (upd (sg 12 i) n (nI mj))) 13 i (upd (sg 13 i) n a)) 9 i (upd (sg 9 i) 6 (nI (n + 1))) ∧ tw_SR s1 sg' i (tw_stl s1 i (n + 1))
def tw_liesA (sg : kx_S) (who : Int32) : Nat → Int32
  | 0 => 0
  | k + 1 => tw_liesA sg who k + tw_lies (sg 9 k 7) (sg 12 k) who (tw_n sg k)
def tw_fineOf (now : Int32) (w s : Int32) : Int32 := if tw_kind w = 2 then 2 * (if (0 : Int32) < (now - s) / 60 - 24 then (now - s) / 60 - 24 else 0) else 0

theorem c_X3_addScan_any (l : Launch) (G : kx_G) (z0 : Nat) (ad : kx_A) (nb : Nat) (sg : kx_S) (i : Nat) (hi : i < nb) (n : Nat) (hn : sg 9 i 6 = nI n) (h12 : n ≤ 12) (hm : ∀ k, k < n → ∃ j : Nat, j ≤ 14 ∧ sg 12 i k = nI j) (ht : ∀ w, w < 14 → 1 ≤ (sg 3 0 w).toInt ∧ (sg 3 0 w).toInt ≤ 9) (q : Int32) (mj : Nat) (hmj : mj ≤ 14) : kx_M l yX3_addScan wsX3_addScan 5 113 0 0 G z0 ad nb sg [.ref (ad 0 0), .ref (ad 9 i), .int q, .int (nI mj)] (fun r sg' => ∃ v : Int32, r = some (.int v) ∧ ((n < 12 ∧ v = nI n ∧ tw_AS sg i n q mj sg') ∨ (n = 12 ∧ tw_SR sg sg' i (tw_stl sg i 12)))) := by
  rcases Nat.lt_or_ge n 12 with h | h
  · exact kx_M_imp (c_X3_addScan l G z0 ad nb sg i hi n hn h hm ht q mj hmj) (fun r s hq => ⟨nI n, hq.1, Or.inl ⟨h, rfl, hq.2⟩⟩)
  · have e : n = 12 := by omega
    subst e
    exact kx_M_imp (c_X3_addScan_full l G z0 ad nb sg i hi hn hm ht q (nI mj)) (fun r s hq => ⟨-1, hq.1, Or.inr ⟨rfl, hq.2⟩⟩)

set_option maxHeartbeats 1000000 in
set_option maxRecDepth 100000 in
theorem c_X3_scans (l : Launch) (hlf : l.stackTraces = false) (G : kx_G) (z0 : Nat) (ad : kx_A) (nb : Nat) (sg : kx_S) (hC : tw_CI nb sg) (x : Int32) : kx_MX l yX3_scans wsX3_scans 7 111 1 6 G z0 ad nb sg [.ref (ad 0 0), .int x] (fun r sg' => ∃ k : Nat, k < nb ∧ x = nI k ∧ r = some (.int (sg 9 k 6)) ∧ sg' = sg) (fun E => E = kx_ioe ∧ ∀ k, k < nb → ¬ x = nI k) := by
  refine vx_ofW (cc := cX3_scans) (maxL := 2) (ret := (some .int)) (by decide) rfl ?_
  intro p e s m args below meth c s₁ B hml htab hv
  obtain ⟨rfl, hW, hV⟩ := hv
  have hts := atoms_spec (ws := wsX3_scans) B.pre
  have F : kx_F p s m c cX3_scans 2 RX3 _ wsX3_scans G z0 := ⟨B.exec, B.bytes, hml, findClass_of_methodNamed B.named, hts, hV⟩
  have hx := B.exec; have hb := B.bytes; have hr := B.returns; have hlocks := B.notSynchronized
  have hS : va_S (kx_Ad z0) s.heap s.heap [] := va_S.rf
  obtain ⟨hnb, hwf, hbl, hjm, hkp, hnn⟩ := hC
  have L_171 : Cond.fieldLink RX3 171 (TX0 6).1 (TX0 6).2.1 (TX0 6).2.2.1 ∈ wsX3_scans := by decide +kernel
  have inX0 : ∀ w ∈ u_ws RX0 TX0 11, w ∈ wsX3_scans := by decide +kernel
  have hl := lv_entry ([.ref (ad 0 0), .int x]) (n := 2) (Nat.le_of_ble_eq_true rfl)
  rw [lg_entry_eq]
  generalize (lg_sl ([.ref (ad 0 0), .int x]) ++ List.replicate (2 - (lg_sl ([.ref (ad 0 0), .int x])).length) Slot.unset).toArray = ls at hl ⊢
  have hl : lv_has ls 2 [(0, .ref (ad 0 0)), (1, .int x)] := hl
  refine lv_aload_n hx hb dX3_scans_0 rfl (lv_at hl 0 rfl) ?_
  refine lv_iload_n hx hb dX3_scans_1 rfl (lv_at hl 1 rfl) ?_
  refine kx_xV (na := 1) F (q := 0) (n := 0) (c_X3_boxAt l hlf G z0 ad nb sg hnb x) gX3_scans_X3_boxAt rfl (by decide +kernel) ⟨Nat.le_of_ble_eq_true rfl, Nat.le_of_ble_eq_true rfl⟩ hW hS ⟨by decide, rfl⟩ rfl rfl (As := [.int x]) (rest := []) rfl hl.1 rfl (Nat.le_of_ble_eq_true rfl) dX3_scans_2 ⟨by first | exact Nat.le_of_ble_eq_true rfl | omega, by first | exact Nat.le_of_ble_eq_true rfl | omega⟩ (fun E9 ce9 q9 H locs hp9 hW hS h7 h8 h9 => ?_) (fun r9 sg9 H locs hq hW hS => ?_)
  · exact kx_out htab hlocks hW hS (by first | exact Nat.le_of_ble_eq_true rfl | omega) (by first | exact Nat.le_of_ble_eq_true rfl | omega) (hp9) h7 h8 h9
  obtain ⟨k, hk, rfl, rfl, e9⟩ := hq
  rw [e9] at hW
  refine W.eq (g2 := F0 m 5 ls [.ref (ad 9 k)]) rfl ?_
  refine kx_g F inX0 hW 9 k hk rfl rfl 6 (by decide) L_171 (v := .int (sg 9 k 6)) rfl dX3_scans_5 ?_
  refine vx_ret ?_
  exact kx_ri F hr hlocks hW hS (by first | exact Nat.le_of_ble_eq_true rfl | omega) (by first | exact Nat.le_of_ble_eq_true rfl | omega) (⟨k, hk, rfl, rfl, rfl⟩) dX3_scans_8

set_option maxHeartbeats 1000000 in
set_option maxRecDepth 100000 in
theorem c_X3_story (l : Launch) (hlf : l.stackTraces = false) (G : kx_G) (z0 : Nat) (ad : kx_A) (nb : Nat) (sg : kx_S) (hC : tw_CI nb sg) (x : Int32) : kx_MX l yX3_story wsX3_story 7 111 1 6 G z0 ad nb sg [.ref (ad 0 0), .int x] (fun r sg' => ∃ k : Nat, k < nb ∧ x = nI k ∧ r = some (.int (sg 9 k 7)) ∧ sg' = sg) (fun E => E = kx_ioe ∧ ∀ k, k < nb → ¬ x = nI k) := by
  refine vx_ofW (cc := cX3_story) (maxL := 2) (ret := (some .int)) (by decide) rfl ?_
  intro p e s m args below meth c s₁ B hml htab hv
  obtain ⟨rfl, hW, hV⟩ := hv
  have hts := atoms_spec (ws := wsX3_story) B.pre
  have F : kx_F p s m c cX3_story 2 RX3 _ wsX3_story G z0 := ⟨B.exec, B.bytes, hml, findClass_of_methodNamed B.named, hts, hV⟩
  have hx := B.exec; have hb := B.bytes; have hr := B.returns; have hlocks := B.notSynchronized
  have hS : va_S (kx_Ad z0) s.heap s.heap [] := va_S.rf
  obtain ⟨hnb, hwf, hbl, hjm, hkp, hnn⟩ := hC
  have L_174 : Cond.fieldLink RX3 174 (TX0 7).1 (TX0 7).2.1 (TX0 7).2.2.1 ∈ wsX3_story := by decide +kernel
  have inX0 : ∀ w ∈ u_ws RX0 TX0 11, w ∈ wsX3_story := by decide +kernel
  have hl := lv_entry ([.ref (ad 0 0), .int x]) (n := 2) (Nat.le_of_ble_eq_true rfl)
  rw [lg_entry_eq]
  generalize (lg_sl ([.ref (ad 0 0), .int x]) ++ List.replicate (2 - (lg_sl ([.ref (ad 0 0), .int x])).length) Slot.unset).toArray = ls at hl ⊢
  have hl : lv_has ls 2 [(0, .ref (ad 0 0)), (1, .int x)] := hl
  refine lv_aload_n hx hb dX3_story_0 rfl (lv_at hl 0 rfl) ?_
  refine lv_iload_n hx hb dX3_story_1 rfl (lv_at hl 1 rfl) ?_
  refine kx_xV (na := 1) F (q := 0) (n := 0) (c_X3_boxAt l hlf G z0 ad nb sg hnb x) gX3_story_X3_boxAt rfl (by decide +kernel) ⟨Nat.le_of_ble_eq_true rfl, Nat.le_of_ble_eq_true rfl⟩ hW hS ⟨by decide, rfl⟩ rfl rfl (As := [.int x]) (rest := []) rfl hl.1 rfl (Nat.le_of_ble_eq_true rfl) dX3_story_2 ⟨by first | exact Nat.le_of_ble_eq_true rfl | omega, by first | exact Nat.le_of_ble_eq_true rfl | omega⟩ (fun E9 ce9 q9 H locs hp9 hW hS h7 h8 h9 => ?_) (fun r9 sg9 H locs hq hW hS => ?_)
  · exact kx_out htab hlocks hW hS (by first | exact Nat.le_of_ble_eq_true rfl | omega) (by first | exact Nat.le_of_ble_eq_true rfl | omega) (hp9) h7 h8 h9
  obtain ⟨k, hk, rfl, rfl, e9⟩ := hq
  rw [e9] at hW
  refine W.eq (g2 := F0 m 5 ls [.ref (ad 9 k)]) rfl ?_
  refine kx_g F inX0 hW 9 k hk rfl rfl 7 (by decide) L_174 (v := .int (sg 9 k 7)) rfl dX3_story_5 ?_
  refine vx_ret ?_
  exact kx_ri F hr hlocks hW hS (by first | exact Nat.le_of_ble_eq_true rfl | omega) (by first | exact Nat.le_of_ble_eq_true rfl | omega) (⟨k, hk, rfl, rfl, rfl⟩) dX3_story_8

set_option maxHeartbeats 1000000 in
set_option maxRecDepth 100000 in
theorem c_X3_hasFee (l : Launch) (hlf : l.stackTraces = false) (G : kx_G) (z0 : Nat) (ad : kx_A) (nb : Nat) (sg : kx_S) (hC : tw_CI nb sg) (x : Int32) : kx_MX l yX3_hasFee wsX3_hasFee 7 111 1 6 G z0 ad nb sg [.ref (ad 0 0), .int x] (fun r sg' => ∃ k : Nat, k < nb ∧ x = nI k ∧ r = some (.int (sg 9 k 9)) ∧ sg' = sg) (fun E => E = kx_ioe ∧ ∀ k, k < nb → ¬ x = nI k) := by
  refine vx_ofW (cc := cX3_hasFee) (maxL := 2) (ret := (some .boolean)) (by decide) rfl ?_
  intro p e s m args below meth c s₁ B hml htab hv
  obtain ⟨rfl, hW, hV⟩ := hv
  have hts := atoms_spec (ws := wsX3_hasFee) B.pre
  have F : kx_F p s m c cX3_hasFee 2 RX3 _ wsX3_hasFee G z0 := ⟨B.exec, B.bytes, hml, findClass_of_methodNamed B.named, hts, hV⟩
  have hx := B.exec; have hb := B.bytes; have hr := B.returns; have hlocks := B.notSynchronized
  have hS : va_S (kx_Ad z0) s.heap s.heap [] := va_S.rf
  obtain ⟨hnb, hwf, hbl, hjm, hkp, hnn⟩ := hC
  have L_191 : Cond.fieldLink RX3 191 (TX0 9).1 (TX0 9).2.1 (TX0 9).2.2.1 ∈ wsX3_hasFee := by decide +kernel
  have inX0 : ∀ w ∈ u_ws RX0 TX0 11, w ∈ wsX3_hasFee := by decide +kernel
  have hl := lv_entry ([.ref (ad 0 0), .int x]) (n := 2) (Nat.le_of_ble_eq_true rfl)
  rw [lg_entry_eq]
  generalize (lg_sl ([.ref (ad 0 0), .int x]) ++ List.replicate (2 - (lg_sl ([.ref (ad 0 0), .int x])).length) Slot.unset).toArray = ls at hl ⊢
  have hl : lv_has ls 2 [(0, .ref (ad 0 0)), (1, .int x)] := hl
  refine lv_aload_n hx hb dX3_hasFee_0 rfl (lv_at hl 0 rfl) ?_
  refine lv_iload_n hx hb dX3_hasFee_1 rfl (lv_at hl 1 rfl) ?_
  refine kx_xV (na := 1) F (q := 0) (n := 0) (c_X3_boxAt l hlf G z0 ad nb sg hnb x) gX3_hasFee_X3_boxAt rfl (by decide +kernel) ⟨Nat.le_of_ble_eq_true rfl, Nat.le_of_ble_eq_true rfl⟩ hW hS ⟨by decide, rfl⟩ rfl rfl (As := [.int x]) (rest := []) rfl hl.1 rfl (Nat.le_of_ble_eq_true rfl) dX3_hasFee_2 ⟨by first | exact Nat.le_of_ble_eq_true rfl | omega, by first | exact Nat.le_of_ble_eq_true rfl | omega⟩ (fun E9 ce9 q9 H locs hp9 hW hS h7 h8 h9 => ?_) (fun r9 sg9 H locs hq hW hS => ?_)
  · exact kx_out htab hlocks hW hS (by first | exact Nat.le_of_ble_eq_true rfl | omega) (by first | exact Nat.le_of_ble_eq_true rfl | omega) (hp9) h7 h8 h9
  obtain ⟨k, hk, rfl, rfl, e9⟩ := hq
  rw [e9] at hW
  refine W.eq (g2 := F0 m 5 ls [.ref (ad 9 k)]) rfl ?_
  refine kx_g F inX0 hW 9 k hk rfl rfl 9 (by decide) L_191 (v := .int (sg 9 k 9)) rfl dX3_hasFee_5 ?_
  refine vx_ret ?_
  exact kx_rz F hr hlocks hW hS (by first | exact Nat.le_of_ble_eq_true rfl | omega) (by first | exact Nat.le_of_ble_eq_true rfl | omega) (tw_01_nar (hbl k hk).2) (⟨k, hk, rfl, rfl, rfl⟩) dX3_hasFee_8

set_option maxHeartbeats 1000000 in
set_option maxRecDepth 100000 in
theorem c_X3_isInsured (l : Launch) (hlf : l.stackTraces = false) (G : kx_G) (z0 : Nat) (ad : kx_A) (nb : Nat) (sg : kx_S) (hC : tw_CI nb sg) (x : Int32) : kx_MX l yX3_isInsured wsX3_isInsured 7 111 1 6 G z0 ad nb sg [.ref (ad 0 0), .int x] (fun r sg' => ∃ k : Nat, k < nb ∧ x = nI k ∧ r = some (.int (sg 9 k 8)) ∧ sg' = sg) (fun E => E = kx_ioe ∧ ∀ k, k < nb → ¬ x = nI k) := by
  refine vx_ofW (cc := cX3_isInsured) (maxL := 2) (ret := (some .boolean)) (by decide) rfl ?_
  intro p e s m args below meth c s₁ B hml htab hv
  obtain ⟨rfl, hW, hV⟩ := hv
  have hts := atoms_spec (ws := wsX3_isInsured) B.pre
  have F : kx_F p s m c cX3_isInsured 2 RX3 _ wsX3_isInsured G z0 := ⟨B.exec, B.bytes, hml, findClass_of_methodNamed B.named, hts, hV⟩
  have hx := B.exec; have hb := B.bytes; have hr := B.returns; have hlocks := B.notSynchronized
  have hS : va_S (kx_Ad z0) s.heap s.heap [] := va_S.rf
  obtain ⟨hnb, hwf, hbl, hjm, hkp, hnn⟩ := hC
  have L_156 : Cond.fieldLink RX3 156 (TX0 8).1 (TX0 8).2.1 (TX0 8).2.2.1 ∈ wsX3_isInsured := by decide +kernel
  have inX0 : ∀ w ∈ u_ws RX0 TX0 11, w ∈ wsX3_isInsured := by decide +kernel
  have hl := lv_entry ([.ref (ad 0 0), .int x]) (n := 2) (Nat.le_of_ble_eq_true rfl)
  rw [lg_entry_eq]
  generalize (lg_sl ([.ref (ad 0 0), .int x]) ++ List.replicate (2 - (lg_sl ([.ref (ad 0 0), .int x])).length) Slot.unset).toArray = ls at hl ⊢
  have hl : lv_has ls 2 [(0, .ref (ad 0 0)), (1, .int x)] := hl
  refine lv_aload_n hx hb dX3_isInsured_0 rfl (lv_at hl 0 rfl) ?_
  refine lv_iload_n hx hb dX3_isInsured_1 rfl (lv_at hl 1 rfl) ?_
  refine kx_xV (na := 1) F (q := 0) (n := 0) (c_X3_boxAt l hlf G z0 ad nb sg hnb x) gX3_isInsured_X3_boxAt rfl (by decide +kernel) ⟨Nat.le_of_ble_eq_true rfl, Nat.le_of_ble_eq_true rfl⟩ hW hS ⟨by decide, rfl⟩ rfl rfl (As := [.int x]) (rest := []) rfl hl.1 rfl (Nat.le_of_ble_eq_true rfl) dX3_isInsured_2 ⟨by first | exact Nat.le_of_ble_eq_true rfl | omega, by first | exact Nat.le_of_ble_eq_true rfl | omega⟩ (fun E9 ce9 q9 H locs hp9 hW hS h7 h8 h9 => ?_) (fun r9 sg9 H locs hq hW hS => ?_)
  · exact kx_out htab hlocks hW hS (by first | exact Nat.le_of_ble_eq_true rfl | omega) (by first | exact Nat.le_of_ble_eq_true rfl | omega) (hp9) h7 h8 h9
  obtain ⟨k, hk, rfl, rfl, e9⟩ := hq
  rw [e9] at hW
  refine W.eq (g2 := F0 m 5 ls [.ref (ad 9 k)]) rfl ?_
  refine kx_g F inX0 hW 9 k hk rfl rfl 8 (by decide) L_156 (v := .int (sg 9 k 8)) rfl dX3_isInsured_5 ?_
  refine vx_ret ?_
  exact kx_rz F hr hlocks hW hS (by first | exact Nat.le_of_ble_eq_true rfl | omega) (by first | exact Nat.le_of_ble_eq_true rfl | omega) (tw_01_nar (hbl k hk).1) (⟨k, hk, rfl, rfl, rfl⟩) dX3_isInsured_8

set_option maxHeartbeats 1000000 in
set_option maxRecDepth 100000 in
theorem c_X3_isJammed (l : Launch) (hlf : l.stackTraces = false) (G : kx_G) (z0 : Nat) (ad : kx_A) (nb : Nat) (sg : kx_S) (hC : tw_CI nb sg) (x : Int32) : kx_MX l yX3_isJammed wsX3_isJammed 7 111 1 6 G z0 ad nb sg [.ref (ad 0 0), .int x] (fun r sg' => ∃ d : Nat, d < 10 ∧ x = nI d ∧ r = some (.int (sg 8 d 1)) ∧ sg' = sg) (fun E => E = kx_ioe ∧ ∀ d, d < 10 → ¬ x = nI d) := by
  refine vx_ofW (cc := cX3_isJammed) (maxL := 2) (ret := (some .boolean)) (by decide) rfl ?_
  intro p e s m args below meth c s₁ B hml htab hv
  obtain ⟨rfl, hW, hV⟩ := hv
  have hts := atoms_spec (ws := wsX3_isJammed) B.pre
  have F : kx_F p s m c cX3_isJammed 2 RX3 _ wsX3_isJammed G z0 := ⟨B.exec, B.bytes, hml, findClass_of_methodNamed B.named, hts, hV⟩
  have hx := B.exec; have hb := B.bytes; have hr := B.returns; have hlocks := B.notSynchronized
  have hS : va_S (kx_Ad z0) s.heap s.heap [] := va_S.rf
  obtain ⟨hnb, hwf, hbl, hjm, hkp, hnn⟩ := hC
  have L_130 : Cond.fieldLink RX3 130 (TX1 1).1 (TX1 1).2.1 (TX1 1).2.2.1 ∈ wsX3_isJammed := by decide +kernel
  have inX1 : ∀ w ∈ u_ws RX1 TX1 5, w ∈ wsX3_isJammed := by decide +kernel
  have hl := lv_entry ([.ref (ad 0 0), .int x]) (n := 2) (Nat.le_of_ble_eq_true rfl)
  rw [lg_entry_eq]
  generalize (lg_sl ([.ref (ad 0 0), .int x]) ++ List.replicate (2 - (lg_sl ([.ref (ad 0 0), .int x])).length) Slot.unset).toArray = ls at hl ⊢
  have hl : lv_has ls 2 [(0, .ref (ad 0 0)), (1, .int x)] := hl
  refine lv_aload_n hx hb dX3_isJammed_0 rfl (lv_at hl 0 rfl) ?_
  refine lv_iload_n hx hb dX3_isJammed_1 rfl (lv_at hl 1 rfl) ?_
  refine kx_xV (na := 1) F (q := 0) (n := 0) (c_X3_doorAt l hlf G z0 ad nb sg x) gX3_isJammed_X3_doorAt rfl (by decide +kernel) ⟨Nat.le_of_ble_eq_true rfl, Nat.le_of_ble_eq_true rfl⟩ hW hS ⟨by decide, rfl⟩ rfl rfl (As := [.int x]) (rest := []) rfl hl.1 rfl (Nat.le_of_ble_eq_true rfl) dX3_isJammed_2 ⟨by first | exact Nat.le_of_ble_eq_true rfl | omega, by first | exact Nat.le_of_ble_eq_true rfl | omega⟩ (fun E9 ce9 q9 H locs hp9 hW hS h7 h8 h9 => ?_) (fun r9 sg9 H locs hq hW hS => ?_)
  · exact kx_out htab hlocks hW hS (by first | exact Nat.le_of_ble_eq_true rfl | omega) (by first | exact Nat.le_of_ble_eq_true rfl | omega) (hp9) h7 h8 h9
  obtain ⟨d, hd, rfl, rfl, e9⟩ := hq
  rw [e9] at hW
  refine W.eq (g2 := F0 m 5 ls [.ref (ad 8 d)]) rfl ?_
  refine kx_g F inX1 hW 8 d hd rfl rfl 1 (by decide) L_130 (v := .int (sg 8 d 1)) rfl dX3_isJammed_5 ?_
  refine vx_ret ?_
  exact kx_rz F hr hlocks hW hS (by first | exact Nat.le_of_ble_eq_true rfl | omega) (by first | exact Nat.le_of_ble_eq_true rfl | omega) (tw_01_nar (hjm d hd)) (⟨d, hd, rfl, rfl, rfl⟩) dX3_isJammed_8

set_option maxHeartbeats 1000000 in
set_option maxRecDepth 100000 in
theorem c_X3_keptFor (l : Launch) (hlf : l.stackTraces = false) (G : kx_G) (z0 : Nat) (ad : kx_A) (nb : Nat) (sg : kx_S) (hC : tw_CI nb sg) (x : Int32) : kx_MX l yX3_keptFor wsX3_keptFor 7 111 1 6 G z0 ad nb sg [.ref (ad 0 0), .int x] (fun r sg' => ∃ d : Nat, d < 10 ∧ x = nI d ∧ r = some (.int (sg 8 d 2)) ∧ sg' = sg) (fun E => E = kx_ioe ∧ ∀ d, d < 10 → ¬ x = nI d) := by
  refine vx_ofW (cc := cX3_keptFor) (maxL := 2) (ret := (some .int)) (by decide) rfl ?_
  intro p e s m args below meth c s₁ B hml htab hv
  obtain ⟨rfl, hW, hV⟩ := hv
  have hts := atoms_spec (ws := wsX3_keptFor) B.pre
  have F : kx_F p s m c cX3_keptFor 2 RX3 _ wsX3_keptFor G z0 := ⟨B.exec, B.bytes, hml, findClass_of_methodNamed B.named, hts, hV⟩
  have hx := B.exec; have hb := B.bytes; have hr := B.returns; have hlocks := B.notSynchronized
  have hS : va_S (kx_Ad z0) s.heap s.heap [] := va_S.rf
  obtain ⟨hnb, hwf, hbl, hjm, hkp, hnn⟩ := hC
  have L_136 : Cond.fieldLink RX3 136 (TX1 2).1 (TX1 2).2.1 (TX1 2).2.2.1 ∈ wsX3_keptFor := by decide +kernel
  have inX1 : ∀ w ∈ u_ws RX1 TX1 5, w ∈ wsX3_keptFor := by decide +kernel
  have hl := lv_entry ([.ref (ad 0 0), .int x]) (n := 2) (Nat.le_of_ble_eq_true rfl)
  rw [lg_entry_eq]
  generalize (lg_sl ([.ref (ad 0 0), .int x]) ++ List.replicate (2 - (lg_sl ([.ref (ad 0 0), .int x])).length) Slot.unset).toArray = ls at hl ⊢
  have hl : lv_has ls 2 [(0, .ref (ad 0 0)), (1, .int x)] := hl
  refine lv_aload_n hx hb dX3_keptFor_0 rfl (lv_at hl 0 rfl) ?_
  refine lv_iload_n hx hb dX3_keptFor_1 rfl (lv_at hl 1 rfl) ?_
  refine kx_xV (na := 1) F (q := 0) (n := 0) (c_X3_doorAt l hlf G z0 ad nb sg x) gX3_keptFor_X3_doorAt rfl (by decide +kernel) ⟨Nat.le_of_ble_eq_true rfl, Nat.le_of_ble_eq_true rfl⟩ hW hS ⟨by decide, rfl⟩ rfl rfl (As := [.int x]) (rest := []) rfl hl.1 rfl (Nat.le_of_ble_eq_true rfl) dX3_keptFor_2 ⟨by first | exact Nat.le_of_ble_eq_true rfl | omega, by first | exact Nat.le_of_ble_eq_true rfl | omega⟩ (fun E9 ce9 q9 H locs hp9 hW hS h7 h8 h9 => ?_) (fun r9 sg9 H locs hq hW hS => ?_)
  · exact kx_out htab hlocks hW hS (by first | exact Nat.le_of_ble_eq_true rfl | omega) (by first | exact Nat.le_of_ble_eq_true rfl | omega) (hp9) h7 h8 h9
  obtain ⟨d, hd, rfl, rfl, e9⟩ := hq
  rw [e9] at hW
  refine W.eq (g2 := F0 m 5 ls [.ref (ad 8 d)]) rfl ?_
  refine kx_g F inX1 hW 8 d hd rfl rfl 2 (by decide) L_136 (v := .int (sg 8 d 2)) rfl dX3_keptFor_5 ?_
  refine vx_ret ?_
  exact kx_ri F hr hlocks hW hS (by first | exact Nat.le_of_ble_eq_true rfl | omega) (by first | exact Nat.le_of_ble_eq_true rfl | omega) (⟨d, hd, rfl, rfl, rfl⟩) dX3_keptFor_8

set_option maxHeartbeats 4000000 in
set_option maxRecDepth 100000 in
theorem c_X3_time (l : Launch) (G : kx_G) (z0 : Nat) (ad : kx_A) (nb : Nat) (sg : kx_S) : kx_M l yX3_time wsX3_time 0 0 0 0 G z0 ad nb sg [.ref (ad 0 0)] (fun r sg' => r = some (.int (sg 0 0 7)) ∧ sg' = sg) := by
  refine Met.ofW (cc := cX3_time) (maxL := 1) (ret := (some .int)) (by decide) rfl ?_
  intro p e s m args below meth c s₁ B hml hv
  obtain ⟨rfl, hW, hV⟩ := hv
  have hts := atoms_spec (ws := wsX3_time) B.pre
  have F : kx_F p s m c cX3_time 1 RX3 _ wsX3_time G z0 := ⟨B.exec, B.bytes, hml, findClass_of_methodNamed B.named, hts, hV⟩
  have hx := B.exec; have hb := B.bytes; have hr := B.returns; have hlocks := B.notSynchronized
  have hS : va_S (kx_Ad z0) s.heap s.heap [] := va_S.rf
  have L_42 : Cond.fieldLink RX3 42 (TX3 7).1 (TX3 7).2.1 (TX3 7).2.2.1 ∈ wsX3_time := by decide +kernel
  have inX3 : ∀ w ∈ u_ws RX3 TX3 9, w ∈ wsX3_time := by decide +kernel
  have hl := lv_entry ([.ref (ad 0 0)]) (n := 1) (Nat.le_of_ble_eq_true rfl)
  rw [lg_entry_eq]
  generalize (lg_sl ([.ref (ad 0 0)]) ++ List.replicate (1 - (lg_sl ([.ref (ad 0 0)])).length) Slot.unset).toArray = ls at hl ⊢
  have hl : lv_has ls 1 [(0, .ref (ad 0 0))] := hl
  refine lv_aload_n hx hb dX3_time_0 rfl (lv_at hl 0 rfl) ?_
  refine kx_g F inX3 hW 0 0 ⟨by decide, rfl⟩ rfl rfl 7 (by decide) L_42 (v := .int (sg 0 0 7)) rfl dX3_time_1 ?_
  exact kx_ri F hr hlocks hW hS (by first | exact Nat.le_of_ble_eq_true rfl | omega) (by first | exact Nat.le_of_ble_eq_true rfl | omega) (⟨rfl, rfl⟩) dX3_time_4

set_option maxHeartbeats 4000000 in
set_option maxRecDepth 100000 in
theorem c_X3_boxes (l : Launch) (G : kx_G) (z0 : Nat) (ad : kx_A) (nb : Nat) (sg : kx_S) : kx_M l yX3_boxes wsX3_boxes 0 0 0 0 G z0 ad nb sg [.ref (ad 0 0)] (fun r sg' => r = some (.int (sg 0 0 6)) ∧ sg' = sg) := by
  refine Met.ofW (cc := cX3_boxes) (maxL := 1) (ret := (some .int)) (by decide) rfl ?_
  intro p e s m args below meth c s₁ B hml hv
  obtain ⟨rfl, hW, hV⟩ := hv
  have hts := atoms_spec (ws := wsX3_boxes) B.pre
  have F : kx_F p s m c cX3_boxes 1 RX3 _ wsX3_boxes G z0 := ⟨B.exec, B.bytes, hml, findClass_of_methodNamed B.named, hts, hV⟩
  have hx := B.exec; have hb := B.bytes; have hr := B.returns; have hlocks := B.notSynchronized
  have hS : va_S (kx_Ad z0) s.heap s.heap [] := va_S.rf
  have L_38 : Cond.fieldLink RX3 38 (TX3 6).1 (TX3 6).2.1 (TX3 6).2.2.1 ∈ wsX3_boxes := by decide +kernel
  have inX3 : ∀ w ∈ u_ws RX3 TX3 9, w ∈ wsX3_boxes := by decide +kernel
  have hl := lv_entry ([.ref (ad 0 0)]) (n := 1) (Nat.le_of_ble_eq_true rfl)
  rw [lg_entry_eq]
  generalize (lg_sl ([.ref (ad 0 0)]) ++ List.replicate (1 - (lg_sl ([.ref (ad 0 0)])).length) Slot.unset).toArray = ls at hl ⊢
  have hl : lv_has ls 1 [(0, .ref (ad 0 0))] := hl
  refine lv_aload_n hx hb dX3_boxes_0 rfl (lv_at hl 0 rfl) ?_
  refine kx_g F inX3 hW 0 0 ⟨by decide, rfl⟩ rfl rfl 6 (by decide) L_38 (v := .int (sg 0 0 6)) rfl dX3_boxes_1 ?_
  exact kx_ri F hr hlocks hW hS (by first | exact Nat.le_of_ble_eq_true rfl | omega) (by first | exact Nat.le_of_ble_eq_true rfl | omega) (⟨rfl, rfl⟩) dX3_boxes_4

set_option maxHeartbeats 4000000 in
set_option maxRecDepth 100000 in
theorem c_X3_insurers (l : Launch) (G : kx_G) (z0 : Nat) (ad : kx_A) (nb : Nat) (sg : kx_S) : kx_M l yX3_insurers wsX3_insurers 0 0 0 0 G z0 ad nb sg [.ref (ad 0 0)] (fun r sg' => r = some (.int (sg 4 0 1)) ∧ sg' = sg) := by
  refine Met.ofW (cc := cX3_insurers) (maxL := 1) (ret := (some .int)) (by decide) rfl ?_
  intro p e s m args below meth c s₁ B hml hv
  obtain ⟨rfl, hW, hV⟩ := hv
  have hts := atoms_spec (ws := wsX3_insurers) B.pre
  have F : kx_F p s m c cX3_insurers 1 RX3 _ wsX3_insurers G z0 := ⟨B.exec, B.bytes, hml, findClass_of_methodNamed B.named, hts, hV⟩
  have hx := B.exec; have hb := B.bytes; have hr := B.returns; have hlocks := B.notSynchronized
  have hS : va_S (kx_Ad z0) s.heap s.heap [] := va_S.rf
  have L_197 : Cond.fieldLink RX3 197 (TX2 1).1 (TX2 1).2.1 (TX2 1).2.2.1 ∈ wsX3_insurers := by decide +kernel
  have L_28 : Cond.fieldLink RX3 28 (TX3 3).1 (TX3 3).2.1 (TX3 3).2.2.1 ∈ wsX3_insurers := by decide +kernel
  have inX2 : ∀ w ∈ u_ws RX2 TX2 3, w ∈ wsX3_insurers := by decide +kernel
  have inX3 : ∀ w ∈ u_ws RX3 TX3 9, w ∈ wsX3_insurers := by decide +kernel
  have hl := lv_entry ([.ref (ad 0 0)]) (n := 1) (Nat.le_of_ble_eq_true rfl)
  rw [lg_entry_eq]
  generalize (lg_sl ([.ref (ad 0 0)]) ++ List.replicate (1 - (lg_sl ([.ref (ad 0 0)])).length) Slot.unset).toArray = ls at hl ⊢
  have hl : lv_has ls 1 [(0, .ref (ad 0 0))] := hl
  refine lv_aload_n hx hb dX3_insurers_0 rfl (lv_at hl 0 rfl) ?_
  refine kx_g F inX3 hW 0 0 ⟨by decide, rfl⟩ rfl rfl 3 (by decide) L_28 (v := .ref (ad 4 0)) rfl dX3_insurers_1 ?_
  refine kx_g F inX2 hW 4 0 ⟨by decide, rfl⟩ rfl rfl 1 (by decide) L_197 (v := .int (sg 4 0 1)) rfl dX3_insurers_4 ?_
  exact kx_ri F hr hlocks hW hS (by first | exact Nat.le_of_ble_eq_true rfl | omega) (by first | exact Nat.le_of_ble_eq_true rfl | omega) (⟨rfl, rfl⟩) dX3_insurers_7

set_option maxHeartbeats 4000000 in
set_option maxRecDepth 100000 in
theorem c_X3_entries (l : Launch) (G : kx_G) (z0 : Nat) (ad : kx_A) (nb : Nat) (sg : kx_S) : kx_M l yX3_entries wsX3_entries 0 0 0 0 G z0 ad nb sg [.ref (ad 0 0)] (fun r sg' => r = some (.int (sg 4 0 2)) ∧ sg' = sg) := by
  refine Met.ofW (cc := cX3_entries) (maxL := 1) (ret := (some .int)) (by decide) rfl ?_
  intro p e s m args below meth c s₁ B hml hv
  obtain ⟨rfl, hW, hV⟩ := hv
  have hts := atoms_spec (ws := wsX3_entries) B.pre
  have F : kx_F p s m c cX3_entries 1 RX3 _ wsX3_entries G z0 := ⟨B.exec, B.bytes, hml, findClass_of_methodNamed B.named, hts, hV⟩
  have hx := B.exec; have hb := B.bytes; have hr := B.returns; have hlocks := B.notSynchronized
  have hS : va_S (kx_Ad z0) s.heap s.heap [] := va_S.rf
  have L_200 : Cond.fieldLink RX3 200 (TX2 2).1 (TX2 2).2.1 (TX2 2).2.2.1 ∈ wsX3_entries := by decide +kernel
  have L_28 : Cond.fieldLink RX3 28 (TX3 3).1 (TX3 3).2.1 (TX3 3).2.2.1 ∈ wsX3_entries := by decide +kernel
  have inX2 : ∀ w ∈ u_ws RX2 TX2 3, w ∈ wsX3_entries := by decide +kernel
  have inX3 : ∀ w ∈ u_ws RX3 TX3 9, w ∈ wsX3_entries := by decide +kernel
  have hl := lv_entry ([.ref (ad 0 0)]) (n := 1) (Nat.le_of_ble_eq_true rfl)
  rw [lg_entry_eq]
  generalize (lg_sl ([.ref (ad 0 0)]) ++ List.replicate (1 - (lg_sl ([.ref (ad 0 0)])).length) Slot.unset).toArray = ls at hl ⊢
  have hl : lv_has ls 1 [(0, .ref (ad 0 0))] := hl
  refine lv_aload_n hx hb dX3_entries_0 rfl (lv_at hl 0 rfl) ?_
  refine kx_g F inX3 hW 0 0 ⟨by decide, rfl⟩ rfl rfl 3 (by decide) L_28 (v := .ref (ad 4 0)) rfl dX3_entries_1 ?_
  refine kx_g F inX2 hW 4 0 ⟨by decide, rfl⟩ rfl rfl 2 (by decide) L_200 (v := .int (sg 4 0 2)) rfl dX3_entries_4 ?_
  exact kx_ri F hr hlocks hW hS (by first | exact Nat.le_of_ble_eq_true rfl | omega) (by first | exact Nat.le_of_ble_eq_true rfl | omega) (⟨rfl, rfl⟩) dX3_entries_7

set_option maxHeartbeats 1000000 in
set_option maxRecDepth 100000 in
theorem c_X3_fees (l : Launch) (hlf : l.stackTraces = false) (G : kx_G) (z0 : Nat) (ad : kx_A) (nb : Nat) (sg : kx_S) (hC : tw_CI nb sg) (x : Int32) : kx_MX l yX3_fees wsX3_fees 7 110 1 6 G z0 ad nb sg [.ref (ad 0 0), .int x] (fun r sg' => ∃ c : Nat, c < 4 ∧ x = nI c ∧ r = some (.int (sg 5 0 c)) ∧ sg' = sg) (fun E => E = kx_ioe ∧ ∀ c, c < 4 → ¬ x = nI c) := by
  refine vx_ofW (cc := cX3_fees) (maxL := 2) (ret := (some .int)) (by decide) rfl ?_
  intro p e s m args below meth c s₁ B hml htab hv
  obtain ⟨rfl, hW, hV⟩ := hv
  have hts := atoms_spec (ws := wsX3_fees) B.pre
  have F : kx_F p s m c cX3_fees 2 RX3 _ wsX3_fees G z0 := ⟨B.exec, B.bytes, hml, findClass_of_methodNamed B.named, hts, hV⟩
  have hx := B.exec; have hb := B.bytes; have hr := B.returns; have hlocks := B.notSynchronized
  have hS : va_S (kx_Ad z0) s.heap s.heap [] := va_S.rf
  obtain ⟨hnb, hwf, hbl, hjm, hkp, hnn⟩ := hC
  have L_194 : Cond.fieldLink RX3 194 (TX2 0).1 (TX2 0).2.1 (TX2 0).2.2.1 ∈ wsX3_fees := by decide +kernel
  have L_28 : Cond.fieldLink RX3 28 (TX3 3).1 (TX3 3).2.1 (TX3 3).2.2.1 ∈ wsX3_fees := by decide +kernel
  have inX2 : ∀ w ∈ u_ws RX2 TX2 3, w ∈ wsX3_fees := by decide +kernel
  have inX3 : ∀ w ∈ u_ws RX3 TX3 9, w ∈ wsX3_fees := by decide +kernel
  have hl := lv_entry ([.ref (ad 0 0), .int x]) (n := 2) (Nat.le_of_ble_eq_true rfl)
  rw [lg_entry_eq]
  generalize (lg_sl ([.ref (ad 0 0), .int x]) ++ List.replicate (2 - (lg_sl ([.ref (ad 0 0), .int x])).length) Slot.unset).toArray = ls at hl ⊢
  have hl : lv_has ls 2 [(0, .ref (ad 0 0)), (1, .int x)] := hl
  refine lv_iload_n hx hb dX3_fees_0 rfl (lv_at hl 1 rfl) ?_
  refine kx_xS (na := 1) F (c_X3_checkCourier l hlf G z0 ad nb sg x) gX3_fees_X3_checkCourier rfl (by decide +kernel) ⟨Nat.le_of_ble_eq_true rfl, Nat.le_of_ble_eq_true rfl⟩ hW hS (As := [.int x]) (rest := []) rfl hl.1 rfl (Nat.le_of_ble_eq_true rfl) dX3_fees_1 ⟨by first | exact Nat.le_of_ble_eq_true rfl | omega, by first | exact Nat.le_of_ble_eq_true rfl | omega⟩ (fun E9 ce9 q9 H locs hp9 hW hS h7 h8 h9 => ?_) (fun r9 sg9 H locs hq hW hS => ?_)
  · exact kx_out htab hlocks hW hS (by first | exact Nat.le_of_ble_eq_true rfl | omega) (by first | exact Nat.le_of_ble_eq_true rfl | omega) (hp9) h7 h8 h9
  obtain ⟨rfl, e9, c1, hc1, rfl⟩ := hq
  rw [e9] at hW
  refine W.eq (g2 := F0 m 4 ls []) rfl ?_
  refine lv_aload_n hx hb dX3_fees_4 rfl (lv_at hl 0 rfl) ?_
  refine kx_g F inX3 hW 0 0 ⟨by decide, rfl⟩ rfl rfl 3 (by decide) L_28 (v := .ref (ad 4 0)) rfl dX3_fees_5 ?_
  refine kx_g F inX2 hW 4 0 ⟨by decide, rfl⟩ rfl rfl 0 (by decide) L_194 (v := .ref (ad 5 0)) rfl dX3_fees_8 ?_
  refine lv_iload_n hx hb dX3_fees_11 rfl (lv_at hl 1 rfl) ?_
  refine kx_ald F hW 5 0 ⟨by decide, rfl⟩ rfl c1 hc1 (by decide) (v := sg 5 0 c1) rfl dX3_fees_12 ?_
  refine vx_ret ?_
  exact kx_ri F hr hlocks hW hS (by first | exact Nat.le_of_ble_eq_true rfl | omega) (by first | exact Nat.le_of_ble_eq_true rfl | omega) (⟨c1, hc1, rfl, rfl, rfl⟩) dX3_fees_13

set_option maxHeartbeats 1000000 in
set_option maxRecDepth 100000 in
theorem c_X3_placeOf (l : Launch) (hlf : l.stackTraces = false) (G : kx_G) (z0 : Nat) (ad : kx_A) (nb : Nat) (sg : kx_S) (hC : tw_CI nb sg) (x : Int32) : kx_MX l yX3_placeOf wsX3_placeOf 7 111 1 6 G z0 ad nb sg [.ref (ad 0 0), .int x] (fun r sg' => ∃ k : Nat, k < nb ∧ x = nI k ∧ r = some (.int (tw_last (sg 9 k 7) (sg 11 k) (tw_n sg k))) ∧ sg' = sg) (fun E => E = kx_ioe ∧ ∀ k, k < nb → ¬ x = nI k) := by
  refine vx_ofW (cc := cX3_placeOf) (maxL := 2) (ret := (some .int)) (by decide) rfl ?_
  intro p e s m args below meth c s₁ B hml htab hv
  obtain ⟨rfl, hW, hV⟩ := hv
  have hts := atoms_spec (ws := wsX3_placeOf) B.pre
  have F : kx_F p s m c cX3_placeOf 2 RX3 _ wsX3_placeOf G z0 := ⟨B.exec, B.bytes, hml, findClass_of_methodNamed B.named, hts, hV⟩
  have hx := B.exec; have hb := B.bytes; have hr := B.returns; have hlocks := B.notSynchronized
  have hS : va_S (kx_Ad z0) s.heap s.heap [] := va_S.rf
  obtain ⟨hnb, hwf, hbl, hjm, hkp, hnn⟩ := hC
  have hl := lv_entry ([.ref (ad 0 0), .int x]) (n := 2) (Nat.le_of_ble_eq_true rfl)
  rw [lg_entry_eq]
  generalize (lg_sl ([.ref (ad 0 0), .int x]) ++ List.replicate (2 - (lg_sl ([.ref (ad 0 0), .int x])).length) Slot.unset).toArray = ls at hl ⊢
  have hl : lv_has ls 2 [(0, .ref (ad 0 0)), (1, .int x)] := hl
  refine lv_aload_n hx hb dX3_placeOf_0 rfl (lv_at hl 0 rfl) ?_
  refine lv_iload_n hx hb dX3_placeOf_1 rfl (lv_at hl 1 rfl) ?_
  refine kx_xV (na := 1) F (q := 0) (n := 0) (c_X3_boxAt l hlf G z0 ad nb sg hnb x) gX3_placeOf_X3_boxAt rfl (by decide +kernel) ⟨Nat.le_of_ble_eq_true rfl, Nat.le_of_ble_eq_true rfl⟩ hW hS ⟨by decide, rfl⟩ rfl rfl (As := [.int x]) (rest := []) rfl hl.1 rfl (Nat.le_of_ble_eq_true rfl) dX3_placeOf_2 ⟨by first | exact Nat.le_of_ble_eq_true rfl | omega, by first | exact Nat.le_of_ble_eq_true rfl | omega⟩ (fun E9 ce9 q9 H locs hp9 hW hS h7 h8 h9 => ?_) (fun r9 sg9 H locs hq hW hS => ?_)
  · exact kx_out htab hlocks hW hS (by first | exact Nat.le_of_ble_eq_true rfl | omega) (by first | exact Nat.le_of_ble_eq_true rfl | omega) (hp9) h7 h8 h9
  obtain ⟨k, hk, rfl, rfl, e9⟩ := hq
  rw [e9] at hW
  refine W.eq (g2 := F0 m 5 ls [.ref (ad 9 k)]) rfl ?_
  obtain ⟨n9, hn9, h129, hm9⟩ := hwf.1 k hk
  have en9 := tw_n_eq hn9 h129
  refine kx_cV (na := 0) F (q := 9) (n := k) (c_X0_whereabouts l G z0 ad nb sg k hk n9 hn9 h129) gX3_placeOf_X0_whereabouts rfl (by decide +kernel) ⟨Nat.le_of_ble_eq_true rfl, Nat.le_of_ble_eq_true rfl⟩ hW hS hk rfl rfl (As := []) (rest := []) rfl hl.1 rfl (Nat.le_of_ble_eq_true rfl) dX3_placeOf_5 ⟨by first | exact Nat.le_of_ble_eq_true rfl | omega, by first | exact Nat.le_of_ble_eq_true rfl | omega⟩ (fun r9 sg9 H locs hq hW hS => ?_)
  obtain ⟨rfl, e9⟩ := hq
  rw [e9] at hW
  refine W.eq (g2 := F0 m 8 ls [.int (tw_last (sg 9 k 7) (sg 11 k) n9)]) rfl ?_
  refine vx_ret ?_
  exact kx_ri F hr hlocks hW hS (by first | exact Nat.le_of_ble_eq_true rfl | omega) (by first | exact Nat.le_of_ble_eq_true rfl | omega) (⟨k, hk, rfl, by rw [en9], rfl⟩) dX3_placeOf_8

set_option maxHeartbeats 1000000 in
set_option maxRecDepth 100000 in
theorem c_X3_fine (l : Launch) (hlf : l.stackTraces = false) (G : kx_G) (z0 : Nat) (ad : kx_A) (nb : Nat) (sg : kx_S) (hC : tw_CI nb sg) (x : Int32) : kx_MX l yX3_fine wsX3_fine 7 111 1 6 G z0 ad nb sg [.ref (ad 0 0), .int x] (fun r sg' => ∃ k : Nat, k < nb ∧ x = nI k ∧ r = some (.int (tw_fineOf (sg 0 0 7) (tw_last (sg 9 k 7) (sg 11 k) (tw_n sg k)) (tw_since (sg 9 k 7) (sg 11 k) (sg 10 k) (tw_last (sg 9 k 7) (sg 11 k) (tw_n sg k)) (tw_n sg k) 0))) ∧ sg' = sg) (fun E => E = kx_ioe ∧ ∀ k, k < nb → ¬ x = nI k) := by
  refine vx_ofW (cc := cX3_fine) (maxL := 4) (ret := (some .int)) (by decide) rfl ?_
  intro p e s m args below meth c s₁ B hml htab hv
  obtain ⟨rfl, hW, hV⟩ := hv
  have hts := atoms_spec (ws := wsX3_fine) B.pre
  have F : kx_F p s m c cX3_fine 4 RX3 _ wsX3_fine G z0 := ⟨B.exec, B.bytes, hml, findClass_of_methodNamed B.named, hts, hV⟩
  have hx := B.exec; have hb := B.bytes; have hr := B.returns; have hlocks := B.notSynchronized
  have hS : va_S (kx_Ad z0) s.heap s.heap [] := va_S.rf
  obtain ⟨hnb, hwf, hbl, hjm, hkp, hnn⟩ := hC
  have L_42 : Cond.fieldLink RX3 42 (TX3 7).1 (TX3 7).2.1 (TX3 7).2.2.1 ∈ wsX3_fine := by decide +kernel
  have inX3 : ∀ w ∈ u_ws RX3 TX3 9, w ∈ wsX3_fine := by decide +kernel
  have hl := lv_entry ([.ref (ad 0 0), .int x]) (n := 4) (Nat.le_of_ble_eq_true rfl)
  rw [lg_entry_eq]
  generalize (lg_sl ([.ref (ad 0 0), .int x]) ++ List.replicate (4 - (lg_sl ([.ref (ad 0 0), .int x])).length) Slot.unset).toArray = ls at hl ⊢
  have hl : lv_has ls 4 [(0, .ref (ad 0 0)), (1, .int x)] := hl
  refine lv_aload_n hx hb dX3_fine_0 rfl (lv_at hl 0 rfl) ?_
  refine lv_iload_n hx hb dX3_fine_1 rfl (lv_at hl 1 rfl) ?_
  refine kx_xV (na := 1) F (q := 0) (n := 0) (c_X3_boxAt l hlf G z0 ad nb sg hnb x) gX3_fine_X3_boxAt rfl (by decide +kernel) ⟨Nat.le_of_ble_eq_true rfl, Nat.le_of_ble_eq_true rfl⟩ hW hS ⟨by decide, rfl⟩ rfl rfl (As := [.int x]) (rest := []) rfl hl.1 rfl (Nat.le_of_ble_eq_true rfl) dX3_fine_2 ⟨by first | exact Nat.le_of_ble_eq_true rfl | omega, by first | exact Nat.le_of_ble_eq_true rfl | omega⟩ (fun E9 ce9 q9 H locs hp9 hW hS h7 h8 h9 => ?_) (fun r9 sg9 H locs hq hW hS => ?_)
  · exact kx_out htab hlocks hW hS (by first | exact Nat.le_of_ble_eq_true rfl | omega) (by first | exact Nat.le_of_ble_eq_true rfl | omega) (hp9) h7 h8 h9
  obtain ⟨k, hk, rfl, rfl, e9⟩ := hq
  rw [e9] at hW
  refine W.eq (g2 := F0 m 5 ls [.ref (ad 9 k)]) rfl ?_
  obtain ⟨n9, hn9, h129, hm9⟩ := hwf.1 k hk
  have en9 := tw_n_eq hn9 h129
  refine lv_astore_n (lv' := [(2, .ref (ad 9 k)), (0, .ref (ad 0 0)), (1, .int (nI k))]) hx hb dX3_fine_5 rfl hl (by decide) rfl (fun ls hl => ?_)
  refine lv_aload_n hx hb dX3_fine_6 rfl (lv_at hl 0 rfl) ?_
  refine kx_cV (na := 0) F (q := 9) (n := k) (c_X0_whereabouts l G z0 ad nb sg k hk n9 hn9 h129) gX3_fine_X0_whereabouts rfl (by decide +kernel) ⟨Nat.le_of_ble_eq_true rfl, Nat.le_of_ble_eq_true rfl⟩ hW hS hk rfl rfl (As := []) (rest := []) rfl hl.1 rfl (Nat.le_of_ble_eq_true rfl) dX3_fine_7 ⟨by first | exact Nat.le_of_ble_eq_true rfl | omega, by first | exact Nat.le_of_ble_eq_true rfl | omega⟩ (fun r9 sg9 H locs hq hW hS => ?_)
  obtain ⟨rfl, e9⟩ := hq
  rw [e9] at hW
  refine W.eq (g2 := F0 m 10 ls [.int (tw_last (sg 9 k 7) (sg 11 k) n9)]) rfl ?_
  refine kx_cS (na := 1) F (c_X3_kindOf l G z0 ad nb sg (tw_last (sg 9 k 7) (sg 11 k) n9)) gX3_fine_X3_kindOf rfl (by decide +kernel) ⟨Nat.le_of_ble_eq_true rfl, Nat.le_of_ble_eq_true rfl⟩ hW hS (As := [.int (tw_last (sg 9 k 7) (sg 11 k) n9)]) (rest := []) rfl hl.1 rfl (Nat.le_of_ble_eq_true rfl) dX3_fine_10 ⟨by first | exact Nat.le_of_ble_eq_true rfl | omega, by first | exact Nat.le_of_ble_eq_true rfl | omega⟩ (fun r9 sg9 H locs hq hW hS => ?_)
  obtain ⟨rfl, e9⟩ := hq
  rw [e9] at hW
  refine W.eq (g2 := F0 m 13 ls [.int (tw_kind (tw_last (sg 9 k 7) (sg 11 k) n9))]) rfl ?_
  refine lv_iconst (v := 2) hx hb dX3_fine_13 (by decide) ?_
  refine lv_icmp_eq (tgt := 19) hx hb dX3_fine_14 (by decide) (fun c_14 => ?_) (fun c_14 => ?_)
  · refine lv_aload_n hx hb dX3_fine_19 rfl (lv_at hl 1 rfl) ?_
    refine kx_g F inX3 hW 0 0 ⟨by decide, rfl⟩ rfl rfl 7 (by decide) L_42 (v := .int (sg 0 0 7)) rfl dX3_fine_20 ?_
    refine lv_aload_n hx hb dX3_fine_23 rfl (lv_at hl 0 rfl) ?_
    refine kx_cV (na := 0) F (q := 9) (n := k) (c_X0_thereSince l G z0 ad nb sg k hk n9 hn9 h129) gX3_fine_X0_thereSince rfl (by decide +kernel) ⟨Nat.le_of_ble_eq_true rfl, Nat.le_of_ble_eq_true rfl⟩ hW hS hk rfl rfl (As := []) (rest := [.int (sg 0 0 7)]) rfl hl.1 rfl (Nat.le_of_ble_eq_true rfl) dX3_fine_24 ⟨by first | exact Nat.le_of_ble_eq_true rfl | omega, by first | exact Nat.le_of_ble_eq_true rfl | omega⟩ (fun r9 sg9 H locs hq hW hS => ?_)
    obtain ⟨rfl, e9⟩ := hq
    rw [e9] at hW
    refine W.eq (g2 := F0 m 27 ls [.int (tw_since (sg 9 k 7) (sg 11 k) (sg 10 k) (tw_last (sg 9 k 7) (sg 11 k) n9) n9 0), .int (sg 0 0 7)]) rfl ?_
    refine lv_isub hx hb dX3_fine_27 ?_
    refine lv_bipush (v := 60) hx hb dX3_fine_28 (by decide) ?_
    refine lv_idiv hx hb dX3_fine_30 (by decide) ?_
    refine lv_istore_n (lv' := [(3, .int (((sg 0 0 7) - (tw_since (sg 9 k 7) (sg 11 k) (sg 10 k) (tw_last (sg 9 k 7) (sg 11 k) n9) n9 0)) / 60)), (2, .ref (ad 9 k)), (0, .ref (ad 0 0)), (1, .int (nI k))]) hx hb dX3_fine_31 rfl hl (by decide) rfl (fun ls hl => ?_)
    refine lv_iconst (v := 2) hx hb dX3_fine_32 (by decide) ?_
    refine lv_iconst (v := 0) hx hb dX3_fine_33 (by decide) ?_
    refine lv_iload_n hx hb dX3_fine_34 rfl (lv_at hl 0 rfl) ?_
    refine lv_bipush (v := 24) hx hb dX3_fine_35 (by decide) ?_
    refine lv_isub hx hb dX3_fine_37 ?_
    refine va_mmax hx hb (F.2.2.1.trans hl.1.symm) F.2.2.2.1 (hts (.methodLink RX3 206 Lib.Math.max.name) (by decide +kernel)) (hts (.static Lib.Math.max.name) (by decide +kernel)) (hts (.initialized "java/lang/Math") (by decide +kernel)) (hts (.code Lib.Math.max.name Lib.Math.max.code 2 (some .int)) (by decide +kernel)) (Nat.le_of_ble_eq_true rfl) (Nat.le_of_ble_eq_true rfl) (by first | exact Nat.zero_le _ | exact Nat.le_of_ble_eq_true rfl | omega) (by first | exact Nat.zero_le _ | exact Nat.le_of_ble_eq_true rfl | omega) dX3_fine_38 ?_
    refine lv_imul hx hb dX3_fine_41 ?_
    refine vx_ret ?_
    exact kx_ri F hr hlocks hW hS (by first | exact Nat.le_of_ble_eq_true rfl | omega) (by first | exact Nat.le_of_ble_eq_true rfl | omega) (⟨k, hk, rfl, by rw [en9, tw_fineOf, if_pos c_14], rfl⟩) dX3_fine_42
  · refine lv_iconst (v := 0) hx hb dX3_fine_17 (by decide) ?_
    refine vx_ret ?_
    exact kx_ri F hr hlocks hW hS (by first | exact Nat.le_of_ble_eq_true rfl | omega) (by first | exact Nat.le_of_ble_eq_true rfl | omega) (⟨k, hk, rfl, by rw [en9, tw_fineOf, if_neg c_14], rfl⟩) dX3_fine_18

set_option maxHeartbeats 1000000 in
set_option maxRecDepth 100000 in
theorem c_X3_lies (l : Launch) (hlf : l.stackTraces = false) (G : kx_G) (z0 : Nat) (ad : kx_A) (nb : Nat) (sg : kx_S) (hC : tw_CI nb sg) (x : Int32) : kx_MX l yX3_lies wsX3_lies 7 110 1 6 G z0 ad nb sg [.ref (ad 0 0), .int x] (fun r sg' => ∃ c : Nat, c < 14 ∧ x = nI c ∧ r = some (.int (tw_liesA sg x nb)) ∧ sg' = sg) (fun E => E = kx_ioe ∧ ∀ c, c < 14 → ¬ x = nI c) := by
  refine vx_ofW (cc := cX3_lies) (maxL := 7) (ret := (some .int)) (by decide) rfl ?_
  intro p e s m args below meth c s₁ B hml htab hv
  obtain ⟨rfl, hW, hV⟩ := hv
  have hts := atoms_spec (ws := wsX3_lies) B.pre
  have F : kx_F p s m c cX3_lies 7 RX3 _ wsX3_lies G z0 := ⟨B.exec, B.bytes, hml, findClass_of_methodNamed B.named, hts, hV⟩
  have hx := B.exec; have hb := B.bytes; have hr := B.returns; have hlocks := B.notSynchronized
  have hS : va_S (kx_Ad z0) s.heap s.heap [] := va_S.rf
  obtain ⟨hnb, hwf, hbl, hjm, hkp, hnn⟩ := hC
  have L_11 : Cond.fieldLink RX3 11 (TX3 0).1 (TX3 0).2.1 (TX3 0).2.2.1 ∈ wsX3_lies := by decide +kernel
  have inX3 : ∀ w ∈ u_ws RX3 TX3 9, w ∈ wsX3_lies := by decide +kernel
  have hl := lv_entry ([.ref (ad 0 0), .int x]) (n := 7) (Nat.le_of_ble_eq_true rfl)
  rw [lg_entry_eq]
  generalize (lg_sl ([.ref (ad 0 0), .int x]) ++ List.replicate (7 - (lg_sl ([.ref (ad 0 0), .int x])).length) Slot.unset).toArray = ls at hl ⊢
  have hl : lv_has ls 7 [(0, .ref (ad 0 0)), (1, .int x)] := hl
  have loop : (∃ c : Nat, c < 14 ∧ x = nI c) → ∀ (j k : Nat), 16 = k + j → ∀ (H : Heap) (locs : List Loc) (ls : Array Slot), kx_Wd G z0 ad nb sg H → va_S (kx_Ad z0) s.heap H locs → lv_has ls 7 [(5, .int (nI k)), (2, .int (tw_liesA sg x (min k nb))), (4, .int (nI 16)), (3, .ref (ad 1 0)), (0, .ref (ad 0 0)), (1, .int x)] → W p l e (headSpec wsX3_lies { frames := 7, cells := 1, slots := 6, locals := 110 }).room s m ([.ref (ad 0 0), .int x] : List Value).toArray below meth c H locs (0 + 1) (0 + 6) (vx_MQ below (kx_Q G z0 ad nb (fun r sg' => ∃ c : Nat, c < 14 ∧ x = nI c ∧ r = some (.int (tw_liesA sg x nb)) ∧ sg' = sg)) (kx_X G z0 ad nb sg (fun E => E = kx_ioe ∧ ∀ c, c < 14 → ¬ x = nI c)) ([.ref (ad 0 0), .int x] : List Value).toArray s 1 6 (kx_Ad z0)) (F0 m 18 ls []) := by
    intro hex j
    induction j with
    | zero =>
      intro k hk H locs ls hW hS hl
      refine lv_iload hx hb dX3_lies_18 (lv_at hl 0 rfl) ?_
      refine lv_iload hx hb dX3_lies_20 (lv_at hl 2 rfl) ?_
      refine lv_icmp_ge (tgt := 51) hx hb dX3_lies_22 (by decide) (fun c_22 => ?_) (fun c_22 => ?_)
      · refine lv_iload_n hx hb dX3_lies_51 rfl (lv_at hl 1 rfl) ?_
        refine vx_ret ?_
        exact kx_ri F hr hlocks hW hS (by first | exact Nat.le_of_ble_eq_true rfl | omega) (by first | exact Nat.le_of_ble_eq_true rfl | omega) (by obtain ⟨c1, hc1, ec1⟩ := hex; exact ⟨c1, hc1, ec1, by rw [show min k nb = nb by omega], rfl⟩) dX3_lies_52
      · exact absurd (nI_le (by omega) (by omega)) c_22
    | succ j ih =>
      intro k hk H locs ls hW hS hl
      refine lv_iload hx hb dX3_lies_18 (lv_at hl 0 rfl) ?_
      refine lv_iload hx hb dX3_lies_20 (lv_at hl 2 rfl) ?_
      refine lv_icmp_ge (tgt := 51) hx hb dX3_lies_22 (by decide) (fun c_22 => ?_) (fun c_22 => ?_)
      · exact absurd c_22 (nI_ge (by omega) (by omega))
      · refine lv_aload_n hx hb dX3_lies_25 rfl (lv_at hl 3 rfl) ?_
        refine lv_iload hx hb dX3_lies_26 (lv_at hl 0 rfl) ?_
        refine kx_aaldB F hW k (by omega) dX3_lies_28 (fun b_28 => ?_) (fun b_28 => ?_)
        · refine lv_astore (lv' := [(6, .ref (ad 9 k)), (5, .int (nI k)), (2, .int (tw_liesA sg x (min k nb))), (4, .int (nI 16)), (3, .ref (ad 1 0)), (0, .ref (ad 0 0)), (1, .int x)]) hx hb dX3_lies_29 hl (by decide) rfl (fun ls hl => ?_)
          refine lv_aload hx hb dX3_lies_31 (lv_at hl 0 rfl) ?_
          refine lv_ifnull hx hb dX3_lies_33 ?_
          obtain ⟨n9, hn9, h129, hm9⟩ := hwf.1 k b_28
          have en9 := tw_n_eq hn9 h129
          refine lv_iload_n hx hb dX3_lies_36 rfl (lv_at hl 2 rfl) ?_
          refine lv_aload hx hb dX3_lies_37 (lv_at hl 0 rfl) ?_
          refine lv_iload_n hx hb dX3_lies_39 rfl (lv_at hl 6 rfl) ?_
          refine kx_cV (na := 1) F (q := 9) (n := k) (c_X0_countLies l G z0 ad nb sg k b_28 n9 hn9 h129 x) gX3_lies_X0_countLies rfl (by decide +kernel) ⟨Nat.le_of_ble_eq_true rfl, Nat.le_of_ble_eq_true rfl⟩ hW hS b_28 rfl rfl (As := [.int x]) (rest := [.int (tw_liesA sg x (min k nb))]) rfl hl.1 rfl (Nat.le_of_ble_eq_true rfl) dX3_lies_40 ⟨by first | exact Nat.le_of_ble_eq_true rfl | omega, by first | exact Nat.le_of_ble_eq_true rfl | omega⟩ (fun r9 sg9 H locs hq hW hS => ?_)
          obtain ⟨rfl, e9⟩ := hq
          rw [e9] at hW
          refine W.eq (g2 := F0 m 43 ls [.int (tw_lies (sg 9 k 7) (sg 12 k) x n9), .int (tw_liesA sg x (min k nb))]) rfl ?_
          refine lv_iadd hx hb dX3_lies_43 ?_
          refine lv_istore_n (lv' := [(2, .int ((tw_liesA sg x (min k nb)) + (tw_lies (sg 9 k 7) (sg 12 k) x n9))), (6, .ref (ad 9 k)), (5, .int (nI k)), (4, .int (nI 16)), (3, .ref (ad 1 0)), (0, .ref (ad 0 0)), (1, .int x)]) hx hb dX3_lies_44 rfl hl (by decide) rfl (fun ls hl => ?_)
          refine lv_iinc (v := nI (k + 1)) (lv' := [(5, .int (nI (k + 1))), (2, .int ((tw_liesA sg x (min k nb)) + (tw_lies (sg 9 k 7) (sg 12 k) x n9))), (6, .ref (ad 9 k)), (4, .int (nI 16)), (3, .ref (ad 1 0)), (0, .ref (ad 0 0)), (1, .int x)]) hx hb dX3_lies_45 hl (k := 2) rfl (nI_1 k) (by decide) rfl (fun ls hl => ?_)
          refine lv_goto (tgt := 18) hx hb dX3_lies_48 (by decide) ?_
          exact ih (k + 1) (by omega) H locs ls hW hS (by
            have e8 : tw_liesA sg x (min (k + 1) nb) = tw_liesA sg x (min k nb) + tw_lies (sg 9 k 7) (sg 12 k) x n9 := by
              rw [show min (k + 1) nb = k + 1 by omega, show min k nb = k by omega, tw_liesA, en9]
            rw [e8]
            exact lv_sub hl [0, 1, 3, 4, 5, 6] rfl)
        · refine lv_astoreN (lv' := [(6, .null), (5, .int (nI k)), (2, .int (tw_liesA sg x (min k nb))), (4, .int (nI 16)), (3, .ref (ad 1 0)), (0, .ref (ad 0 0)), (1, .int x)]) hx hb dX3_lies_29 hl (by decide) rfl (fun ls hl => ?_)
          refine lv_aloadN hx hb dX3_lies_31 (lv_at hl 0 rfl) ?_
          refine lv_ifnullN (tgt := 45) hx hb dX3_lies_33 (by decide) ?_
          refine lv_iinc (v := nI (k + 1)) (lv' := [(5, .int (nI (k + 1))), (6, .null), (2, .int (tw_liesA sg x (min k nb))), (4, .int (nI 16)), (3, .ref (ad 1 0)), (0, .ref (ad 0 0)), (1, .int x)]) hx hb dX3_lies_45 hl (k := 1) rfl (nI_1 k) (by decide) rfl (fun ls hl => ?_)
          refine lv_goto (tgt := 18) hx hb dX3_lies_48 (by decide) ?_
          exact ih (k + 1) (by omega) H locs ls hW hS (by
            rw [show min (k + 1) nb = min k nb by omega]
            exact lv_sub hl [0, 2, 3, 4, 5, 6] rfl)
  refine lv_iload_n hx hb dX3_lies_0 rfl (lv_at hl 1 rfl) ?_
  refine kx_xS (na := 1) F (c_X3_checkWho l hlf G z0 ad nb sg x) gX3_lies_X3_checkWho rfl (by decide +kernel) ⟨Nat.le_of_ble_eq_true rfl, Nat.le_of_ble_eq_true rfl⟩ hW hS (As := [.int x]) (rest := []) rfl hl.1 rfl (Nat.le_of_ble_eq_true rfl) dX3_lies_1 ⟨by first | exact Nat.le_of_ble_eq_true rfl | omega, by first | exact Nat.le_of_ble_eq_true rfl | omega⟩ (fun E9 ce9 q9 H locs hp9 hW hS h7 h8 h9 => ?_) (fun r9 sg9 H locs hq hW hS => ?_)
  · exact kx_out htab hlocks hW hS (by first | exact Nat.le_of_ble_eq_true rfl | omega) (by first | exact Nat.le_of_ble_eq_true rfl | omega) (hp9) h7 h8 h9
  obtain ⟨rfl, e9, hex⟩ := hq
  rw [e9] at hW
  refine W.eq (g2 := F0 m 4 ls []) rfl ?_
  refine lv_iconst (v := 0) hx hb dX3_lies_4 (by decide) ?_
  refine lv_istore_n (lv' := [(2, .int 0), (0, .ref (ad 0 0)), (1, .int x)]) hx hb dX3_lies_5 rfl hl (by decide) rfl (fun ls hl => ?_)
  refine lv_aload_n hx hb dX3_lies_6 rfl (lv_at hl 1 rfl) ?_
  refine kx_g F inX3 hW 0 0 ⟨by decide, rfl⟩ rfl rfl 0 (by decide) L_11 (v := .ref (ad 1 0)) rfl dX3_lies_7 ?_
  refine lv_astore_n (lv' := [(3, .ref (ad 1 0)), (2, .int 0), (0, .ref (ad 0 0)), (1, .int x)]) hx hb dX3_lies_10 rfl hl (by decide) rfl (fun ls hl => ?_)
  refine lv_aload_n hx hb dX3_lies_11 rfl (lv_at hl 0 rfl) ?_
  refine kx_alenB F hW dX3_lies_12 ?_
  refine lv_istore (lv' := [(4, .int (nI 16)), (3, .ref (ad 1 0)), (2, .int 0), (0, .ref (ad 0 0)), (1, .int x)]) hx hb dX3_lies_13 hl (by decide) rfl (fun ls hl => ?_)
  refine lv_iconst (v := 0) hx hb dX3_lies_15 (by decide) ?_
  refine lv_istore (lv' := [(5, .int 0), (4, .int (nI 16)), (3, .ref (ad 1 0)), (2, .int 0), (0, .ref (ad 0 0)), (1, .int x)]) hx hb dX3_lies_16 hl (by decide) rfl (fun ls hl => ?_)
  exact loop hex 16 0 (by omega) _ _ ls hW hS (by rw [show min 0 nb = 0 by omega]; exact lv_sub hl [0, 3, 1, 2, 4, 5] rfl)

set_option maxHeartbeats 1000000 in
set_option maxRecDepth 100000 in
theorem c_X3_storyOfAll (l : Launch) (hlf : l.stackTraces = false) (G : kx_G) (z0 : Nat) (ad : kx_A) (nb : Nat) (sg : kx_S) (hC : tw_CI nb sg) (x : Int32) : kx_MX l yX3_storyOfAll wsX3_storyOfAll 14 391 1 6 G z0 ad nb sg [.ref (ad 0 0), .int x] (fun r sg' => ∃ k : Nat, k < nb ∧ x = nI k ∧ r = some (.int (tw_st sg k (tw_n sg k))) ∧ ∃ f : Nat → Int32, sg' = kx_up sg 6 0 f) (fun E => E = kx_ioe ∧ ∀ k, k < nb → ¬ x = nI k) := by
  refine vx_ofW (cc := cX3_storyOfAll) (maxL := 3) (ret := (some .int)) (by decide) rfl ?_
  intro p e s m args below meth c s₁ B hml htab hv
  obtain ⟨rfl, hW, hV⟩ := hv
  have hts := atoms_spec (ws := wsX3_storyOfAll) B.pre
  have F : kx_F p s m c cX3_storyOfAll 3 RX3 _ wsX3_storyOfAll G z0 := ⟨B.exec, B.bytes, hml, findClass_of_methodNamed B.named, hts, hV⟩
  have hx := B.exec; have hb := B.bytes; have hr := B.returns; have hlocks := B.notSynchronized
  have hS : va_S (kx_Ad z0) s.heap s.heap [] := va_S.rf
  obtain ⟨hnb, hwf, hbl, hjm, hkp, hnn⟩ := hC
  have L_32 : Cond.fieldLink RX3 32 (TX3 4).1 (TX3 4).2.1 (TX3 4).2.2.1 ∈ wsX3_storyOfAll := by decide +kernel
  have inX3 : ∀ w ∈ u_ws RX3 TX3 9, w ∈ wsX3_storyOfAll := by decide +kernel
  have hl := lv_entry ([.ref (ad 0 0), .int x]) (n := 3) (Nat.le_of_ble_eq_true rfl)
  rw [lg_entry_eq]
  generalize (lg_sl ([.ref (ad 0 0), .int x]) ++ List.replicate (3 - (lg_sl ([.ref (ad 0 0), .int x])).length) Slot.unset).toArray = ls at hl ⊢
  have hl : lv_has ls 3 [(0, .ref (ad 0 0)), (1, .int x)] := hl
  refine lv_aload_n hx hb dX3_storyOfAll_0 rfl (lv_at hl 0 rfl) ?_
  refine lv_iload_n hx hb dX3_storyOfAll_1 rfl (lv_at hl 1 rfl) ?_
  refine kx_xV (na := 1) F (q := 0) (n := 0) (c_X3_boxAt l hlf G z0 ad nb sg hnb x) gX3_storyOfAll_X3_boxAt rfl (by decide +kernel) ⟨Nat.le_of_ble_eq_true rfl, Nat.le_of_ble_eq_true rfl⟩ hW hS ⟨by decide, rfl⟩ rfl rfl (As := [.int x]) (rest := []) rfl hl.1 rfl (Nat.le_of_ble_eq_true rfl) dX3_storyOfAll_2 ⟨by first | exact Nat.le_of_ble_eq_true rfl | omega, by first | exact Nat.le_of_ble_eq_true rfl | omega⟩ (fun E9 ce9 q9 H locs hp9 hW hS h7 h8 h9 => ?_) (fun r9 sg9 H locs hq hW hS => ?_)
  · exact kx_out htab hlocks hW hS (by first | exact Nat.le_of_ble_eq_true rfl | omega) (by first | exact Nat.le_of_ble_eq_true rfl | omega) (hp9) h7 h8 h9
  obtain ⟨k, hk, rfl, rfl, e9⟩ := hq
  rw [e9] at hW
  refine W.eq (g2 := F0 m 5 ls [.ref (ad 9 k)]) rfl ?_
  obtain ⟨n9, hn9, h129, hm9⟩ := hwf.1 k hk
  have en9 := tw_n_eq hn9 h129
  refine lv_astore_n (lv' := [(2, .ref (ad 9 k)), (0, .ref (ad 0 0)), (1, .int (nI k))]) hx hb dX3_storyOfAll_5 rfl hl (by decide) rfl (fun ls hl => ?_)
  refine lv_aload_n hx hb dX3_storyOfAll_6 rfl (lv_at hl 1 rfl) ?_
  refine lv_aload_n hx hb dX3_storyOfAll_7 rfl (lv_at hl 0 rfl) ?_
  refine kx_cV (na := 1) F (q := 0) (n := 0) (c_X3_weighScans l G z0 ad nb sg k hk n9 hn9 h129 hm9) gX3_storyOfAll_X3_weighScans rfl (by decide +kernel) ⟨Nat.le_of_ble_eq_true rfl, Nat.le_of_ble_eq_true rfl⟩ hW hS ⟨by decide, rfl⟩ rfl rfl (As := [.ref (ad 9 k)]) (rest := []) rfl hl.1 rfl (Nat.le_of_ble_eq_true rfl) dX3_storyOfAll_8 ⟨by first | exact Nat.le_of_ble_eq_true rfl | omega, by first | exact Nat.le_of_ble_eq_true rfl | omega⟩ (fun r9 sg9 H locs hq hW hS => ?_)
  obtain ⟨rfl, f6, e9, hf6⟩ := hq
  rw [e9] at hW
  have hW : kx_Wd G z0 ad nb (kx_up sg 6 0 f6) H := by first | exact hW | (simp only [kx_up_s, kx_up_up] at hW; exact hW) | (simp only [kx_up_s, kx_up_up, upd_s] at hW; exact hW)
  refine W.eq (g2 := F0 m 11 ls []) rfl ?_
  have hw6 : ∀ k1, k1 < n9 → 0 < ((kx_up sg 6 0 f6) 6 0 k1).toInt ∧ ((kx_up sg 6 0 f6) 6 0 k1).toInt ≤ 300000 := fun k1 hk1 => by
    obtain ⟨j, hj, hmj⟩ := hm9 k1 hk1
    have h9 := tw_w_bd (jam := fun d => sg 8 d 1) (by omega : k1 < 12) hj hmj hwf.2
    rw [show (kx_up sg 6 0 f6) 6 0 k1 = f6 k1 from rfl, hf6 k1 hk1]
    exact h9
  refine lv_aload_n hx hb dX3_storyOfAll_11 rfl (lv_at hl 0 rfl) ?_
  refine lv_aload_n hx hb dX3_storyOfAll_12 rfl (lv_at hl 1 rfl) ?_
  refine kx_g F inX3 hW 0 0 ⟨by decide, rfl⟩ rfl rfl 4 (by decide) L_32 (v := .ref (ad 6 0)) rfl dX3_storyOfAll_13 ?_
  refine lv_iconst (v := (-1)) hx hb dX3_storyOfAll_16 (by decide) ?_
  refine lv_iconst (v := 0) hx hb dX3_storyOfAll_17 (by decide) ?_
  refine lv_iconst (v := 0) hx hb dX3_storyOfAll_18 (by decide) ?_
  refine kx_cS (na := 5) F (c_X3_greatestWorth l G z0 ad nb (kx_up sg 6 0 f6) k hk n9 hn9 h129 hw6 12 0 0 0 (Nat.zero_le _) (by omega) (Nat.le_refl 0) (by decide) (by decide)) gX3_storyOfAll_X3_greatestWorth rfl (by decide +kernel) ⟨Nat.le_of_ble_eq_true rfl, Nat.le_of_ble_eq_true rfl⟩ hW hS (As := [.ref (ad 9 k), .ref (ad 6 0), .int (-1), .int 0, .int 0]) (rest := []) rfl hl.1 rfl (Nat.le_of_ble_eq_true rfl) dX3_storyOfAll_19 ⟨by first | exact Nat.le_of_ble_eq_true rfl | omega, by first | exact Nat.le_of_ble_eq_true rfl | omega⟩ (fun r9 sg9 H locs hq hW hS => ?_)
  obtain ⟨a9, rfl, e9, ha9⟩ := hq
  rw [e9] at hW
  refine W.eq (g2 := F0 m 22 ls [.int a9]) rfl ?_
  refine lv_sipush (v := 4096) hx hb dX3_storyOfAll_22 (by decide) ?_
  refine lv_irem hx hb dX3_storyOfAll_25 (by decide) ?_
  have hd9 := dp_all (fo := fun j k1 => tw_tru ((kx_up sg 6 0 f6) 13 k k1) (nI j)) (st := fun k1 => tw_tru ((kx_up sg 6 0 f6) 13 k k1) 12) (d := 12) (fun k1 h1 => (hw6 k1 h1).1) h129
  have ha8 : a9.toInt = dp_best (dp_S (fun k1 => ((kx_up sg 6 0 f6) 6 0 k1).toInt) (fun j k1 => tw_tru ((kx_up sg 6 0 f6) 13 k k1) (nI j)) (fun k1 => tw_tru ((kx_up sg 6 0 f6) 13 k k1) 12)) n9 := by
    rw [← hd9, ha9]
    exact Int.zero_add _
  have est := tw_st_of (sg := sg) (i := k) (n := n9) (w := fun k1 => ((kx_up sg 6 0 f6) 6 0 k1).toInt) (fo := fun j k1 => tw_tru ((kx_up sg 6 0 f6) 13 k k1) (nI j)) (st := fun k1 => tw_tru ((kx_up sg 6 0 f6) 13 k k1) 12) (fun k1 hk1 => congrArg Int32.toInt (hf6 k1 hk1)) rfl rfl
  have er9 : a9 - a9 / 4096 * 4096 = tw_st sg k n9 := (tw_rem ha8 (dp_best_0 n9)).trans est
  refine vx_ret ?_
  exact kx_ri F hr hlocks hW hS (by first | exact Nat.le_of_ble_eq_true rfl | omega) (by first | exact Nat.le_of_ble_eq_true rfl | omega) (⟨k, hk, rfl, by rw [en9, er9], f6, rfl⟩) dX3_storyOfAll_26
end
section
theorem tw_WF_trust {nb : Nat} {sg : kx_S} {c : Nat} {y : Int32} (h : tw_WF nb sg) (hy : tw_in y 1 9 = true) : tw_WF nb (kx_up sg 3 0 (upd (sg 3 0) c y)) := by
  refine ⟨fun i hi => h.1 i hi, fun w hw => ?_⟩
  show 1 ≤ (upd (sg 3 0) c y w).toInt ∧ (upd (sg 3 0) c y w).toInt ≤ 9
  by_cases e : w = c
  · subst e
    rw [upd_s]
    exact (tw_in_iff y 1 9).mp hy
  · rw [upd_n e]
    exact h.2 w hw
theorem tw_01_fit {x : Int32} (h : tw_01 x) : fits .boolean (.int x) = true := by rcases h with h | h <;> rw [h] <;> rfl
def tw_code (b d kp : Int32) : Int32 := ((37 * b + 11 * d) + 101 * kp) - ((37 * b + 11 * d) + 101 * kp) / 1000 * 1000

set_option maxHeartbeats 1000000 in
set_option maxRecDepth 100000 in
theorem c_X3_setTrust (l : Launch) (hlf : l.stackTraces = false) (G : kx_G) (z0 : Nat) (ad : kx_A) (nb : Nat) (sg : kx_S) (hC : tw_CI nb sg) (x y : Int32) : kx_MX l yX3_setTrust wsX3_setTrust 7 111 2 12 G z0 ad nb sg [.ref (ad 0 0), .int x, .int y] (fun r sg' => ∃ c : Nat, c < 14 ∧ x = nI c ∧ tw_in y 1 9 = true ∧ r = some (.int (sg 3 0 c)) ∧ tw_SA nb (kx_up sg 3 0 (upd (sg 3 0) c y)) sg') (fun E => (E = kx_ioe ∧ (∀ c, c < 14 → ¬ x = nI c)) ∨ (E = kx_iae ∧ (∃ c : Nat, c < 14 ∧ x = nI c) ∧ tw_in y 1 9 = false)) := by
  refine vx_ofW (cc := cX3_setTrust) (maxL := 4) (ret := (some .int)) (by decide) rfl ?_
  intro p e s m args below meth c s₁ B hml htab hv
  obtain ⟨rfl, hW, hV⟩ := hv
  have hts := atoms_spec (ws := wsX3_setTrust) B.pre
  have F : kx_F p s m c cX3_setTrust 4 RX3 _ wsX3_setTrust G z0 := ⟨B.exec, B.bytes, hml, findClass_of_methodNamed B.named, hts, hV⟩
  have hx := B.exec; have hb := B.bytes; have hr := B.returns; have hlocks := B.notSynchronized
  have hS : va_S (kx_Ad z0) s.heap s.heap [] := va_S.rf
  obtain ⟨hnb, hwf, hbl, hjm, hkp, hnn⟩ := hC
  have L_21 : Cond.fieldLink RX3 21 (TX3 2).1 (TX3 2).2.1 (TX3 2).2.2.1 ∈ wsX3_setTrust := by decide +kernel
  have inX3 : ∀ w ∈ u_ws RX3 TX3 9, w ∈ wsX3_setTrust := by decide +kernel
  have hl := lv_entry ([.ref (ad 0 0), .int x, .int y]) (n := 4) (Nat.le_of_ble_eq_true rfl)
  rw [lg_entry_eq]
  generalize (lg_sl ([.ref (ad 0 0), .int x, .int y]) ++ List.replicate (4 - (lg_sl ([.ref (ad 0 0), .int x, .int y])).length) Slot.unset).toArray = ls at hl ⊢
  have hl : lv_has ls 4 [(0, .ref (ad 0 0)), (1, .int x), (2, .int y)] := hl
  refine lv_iload_n hx hb dX3_setTrust_0 rfl (lv_at hl 1 rfl) ?_
  refine kx_xS (na := 1) F (c_X3_checkWho l hlf G z0 ad nb sg x) gX3_setTrust_X3_checkWho rfl (by decide +kernel) ⟨Nat.le_of_ble_eq_true rfl, Nat.le_of_ble_eq_true rfl⟩ hW hS (As := [.int x]) (rest := []) rfl hl.1 rfl (Nat.le_of_ble_eq_true rfl) dX3_setTrust_1 ⟨by first | exact Nat.le_of_ble_eq_true rfl | omega, by first | exact Nat.le_of_ble_eq_true rfl | omega⟩ (fun E9 ce9 q9 H locs hp9 hW hS h7 h8 h9 => ?_) (fun r9 sg9 H locs hq hW hS => ?_)
  · exact kx_out htab hlocks hW hS (by first | exact Nat.le_of_ble_eq_true rfl | omega) (by first | exact Nat.le_of_ble_eq_true rfl | omega) (Or.inl hp9) h7 h8 h9
  obtain ⟨rfl, e9, c1, hc1, rfl⟩ := hq
  rw [e9] at hW
  refine W.eq (g2 := F0 m 4 ls []) rfl ?_
  refine lv_iload_n hx hb dX3_setTrust_4 rfl (lv_at hl 2 rfl) ?_
  refine lv_iconst (v := 1) hx hb dX3_setTrust_5 (by decide) ?_
  refine lv_bipush (v := 9) hx hb dX3_setTrust_6 (by decide) ?_
  refine kx_cS (na := 3) F (c_X3_isWithin l G z0 ad nb sg y 1 9) gX3_setTrust_X3_isWithin rfl (by decide +kernel) ⟨Nat.le_of_ble_eq_true rfl, Nat.le_of_ble_eq_true rfl⟩ hW hS (As := [.int y, .int 1, .int 9]) (rest := []) rfl hl.1 rfl (Nat.le_of_ble_eq_true rfl) dX3_setTrust_8 ⟨by first | exact Nat.le_of_ble_eq_true rfl | omega, by first | exact Nat.le_of_ble_eq_true rfl | omega⟩ (fun r9 sg9 H locs hq hW hS => ?_)
  obtain ⟨rfl, e9⟩ := hq
  rw [e9] at hW
  refine W.eq (g2 := F0 m 11 ls [.int (tw_b (tw_in y 1 9))]) rfl ?_
  refine lv_if_ne (tgt := 24) hx hb dX3_setTrust_11 (by decide) (fun c_11 => ?_) (fun c_11 => ?_)
  · refine lv_aload_n hx hb dX3_setTrust_24 rfl (lv_at hl 0 rfl) ?_
    refine kx_g F inX3 hW 0 0 ⟨by decide, rfl⟩ rfl rfl 2 (by decide) L_21 (v := .ref (ad 3 0)) rfl dX3_setTrust_25 ?_
    refine lv_iload_n hx hb dX3_setTrust_28 rfl (lv_at hl 1 rfl) ?_
    refine kx_ald F hW 3 0 ⟨by decide, rfl⟩ rfl c1 hc1 (by decide) (v := sg 3 0 c1) rfl dX3_setTrust_29 ?_
    refine lv_istore_n (lv' := [(3, .int (sg 3 0 c1)), (0, .ref (ad 0 0)), (1, .int (nI c1)), (2, .int y)]) hx hb dX3_setTrust_30 rfl hl (by decide) rfl (fun ls hl => ?_)
    refine lv_aload_n hx hb dX3_setTrust_31 rfl (lv_at hl 1 rfl) ?_
    refine kx_g F inX3 hW 0 0 ⟨by decide, rfl⟩ rfl rfl 2 (by decide) L_21 (v := .ref (ad 3 0)) rfl dX3_setTrust_32 ?_
    refine lv_iload_n hx hb dX3_setTrust_35 rfl (lv_at hl 2 rfl) ?_
    refine lv_iload_n hx hb dX3_setTrust_36 rfl (lv_at hl 3 rfl) ?_
    refine kx_ast F hW hS 3 0 ⟨by decide, rfl⟩ rfl c1 hc1 (by decide) (x := y) rfl dX3_setTrust_37 (fun H locs hW hS => ?_)
    have hW : kx_Wd G z0 ad nb (kx_up sg 3 0 (upd (sg 3 0) c1 y)) H := hW
    refine lv_aload_n hx hb dX3_setTrust_38 rfl (lv_at hl 1 rfl) ?_
    refine kx_cV (na := 0) F (q := 0) (n := 0) (c_X3_settleAll l G z0 ad nb (kx_up sg 3 0 (upd (sg 3 0) c1 y)) hnb (tw_WF_trust hwf (tw_b_1 c_11))) gX3_setTrust_X3_settleAll rfl (by decide +kernel) ⟨Nat.le_of_ble_eq_true rfl, Nat.le_of_ble_eq_true rfl⟩ hW hS ⟨by decide, rfl⟩ rfl rfl (As := []) (rest := []) rfl hl.1 rfl (Nat.le_of_ble_eq_true rfl) dX3_setTrust_39 ⟨by first | exact Nat.le_of_ble_eq_true rfl | omega, by first | exact Nat.le_of_ble_eq_true rfl | omega⟩ (fun r9 sg9 H locs hq hW hS => ?_)
    obtain ⟨rfl, hsa9⟩ := hq
    have hW : kx_Wd G z0 ad nb (sg9) H := by first | exact hW | (simp only [kx_up_s, kx_up_up] at hW; exact hW) | (simp only [kx_up_s, kx_up_up, upd_s] at hW; exact hW)
    refine W.eq (g2 := F0 m 42 ls []) rfl ?_
    refine lv_iload_n hx hb dX3_setTrust_42 rfl (lv_at hl 0 rfl) ?_
    refine vx_ret ?_
    exact kx_ri F hr hlocks hW hS (by first | exact Nat.le_of_ble_eq_true rfl | omega) (by first | exact Nat.le_of_ble_eq_true rfl | omega) (⟨c1, hc1, rfl, tw_b_1 c_11, rfl, hsa9⟩) dX3_setTrust_43
  · exact kx_thr F hlf htab hlocks (cls := "java/lang/IllegalArgumentException") (text := "trust is out of range") (ik := 53) (is := 72) (ic := 57) (by decide +kernel) (by decide +kernel) (by decide +kernel) (by decide +kernel) (by decide +kernel) (by decide +kernel) (by decide +kernel) hW hS hl.1 dX3_setTrust_14 dX3_setTrust_17 dX3_setTrust_18 dX3_setTrust_20 dX3_setTrust_23 (Nat.le_of_ble_eq_true rfl) (Nat.le_of_ble_eq_true rfl) (by first | exact Nat.le_of_ble_eq_true rfl | omega) (by first | exact Nat.le_of_ble_eq_true rfl | omega) (by first | exact Nat.le_of_ble_eq_true rfl | omega) (by first | exact Nat.le_of_ble_eq_true rfl | omega) (Or.inr ⟨rfl, ⟨c1, hc1, rfl⟩, tw_b_0 c_11⟩)

set_option maxHeartbeats 1000000 in
set_option maxRecDepth 100000 in
theorem c_X3_pass (l : Launch) (hlf : l.stackTraces = false) (G : kx_G) (z0 : Nat) (ad : kx_A) (nb : Nat) (sg : kx_S) (x : Int32) : kx_MX l yX3_pass wsX3_pass 6 90 1 6 G z0 ad nb sg [.ref (ad 0 0), .int x] (fun r sg' => tw_in x 1 2000 = true ∧ sg 0 0 7 + x ≤ 100000 ∧ r = some (.int (sg 0 0 7 + x)) ∧ sg' = kx_up sg 0 0 (upd (sg 0 0) 7 (sg 0 0 7 + x))) (fun E => (E = kx_iae ∧ tw_in x 1 2000 = false) ∨ (E = kx_ise ∧ tw_in x 1 2000 = true ∧ ¬ sg 0 0 7 + x ≤ 100000)) := by
  refine vx_ofW (cc := cX3_pass) (maxL := 2) (ret := (some .int)) (by decide) rfl ?_
  intro p e s m args below meth c s₁ B hml htab hv
  obtain ⟨rfl, hW, hV⟩ := hv
  have hts := atoms_spec (ws := wsX3_pass) B.pre
  have F : kx_F p s m c cX3_pass 2 RX3 _ wsX3_pass G z0 := ⟨B.exec, B.bytes, hml, findClass_of_methodNamed B.named, hts, hV⟩
  have hx := B.exec; have hb := B.bytes; have hr := B.returns; have hlocks := B.notSynchronized
  have hS : va_S (kx_Ad z0) s.heap s.heap [] := va_S.rf
  have L_42 : Cond.fieldLink RX3 42 (TX3 7).1 (TX3 7).2.1 (TX3 7).2.2.1 ∈ wsX3_pass := by decide +kernel
  have inX3 : ∀ w ∈ u_ws RX3 TX3 9, w ∈ wsX3_pass := by decide +kernel
  have hl := lv_entry ([.ref (ad 0 0), .int x]) (n := 2) (Nat.le_of_ble_eq_true rfl)
  rw [lg_entry_eq]
  generalize (lg_sl ([.ref (ad 0 0), .int x]) ++ List.replicate (2 - (lg_sl ([.ref (ad 0 0), .int x])).length) Slot.unset).toArray = ls at hl ⊢
  have hl : lv_has ls 2 [(0, .ref (ad 0 0)), (1, .int x)] := hl
  refine lv_iload_n hx hb dX3_pass_0 rfl (lv_at hl 1 rfl) ?_
  refine lv_iconst (v := 1) hx hb dX3_pass_1 (by decide) ?_
  refine lv_sipush (v := 2000) hx hb dX3_pass_2 (by decide) ?_
  refine kx_cS (na := 3) F (c_X3_isWithin l G z0 ad nb sg x 1 2000) gX3_pass_X3_isWithin rfl (by decide +kernel) ⟨Nat.le_of_ble_eq_true rfl, Nat.le_of_ble_eq_true rfl⟩ hW hS (As := [.int x, .int 1, .int 2000]) (rest := []) rfl hl.1 rfl (Nat.le_of_ble_eq_true rfl) dX3_pass_5 ⟨by first | exact Nat.le_of_ble_eq_true rfl | omega, by first | exact Nat.le_of_ble_eq_true rfl | omega⟩ (fun r9 sg9 H locs hq hW hS => ?_)
  obtain ⟨rfl, e9⟩ := hq
  rw [e9] at hW
  refine W.eq (g2 := F0 m 8 ls [.int (tw_b (tw_in x 1 2000))]) rfl ?_
  refine lv_if_ne (tgt := 21) hx hb dX3_pass_8 (by decide) (fun c_8 => ?_) (fun c_8 => ?_)
  · refine lv_aload_n hx hb dX3_pass_21 rfl (lv_at hl 0 rfl) ?_
    refine kx_g F inX3 hW 0 0 ⟨by decide, rfl⟩ rfl rfl 7 (by decide) L_42 (v := .int (sg 0 0 7)) rfl dX3_pass_22 ?_
    refine lv_iload_n hx hb dX3_pass_25 rfl (lv_at hl 1 rfl) ?_
    refine lv_iadd hx hb dX3_pass_26 ?_
    refine lv_ldc (v := 100000) hx hb F.2.2.2.1 (hts (.constant RX3 79 100000) (by decide +kernel)) dX3_pass_27 ?_
    refine lv_icmp_le (tgt := 42) hx hb dX3_pass_29 (by decide) (fun c_29 => ?_) (fun c_29 => ?_)
    · refine lv_aload_n hx hb dX3_pass_42 rfl (lv_at hl 0 rfl) ?_
      refine lv_dup hx hb dX3_pass_43 rfl ?_
      refine kx_g F inX3 hW 0 0 ⟨by decide, rfl⟩ rfl rfl 7 (by decide) L_42 (v := .int (sg 0 0 7)) rfl dX3_pass_44 ?_
      refine lv_iload_n hx hb dX3_pass_47 rfl (lv_at hl 1 rfl) ?_
      refine lv_iadd hx hb dX3_pass_48 ?_
      refine kx_p F inX3 tyX3 tyX3_ok nmX3 hW hS 0 0 ⟨by decide, rfl⟩ rfl rfl 7 (by decide) L_42 rfl (v := .int ((sg 0 0 7) + x)) rfl rfl (Nat.le_of_ble_eq_true rfl) (upd (sg 0 0) 7 ((sg 0 0 7) + x)) rfl dX3_pass_49 (fun H locs hW hS => ?_)
      have hW : kx_Wd G z0 ad nb (kx_up sg 0 0 (upd (sg 0 0) 7 ((sg 0 0 7) + x))) H := hW
      refine lv_aload_n hx hb dX3_pass_52 rfl (lv_at hl 0 rfl) ?_
      refine kx_g F inX3 hW 0 0 ⟨by decide, rfl⟩ rfl rfl 7 (by decide) L_42 (v := .int ((sg 0 0 7) + x)) (by first | rfl | (simp only [kx_up_s]; done) | (simp only [kx_up_s, upd_s]; done) | (simp only [kx_up_s]; rfl) | (simp [kx_up, upd]; done)) dX3_pass_53 ?_
      refine vx_ret ?_
      exact kx_ri F hr hlocks hW hS (by first | exact Nat.le_of_ble_eq_true rfl | omega) (by first | exact Nat.le_of_ble_eq_true rfl | omega) (⟨tw_b_1 c_8, c_29, rfl, rfl⟩) dX3_pass_56
    · exact kx_thr F hlf htab hlocks (cls := "java/lang/IllegalStateException") (text := "the time would be above 100000") (ik := 60) (is := 80) (ic := 64) (by decide +kernel) (by decide +kernel) (by decide +kernel) (by decide +kernel) (by decide +kernel) (by decide +kernel) (by decide +kernel) hW hS hl.1 dX3_pass_32 dX3_pass_35 dX3_pass_36 dX3_pass_38 dX3_pass_41 (Nat.le_of_ble_eq_true rfl) (Nat.le_of_ble_eq_true rfl) (by first | exact Nat.le_of_ble_eq_true rfl | omega) (by first | exact Nat.le_of_ble_eq_true rfl | omega) (by first | exact Nat.le_of_ble_eq_true rfl | omega) (by first | exact Nat.le_of_ble_eq_true rfl | omega) (Or.inr ⟨rfl, tw_b_1 c_8, c_29⟩)
  · exact kx_thr F hlf htab hlocks (cls := "java/lang/IllegalArgumentException") (text := "minutes is out of range") (ik := 53) (is := 77) (ic := 57) (by decide +kernel) (by decide +kernel) (by decide +kernel) (by decide +kernel) (by decide +kernel) (by decide +kernel) (by decide +kernel) hW hS hl.1 dX3_pass_11 dX3_pass_14 dX3_pass_15 dX3_pass_17 dX3_pass_20 (Nat.le_of_ble_eq_true rfl) (Nat.le_of_ble_eq_true rfl) (by first | exact Nat.le_of_ble_eq_true rfl | omega) (by first | exact Nat.le_of_ble_eq_true rfl | omega) (by first | exact Nat.le_of_ble_eq_true rfl | omega) (by first | exact Nat.le_of_ble_eq_true rfl | omega) (Or.inl ⟨rfl, tw_b_0 c_8⟩)

set_option maxHeartbeats 1000000 in
set_option maxRecDepth 100000 in
theorem c_X3_scan (l : Launch) (hlf : l.stackTraces = false) (G : kx_G) (z0 : Nat) (ad : kx_A) (nb : Nat) (sg : kx_S) (hC : tw_CI nb sg) (x y z : Int32) : kx_MX l yX3_scan wsX3_scan 7 137 4 24 G z0 ad nb sg [.ref (ad 0 0), .int x, .int y, .int z] (fun r sg' => ∃ k c : Nat, k < nb ∧ x = nI k ∧ c < 4 ∧ y = nI c ∧ tw_in z 0 2 = true ∧ tw_n sg k < 12 ∧ r = some (.int (nI (tw_n sg k))) ∧ tw_AS sg k (tw_n sg k) (tw_pt (nI c) z) c sg') (fun E => (E = kx_ioe ∧ ((∀ k, k < nb → ¬ x = nI k) ∨ (∀ c, c < 4 → ¬ y = nI c))) ∨ (E = kx_iae ∧ (∃ k : Nat, k < nb ∧ x = nI k) ∧ (∃ c : Nat, c < 4 ∧ y = nI c) ∧ tw_in z 0 2 = false) ∨ (E = kx_ise ∧ ∃ k c : Nat, k < nb ∧ x = nI k ∧ c < 4 ∧ y = nI c ∧ tw_in z 0 2 = true ∧ tw_n sg k = 12)) := by
  refine vx_ofW (cc := cX3_scan) (maxL := 5) (ret := (some .int)) (by decide) rfl ?_
  intro p e s m args below meth c s₁ B hml htab hv
  obtain ⟨rfl, hW, hV⟩ := hv
  have hts := atoms_spec (ws := wsX3_scan) B.pre
  have F : kx_F p s m c cX3_scan 5 RX3 _ wsX3_scan G z0 := ⟨B.exec, B.bytes, hml, findClass_of_methodNamed B.named, hts, hV⟩
  have hx := B.exec; have hb := B.bytes; have hr := B.returns; have hlocks := B.notSynchronized
  have hS : va_S (kx_Ad z0) s.heap s.heap [] := va_S.rf
  obtain ⟨hnb, hwf, hbl, hjm, hkp, hnn⟩ := hC
  have hl := lv_entry ([.ref (ad 0 0), .int x, .int y, .int z]) (n := 5) (Nat.le_of_ble_eq_true rfl)
  rw [lg_entry_eq]
  generalize (lg_sl ([.ref (ad 0 0), .int x, .int y, .int z]) ++ List.replicate (5 - (lg_sl ([.ref (ad 0 0), .int x, .int y, .int z])).length) Slot.unset).toArray = ls at hl ⊢
  have hl : lv_has ls 5 [(0, .ref (ad 0 0)), (1, .int x), (2, .int y), (3, .int z)] := hl
  refine lv_aload_n hx hb dX3_scan_0 rfl (lv_at hl 0 rfl) ?_
  refine lv_iload_n hx hb dX3_scan_1 rfl (lv_at hl 1 rfl) ?_
  refine kx_xV (na := 1) F (q := 0) (n := 0) (c_X3_boxAt l hlf G z0 ad nb sg hnb x) gX3_scan_X3_boxAt rfl (by decide +kernel) ⟨Nat.le_of_ble_eq_true rfl, Nat.le_of_ble_eq_true rfl⟩ hW hS ⟨by decide, rfl⟩ rfl rfl (As := [.int x]) (rest := []) rfl hl.1 rfl (Nat.le_of_ble_eq_true rfl) dX3_scan_2 ⟨by first | exact Nat.le_of_ble_eq_true rfl | omega, by first | exact Nat.le_of_ble_eq_true rfl | omega⟩ (fun E9 ce9 q9 H locs hp9 hW hS h7 h8 h9 => ?_) (fun r9 sg9 H locs hq hW hS => ?_)
  · exact kx_out htab hlocks hW hS (by first | exact Nat.le_of_ble_eq_true rfl | omega) (by first | exact Nat.le_of_ble_eq_true rfl | omega) (Or.inl ⟨hp9.1, Or.inl hp9.2⟩) h7 h8 h9
  obtain ⟨k, hk, rfl, rfl, e9⟩ := hq
  rw [e9] at hW
  refine W.eq (g2 := F0 m 5 ls [.ref (ad 9 k)]) rfl ?_
  obtain ⟨n9, hn9, h129, hm9⟩ := hwf.1 k hk
  have en9 := tw_n_eq hn9 h129
  refine lv_astore (lv' := [(4, .ref (ad 9 k)), (0, .ref (ad 0 0)), (1, .int (nI k)), (2, .int y), (3, .int z)]) hx hb dX3_scan_5 hl (by decide) rfl (fun ls hl => ?_)
  refine lv_iload_n hx hb dX3_scan_7 rfl (lv_at hl 3 rfl) ?_
  refine kx_xS (na := 1) F (c_X3_checkCourier l hlf G z0 ad nb sg y) gX3_scan_X3_checkCourier rfl (by decide +kernel) ⟨Nat.le_of_ble_eq_true rfl, Nat.le_of_ble_eq_true rfl⟩ hW hS (As := [.int y]) (rest := []) rfl hl.1 rfl (Nat.le_of_ble_eq_true rfl) dX3_scan_8 ⟨by first | exact Nat.le_of_ble_eq_true rfl | omega, by first | exact Nat.le_of_ble_eq_true rfl | omega⟩ (fun E9 ce9 q9 H locs hp9 hW hS h7 h8 h9 => ?_) (fun r9 sg9 H locs hq hW hS => ?_)
  · exact kx_out htab hlocks hW hS (by first | exact Nat.le_of_ble_eq_true rfl | omega) (by first | exact Nat.le_of_ble_eq_true rfl | omega) (Or.inl ⟨hp9.1, Or.inr hp9.2⟩) h7 h8 h9
  obtain ⟨rfl, e9, c1, hc1, rfl⟩ := hq
  rw [e9] at hW
  refine W.eq (g2 := F0 m 11 ls []) rfl ?_
  refine lv_iload_n hx hb dX3_scan_11 rfl (lv_at hl 4 rfl) ?_
  refine lv_iconst (v := 0) hx hb dX3_scan_12 (by decide) ?_
  refine lv_iconst (v := 2) hx hb dX3_scan_13 (by decide) ?_
  refine kx_cS (na := 3) F (c_X3_isWithin l G z0 ad nb sg z 0 2) gX3_scan_X3_isWithin rfl (by decide +kernel) ⟨Nat.le_of_ble_eq_true rfl, Nat.le_of_ble_eq_true rfl⟩ hW hS (As := [.int z, .int 0, .int 2]) (rest := []) rfl hl.1 rfl (Nat.le_of_ble_eq_true rfl) dX3_scan_14 ⟨by first | exact Nat.le_of_ble_eq_true rfl | omega, by first | exact Nat.le_of_ble_eq_true rfl | omega⟩ (fun r9 sg9 H locs hq hW hS => ?_)
  obtain ⟨rfl, e9⟩ := hq
  rw [e9] at hW
  refine W.eq (g2 := F0 m 17 ls [.int (tw_b (tw_in z 0 2))]) rfl ?_
  refine lv_if_ne (tgt := 30) hx hb dX3_scan_17 (by decide) (fun c_17 => ?_) (fun c_17 => ?_)
  · refine lv_aload hx hb dX3_scan_30 (lv_at hl 0 rfl) ?_
    refine kx_xS (na := 1) F (c_X3_checkRoomForScan l hlf G z0 ad nb sg k hk n9 hn9 h129) gX3_scan_X3_checkRoomForScan rfl (by decide +kernel) ⟨Nat.le_of_ble_eq_true rfl, Nat.le_of_ble_eq_true rfl⟩ hW hS (As := [.ref (ad 9 k)]) (rest := []) rfl hl.1 rfl (Nat.le_of_ble_eq_true rfl) dX3_scan_32 ⟨by first | exact Nat.le_of_ble_eq_true rfl | omega, by first | exact Nat.le_of_ble_eq_true rfl | omega⟩ (fun E9 ce9 q9 H locs hp9 hW hS h7 h8 h9 => ?_) (fun r9 sg9 H locs hq hW hS => ?_)
    · exact kx_out htab hlocks hW hS (by first | exact Nat.le_of_ble_eq_true rfl | omega) (by first | exact Nat.le_of_ble_eq_true rfl | omega) (Or.inr (Or.inr ⟨hp9.1, k, c1, hk, rfl, hc1, rfl, tw_b_1 c_17, by rw [en9]; exact hp9.2⟩)) h7 h8 h9
    obtain ⟨rfl, e9, hlt9⟩ := hq
    rw [e9] at hW
    refine W.eq (g2 := F0 m 35 ls []) rfl ?_
    refine lv_aload_n hx hb dX3_scan_35 rfl (lv_at hl 1 rfl) ?_
    refine lv_aload hx hb dX3_scan_36 (lv_at hl 0 rfl) ?_
    refine lv_iload_n hx hb dX3_scan_38 rfl (lv_at hl 3 rfl) ?_
    refine lv_iload_n hx hb dX3_scan_39 rfl (lv_at hl 4 rfl) ?_
    refine kx_cS (na := 2) F (c_X3_placeTold l G z0 ad nb sg (nI c1) z) gX3_scan_X3_placeTold rfl (by decide +kernel) ⟨Nat.le_of_ble_eq_true rfl, Nat.le_of_ble_eq_true rfl⟩ hW hS (As := [.int (nI c1), .int z]) (rest := [.ref (ad 9 k), .ref (ad 0 0)]) rfl hl.1 rfl (Nat.le_of_ble_eq_true rfl) dX3_scan_40 ⟨by first | exact Nat.le_of_ble_eq_true rfl | omega, by first | exact Nat.le_of_ble_eq_true rfl | omega⟩ (fun r9 sg9 H locs hq hW hS => ?_)
    obtain ⟨rfl, e9⟩ := hq
    rw [e9] at hW
    refine W.eq (g2 := F0 m 43 ls [.int (tw_pt (nI c1) z), .ref (ad 9 k), .ref (ad 0 0)]) rfl ?_
    refine lv_iload_n hx hb dX3_scan_43 rfl (lv_at hl 3 rfl) ?_
    refine kx_cV (na := 3) F (q := 0) (n := 0) (c_X3_addScan l G z0 ad nb sg k hk n9 hn9 hlt9 hm9 hwf.2 (tw_pt (nI c1) z) c1 (by omega)) gX3_scan_X3_addScan rfl (by decide +kernel) ⟨Nat.le_of_ble_eq_true rfl, Nat.le_of_ble_eq_true rfl⟩ hW hS ⟨by decide, rfl⟩ rfl rfl (As := [.ref (ad 9 k), .int (tw_pt (nI c1) z), .int (nI c1)]) (rest := []) rfl hl.1 rfl (Nat.le_of_ble_eq_true rfl) dX3_scan_44 ⟨by first | exact Nat.le_of_ble_eq_true rfl | omega, by first | exact Nat.le_of_ble_eq_true rfl | omega⟩ (fun r9 sg9 H locs hq hW hS => ?_)
    obtain ⟨rfl, has9⟩ := hq
    have hW : kx_Wd G z0 ad nb (sg9) H := by first | exact hW | (simp only [kx_up_s, kx_up_up] at hW; exact hW) | (simp only [kx_up_s, kx_up_up, upd_s] at hW; exact hW)
    refine W.eq (g2 := F0 m 47 ls [.int (nI n9)]) rfl ?_
    refine vx_ret ?_
    exact kx_ri F hr hlocks hW hS (by first | exact Nat.le_of_ble_eq_true rfl | omega) (by first | exact Nat.le_of_ble_eq_true rfl | omega) (⟨k, c1, hk, rfl, hc1, rfl, tw_b_1 c_17, by rw [en9]; exact hlt9, by rw [en9], by rw [en9]; exact has9⟩) dX3_scan_47
  · exact kx_thr F hlf htab hlocks (cls := "java/lang/IllegalArgumentException") (text := "what is out of range") (ik := 53) (is := 89) (ic := 57) (by decide +kernel) (by decide +kernel) (by decide +kernel) (by decide +kernel) (by decide +kernel) (by decide +kernel) (by decide +kernel) hW hS hl.1 dX3_scan_20 dX3_scan_23 dX3_scan_24 dX3_scan_26 dX3_scan_29 (Nat.le_of_ble_eq_true rfl) (Nat.le_of_ble_eq_true rfl) (by first | exact Nat.le_of_ble_eq_true rfl | omega) (by first | exact Nat.le_of_ble_eq_true rfl | omega) (by first | exact Nat.le_of_ble_eq_true rfl | omega) (by first | exact Nat.le_of_ble_eq_true rfl | omega) (Or.inr (Or.inl ⟨rfl, ⟨k, hk, rfl⟩, ⟨c1, hc1, rfl⟩, tw_b_0 c_17⟩))

set_option maxHeartbeats 1000000 in
set_option maxRecDepth 100000 in
theorem c_X3_lay (l : Launch) (hlf : l.stackTraces = false) (G : kx_G) (z0 : Nat) (ad : kx_A) (nb : Nat) (sg : kx_S) (hC : tw_CI nb sg) (x y : Int32) : kx_MX l yX3_lay wsX3_lay 7 137 4 24 G z0 ad nb sg [.ref (ad 0 0), .int x, .int y] (fun r sg' => ∃ k d : Nat, k < nb ∧ x = nI k ∧ d < 10 ∧ y = nI d ∧ tw_n sg k < 12 ∧ sg 9 k 0 ≤ sg 8 d 0 ∧ r = some (.int (nI (tw_n sg k))) ∧ tw_AS sg k (tw_n sg k) (10 + nI d) (4 + d) sg') (fun E => (E = kx_ioe ∧ ((∀ k, k < nb → ¬ x = nI k) ∨ (∀ d, d < 10 → ¬ y = nI d))) ∨ (E = kx_ise ∧ ∃ k d : Nat, k < nb ∧ x = nI k ∧ d < 10 ∧ y = nI d ∧ (tw_n sg k = 12 ∨ ¬ sg 9 k 0 ≤ sg 8 d 0))) := by
  refine vx_ofW (cc := cX3_lay) (maxL := 5) (ret := (some .int)) (by decide) rfl ?_
  intro p e s m args below meth c s₁ B hml htab hv
  obtain ⟨rfl, hW, hV⟩ := hv
  have hts := atoms_spec (ws := wsX3_lay) B.pre
  have F : kx_F p s m c cX3_lay 5 RX3 _ wsX3_lay G z0 := ⟨B.exec, B.bytes, hml, findClass_of_methodNamed B.named, hts, hV⟩
  have hx := B.exec; have hb := B.bytes; have hr := B.returns; have hlocks := B.notSynchronized
  have hS : va_S (kx_Ad z0) s.heap s.heap [] := va_S.rf
  obtain ⟨hnb, hwf, hbl, hjm, hkp, hnn⟩ := hC
  have L_107 : Cond.fieldLink RX3 107 (TX0 0).1 (TX0 0).2.1 (TX0 0).2.2.1 ∈ wsX3_lay := by decide +kernel
  have L_110 : Cond.fieldLink RX3 110 (TX1 0).1 (TX1 0).2.1 (TX1 0).2.2.1 ∈ wsX3_lay := by decide +kernel
  have inX0 : ∀ w ∈ u_ws RX0 TX0 11, w ∈ wsX3_lay := by decide +kernel
  have inX1 : ∀ w ∈ u_ws RX1 TX1 5, w ∈ wsX3_lay := by decide +kernel
  have hl := lv_entry ([.ref (ad 0 0), .int x, .int y]) (n := 5) (Nat.le_of_ble_eq_true rfl)
  rw [lg_entry_eq]
  generalize (lg_sl ([.ref (ad 0 0), .int x, .int y]) ++ List.replicate (5 - (lg_sl ([.ref (ad 0 0), .int x, .int y])).length) Slot.unset).toArray = ls at hl ⊢
  have hl : lv_has ls 5 [(0, .ref (ad 0 0)), (1, .int x), (2, .int y)] := hl
  refine lv_aload_n hx hb dX3_lay_0 rfl (lv_at hl 0 rfl) ?_
  refine lv_iload_n hx hb dX3_lay_1 rfl (lv_at hl 1 rfl) ?_
  refine kx_xV (na := 1) F (q := 0) (n := 0) (c_X3_boxAt l hlf G z0 ad nb sg hnb x) gX3_lay_X3_boxAt rfl (by decide +kernel) ⟨Nat.le_of_ble_eq_true rfl, Nat.le_of_ble_eq_true rfl⟩ hW hS ⟨by decide, rfl⟩ rfl rfl (As := [.int x]) (rest := []) rfl hl.1 rfl (Nat.le_of_ble_eq_true rfl) dX3_lay_2 ⟨by first | exact Nat.le_of_ble_eq_true rfl | omega, by first | exact Nat.le_of_ble_eq_true rfl | omega⟩ (fun E9 ce9 q9 H locs hp9 hW hS h7 h8 h9 => ?_) (fun r9 sg9 H locs hq hW hS => ?_)
  · exact kx_out htab hlocks hW hS (by first | exact Nat.le_of_ble_eq_true rfl | omega) (by first | exact Nat.le_of_ble_eq_true rfl | omega) (Or.inl ⟨hp9.1, Or.inl hp9.2⟩) h7 h8 h9
  obtain ⟨k, hk, rfl, rfl, e9⟩ := hq
  rw [e9] at hW
  refine W.eq (g2 := F0 m 5 ls [.ref (ad 9 k)]) rfl ?_
  obtain ⟨n9, hn9, h129, hm9⟩ := hwf.1 k hk
  have en9 := tw_n_eq hn9 h129
  refine lv_astore_n (lv' := [(3, .ref (ad 9 k)), (0, .ref (ad 0 0)), (1, .int (nI k)), (2, .int y)]) hx hb dX3_lay_5 rfl hl (by decide) rfl (fun ls hl => ?_)
  refine lv_aload_n hx hb dX3_lay_6 rfl (lv_at hl 1 rfl) ?_
  refine lv_iload_n hx hb dX3_lay_7 rfl (lv_at hl 3 rfl) ?_
  refine kx_xV (na := 1) F (q := 0) (n := 0) (c_X3_doorAt l hlf G z0 ad nb sg y) gX3_lay_X3_doorAt rfl (by decide +kernel) ⟨Nat.le_of_ble_eq_true rfl, Nat.le_of_ble_eq_true rfl⟩ hW hS ⟨by decide, rfl⟩ rfl rfl (As := [.int y]) (rest := []) rfl hl.1 rfl (Nat.le_of_ble_eq_true rfl) dX3_lay_8 ⟨by first | exact Nat.le_of_ble_eq_true rfl | omega, by first | exact Nat.le_of_ble_eq_true rfl | omega⟩ (fun E9 ce9 q9 H locs hp9 hW hS h7 h8 h9 => ?_) (fun r9 sg9 H locs hq hW hS => ?_)
  · exact kx_out htab hlocks hW hS (by first | exact Nat.le_of_ble_eq_true rfl | omega) (by first | exact Nat.le_of_ble_eq_true rfl | omega) (Or.inl ⟨hp9.1, Or.inr hp9.2⟩) h7 h8 h9
  obtain ⟨d, hd, rfl, rfl, e9⟩ := hq
  rw [e9] at hW
  refine W.eq (g2 := F0 m 11 ls [.ref (ad 8 d)]) rfl ?_
  refine lv_astore (lv' := [(4, .ref (ad 8 d)), (3, .ref (ad 9 k)), (0, .ref (ad 0 0)), (1, .int (nI k)), (2, .int (nI d))]) hx hb dX3_lay_11 hl (by decide) rfl (fun ls hl => ?_)
  refine lv_aload_n hx hb dX3_lay_13 rfl (lv_at hl 1 rfl) ?_
  refine kx_xS (na := 1) F (c_X3_checkRoomForScan l hlf G z0 ad nb sg k hk n9 hn9 h129) gX3_lay_X3_checkRoomForScan rfl (by decide +kernel) ⟨Nat.le_of_ble_eq_true rfl, Nat.le_of_ble_eq_true rfl⟩ hW hS (As := [.ref (ad 9 k)]) (rest := []) rfl hl.1 rfl (Nat.le_of_ble_eq_true rfl) dX3_lay_14 ⟨by first | exact Nat.le_of_ble_eq_true rfl | omega, by first | exact Nat.le_of_ble_eq_true rfl | omega⟩ (fun E9 ce9 q9 H locs hp9 hW hS h7 h8 h9 => ?_) (fun r9 sg9 H locs hq hW hS => ?_)
  · exact kx_out htab hlocks hW hS (by first | exact Nat.le_of_ble_eq_true rfl | omega) (by first | exact Nat.le_of_ble_eq_true rfl | omega) (Or.inr ⟨hp9.1, k, d, hk, rfl, hd, rfl, Or.inl (by rw [en9]; exact hp9.2)⟩) h7 h8 h9
  obtain ⟨rfl, e9, hlt9⟩ := hq
  rw [e9] at hW
  refine W.eq (g2 := F0 m 17 ls []) rfl ?_
  refine lv_aload_n hx hb dX3_lay_17 rfl (lv_at hl 1 rfl) ?_
  refine kx_g F inX0 hW 9 k hk rfl rfl 0 (by decide) L_107 (v := .int (sg 9 k 0)) rfl dX3_lay_18 ?_
  refine lv_aload hx hb dX3_lay_21 (lv_at hl 0 rfl) ?_
  refine kx_g F inX1 hW 8 d hd rfl rfl 0 (by decide) L_110 (v := .int (sg 8 d 0)) rfl dX3_lay_23 ?_
  refine lv_icmp_le (tgt := 39) hx hb dX3_lay_26 (by decide) (fun c_26 => ?_) (fun c_26 => ?_)
  · refine lv_aload_n hx hb dX3_lay_39 rfl (lv_at hl 2 rfl) ?_
    refine lv_aload_n hx hb dX3_lay_40 rfl (lv_at hl 1 rfl) ?_
    refine lv_bipush (v := 10) hx hb dX3_lay_41 (by decide) ?_
    refine lv_iload_n hx hb dX3_lay_43 rfl (lv_at hl 4 rfl) ?_
    refine lv_iadd hx hb dX3_lay_44 ?_
    refine lv_iconst (v := 4) hx hb dX3_lay_45 (by decide) ?_
    refine lv_iload_n hx hb dX3_lay_46 rfl (lv_at hl 4 rfl) ?_
    refine lv_iadd hx hb dX3_lay_47 ?_
    rw [show (4 : Int32) + nI d = nI (4 + d) from nI_add 4 d]
    refine kx_cV (na := 3) F (q := 0) (n := 0) (c_X3_addScan l G z0 ad nb sg k hk n9 hn9 hlt9 hm9 hwf.2 (10 + (nI d)) (4 + d) (by omega)) gX3_lay_X3_addScan rfl (by decide +kernel) ⟨Nat.le_of_ble_eq_true rfl, Nat.le_of_ble_eq_true rfl⟩ hW hS ⟨by decide, rfl⟩ rfl rfl (As := [.ref (ad 9 k), .int (10 + (nI d)), .int (nI (4 + d))]) (rest := []) rfl hl.1 rfl (Nat.le_of_ble_eq_true rfl) dX3_lay_48 ⟨by first | exact Nat.le_of_ble_eq_true rfl | omega, by first | exact Nat.le_of_ble_eq_true rfl | omega⟩ (fun r9 sg9 H locs hq hW hS => ?_)
    obtain ⟨rfl, has9⟩ := hq
    have hW : kx_Wd G z0 ad nb (sg9) H := by first | exact hW | (simp only [kx_up_s, kx_up_up] at hW; exact hW) | (simp only [kx_up_s, kx_up_up, upd_s] at hW; exact hW)
    refine W.eq (g2 := F0 m 51 ls [.int (nI n9)]) rfl ?_
    refine vx_ret ?_
    exact kx_ri F hr hlocks hW hS (by first | exact Nat.le_of_ble_eq_true rfl | omega) (by first | exact Nat.le_of_ble_eq_true rfl | omega) (⟨k, d, hk, rfl, hd, rfl, by rw [en9]; exact hlt9, c_26, by rw [en9], by rw [en9]; exact has9⟩) dX3_lay_51
  · exact kx_thr F hlf htab hlocks (cls := "java/lang/IllegalStateException") (text := "the box is greater than the door") (ik := 60) (is := 111) (ic := 64) (by decide +kernel) (by decide +kernel) (by decide +kernel) (by decide +kernel) (by decide +kernel) (by decide +kernel) (by decide +kernel) hW hS hl.1 dX3_lay_29 dX3_lay_32 dX3_lay_33 dX3_lay_35 dX3_lay_38 (Nat.le_of_ble_eq_true rfl) (Nat.le_of_ble_eq_true rfl) (by first | exact Nat.le_of_ble_eq_true rfl | omega) (by first | exact Nat.le_of_ble_eq_true rfl | omega) (by first | exact Nat.le_of_ble_eq_true rfl | omega) (by first | exact Nat.le_of_ble_eq_true rfl | omega) (Or.inr ⟨rfl, k, d, hk, rfl, hd, rfl, Or.inr c_26⟩)

set_option maxHeartbeats 1000000 in
set_option maxRecDepth 100000 in
theorem c_X3_find (l : Launch) (hlf : l.stackTraces = false) (G : kx_G) (z0 : Nat) (ad : kx_A) (nb : Nat) (sg : kx_S) (hC : tw_CI nb sg) (x y : Int32) : kx_MX l yX3_find wsX3_find 7 137 3 18 G z0 ad nb sg [.ref (ad 0 0), .int x, .int y] (fun r sg' => ∃ k : Nat, k < nb ∧ x = nI k ∧ ¬ tw_kind y = -1 ∧ tw_n sg k < 12 ∧ r = some (.int (nI (tw_n sg k))) ∧ tw_AS sg k (tw_n sg k) y 14 sg') (fun E => (E = kx_ioe ∧ ((∀ k, k < nb → ¬ x = nI k) ∨ tw_kind y = -1)) ∨ (E = kx_ise ∧ ∃ k : Nat, k < nb ∧ x = nI k ∧ ¬ tw_kind y = -1 ∧ tw_n sg k = 12)) := by
  refine vx_ofW (cc := cX3_find) (maxL := 4) (ret := (some .int)) (by decide) rfl ?_
  intro p e s m args below meth c s₁ B hml htab hv
  obtain ⟨rfl, hW, hV⟩ := hv
  have hts := atoms_spec (ws := wsX3_find) B.pre
  have F : kx_F p s m c cX3_find 4 RX3 _ wsX3_find G z0 := ⟨B.exec, B.bytes, hml, findClass_of_methodNamed B.named, hts, hV⟩
  have hx := B.exec; have hb := B.bytes; have hr := B.returns; have hlocks := B.notSynchronized
  have hS : va_S (kx_Ad z0) s.heap s.heap [] := va_S.rf
  obtain ⟨hnb, hwf, hbl, hjm, hkp, hnn⟩ := hC
  have hl := lv_entry ([.ref (ad 0 0), .int x, .int y]) (n := 4) (Nat.le_of_ble_eq_true rfl)
  rw [lg_entry_eq]
  generalize (lg_sl ([.ref (ad 0 0), .int x, .int y]) ++ List.replicate (4 - (lg_sl ([.ref (ad 0 0), .int x, .int y])).length) Slot.unset).toArray = ls at hl ⊢
  have hl : lv_has ls 4 [(0, .ref (ad 0 0)), (1, .int x), (2, .int y)] := hl
  refine lv_aload_n hx hb dX3_find_0 rfl (lv_at hl 0 rfl) ?_
  refine lv_iload_n hx hb dX3_find_1 rfl (lv_at hl 1 rfl) ?_
  refine kx_xV (na := 1) F (q := 0) (n := 0) (c_X3_boxAt l hlf G z0 ad nb sg hnb x) gX3_find_X3_boxAt rfl (by decide +kernel) ⟨Nat.le_of_ble_eq_true rfl, Nat.le_of_ble_eq_true rfl⟩ hW hS ⟨by decide, rfl⟩ rfl rfl (As := [.int x]) (rest := []) rfl hl.1 rfl (Nat.le_of_ble_eq_true rfl) dX3_find_2 ⟨by first | exact Nat.le_of_ble_eq_true rfl | omega, by first | exact Nat.le_of_ble_eq_true rfl | omega⟩ (fun E9 ce9 q9 H locs hp9 hW hS h7 h8 h9 => ?_) (fun r9 sg9 H locs hq hW hS => ?_)
  · exact kx_out htab hlocks hW hS (by first | exact Nat.le_of_ble_eq_true rfl | omega) (by first | exact Nat.le_of_ble_eq_true rfl | omega) (Or.inl ⟨hp9.1, Or.inl hp9.2⟩) h7 h8 h9
  obtain ⟨k, hk, rfl, rfl, e9⟩ := hq
  rw [e9] at hW
  refine W.eq (g2 := F0 m 5 ls [.ref (ad 9 k)]) rfl ?_
  obtain ⟨n9, hn9, h129, hm9⟩ := hwf.1 k hk
  have en9 := tw_n_eq hn9 h129
  refine lv_astore_n (lv' := [(3, .ref (ad 9 k)), (0, .ref (ad 0 0)), (1, .int (nI k)), (2, .int y)]) hx hb dX3_find_5 rfl hl (by decide) rfl (fun ls hl => ?_)
  refine lv_iload_n hx hb dX3_find_6 rfl (lv_at hl 3 rfl) ?_
  refine kx_cS (na := 1) F (c_X3_kindOf l G z0 ad nb sg y) gX3_find_X3_kindOf rfl (by decide +kernel) ⟨Nat.le_of_ble_eq_true rfl, Nat.le_of_ble_eq_true rfl⟩ hW hS (As := [.int y]) (rest := []) rfl hl.1 rfl (Nat.le_of_ble_eq_true rfl) dX3_find_7 ⟨by first | exact Nat.le_of_ble_eq_true rfl | omega, by first | exact Nat.le_of_ble_eq_true rfl | omega⟩ (fun r9 sg9 H locs hq hW hS => ?_)
  obtain ⟨rfl, e9⟩ := hq
  rw [e9] at hW
  refine W.eq (g2 := F0 m 10 ls [.int (tw_kind y)]) rfl ?_
  refine lv_iconst (v := (-1)) hx hb dX3_find_10 (by decide) ?_
  refine lv_icmp_ne (tgt := 24) hx hb dX3_find_11 (by decide) (fun c_11 => ?_) (fun c_11 => ?_)
  · refine lv_aload_n hx hb dX3_find_24 rfl (lv_at hl 0 rfl) ?_
    refine kx_xS (na := 1) F (c_X3_checkRoomForScan l hlf G z0 ad nb sg k hk n9 hn9 h129) gX3_find_X3_checkRoomForScan rfl (by decide +kernel) ⟨Nat.le_of_ble_eq_true rfl, Nat.le_of_ble_eq_true rfl⟩ hW hS (As := [.ref (ad 9 k)]) (rest := []) rfl hl.1 rfl (Nat.le_of_ble_eq_true rfl) dX3_find_25 ⟨by first | exact Nat.le_of_ble_eq_true rfl | omega, by first | exact Nat.le_of_ble_eq_true rfl | omega⟩ (fun E9 ce9 q9 H locs hp9 hW hS h7 h8 h9 => ?_) (fun r9 sg9 H locs hq hW hS => ?_)
    · exact kx_out htab hlocks hW hS (by first | exact Nat.le_of_ble_eq_true rfl | omega) (by first | exact Nat.le_of_ble_eq_true rfl | omega) (Or.inr ⟨hp9.1, k, hk, rfl, c_11, by rw [en9]; exact hp9.2⟩) h7 h8 h9
    obtain ⟨rfl, e9, hlt9⟩ := hq
    rw [e9] at hW
    refine W.eq (g2 := F0 m 28 ls []) rfl ?_
    refine lv_aload_n hx hb dX3_find_28 rfl (lv_at hl 1 rfl) ?_
    refine lv_aload_n hx hb dX3_find_29 rfl (lv_at hl 0 rfl) ?_
    refine lv_iload_n hx hb dX3_find_30 rfl (lv_at hl 3 rfl) ?_
    refine lv_bipush (v := 14) hx hb dX3_find_31 (by decide) ?_
    refine W.eq (g2 := F0 m 33 ls [.int (nI 14), .int y, .ref (ad 9 k), .ref (ad 0 0)]) rfl ?_
    refine kx_cV (na := 3) F (q := 0) (n := 0) (c_X3_addScan l G z0 ad nb sg k hk n9 hn9 hlt9 hm9 hwf.2 y 14 (by omega)) gX3_find_X3_addScan rfl (by decide +kernel) ⟨Nat.le_of_ble_eq_true rfl, Nat.le_of_ble_eq_true rfl⟩ hW hS ⟨by decide, rfl⟩ rfl rfl (As := [.ref (ad 9 k), .int y, .int (nI 14)]) (rest := []) rfl hl.1 rfl (Nat.le_of_ble_eq_true rfl) dX3_find_33 ⟨by first | exact Nat.le_of_ble_eq_true rfl | omega, by first | exact Nat.le_of_ble_eq_true rfl | omega⟩ (fun r9 sg9 H locs hq hW hS => ?_)
    obtain ⟨rfl, has9⟩ := hq
    have hW : kx_Wd G z0 ad nb (sg9) H := by first | exact hW | (simp only [kx_up_s, kx_up_up] at hW; exact hW) | (simp only [kx_up_s, kx_up_up, upd_s] at hW; exact hW)
    refine W.eq (g2 := F0 m 36 ls [.int (nI n9)]) rfl ?_
    refine vx_ret ?_
    exact kx_ri F hr hlocks hW hS (by first | exact Nat.le_of_ble_eq_true rfl | omega) (by first | exact Nat.le_of_ble_eq_true rfl | omega) (⟨k, hk, rfl, c_11, by rw [en9]; exact hlt9, by rw [en9], by rw [en9]; exact has9⟩) dX3_find_36
  · exact kx_thr F hlf htab hlocks (cls := "java/lang/IndexOutOfBoundsException") (text := "there is no such place") (ik := 117) (is := 119) (ic := 121) (by decide +kernel) (by decide +kernel) (by decide +kernel) (by decide +kernel) (by decide +kernel) (by decide +kernel) (by decide +kernel) hW hS hl.1 dX3_find_14 dX3_find_17 dX3_find_18 dX3_find_20 dX3_find_23 (Nat.le_of_ble_eq_true rfl) (Nat.le_of_ble_eq_true rfl) (by first | exact Nat.le_of_ble_eq_true rfl | omega) (by first | exact Nat.le_of_ble_eq_true rfl | omega) (by first | exact Nat.le_of_ble_eq_true rfl | omega) (by first | exact Nat.le_of_ble_eq_true rfl | omega) (Or.inl ⟨rfl, Or.inr c_11⟩)

set_option maxHeartbeats 1000000 in
set_option maxRecDepth 100000 in
theorem c_X3_setDoor (l : Launch) (hlf : l.stackTraces = false) (G : kx_G) (z0 : Nat) (ad : kx_A) (nb : Nat) (sg : kx_S) (hC : tw_CI nb sg) (x y : Int32) : kx_MX l yX3_setDoor wsX3_setDoor 7 111 2 12 G z0 ad nb sg [.ref (ad 0 0), .int x, .int y] (fun r sg' => ∃ d : Nat, d < 10 ∧ x = nI d ∧ tw_in y 1 3 = true ∧ sg 8 d 2 = -1 ∧ r = some (.int (sg 8 d 0)) ∧ sg' = kx_up sg 8 d (upd (sg 8 d) 0 y)) (fun E => (E = kx_ioe ∧ (∀ d, d < 10 → ¬ x = nI d)) ∨ (E = kx_iae ∧ (∃ d : Nat, d < 10 ∧ x = nI d) ∧ tw_in y 1 3 = false) ∨ (E = kx_ise ∧ ∃ d : Nat, d < 10 ∧ x = nI d ∧ tw_in y 1 3 = true ∧ ¬ sg 8 d 2 = -1)) := by
  refine vx_ofW (cc := cX3_setDoor) (maxL := 5) (ret := (some .int)) (by decide) rfl ?_
  intro p e s m args below meth c s₁ B hml htab hv
  obtain ⟨rfl, hW, hV⟩ := hv
  have hts := atoms_spec (ws := wsX3_setDoor) B.pre
  have F : kx_F p s m c cX3_setDoor 5 RX3 _ wsX3_setDoor G z0 := ⟨B.exec, B.bytes, hml, findClass_of_methodNamed B.named, hts, hV⟩
  have hx := B.exec; have hb := B.bytes; have hr := B.returns; have hlocks := B.notSynchronized
  have hS : va_S (kx_Ad z0) s.heap s.heap [] := va_S.rf
  obtain ⟨hnb, hwf, hbl, hjm, hkp, hnn⟩ := hC
  have L_110 : Cond.fieldLink RX3 110 (TX1 0).1 (TX1 0).2.1 (TX1 0).2.2.1 ∈ wsX3_setDoor := by decide +kernel
  have inX1 : ∀ w ∈ u_ws RX1 TX1 5, w ∈ wsX3_setDoor := by decide +kernel
  have hl := lv_entry ([.ref (ad 0 0), .int x, .int y]) (n := 5) (Nat.le_of_ble_eq_true rfl)
  rw [lg_entry_eq]
  generalize (lg_sl ([.ref (ad 0 0), .int x, .int y]) ++ List.replicate (5 - (lg_sl ([.ref (ad 0 0), .int x, .int y])).length) Slot.unset).toArray = ls at hl ⊢
  have hl : lv_has ls 5 [(0, .ref (ad 0 0)), (1, .int x), (2, .int y)] := hl
  refine lv_aload_n hx hb dX3_setDoor_0 rfl (lv_at hl 0 rfl) ?_
  refine lv_iload_n hx hb dX3_setDoor_1 rfl (lv_at hl 1 rfl) ?_
  refine kx_xV (na := 1) F (q := 0) (n := 0) (c_X3_doorAt l hlf G z0 ad nb sg x) gX3_setDoor_X3_doorAt rfl (by decide +kernel) ⟨Nat.le_of_ble_eq_true rfl, Nat.le_of_ble_eq_true rfl⟩ hW hS ⟨by decide, rfl⟩ rfl rfl (As := [.int x]) (rest := []) rfl hl.1 rfl (Nat.le_of_ble_eq_true rfl) dX3_setDoor_2 ⟨by first | exact Nat.le_of_ble_eq_true rfl | omega, by first | exact Nat.le_of_ble_eq_true rfl | omega⟩ (fun E9 ce9 q9 H locs hp9 hW hS h7 h8 h9 => ?_) (fun r9 sg9 H locs hq hW hS => ?_)
  · exact kx_out htab hlocks hW hS (by first | exact Nat.le_of_ble_eq_true rfl | omega) (by first | exact Nat.le_of_ble_eq_true rfl | omega) (Or.inl hp9) h7 h8 h9
  obtain ⟨d, hd, rfl, rfl, e9⟩ := hq
  rw [e9] at hW
  refine W.eq (g2 := F0 m 5 ls [.ref (ad 8 d)]) rfl ?_
  refine lv_astore_n (lv' := [(3, .ref (ad 8 d)), (0, .ref (ad 0 0)), (1, .int (nI d)), (2, .int y)]) hx hb dX3_setDoor_5 rfl hl (by decide) rfl (fun ls hl => ?_)
  refine lv_iload_n hx hb dX3_setDoor_6 rfl (lv_at hl 3 rfl) ?_
  refine lv_iconst (v := 1) hx hb dX3_setDoor_7 (by decide) ?_
  refine lv_iconst (v := 3) hx hb dX3_setDoor_8 (by decide) ?_
  refine kx_cS (na := 3) F (c_X3_isWithin l G z0 ad nb sg y 1 3) gX3_setDoor_X3_isWithin rfl (by decide +kernel) ⟨Nat.le_of_ble_eq_true rfl, Nat.le_of_ble_eq_true rfl⟩ hW hS (As := [.int y, .int 1, .int 3]) (rest := []) rfl hl.1 rfl (Nat.le_of_ble_eq_true rfl) dX3_setDoor_9 ⟨by first | exact Nat.le_of_ble_eq_true rfl | omega, by first | exact Nat.le_of_ble_eq_true rfl | omega⟩ (fun r9 sg9 H locs hq hW hS => ?_)
  obtain ⟨rfl, e9⟩ := hq
  rw [e9] at hW
  refine W.eq (g2 := F0 m 12 ls [.int (tw_b (tw_in y 1 3))]) rfl ?_
  refine lv_if_ne (tgt := 25) hx hb dX3_setDoor_12 (by decide) (fun c_12 => ?_) (fun c_12 => ?_)
  · refine lv_aload_n hx hb dX3_setDoor_25 rfl (lv_at hl 0 rfl) ?_
    refine kx_cV (na := 0) F (q := 8) (n := d) (c_X1_isKept l G z0 ad nb sg d hd) gX3_setDoor_X1_isKept rfl (by decide +kernel) ⟨Nat.le_of_ble_eq_true rfl, Nat.le_of_ble_eq_true rfl⟩ hW hS hd rfl rfl (As := []) (rest := []) rfl hl.1 rfl (Nat.le_of_ble_eq_true rfl) dX3_setDoor_26 ⟨by first | exact Nat.le_of_ble_eq_true rfl | omega, by first | exact Nat.le_of_ble_eq_true rfl | omega⟩ (fun r9 sg9 H locs hq hW hS => ?_)
    obtain ⟨rfl, e9⟩ := hq
    rw [e9] at hW
    refine W.eq (g2 := F0 m 29 ls [.int (tw_b (decide (¬ sg 8 d 2 = -1)))]) rfl ?_
    refine lv_if_eq (tgt := 42) hx hb dX3_setDoor_29 (by decide) (fun c_29 => ?_) (fun c_29 => ?_)
    · refine lv_aload_n hx hb dX3_setDoor_42 rfl (lv_at hl 0 rfl) ?_
      refine kx_g F inX1 hW 8 d hd rfl rfl 0 (by decide) L_110 (v := .int (sg 8 d 0)) rfl dX3_setDoor_43 ?_
      refine lv_istore (lv' := [(4, .int (sg 8 d 0)), (3, .ref (ad 8 d)), (0, .ref (ad 0 0)), (1, .int (nI d)), (2, .int y)]) hx hb dX3_setDoor_46 hl (by decide) rfl (fun ls hl => ?_)
      refine lv_aload_n hx hb dX3_setDoor_48 rfl (lv_at hl 1 rfl) ?_
      refine lv_iload_n hx hb dX3_setDoor_49 rfl (lv_at hl 4 rfl) ?_
      refine kx_p F inX1 tyX1 tyX1_ok nmX1 hW hS 8 d hd rfl rfl 0 (by decide) L_110 rfl (v := .int y) rfl rfl (Nat.le_of_ble_eq_true rfl) (upd (sg 8 d) 0 y) rfl dX3_setDoor_50 (fun H locs hW hS => ?_)
      have hW : kx_Wd G z0 ad nb (kx_up sg 8 d (upd (sg 8 d) 0 y)) H := hW
      refine lv_iload hx hb dX3_setDoor_53 (lv_at hl 0 rfl) ?_
      refine vx_ret ?_
      exact kx_ri F hr hlocks hW hS (by first | exact Nat.le_of_ble_eq_true rfl | omega) (by first | exact Nat.le_of_ble_eq_true rfl | omega) (⟨d, hd, rfl, tw_b_1 c_12, Classical.not_not.mp (of_decide_eq_false (tw_b_0 c_29)), rfl, rfl⟩) dX3_setDoor_55
    · exact kx_thr F hlf htab hlocks (cls := "java/lang/IllegalStateException") (text := "the door is kept") (ik := 60) (is := 128) (ic := 64) (by decide +kernel) (by decide +kernel) (by decide +kernel) (by decide +kernel) (by decide +kernel) (by decide +kernel) (by decide +kernel) hW hS hl.1 dX3_setDoor_32 dX3_setDoor_35 dX3_setDoor_36 dX3_setDoor_38 dX3_setDoor_41 (Nat.le_of_ble_eq_true rfl) (Nat.le_of_ble_eq_true rfl) (by first | exact Nat.le_of_ble_eq_true rfl | omega) (by first | exact Nat.le_of_ble_eq_true rfl | omega) (by first | exact Nat.le_of_ble_eq_true rfl | omega) (by first | exact Nat.le_of_ble_eq_true rfl | omega) (Or.inr (Or.inr ⟨rfl, d, hd, rfl, tw_b_1 c_12, of_decide_eq_true (tw_b_1 c_29)⟩))
  · exact kx_thr F hlf htab hlocks (cls := "java/lang/IllegalArgumentException") (text := "size is out of range") (ik := 53) (is := 122) (ic := 57) (by decide +kernel) (by decide +kernel) (by decide +kernel) (by decide +kernel) (by decide +kernel) (by decide +kernel) (by decide +kernel) hW hS hl.1 dX3_setDoor_15 dX3_setDoor_18 dX3_setDoor_19 dX3_setDoor_21 dX3_setDoor_24 (Nat.le_of_ble_eq_true rfl) (Nat.le_of_ble_eq_true rfl) (by first | exact Nat.le_of_ble_eq_true rfl | omega) (by first | exact Nat.le_of_ble_eq_true rfl | omega) (by first | exact Nat.le_of_ble_eq_true rfl | omega) (by first | exact Nat.le_of_ble_eq_true rfl | omega) (Or.inr (Or.inl ⟨rfl, ⟨d, hd, rfl⟩, tw_b_0 c_12⟩))

set_option maxHeartbeats 1000000 in
set_option maxRecDepth 100000 in
theorem c_X3_keep (l : Launch) (hlf : l.stackTraces = false) (G : kx_G) (z0 : Nat) (ad : kx_A) (nb : Nat) (sg : kx_S) (hC : tw_CI nb sg) (x y : Int32) : kx_MX l yX3_keep wsX3_keep 7 111 3 18 G z0 ad nb sg [.ref (ad 0 0), .int x, .int y] (fun r sg' => ∃ d k : Nat, d < 10 ∧ x = nI d ∧ k < nb ∧ y = nI k ∧ sg 8 d 2 = -1 ∧ sg 8 d 1 = 0 ∧ sg 9 k 0 ≤ sg 8 d 0 ∧ r = some (.int (tw_code (nI k) (nI d) (sg 0 0 8))) ∧ sg' = kx_up (kx_up sg 8 d (upd (upd (upd (sg 8 d) 2 (nI k)) 3 (tw_code (nI k) (nI d) (sg 0 0 8))) 4 0)) 0 0 (upd (sg 0 0) 8 (sg 0 0 8 + 1))) (fun E => (E = kx_ioe ∧ ((∀ d, d < 10 → ¬ x = nI d) ∨ (∀ k, k < nb → ¬ y = nI k))) ∨ (E = kx_ise ∧ ∃ d k : Nat, d < 10 ∧ x = nI d ∧ k < nb ∧ y = nI k ∧ (¬ sg 8 d 2 = -1 ∨ ¬ sg 8 d 1 = 0 ∨ ¬ sg 9 k 0 ≤ sg 8 d 0))) := by
  refine vx_ofW (cc := cX3_keep) (maxL := 5) (ret := (some .int)) (by decide) rfl ?_
  intro p e s m args below meth c s₁ B hml htab hv
  obtain ⟨rfl, hW, hV⟩ := hv
  have hts := atoms_spec (ws := wsX3_keep) B.pre
  have F : kx_F p s m c cX3_keep 5 RX3 _ wsX3_keep G z0 := ⟨B.exec, B.bytes, hml, findClass_of_methodNamed B.named, hts, hV⟩
  have hx := B.exec; have hb := B.bytes; have hr := B.returns; have hlocks := B.notSynchronized
  have hS : va_S (kx_Ad z0) s.heap s.heap [] := va_S.rf
  obtain ⟨hnb, hwf, hbl, hjm, hkp, hnn⟩ := hC
  have L_107 : Cond.fieldLink RX3 107 (TX0 0).1 (TX0 0).2.1 (TX0 0).2.2.1 ∈ wsX3_keep := by decide +kernel
  have L_110 : Cond.fieldLink RX3 110 (TX1 0).1 (TX1 0).2.1 (TX1 0).2.2.1 ∈ wsX3_keep := by decide +kernel
  have L_130 : Cond.fieldLink RX3 130 (TX1 1).1 (TX1 1).2.1 (TX1 1).2.2.1 ∈ wsX3_keep := by decide +kernel
  have L_136 : Cond.fieldLink RX3 136 (TX1 2).1 (TX1 2).2.1 (TX1 2).2.2.1 ∈ wsX3_keep := by decide +kernel
  have L_139 : Cond.fieldLink RX3 139 (TX1 3).1 (TX1 3).2.1 (TX1 3).2.2.1 ∈ wsX3_keep := by decide +kernel
  have L_142 : Cond.fieldLink RX3 142 (TX1 4).1 (TX1 4).2.1 (TX1 4).2.2.1 ∈ wsX3_keep := by decide +kernel
  have L_45 : Cond.fieldLink RX3 45 (TX3 8).1 (TX3 8).2.1 (TX3 8).2.2.1 ∈ wsX3_keep := by decide +kernel
  have inX0 : ∀ w ∈ u_ws RX0 TX0 11, w ∈ wsX3_keep := by decide +kernel
  have inX1 : ∀ w ∈ u_ws RX1 TX1 5, w ∈ wsX3_keep := by decide +kernel
  have inX3 : ∀ w ∈ u_ws RX3 TX3 9, w ∈ wsX3_keep := by decide +kernel
  have hl := lv_entry ([.ref (ad 0 0), .int x, .int y]) (n := 5) (Nat.le_of_ble_eq_true rfl)
  rw [lg_entry_eq]
  generalize (lg_sl ([.ref (ad 0 0), .int x, .int y]) ++ List.replicate (5 - (lg_sl ([.ref (ad 0 0), .int x, .int y])).length) Slot.unset).toArray = ls at hl ⊢
  have hl : lv_has ls 5 [(0, .ref (ad 0 0)), (1, .int x), (2, .int y)] := hl
  refine lv_aload_n hx hb dX3_keep_0 rfl (lv_at hl 0 rfl) ?_
  refine lv_iload_n hx hb dX3_keep_1 rfl (lv_at hl 1 rfl) ?_
  refine kx_xV (na := 1) F (q := 0) (n := 0) (c_X3_doorAt l hlf G z0 ad nb sg x) gX3_keep_X3_doorAt rfl (by decide +kernel) ⟨Nat.le_of_ble_eq_true rfl, Nat.le_of_ble_eq_true rfl⟩ hW hS ⟨by decide, rfl⟩ rfl rfl (As := [.int x]) (rest := []) rfl hl.1 rfl (Nat.le_of_ble_eq_true rfl) dX3_keep_2 ⟨by first | exact Nat.le_of_ble_eq_true rfl | omega, by first | exact Nat.le_of_ble_eq_true rfl | omega⟩ (fun E9 ce9 q9 H locs hp9 hW hS h7 h8 h9 => ?_) (fun r9 sg9 H locs hq hW hS => ?_)
  · exact kx_out htab hlocks hW hS (by first | exact Nat.le_of_ble_eq_true rfl | omega) (by first | exact Nat.le_of_ble_eq_true rfl | omega) (Or.inl ⟨hp9.1, Or.inl hp9.2⟩) h7 h8 h9
  obtain ⟨d, hd, rfl, rfl, e9⟩ := hq
  rw [e9] at hW
  refine W.eq (g2 := F0 m 5 ls [.ref (ad 8 d)]) rfl ?_
  refine lv_astore_n (lv' := [(3, .ref (ad 8 d)), (0, .ref (ad 0 0)), (1, .int (nI d)), (2, .int y)]) hx hb dX3_keep_5 rfl hl (by decide) rfl (fun ls hl => ?_)
  refine lv_aload_n hx hb dX3_keep_6 rfl (lv_at hl 1 rfl) ?_
  refine lv_iload_n hx hb dX3_keep_7 rfl (lv_at hl 3 rfl) ?_
  refine kx_xV (na := 1) F (q := 0) (n := 0) (c_X3_boxAt l hlf G z0 ad nb sg hnb y) gX3_keep_X3_boxAt rfl (by decide +kernel) ⟨Nat.le_of_ble_eq_true rfl, Nat.le_of_ble_eq_true rfl⟩ hW hS ⟨by decide, rfl⟩ rfl rfl (As := [.int y]) (rest := []) rfl hl.1 rfl (Nat.le_of_ble_eq_true rfl) dX3_keep_8 ⟨by first | exact Nat.le_of_ble_eq_true rfl | omega, by first | exact Nat.le_of_ble_eq_true rfl | omega⟩ (fun E9 ce9 q9 H locs hp9 hW hS h7 h8 h9 => ?_) (fun r9 sg9 H locs hq hW hS => ?_)
  · exact kx_out htab hlocks hW hS (by first | exact Nat.le_of_ble_eq_true rfl | omega) (by first | exact Nat.le_of_ble_eq_true rfl | omega) (Or.inl ⟨hp9.1, Or.inr hp9.2⟩) h7 h8 h9
  obtain ⟨k, hk, rfl, rfl, e9⟩ := hq
  rw [e9] at hW
  refine W.eq (g2 := F0 m 11 ls [.ref (ad 9 k)]) rfl ?_
  refine lv_astore (lv' := [(4, .ref (ad 9 k)), (3, .ref (ad 8 d)), (0, .ref (ad 0 0)), (1, .int (nI d)), (2, .int (nI k))]) hx hb dX3_keep_11 hl (by decide) rfl (fun ls hl => ?_)
  refine lv_aload_n hx hb dX3_keep_13 rfl (lv_at hl 1 rfl) ?_
  refine kx_cV (na := 0) F (q := 8) (n := d) (c_X1_isKept l G z0 ad nb sg d hd) gX3_keep_X1_isKept rfl (by decide +kernel) ⟨Nat.le_of_ble_eq_true rfl, Nat.le_of_ble_eq_true rfl⟩ hW hS hd rfl rfl (As := []) (rest := []) rfl hl.1 rfl (Nat.le_of_ble_eq_true rfl) dX3_keep_14 ⟨by first | exact Nat.le_of_ble_eq_true rfl | omega, by first | exact Nat.le_of_ble_eq_true rfl | omega⟩ (fun r9 sg9 H locs hq hW hS => ?_)
  obtain ⟨rfl, e9⟩ := hq
  rw [e9] at hW
  refine W.eq (g2 := F0 m 17 ls [.int (tw_b (decide (¬ sg 8 d 2 = -1)))]) rfl ?_
  refine lv_if_ne (tgt := 39) hx hb dX3_keep_17 (by decide) (fun c_17 => ?_) (fun c_17 => ?_)
  · exact kx_thr F hlf htab hlocks (cls := "java/lang/IllegalStateException") (text := "the door is kept, or jammed, or smaller than the box") (ik := 60) (is := 134) (ic := 64) (by decide +kernel) (by decide +kernel) (by decide +kernel) (by decide +kernel) (by decide +kernel) (by decide +kernel) (by decide +kernel) hW hS hl.1 dX3_keep_39 dX3_keep_42 dX3_keep_43 dX3_keep_45 dX3_keep_48 (Nat.le_of_ble_eq_true rfl) (Nat.le_of_ble_eq_true rfl) (by first | exact Nat.le_of_ble_eq_true rfl | omega) (by first | exact Nat.le_of_ble_eq_true rfl | omega) (by first | exact Nat.le_of_ble_eq_true rfl | omega) (by first | exact Nat.le_of_ble_eq_true rfl | omega) (Or.inr ⟨rfl, d, k, hd, rfl, hk, rfl, Or.inl (of_decide_eq_true (tw_b_1 c_17))⟩)
  · refine lv_aload_n hx hb dX3_keep_20 rfl (lv_at hl 1 rfl) ?_
    refine kx_g F inX1 hW 8 d hd rfl rfl 1 (by decide) L_130 (v := .int (sg 8 d 1)) rfl dX3_keep_21 ?_
    refine lv_if_ne (tgt := 39) hx hb dX3_keep_24 (by decide) (fun c_24 => ?_) (fun c_24 => ?_)
    · exact kx_thr F hlf htab hlocks (cls := "java/lang/IllegalStateException") (text := "the door is kept, or jammed, or smaller than the box") (ik := 60) (is := 134) (ic := 64) (by decide +kernel) (by decide +kernel) (by decide +kernel) (by decide +kernel) (by decide +kernel) (by decide +kernel) (by decide +kernel) hW hS hl.1 dX3_keep_39 dX3_keep_42 dX3_keep_43 dX3_keep_45 dX3_keep_48 (Nat.le_of_ble_eq_true rfl) (Nat.le_of_ble_eq_true rfl) (by first | exact Nat.le_of_ble_eq_true rfl | omega) (by first | exact Nat.le_of_ble_eq_true rfl | omega) (by first | exact Nat.le_of_ble_eq_true rfl | omega) (by first | exact Nat.le_of_ble_eq_true rfl | omega) (Or.inr ⟨rfl, d, k, hd, rfl, hk, rfl, Or.inr (Or.inl c_24)⟩)
    · refine lv_aload_n hx hb dX3_keep_27 rfl (lv_at hl 1 rfl) ?_
      refine kx_g F inX1 hW 8 d hd rfl rfl 0 (by decide) L_110 (v := .int (sg 8 d 0)) rfl dX3_keep_28 ?_
      refine lv_aload hx hb dX3_keep_31 (lv_at hl 0 rfl) ?_
      refine kx_g F inX0 hW 9 k hk rfl rfl 0 (by decide) L_107 (v := .int (sg 9 k 0)) rfl dX3_keep_33 ?_
      refine lv_icmp_ge (tgt := 49) hx hb dX3_keep_36 (by decide) (fun c_36 => ?_) (fun c_36 => ?_)
      · refine lv_aload_n hx hb dX3_keep_49 rfl (lv_at hl 1 rfl) ?_
        refine lv_iload_n hx hb dX3_keep_50 rfl (lv_at hl 4 rfl) ?_
        refine kx_p F inX1 tyX1 tyX1_ok nmX1 hW hS 8 d hd rfl rfl 2 (by decide) L_136 rfl (v := .int (nI k)) rfl rfl (Nat.le_of_ble_eq_true rfl) (upd (sg 8 d) 2 (nI k)) rfl dX3_keep_51 (fun H locs hW hS => ?_)
        have hW : kx_Wd G z0 ad nb (kx_up sg 8 d (upd (sg 8 d) 2 (nI k))) H := hW
        refine lv_aload_n hx hb dX3_keep_54 rfl (lv_at hl 1 rfl) ?_
        refine lv_bipush (v := 37) hx hb dX3_keep_55 (by decide) ?_
        refine lv_iload_n hx hb dX3_keep_57 rfl (lv_at hl 4 rfl) ?_
        refine lv_imul hx hb dX3_keep_58 ?_
        refine lv_bipush (v := 11) hx hb dX3_keep_59 (by decide) ?_
        refine lv_iload_n hx hb dX3_keep_61 rfl (lv_at hl 3 rfl) ?_
        refine lv_imul hx hb dX3_keep_62 ?_
        refine lv_iadd hx hb dX3_keep_63 ?_
        refine lv_bipush (v := 101) hx hb dX3_keep_64 (by decide) ?_
        refine lv_aload_n hx hb dX3_keep_66 rfl (lv_at hl 2 rfl) ?_
        refine kx_g F inX3 hW 0 0 ⟨by decide, rfl⟩ rfl rfl 8 (by decide) L_45 (v := .int (sg 0 0 8)) (by first | rfl | (simp only [kx_up_s]; done) | (simp only [kx_up_s, upd_s]; done) | (simp only [kx_up_s]; rfl) | (simp [kx_up, upd]; done)) dX3_keep_67 ?_
        refine lv_imul hx hb dX3_keep_70 ?_
        refine lv_iadd hx hb dX3_keep_71 ?_
        refine lv_sipush (v := 1000) hx hb dX3_keep_72 (by decide) ?_
        refine lv_irem hx hb dX3_keep_75 (by decide) ?_
        refine kx_p F inX1 tyX1 tyX1_ok nmX1 hW hS 8 d hd rfl rfl 3 (by decide) L_139 rfl (v := .int ((((37 * (nI k)) + (11 * (nI d))) + (101 * (sg 0 0 8))) - (((37 * (nI k)) + (11 * (nI d))) + (101 * (sg 0 0 8))) / 1000 * 1000)) rfl rfl (Nat.le_of_ble_eq_true rfl) (upd ((kx_up sg 8 d (upd (sg 8 d) 2 (nI k))) 8 d) 3 ((((37 * (nI k)) + (11 * (nI d))) + (101 * (sg 0 0 8))) - (((37 * (nI k)) + (11 * (nI d))) + (101 * (sg 0 0 8))) / 1000 * 1000)) rfl dX3_keep_76 (fun H locs hW hS => ?_)
        have er9 : (kx_up sg 8 d (upd (sg 8 d) 2 (nI k))) 8 d = upd (sg 8 d) 2 (nI k) := by first | rfl | (simp only [kx_up_s]; done) | (simp [kx_up]; done)
        rw [er9] at hW
        rw [kx_up_up] at hW
        have hW : kx_Wd G z0 ad nb (kx_up sg 8 d (upd (upd (sg 8 d) 2 (nI k)) 3 ((((37 * (nI k)) + (11 * (nI d))) + (101 * (sg 0 0 8))) - (((37 * (nI k)) + (11 * (nI d))) + (101 * (sg 0 0 8))) / 1000 * 1000))) H := hW
        refine lv_aload_n hx hb dX3_keep_79 rfl (lv_at hl 1 rfl) ?_
        refine lv_iconst (v := 0) hx hb dX3_keep_80 (by decide) ?_
        refine kx_p F inX1 tyX1 tyX1_ok nmX1 hW hS 8 d hd rfl rfl 4 (by decide) L_142 rfl (v := .int 0) rfl rfl (Nat.le_of_ble_eq_true rfl) (upd ((kx_up sg 8 d (upd (upd (sg 8 d) 2 (nI k)) 3 ((((37 * (nI k)) + (11 * (nI d))) + (101 * (sg 0 0 8))) - (((37 * (nI k)) + (11 * (nI d))) + (101 * (sg 0 0 8))) / 1000 * 1000))) 8 d) 4 0) rfl dX3_keep_81 (fun H locs hW hS => ?_)
        have er9 : (kx_up sg 8 d (upd (upd (sg 8 d) 2 (nI k)) 3 ((((37 * (nI k)) + (11 * (nI d))) + (101 * (sg 0 0 8))) - (((37 * (nI k)) + (11 * (nI d))) + (101 * (sg 0 0 8))) / 1000 * 1000))) 8 d = upd (upd (sg 8 d) 2 (nI k)) 3 ((((37 * (nI k)) + (11 * (nI d))) + (101 * (sg 0 0 8))) - (((37 * (nI k)) + (11 * (nI d))) + (101 * (sg 0 0 8))) / 1000 * 1000) := by first | rfl | (simp only [kx_up_s]; done) | (simp [kx_up]; done)
        rw [er9] at hW
        rw [kx_up_up] at hW
        have hW : kx_Wd G z0 ad nb (kx_up sg 8 d (upd (upd (upd (sg 8 d) 2 (nI k)) 3 ((((37 * (nI k)) + (11 * (nI d))) + (101 * (sg 0 0 8))) - (((37 * (nI k)) + (11 * (nI d))) + (101 * (sg 0 0 8))) / 1000 * 1000)) 4 0)) H := hW
        refine lv_aload_n hx hb dX3_keep_84 rfl (lv_at hl 2 rfl) ?_
        refine lv_dup hx hb dX3_keep_85 rfl ?_
        refine kx_g F inX3 hW 0 0 ⟨by decide, rfl⟩ rfl rfl 8 (by decide) L_45 (v := .int (sg 0 0 8)) (by first | rfl | (simp only [kx_up_s]; done) | (simp only [kx_up_s, upd_s]; done) | (simp only [kx_up_s]; rfl) | (simp [kx_up, upd]; done)) dX3_keep_86 ?_
        refine lv_iconst (v := 1) hx hb dX3_keep_89 (by decide) ?_
        refine lv_iadd hx hb dX3_keep_90 ?_
        refine kx_p F inX3 tyX3 tyX3_ok nmX3 hW hS 0 0 ⟨by decide, rfl⟩ rfl rfl 8 (by decide) L_45 rfl (v := .int ((sg 0 0 8) + 1)) rfl rfl (Nat.le_of_ble_eq_true rfl) (upd ((kx_up sg 8 d (upd (upd (upd (sg 8 d) 2 (nI k)) 3 ((((37 * (nI k)) + (11 * (nI d))) + (101 * (sg 0 0 8))) - (((37 * (nI k)) + (11 * (nI d))) + (101 * (sg 0 0 8))) / 1000 * 1000)) 4 0)) 0 0) 8 ((sg 0 0 8) + 1)) rfl dX3_keep_91 (fun H locs hW hS => ?_)
        have er9 : (kx_up sg 8 d (upd (upd (upd (sg 8 d) 2 (nI k)) 3 ((((37 * (nI k)) + (11 * (nI d))) + (101 * (sg 0 0 8))) - (((37 * (nI k)) + (11 * (nI d))) + (101 * (sg 0 0 8))) / 1000 * 1000)) 4 0)) 0 0 = sg 0 0 := by first | rfl | (simp only [kx_up_s]; done) | (simp [kx_up]; done)
        rw [er9] at hW
        have hW : kx_Wd G z0 ad nb (kx_up (kx_up sg 8 d (upd (upd (upd (sg 8 d) 2 (nI k)) 3 ((((37 * (nI k)) + (11 * (nI d))) + (101 * (sg 0 0 8))) - (((37 * (nI k)) + (11 * (nI d))) + (101 * (sg 0 0 8))) / 1000 * 1000)) 4 0)) 0 0 (upd (sg 0 0) 8 ((sg 0 0 8) + 1))) H := hW
        refine lv_aload_n hx hb dX3_keep_94 rfl (lv_at hl 1 rfl) ?_
        refine kx_g F inX1 hW 8 d hd rfl rfl 3 (by decide) L_139 (v := .int ((((37 * (nI k)) + (11 * (nI d))) + (101 * (sg 0 0 8))) - (((37 * (nI k)) + (11 * (nI d))) + (101 * (sg 0 0 8))) / 1000 * 1000)) (by first | rfl | (simp only [kx_up_s]; done) | (simp only [kx_up_s, upd_s]; done) | (simp only [kx_up_s]; rfl) | (simp [kx_up, upd]; done)) dX3_keep_95 ?_
        refine vx_ret ?_
        exact kx_ri F hr hlocks hW hS (by first | exact Nat.le_of_ble_eq_true rfl | omega) (by first | exact Nat.le_of_ble_eq_true rfl | omega) (⟨d, k, hd, rfl, hk, rfl, Classical.not_not.mp (of_decide_eq_false (tw_b_0 c_17)), Classical.not_not.mp (fun h => h c_24), c_36, rfl, rfl⟩) dX3_keep_98
      · exact kx_thr F hlf htab hlocks (cls := "java/lang/IllegalStateException") (text := "the door is kept, or jammed, or smaller than the box") (ik := 60) (is := 134) (ic := 64) (by decide +kernel) (by decide +kernel) (by decide +kernel) (by decide +kernel) (by decide +kernel) (by decide +kernel) (by decide +kernel) hW hS hl.1 dX3_keep_39 dX3_keep_42 dX3_keep_43 dX3_keep_45 dX3_keep_48 (Nat.le_of_ble_eq_true rfl) (Nat.le_of_ble_eq_true rfl) (by first | exact Nat.le_of_ble_eq_true rfl | omega) (by first | exact Nat.le_of_ble_eq_true rfl | omega) (by first | exact Nat.le_of_ble_eq_true rfl | omega) (by first | exact Nat.le_of_ble_eq_true rfl | omega) (Or.inr ⟨rfl, d, k, hd, rfl, hk, rfl, Or.inr (Or.inr c_36)⟩)

set_option maxHeartbeats 1000000 in
set_option maxRecDepth 100000 in
theorem c_X3_open (l : Launch) (hlf : l.stackTraces = false) (G : kx_G) (z0 : Nat) (ad : kx_A) (nb : Nat) (sg : kx_S) (hC : tw_CI nb sg) (x y : Int32) : kx_MX l yX3_open wsX3_open 7 137 3 18 G z0 ad nb sg [.ref (ad 0 0), .int x, .int y] (fun r sg' => ∃ d : Nat, d < 10 ∧ x = nI d ∧ tw_in y 0 999 = true ∧ ¬ sg 8 d 2 = -1 ∧ sg 8 d 1 = 0 ∧ ((¬ y = sg 8 d 3 ∧ r = some (.int (-1)) ∧ ((sg 8 d 4 + 1 < 3 ∧ sg' = kx_up sg 8 d (upd (sg 8 d) 4 (sg 8 d 4 + 1))) ∨ (¬ sg 8 d 4 + 1 < 3 ∧ tw_SA nb (kx_up sg 8 d (upd (upd (sg 8 d) 4 (sg 8 d 4 + 1)) 1 1)) sg'))) ∨ (y = sg 8 d 3 ∧ ∃ k : Nat, k < nb ∧ sg 8 d 2 = nI k ∧ r = some (.int (nI k)) ∧ ((tw_n sg k < 12 ∧ tw_AS (kx_up sg 8 d (upd (sg 8 d) 2 (-1))) k (tw_n sg k) 30 (4 + d) sg') ∨ (tw_n sg k = 12 ∧ tw_SR (kx_up sg 8 d (upd (sg 8 d) 2 (-1))) sg' k (tw_stl (kx_up sg 8 d (upd (sg 8 d) 2 (-1))) k 12)))))) (fun E => (E = kx_ioe ∧ (∀ d, d < 10 → ¬ x = nI d)) ∨ (E = kx_iae ∧ (∃ d : Nat, d < 10 ∧ x = nI d) ∧ tw_in y 0 999 = false) ∨ (E = kx_ise ∧ ∃ d : Nat, d < 10 ∧ x = nI d ∧ tw_in y 0 999 = true ∧ (sg 8 d 2 = -1 ∨ ¬ sg 8 d 1 = 0))) := by
  refine vx_ofW (cc := cX3_open) (maxL := 5) (ret := (some .int)) (by decide) rfl ?_
  intro p e s m args below meth c s₁ B hml htab hv
  obtain ⟨rfl, hW, hV⟩ := hv
  have hts := atoms_spec (ws := wsX3_open) B.pre
  have F : kx_F p s m c cX3_open 5 RX3 _ wsX3_open G z0 := ⟨B.exec, B.bytes, hml, findClass_of_methodNamed B.named, hts, hV⟩
  have hx := B.exec; have hb := B.bytes; have hr := B.returns; have hlocks := B.notSynchronized
  have hS : va_S (kx_Ad z0) s.heap s.heap [] := va_S.rf
  obtain ⟨hnb, hwf, hbl, hjm, hkp, hnn⟩ := hC
  have L_130 : Cond.fieldLink RX3 130 (TX1 1).1 (TX1 1).2.1 (TX1 1).2.2.1 ∈ wsX3_open := by decide +kernel
  have L_136 : Cond.fieldLink RX3 136 (TX1 2).1 (TX1 2).2.1 (TX1 2).2.2.1 ∈ wsX3_open := by decide +kernel
  have L_139 : Cond.fieldLink RX3 139 (TX1 3).1 (TX1 3).2.1 (TX1 3).2.2.1 ∈ wsX3_open := by decide +kernel
  have inX1 : ∀ w ∈ u_ws RX1 TX1 5, w ∈ wsX3_open := by decide +kernel
  have hl := lv_entry ([.ref (ad 0 0), .int x, .int y]) (n := 5) (Nat.le_of_ble_eq_true rfl)
  rw [lg_entry_eq]
  generalize (lg_sl ([.ref (ad 0 0), .int x, .int y]) ++ List.replicate (5 - (lg_sl ([.ref (ad 0 0), .int x, .int y])).length) Slot.unset).toArray = ls at hl ⊢
  have hl : lv_has ls 5 [(0, .ref (ad 0 0)), (1, .int x), (2, .int y)] := hl
  refine lv_aload_n hx hb dX3_open_0 rfl (lv_at hl 0 rfl) ?_
  refine lv_iload_n hx hb dX3_open_1 rfl (lv_at hl 1 rfl) ?_
  refine kx_xV (na := 1) F (q := 0) (n := 0) (c_X3_doorAt l hlf G z0 ad nb sg x) gX3_open_X3_doorAt rfl (by decide +kernel) ⟨Nat.le_of_ble_eq_true rfl, Nat.le_of_ble_eq_true rfl⟩ hW hS ⟨by decide, rfl⟩ rfl rfl (As := [.int x]) (rest := []) rfl hl.1 rfl (Nat.le_of_ble_eq_true rfl) dX3_open_2 ⟨by first | exact Nat.le_of_ble_eq_true rfl | omega, by first | exact Nat.le_of_ble_eq_true rfl | omega⟩ (fun E9 ce9 q9 H locs hp9 hW hS h7 h8 h9 => ?_) (fun r9 sg9 H locs hq hW hS => ?_)
  · exact kx_out htab hlocks hW hS (by first | exact Nat.le_of_ble_eq_true rfl | omega) (by first | exact Nat.le_of_ble_eq_true rfl | omega) (Or.inl hp9) h7 h8 h9
  obtain ⟨d, hd, rfl, rfl, e9⟩ := hq
  rw [e9] at hW
  refine W.eq (g2 := F0 m 5 ls [.ref (ad 8 d)]) rfl ?_
  refine lv_astore_n (lv' := [(3, .ref (ad 8 d)), (0, .ref (ad 0 0)), (1, .int (nI d)), (2, .int y)]) hx hb dX3_open_5 rfl hl (by decide) rfl (fun ls hl => ?_)
  refine lv_iload_n hx hb dX3_open_6 rfl (lv_at hl 3 rfl) ?_
  refine lv_iconst (v := 0) hx hb dX3_open_7 (by decide) ?_
  refine lv_sipush (v := 999) hx hb dX3_open_8 (by decide) ?_
  refine kx_cS (na := 3) F (c_X3_isWithin l G z0 ad nb sg y 0 999) gX3_open_X3_isWithin rfl (by decide +kernel) ⟨Nat.le_of_ble_eq_true rfl, Nat.le_of_ble_eq_true rfl⟩ hW hS (As := [.int y, .int 0, .int 999]) (rest := []) rfl hl.1 rfl (Nat.le_of_ble_eq_true rfl) dX3_open_11 ⟨by first | exact Nat.le_of_ble_eq_true rfl | omega, by first | exact Nat.le_of_ble_eq_true rfl | omega⟩ (fun r9 sg9 H locs hq hW hS => ?_)
  obtain ⟨rfl, e9⟩ := hq
  rw [e9] at hW
  refine W.eq (g2 := F0 m 14 ls [.int (tw_b (tw_in y 0 999))]) rfl ?_
  refine lv_if_ne (tgt := 27) hx hb dX3_open_14 (by decide) (fun c_14 => ?_) (fun c_14 => ?_)
  · refine lv_aload_n hx hb dX3_open_27 rfl (lv_at hl 0 rfl) ?_
    refine kx_cV (na := 0) F (q := 8) (n := d) (c_X1_isKept l G z0 ad nb sg d hd) gX3_open_X1_isKept rfl (by decide +kernel) ⟨Nat.le_of_ble_eq_true rfl, Nat.le_of_ble_eq_true rfl⟩ hW hS hd rfl rfl (As := []) (rest := []) rfl hl.1 rfl (Nat.le_of_ble_eq_true rfl) dX3_open_28 ⟨by first | exact Nat.le_of_ble_eq_true rfl | omega, by first | exact Nat.le_of_ble_eq_true rfl | omega⟩ (fun r9 sg9 H locs hq hW hS => ?_)
    obtain ⟨rfl, e9⟩ := hq
    rw [e9] at hW
    refine W.eq (g2 := F0 m 31 ls [.int (tw_b (decide (¬ sg 8 d 2 = -1)))]) rfl ?_
    refine lv_if_eq (tgt := 41) hx hb dX3_open_31 (by decide) (fun c_31 => ?_) (fun c_31 => ?_)
    · exact kx_thr F hlf htab hlocks (cls := "java/lang/IllegalStateException") (text := "the door is not kept, or is jammed") (ik := 60) (is := 147) (ic := 64) (by decide +kernel) (by decide +kernel) (by decide +kernel) (by decide +kernel) (by decide +kernel) (by decide +kernel) (by decide +kernel) hW hS hl.1 dX3_open_41 dX3_open_44 dX3_open_45 dX3_open_47 dX3_open_50 (Nat.le_of_ble_eq_true rfl) (Nat.le_of_ble_eq_true rfl) (by first | exact Nat.le_of_ble_eq_true rfl | omega) (by first | exact Nat.le_of_ble_eq_true rfl | omega) (by first | exact Nat.le_of_ble_eq_true rfl | omega) (by first | exact Nat.le_of_ble_eq_true rfl | omega) (Or.inr (Or.inr ⟨rfl, d, hd, rfl, tw_b_1 c_14, Or.inl (Classical.not_not.mp (of_decide_eq_false (tw_b_0 c_31)))⟩))
    · refine lv_aload_n hx hb dX3_open_34 rfl (lv_at hl 0 rfl) ?_
      refine kx_g F inX1 hW 8 d hd rfl rfl 1 (by decide) L_130 (v := .int (sg 8 d 1)) rfl dX3_open_35 ?_
      refine lv_if_eq (tgt := 51) hx hb dX3_open_38 (by decide) (fun c_38 => ?_) (fun c_38 => ?_)
      · refine lv_iload_n hx hb dX3_open_51 rfl (lv_at hl 3 rfl) ?_
        refine lv_aload_n hx hb dX3_open_52 rfl (lv_at hl 0 rfl) ?_
        refine kx_g F inX1 hW 8 d hd rfl rfl 3 (by decide) L_139 (v := .int (sg 8 d 3)) rfl dX3_open_53 ?_
        refine lv_icmp_eq (tgt := 66) hx hb dX3_open_56 (by decide) (fun c_56 => ?_) (fun c_56 => ?_)
        · refine lv_aload_n hx hb dX3_open_66 rfl (lv_at hl 0 rfl) ?_
          refine kx_g F inX1 hW 8 d hd rfl rfl 2 (by decide) L_136 (v := .int (sg 8 d 2)) rfl dX3_open_67 ?_
          refine lv_istore (lv' := [(4, .int (sg 8 d 2)), (3, .ref (ad 8 d)), (0, .ref (ad 0 0)), (1, .int (nI d)), (2, .int y)]) hx hb dX3_open_70 hl (by decide) rfl (fun ls hl => ?_)
          refine lv_aload_n hx hb dX3_open_72 rfl (lv_at hl 1 rfl) ?_
          refine lv_iconst (v := (-1)) hx hb dX3_open_73 (by decide) ?_
          refine kx_p F inX1 tyX1 tyX1_ok nmX1 hW hS 8 d hd rfl rfl 2 (by decide) L_136 rfl (v := .int (-1)) rfl rfl (Nat.le_of_ble_eq_true rfl) (upd (sg 8 d) 2 (-1)) rfl dX3_open_74 (fun H locs hW hS => ?_)
          have hW : kx_Wd G z0 ad nb (kx_up sg 8 d (upd (sg 8 d) 2 (-1))) H := hW
          refine lv_aload_n hx hb dX3_open_77 rfl (lv_at hl 2 rfl) ?_
          refine lv_aload_n hx hb dX3_open_78 rfl (lv_at hl 2 rfl) ?_
          refine lv_iload hx hb dX3_open_79 (lv_at hl 0 rfl) ?_
          refine kx_xV (na := 1) F (q := 0) (n := 0) (c_X3_boxAt l hlf G z0 ad nb (kx_up sg 8 d (upd (sg 8 d) 2 (-1))) hnb (sg 8 d 2)) gX3_open_X3_boxAt rfl (by decide +kernel) ⟨Nat.le_of_ble_eq_true rfl, Nat.le_of_ble_eq_true rfl⟩ hW hS ⟨by decide, rfl⟩ rfl rfl (As := [.int (sg 8 d 2)]) (rest := [.ref (ad 0 0)]) rfl hl.1 rfl (Nat.le_of_ble_eq_true rfl) dX3_open_81 ⟨by first | exact Nat.le_of_ble_eq_true rfl | omega, by first | exact Nat.le_of_ble_eq_true rfl | omega⟩ (fun E9 ce9 q9 H locs hp9 hW hS h7 h8 h9 => ?_) (fun r9 sg9 H locs hq hW hS => ?_)
          · exfalso
            rcases hkp d hd with h | ⟨b, hb, h⟩
            · exact (of_decide_eq_true (tw_b_1 c_31)) h
            · exact hp9.2 b hb h
          obtain ⟨k, hk, hxk, rfl, e9⟩ := hq
          rw [e9] at hW
          obtain ⟨n9, hn9, h129, hm9⟩ := hwf.1 k hk
          have en9 := tw_n_eq hn9 h129
          refine W.eq (g2 := F0 m 84 ls [.ref (ad 9 k), .ref (ad 0 0)]) rfl ?_
          refine lv_bipush (v := 30) hx hb dX3_open_84 (by decide) ?_
          refine lv_iconst (v := 4) hx hb dX3_open_86 (by decide) ?_
          refine lv_iload_n hx hb dX3_open_87 rfl (lv_at hl 3 rfl) ?_
          refine lv_iadd hx hb dX3_open_88 ?_
          rw [show (4 : Int32) + nI d = nI (4 + d) from nI_add 4 d]
          refine kx_cV (na := 3) F (q := 0) (n := 0) (c_X3_addScan_any l G z0 ad nb (kx_up sg 8 d (upd (sg 8 d) 2 (-1))) k hk n9 hn9 h129 hm9 hwf.2 30 (4 + d) (by omega)) gX3_open_X3_addScan rfl (by decide +kernel) ⟨Nat.le_of_ble_eq_true rfl, Nat.le_of_ble_eq_true rfl⟩ hW hS ⟨by decide, rfl⟩ rfl rfl (As := [.ref (ad 9 k), .int 30, .int (nI (4 + d))]) (rest := []) rfl hl.1 rfl (Nat.le_of_ble_eq_true rfl) dX3_open_89 ⟨by first | exact Nat.le_of_ble_eq_true rfl | omega, by first | exact Nat.le_of_ble_eq_true rfl | omega⟩ (fun r9 sg9 H locs hq hW hS => ?_)
          obtain ⟨v9, rfl, hor9⟩ := hq
          have hW : kx_Wd G z0 ad nb (sg9) H := by first | exact hW | (simp only [kx_up_s, kx_up_up] at hW; exact hW) | (simp only [kx_up_s, kx_up_up, upd_s] at hW; exact hW)
          refine W.eq (g2 := F0 m 92 ls [.int v9]) rfl ?_
          refine lv_pop hx hb dX3_open_92 rfl ?_
          refine lv_iload hx hb dX3_open_93 (lv_at hl 0 rfl) ?_
          refine vx_ret ?_
          exact kx_ri F hr hlocks hW hS (by first | exact Nat.le_of_ble_eq_true rfl | omega) (by first | exact Nat.le_of_ble_eq_true rfl | omega) (⟨d, hd, rfl, tw_b_1 c_14, of_decide_eq_true (tw_b_1 c_31), c_38, Or.inr ⟨c_56, k, hk, hxk, congrArg (fun z => some (Value.int z)) hxk, by rw [en9]; rcases hor9 with ⟨h1, h2, h3⟩ | h1; exact Or.inl ⟨h1, h3⟩; exact Or.inr h1⟩⟩) dX3_open_95
        · refine lv_aload_n hx hb dX3_open_59 rfl (lv_at hl 1 rfl) ?_
          refine lv_aload_n hx hb dX3_open_60 rfl (lv_at hl 0 rfl) ?_
          refine kx_cV (na := 1) F (q := 0) (n := 0) (c_X3_countWrongCode l G z0 ad nb sg hnb hwf d hd) gX3_open_X3_countWrongCode rfl (by decide +kernel) ⟨Nat.le_of_ble_eq_true rfl, Nat.le_of_ble_eq_true rfl⟩ hW hS ⟨by decide, rfl⟩ rfl rfl (As := [.ref (ad 8 d)]) (rest := []) rfl hl.1 rfl (Nat.le_of_ble_eq_true rfl) dX3_open_61 ⟨by first | exact Nat.le_of_ble_eq_true rfl | omega, by first | exact Nat.le_of_ble_eq_true rfl | omega⟩ (fun r9 sg9 H locs hq hW hS => ?_)
          obtain ⟨rfl, hcw9⟩ := hq
          have hW : kx_Wd G z0 ad nb (sg9) H := by first | exact hW | (simp only [kx_up_s, kx_up_up] at hW; exact hW) | (simp only [kx_up_s, kx_up_up, upd_s] at hW; exact hW)
          refine W.eq (g2 := F0 m 64 ls []) rfl ?_
          refine lv_iconst (v := (-1)) hx hb dX3_open_64 (by decide) ?_
          refine vx_ret ?_
          exact kx_ri F hr hlocks hW hS (by first | exact Nat.le_of_ble_eq_true rfl | omega) (by first | exact Nat.le_of_ble_eq_true rfl | omega) (⟨d, hd, rfl, tw_b_1 c_14, of_decide_eq_true (tw_b_1 c_31), c_38, Or.inl ⟨c_56, rfl, hcw9⟩⟩) dX3_open_65
      · exact kx_thr F hlf htab hlocks (cls := "java/lang/IllegalStateException") (text := "the door is not kept, or is jammed") (ik := 60) (is := 147) (ic := 64) (by decide +kernel) (by decide +kernel) (by decide +kernel) (by decide +kernel) (by decide +kernel) (by decide +kernel) (by decide +kernel) hW hS hl.1 dX3_open_41 dX3_open_44 dX3_open_45 dX3_open_47 dX3_open_50 (Nat.le_of_ble_eq_true rfl) (Nat.le_of_ble_eq_true rfl) (by first | exact Nat.le_of_ble_eq_true rfl | omega) (by first | exact Nat.le_of_ble_eq_true rfl | omega) (by first | exact Nat.le_of_ble_eq_true rfl | omega) (by first | exact Nat.le_of_ble_eq_true rfl | omega) (Or.inr (Or.inr ⟨rfl, d, hd, rfl, tw_b_1 c_14, Or.inr c_38⟩))
  · exact kx_thr F hlf htab hlocks (cls := "java/lang/IllegalArgumentException") (text := "code is out of range") (ik := 53) (is := 145) (ic := 57) (by decide +kernel) (by decide +kernel) (by decide +kernel) (by decide +kernel) (by decide +kernel) (by decide +kernel) (by decide +kernel) hW hS hl.1 dX3_open_17 dX3_open_20 dX3_open_21 dX3_open_23 dX3_open_26 (Nat.le_of_ble_eq_true rfl) (Nat.le_of_ble_eq_true rfl) (by first | exact Nat.le_of_ble_eq_true rfl | omega) (by first | exact Nat.le_of_ble_eq_true rfl | omega) (by first | exact Nat.le_of_ble_eq_true rfl | omega) (by first | exact Nat.le_of_ble_eq_true rfl | omega) (Or.inr (Or.inl ⟨rfl, ⟨d, hd, rfl⟩, tw_b_0 c_14⟩))

set_option maxHeartbeats 1000000 in
set_option maxRecDepth 100000 in
theorem c_X3_jam (l : Launch) (hlf : l.stackTraces = false) (G : kx_G) (z0 : Nat) (ad : kx_A) (nb : Nat) (sg : kx_S) (hC : tw_CI nb sg) (x z : Int32) (hz : tw_01 z) : kx_MX l yX3_jam wsX3_jam 7 111 1 6 G z0 ad nb sg [.ref (ad 0 0), .int x, .int z] (fun r sg' => ∃ d : Nat, d < 10 ∧ x = nI d ∧ r = some (.int (sg 8 d 1)) ∧ tw_SA nb (kx_up sg 8 d (if z = 0 then upd (upd (sg 8 d) 1 z) 4 0 else upd (sg 8 d) 1 z)) sg') (fun E => E = kx_ioe ∧ (∀ d, d < 10 → ¬ x = nI d)) := by
  refine vx_ofW (cc := cX3_jam) (maxL := 5) (ret := (some .boolean)) (by decide) rfl ?_
  intro p e s m args below meth c s₁ B hml htab hv
  obtain ⟨rfl, hW, hV⟩ := hv
  have hts := atoms_spec (ws := wsX3_jam) B.pre
  have F : kx_F p s m c cX3_jam 5 RX3 _ wsX3_jam G z0 := ⟨B.exec, B.bytes, hml, findClass_of_methodNamed B.named, hts, hV⟩
  have hx := B.exec; have hb := B.bytes; have hr := B.returns; have hlocks := B.notSynchronized
  have hS : va_S (kx_Ad z0) s.heap s.heap [] := va_S.rf
  obtain ⟨hnb, hwf, hbl, hjm, hkp, hnn⟩ := hC
  have L_130 : Cond.fieldLink RX3 130 (TX1 1).1 (TX1 1).2.1 (TX1 1).2.2.1 ∈ wsX3_jam := by decide +kernel
  have L_142 : Cond.fieldLink RX3 142 (TX1 4).1 (TX1 4).2.1 (TX1 4).2.2.1 ∈ wsX3_jam := by decide +kernel
  have inX1 : ∀ w ∈ u_ws RX1 TX1 5, w ∈ wsX3_jam := by decide +kernel
  have hl := lv_entry ([.ref (ad 0 0), .int x, .int z]) (n := 5) (Nat.le_of_ble_eq_true rfl)
  rw [lg_entry_eq]
  generalize (lg_sl ([.ref (ad 0 0), .int x, .int z]) ++ List.replicate (5 - (lg_sl ([.ref (ad 0 0), .int x, .int z])).length) Slot.unset).toArray = ls at hl ⊢
  have hl : lv_has ls 5 [(0, .ref (ad 0 0)), (1, .int x), (2, .int z)] := hl
  refine lv_aload_n hx hb dX3_jam_0 rfl (lv_at hl 0 rfl) ?_
  refine lv_iload_n hx hb dX3_jam_1 rfl (lv_at hl 1 rfl) ?_
  refine kx_xV (na := 1) F (q := 0) (n := 0) (c_X3_doorAt l hlf G z0 ad nb sg x) gX3_jam_X3_doorAt rfl (by decide +kernel) ⟨Nat.le_of_ble_eq_true rfl, Nat.le_of_ble_eq_true rfl⟩ hW hS ⟨by decide, rfl⟩ rfl rfl (As := [.int x]) (rest := []) rfl hl.1 rfl (Nat.le_of_ble_eq_true rfl) dX3_jam_2 ⟨by first | exact Nat.le_of_ble_eq_true rfl | omega, by first | exact Nat.le_of_ble_eq_true rfl | omega⟩ (fun E9 ce9 q9 H locs hp9 hW hS h7 h8 h9 => ?_) (fun r9 sg9 H locs hq hW hS => ?_)
  · exact kx_out htab hlocks hW hS (by first | exact Nat.le_of_ble_eq_true rfl | omega) (by first | exact Nat.le_of_ble_eq_true rfl | omega) (hp9) h7 h8 h9
  obtain ⟨d, hd, rfl, rfl, e9⟩ := hq
  rw [e9] at hW
  refine W.eq (g2 := F0 m 5 ls [.ref (ad 8 d)]) rfl ?_
  refine lv_astore_n (lv' := [(3, .ref (ad 8 d)), (0, .ref (ad 0 0)), (1, .int (nI d)), (2, .int z)]) hx hb dX3_jam_5 rfl hl (by decide) rfl (fun ls hl => ?_)
  refine lv_aload_n hx hb dX3_jam_6 rfl (lv_at hl 0 rfl) ?_
  refine kx_g F inX1 hW 8 d hd rfl rfl 1 (by decide) L_130 (v := .int (sg 8 d 1)) rfl dX3_jam_7 ?_
  refine lv_istore (lv' := [(4, .int (sg 8 d 1)), (3, .ref (ad 8 d)), (0, .ref (ad 0 0)), (1, .int (nI d)), (2, .int z)]) hx hb dX3_jam_10 hl (by decide) rfl (fun ls hl => ?_)
  refine lv_aload_n hx hb dX3_jam_12 rfl (lv_at hl 1 rfl) ?_
  refine lv_iload_n hx hb dX3_jam_13 rfl (lv_at hl 4 rfl) ?_
  refine kx_p F inX1 tyX1 tyX1_ok nmX1 hW hS 8 d hd rfl rfl 1 (by decide) L_130 rfl (v := .int z) (tw_01_nar hz) (tw_01_fit hz) (Nat.le_of_ble_eq_true rfl) (upd (sg 8 d) 1 z) rfl dX3_jam_14 (fun H locs hW hS => ?_)
  have hW : kx_Wd G z0 ad nb (kx_up sg 8 d (upd (sg 8 d) 1 z)) H := hW
  refine lv_iload_n hx hb dX3_jam_17 rfl (lv_at hl 4 rfl) ?_
  refine lv_if_ne (tgt := 26) hx hb dX3_jam_18 (by decide) (fun c_18 => ?_) (fun c_18 => ?_)
  · refine lv_aload_n hx hb dX3_jam_26 rfl (lv_at hl 2 rfl) ?_
    refine kx_cV (na := 0) F (q := 0) (n := 0) (c_X3_settleAll l G z0 ad nb (kx_up sg 8 d (upd (sg 8 d) 1 z)) hnb (tw_WF_door hwf)) gX3_jam_X3_settleAll rfl (by decide +kernel) ⟨Nat.le_of_ble_eq_true rfl, Nat.le_of_ble_eq_true rfl⟩ hW hS ⟨by decide, rfl⟩ rfl rfl (As := []) (rest := []) rfl hl.1 rfl (Nat.le_of_ble_eq_true rfl) dX3_jam_27 ⟨by first | exact Nat.le_of_ble_eq_true rfl | omega, by first | exact Nat.le_of_ble_eq_true rfl | omega⟩ (fun r9 sg9 H locs hq hW hS => ?_)
    obtain ⟨rfl, hsa9⟩ := hq
    have hW : kx_Wd G z0 ad nb (sg9) H := by first | exact hW | (simp only [kx_up_s, kx_up_up] at hW; exact hW) | (simp only [kx_up_s, kx_up_up, upd_s] at hW; exact hW)
    refine W.eq (g2 := F0 m 30 ls []) rfl ?_
    refine lv_iload hx hb dX3_jam_30 (lv_at hl 0 rfl) ?_
    refine vx_ret ?_
    exact kx_rz F hr hlocks hW hS (by first | exact Nat.le_of_ble_eq_true rfl | omega) (by first | exact Nat.le_of_ble_eq_true rfl | omega) (tw_01_nar (hjm d hd)) (⟨d, hd, rfl, rfl, by rw [if_neg c_18]; exact hsa9⟩) dX3_jam_32
  · refine lv_aload_n hx hb dX3_jam_21 rfl (lv_at hl 1 rfl) ?_
    refine lv_iconst (v := 0) hx hb dX3_jam_22 (by decide) ?_
    refine kx_p F inX1 tyX1 tyX1_ok nmX1 hW hS 8 d hd rfl rfl 4 (by decide) L_142 rfl (v := .int 0) rfl rfl (Nat.le_of_ble_eq_true rfl) (upd ((kx_up sg 8 d (upd (sg 8 d) 1 z)) 8 d) 4 0) rfl dX3_jam_23 (fun H locs hW hS => ?_)
    have er9 : (kx_up sg 8 d (upd (sg 8 d) 1 z)) 8 d = upd (sg 8 d) 1 z := by first | rfl | (simp only [kx_up_s]; done) | (simp [kx_up]; done)
    rw [er9] at hW
    rw [kx_up_up] at hW
    have hW : kx_Wd G z0 ad nb (kx_up sg 8 d (upd (upd (sg 8 d) 1 z) 4 0)) H := hW
    refine lv_aload_n hx hb dX3_jam_26 rfl (lv_at hl 2 rfl) ?_
    refine kx_cV (na := 0) F (q := 0) (n := 0) (c_X3_settleAll l G z0 ad nb (kx_up sg 8 d (upd (upd (sg 8 d) 1 z) 4 0)) hnb (tw_WF_door hwf)) gX3_jam_X3_settleAll rfl (by decide +kernel) ⟨Nat.le_of_ble_eq_true rfl, Nat.le_of_ble_eq_true rfl⟩ hW hS ⟨by decide, rfl⟩ rfl rfl (As := []) (rest := []) rfl hl.1 rfl (Nat.le_of_ble_eq_true rfl) dX3_jam_27 ⟨by first | exact Nat.le_of_ble_eq_true rfl | omega, by first | exact Nat.le_of_ble_eq_true rfl | omega⟩ (fun r9 sg9 H locs hq hW hS => ?_)
    obtain ⟨rfl, hsa9⟩ := hq
    have hW : kx_Wd G z0 ad nb (sg9) H := by first | exact hW | (simp only [kx_up_s, kx_up_up] at hW; exact hW) | (simp only [kx_up_s, kx_up_up, upd_s] at hW; exact hW)
    refine W.eq (g2 := F0 m 30 ls []) rfl ?_
    refine lv_iload hx hb dX3_jam_30 (lv_at hl 0 rfl) ?_
    refine vx_ret ?_
    exact kx_rz F hr hlocks hW hS (by first | exact Nat.le_of_ble_eq_true rfl | omega) (by first | exact Nat.le_of_ble_eq_true rfl | omega) (tw_01_nar (hjm d hd)) (⟨d, hd, rfl, rfl, by rw [if_pos c_18]; exact hsa9⟩) dX3_jam_32

set_option maxHeartbeats 1000000 in
set_option maxRecDepth 100000 in
theorem c_X3_claim (l : Launch) (hlf : l.stackTraces = false) (G : kx_G) (z0 : Nat) (ad : kx_A) (nb : Nat) (sg : kx_S) (hC : tw_CI nb sg) (x : Int32) : kx_MX l yX3_claim wsX3_claim 7 111 2 12 G z0 ad nb sg [.ref (ad 0 0), .int x] (fun r sg' => ∃ k : Nat, k < nb ∧ x = nI k ∧ decide (tw_last (sg 9 k 7) (sg 11 k) (tw_n sg k) = 30) = false ∧ sg 9 k 8 = 0 ∧ tw_after (sg 10 k) (tw_n sg k) (sg 0 0 7 - 1000) = false ∧ r = some (.int (sg 9 k 1)) ∧ sg' = kx_up (kx_up sg 9 k (upd (sg 9 k) 8 1)) 4 0 (tw_pay (sg 4 0) (sg 9 k 1))) (fun E => (E = kx_ioe ∧ (∀ k, k < nb → ¬ x = nI k)) ∨ (E = kx_ise ∧ ∃ k : Nat, k < nb ∧ x = nI k ∧ (decide (tw_last (sg 9 k 7) (sg 11 k) (tw_n sg k) = 30) = true ∨ ¬ sg 9 k 8 = 0 ∨ tw_after (sg 10 k) (tw_n sg k) (sg 0 0 7 - 1000) = true))) := by
  refine vx_ofW (cc := cX3_claim) (maxL := 3) (ret := (some .int)) (by decide) rfl ?_
  intro p e s m args below meth c s₁ B hml htab hv
  obtain ⟨rfl, hW, hV⟩ := hv
  have hts := atoms_spec (ws := wsX3_claim) B.pre
  have F : kx_F p s m c cX3_claim 3 RX3 _ wsX3_claim G z0 := ⟨B.exec, B.bytes, hml, findClass_of_methodNamed B.named, hts, hV⟩
  have hx := B.exec; have hb := B.bytes; have hr := B.returns; have hlocks := B.notSynchronized
  have hS : va_S (kx_Ad z0) s.heap s.heap [] := va_S.rf
  obtain ⟨hnb, hwf, hbl, hjm, hkp, hnn⟩ := hC
  have L_156 : Cond.fieldLink RX3 156 (TX0 8).1 (TX0 8).2.1 (TX0 8).2.2.1 ∈ wsX3_claim := by decide +kernel
  have L_165 : Cond.fieldLink RX3 165 (TX0 1).1 (TX0 1).2.1 (TX0 1).2.2.1 ∈ wsX3_claim := by decide +kernel
  have L_28 : Cond.fieldLink RX3 28 (TX3 3).1 (TX3 3).2.1 (TX3 3).2.2.1 ∈ wsX3_claim := by decide +kernel
  have L_42 : Cond.fieldLink RX3 42 (TX3 7).1 (TX3 7).2.1 (TX3 7).2.2.1 ∈ wsX3_claim := by decide +kernel
  have inX0 : ∀ w ∈ u_ws RX0 TX0 11, w ∈ wsX3_claim := by decide +kernel
  have inX3 : ∀ w ∈ u_ws RX3 TX3 9, w ∈ wsX3_claim := by decide +kernel
  have hl := lv_entry ([.ref (ad 0 0), .int x]) (n := 3) (Nat.le_of_ble_eq_true rfl)
  rw [lg_entry_eq]
  generalize (lg_sl ([.ref (ad 0 0), .int x]) ++ List.replicate (3 - (lg_sl ([.ref (ad 0 0), .int x])).length) Slot.unset).toArray = ls at hl ⊢
  have hl : lv_has ls 3 [(0, .ref (ad 0 0)), (1, .int x)] := hl
  refine lv_aload_n hx hb dX3_claim_0 rfl (lv_at hl 0 rfl) ?_
  refine lv_iload_n hx hb dX3_claim_1 rfl (lv_at hl 1 rfl) ?_
  refine kx_xV (na := 1) F (q := 0) (n := 0) (c_X3_boxAt l hlf G z0 ad nb sg hnb x) gX3_claim_X3_boxAt rfl (by decide +kernel) ⟨Nat.le_of_ble_eq_true rfl, Nat.le_of_ble_eq_true rfl⟩ hW hS ⟨by decide, rfl⟩ rfl rfl (As := [.int x]) (rest := []) rfl hl.1 rfl (Nat.le_of_ble_eq_true rfl) dX3_claim_2 ⟨by first | exact Nat.le_of_ble_eq_true rfl | omega, by first | exact Nat.le_of_ble_eq_true rfl | omega⟩ (fun E9 ce9 q9 H locs hp9 hW hS h7 h8 h9 => ?_) (fun r9 sg9 H locs hq hW hS => ?_)
  · exact kx_out htab hlocks hW hS (by first | exact Nat.le_of_ble_eq_true rfl | omega) (by first | exact Nat.le_of_ble_eq_true rfl | omega) (Or.inl hp9) h7 h8 h9
  obtain ⟨k, hk, rfl, rfl, e9⟩ := hq
  rw [e9] at hW
  refine W.eq (g2 := F0 m 5 ls [.ref (ad 9 k)]) rfl ?_
  obtain ⟨n9, hn9, h129, hm9⟩ := hwf.1 k hk
  have en9 := tw_n_eq hn9 h129
  refine lv_astore_n (lv' := [(2, .ref (ad 9 k)), (0, .ref (ad 0 0)), (1, .int (nI k))]) hx hb dX3_claim_5 rfl hl (by decide) rfl (fun ls hl => ?_)
  refine lv_aload_n hx hb dX3_claim_6 rfl (lv_at hl 0 rfl) ?_
  refine kx_cV (na := 0) F (q := 9) (n := k) (c_X0_isDelivered l G z0 ad nb sg k hk n9 hn9 h129) gX3_claim_X0_isDelivered rfl (by decide +kernel) ⟨Nat.le_of_ble_eq_true rfl, Nat.le_of_ble_eq_true rfl⟩ hW hS hk rfl rfl (As := []) (rest := []) rfl hl.1 rfl (Nat.le_of_ble_eq_true rfl) dX3_claim_7 ⟨by first | exact Nat.le_of_ble_eq_true rfl | omega, by first | exact Nat.le_of_ble_eq_true rfl | omega⟩ (fun r9 sg9 H locs hq hW hS => ?_)
  obtain ⟨rfl, e9⟩ := hq
  rw [e9] at hW
  refine W.eq (g2 := F0 m 10 ls [.int (tw_b (decide (tw_last (sg 9 k 7) (sg 11 k) n9 = 30)))]) rfl ?_
  refine lv_if_ne (tgt := 35) hx hb dX3_claim_10 (by decide) (fun c_10 => ?_) (fun c_10 => ?_)
  · exact kx_thr F hlf htab hlocks (cls := "java/lang/IllegalStateException") (text := "the box is delivered, or insured, or was scanned a short time ago") (ik := 60) (is := 163) (ic := 64) (by decide +kernel) (by decide +kernel) (by decide +kernel) (by decide +kernel) (by decide +kernel) (by decide +kernel) (by decide +kernel) hW hS hl.1 dX3_claim_35 dX3_claim_38 dX3_claim_39 dX3_claim_41 dX3_claim_44 (Nat.le_of_ble_eq_true rfl) (Nat.le_of_ble_eq_true rfl) (by first | exact Nat.le_of_ble_eq_true rfl | omega) (by first | exact Nat.le_of_ble_eq_true rfl | omega) (by first | exact Nat.le_of_ble_eq_true rfl | omega) (by first | exact Nat.le_of_ble_eq_true rfl | omega) (Or.inr ⟨rfl, k, hk, rfl, Or.inl (by rw [en9]; exact tw_b_1 c_10)⟩)
  · refine lv_aload_n hx hb dX3_claim_13 rfl (lv_at hl 0 rfl) ?_
    refine kx_g F inX0 hW 9 k hk rfl rfl 8 (by decide) L_156 (v := .int (sg 9 k 8)) rfl dX3_claim_14 ?_
    refine lv_if_ne (tgt := 35) hx hb dX3_claim_17 (by decide) (fun c_17 => ?_) (fun c_17 => ?_)
    · exact kx_thr F hlf htab hlocks (cls := "java/lang/IllegalStateException") (text := "the box is delivered, or insured, or was scanned a short time ago") (ik := 60) (is := 163) (ic := 64) (by decide +kernel) (by decide +kernel) (by decide +kernel) (by decide +kernel) (by decide +kernel) (by decide +kernel) (by decide +kernel) hW hS hl.1 dX3_claim_35 dX3_claim_38 dX3_claim_39 dX3_claim_41 dX3_claim_44 (Nat.le_of_ble_eq_true rfl) (Nat.le_of_ble_eq_true rfl) (by first | exact Nat.le_of_ble_eq_true rfl | omega) (by first | exact Nat.le_of_ble_eq_true rfl | omega) (by first | exact Nat.le_of_ble_eq_true rfl | omega) (by first | exact Nat.le_of_ble_eq_true rfl | omega) (Or.inr ⟨rfl, k, hk, rfl, Or.inr (Or.inl c_17)⟩)
    · refine lv_aload_n hx hb dX3_claim_20 rfl (lv_at hl 0 rfl) ?_
      refine lv_aload_n hx hb dX3_claim_21 rfl (lv_at hl 1 rfl) ?_
      refine kx_g F inX3 hW 0 0 ⟨by decide, rfl⟩ rfl rfl 7 (by decide) L_42 (v := .int (sg 0 0 7)) rfl dX3_claim_22 ?_
      refine lv_sipush (v := 1000) hx hb dX3_claim_25 (by decide) ?_
      refine lv_isub hx hb dX3_claim_28 ?_
      refine kx_cV (na := 1) F (q := 9) (n := k) (c_X0_wasScannedAfter l G z0 ad nb sg k hk n9 hn9 h129 ((sg 0 0 7) - 1000)) gX3_claim_X0_wasScannedAfter rfl (by decide +kernel) ⟨Nat.le_of_ble_eq_true rfl, Nat.le_of_ble_eq_true rfl⟩ hW hS hk rfl rfl (As := [.int ((sg 0 0 7) - 1000)]) (rest := []) rfl hl.1 rfl (Nat.le_of_ble_eq_true rfl) dX3_claim_29 ⟨by first | exact Nat.le_of_ble_eq_true rfl | omega, by first | exact Nat.le_of_ble_eq_true rfl | omega⟩ (fun r9 sg9 H locs hq hW hS => ?_)
      obtain ⟨rfl, e9⟩ := hq
      rw [e9] at hW
      refine W.eq (g2 := F0 m 32 ls [.int (tw_b (tw_after (sg 10 k) n9 ((sg 0 0 7) - 1000)))]) rfl ?_
      refine lv_if_eq (tgt := 45) hx hb dX3_claim_32 (by decide) (fun c_32 => ?_) (fun c_32 => ?_)
      · refine lv_aload_n hx hb dX3_claim_45 rfl (lv_at hl 0 rfl) ?_
        refine lv_iconst (v := 1) hx hb dX3_claim_46 (by decide) ?_
        refine kx_p F inX0 tyX0 tyX0_ok nmX0 hW hS 9 k hk rfl rfl 8 (by decide) L_156 rfl (v := .int 1) rfl rfl (Nat.le_of_ble_eq_true rfl) (upd (sg 9 k) 8 1) rfl dX3_claim_47 (fun H locs hW hS => ?_)
        have hW : kx_Wd G z0 ad nb (kx_up sg 9 k (upd (sg 9 k) 8 1)) H := hW
        refine lv_aload_n hx hb dX3_claim_50 rfl (lv_at hl 1 rfl) ?_
        refine kx_g F inX3 hW 0 0 ⟨by decide, rfl⟩ rfl rfl 3 (by decide) L_28 (v := .ref (ad 4 0)) rfl dX3_claim_51 ?_
        refine lv_aload_n hx hb dX3_claim_54 rfl (lv_at hl 0 rfl) ?_
        refine kx_g F inX0 hW 9 k hk rfl rfl 1 (by decide) L_165 (v := .int (sg 9 k 1)) (by first | rfl | (simp only [kx_up_s]; done) | (simp only [kx_up_s, upd_s]; done) | (simp only [kx_up_s]; rfl) | (simp [kx_up, upd]; done)) dX3_claim_55 ?_
        refine kx_cV (na := 1) F (q := 4) (n := 0) (c_X2_payInsured l G z0 ad nb (kx_up sg 9 k (upd (sg 9 k) 8 1)) (sg 9 k 1)) gX3_claim_X2_payInsured rfl (by decide +kernel) ⟨Nat.le_of_ble_eq_true rfl, Nat.le_of_ble_eq_true rfl⟩ hW hS ⟨by decide, rfl⟩ rfl rfl (As := [.int (sg 9 k 1)]) (rest := []) rfl hl.1 rfl (Nat.le_of_ble_eq_true rfl) dX3_claim_58 ⟨by first | exact Nat.le_of_ble_eq_true rfl | omega, by first | exact Nat.le_of_ble_eq_true rfl | omega⟩ (fun r9 sg9 H locs hq hW hS => ?_)
        obtain ⟨rfl, e9⟩ := hq
        rw [e9] at hW
        have hW : kx_Wd G z0 ad nb (kx_up (kx_up sg 9 k (upd (sg 9 k) 8 1)) 4 0 (tw_pay (sg 4 0) (sg 9 k 1))) H := by first | exact hW | (simp only [kx_up_s, kx_up_up] at hW; exact hW) | (simp only [kx_up_s, kx_up_up, upd_s] at hW; exact hW)
        refine W.eq (g2 := F0 m 61 ls []) rfl ?_
        refine lv_aload_n hx hb dX3_claim_61 rfl (lv_at hl 0 rfl) ?_
        refine kx_g F inX0 hW 9 k hk rfl rfl 1 (by decide) L_165 (v := .int (sg 9 k 1)) (by first | rfl | (simp only [kx_up_s]; done) | (simp only [kx_up_s, upd_s]; done) | (simp only [kx_up_s]; rfl) | (simp [kx_up, upd]; done)) dX3_claim_62 ?_
        refine vx_ret ?_
        exact kx_ri F hr hlocks hW hS (by first | exact Nat.le_of_ble_eq_true rfl | omega) (by first | exact Nat.le_of_ble_eq_true rfl | omega) (⟨k, hk, rfl, by rw [en9]; exact tw_b_0 c_10, c_17, by rw [en9]; exact tw_b_0 c_32, rfl, rfl⟩) dX3_claim_65
      · exact kx_thr F hlf htab hlocks (cls := "java/lang/IllegalStateException") (text := "the box is delivered, or insured, or was scanned a short time ago") (ik := 60) (is := 163) (ic := 64) (by decide +kernel) (by decide +kernel) (by decide +kernel) (by decide +kernel) (by decide +kernel) (by decide +kernel) (by decide +kernel) hW hS hl.1 dX3_claim_35 dX3_claim_38 dX3_claim_39 dX3_claim_41 dX3_claim_44 (Nat.le_of_ble_eq_true rfl) (Nat.le_of_ble_eq_true rfl) (by first | exact Nat.le_of_ble_eq_true rfl | omega) (by first | exact Nat.le_of_ble_eq_true rfl | omega) (by first | exact Nat.le_of_ble_eq_true rfl | omega) (by first | exact Nat.le_of_ble_eq_true rfl | omega) (Or.inr ⟨rfl, k, hk, rfl, Or.inr (Or.inr (by rw [en9]; exact tw_b_1 c_32))⟩)
end
