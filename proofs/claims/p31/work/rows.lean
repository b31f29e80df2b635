section
-- ===== PART A: goes FIRST, ahead of the names: the tables' words, and 'selects' of the private methods out of them =====
/-- a private method of a class that the tables say can be made, by its rows of tables_1 -/
def lw_okq (q : MethodName × Nat) : Prop := (q.1.cls ≠ "java/lang/invoke/MethodHandle" ∧ q.1.cls ≠ "java/lang/invoke/VarHandle") ∧ Cond.instantiable q.1.cls q.2 ∈ tables_1 ∧ Cond.privateMethod q.1 ∈ tables_1 ∧ Cond.instanceMethod q.1 ∈ tables_1
theorem lw_p0 : lw_okq (⟨"java/lang/Throwable", "fillInStackTrace", "(I)Ljava/lang/Throwable;"⟩, 6) := ⟨⟨by decide +kernel, by decide +kernel⟩, List.mem_of_getElem? (i := 196) (by decide +kernel), List.mem_of_getElem? (i := 194) (by decide +kernel), List.mem_of_getElem? (i := 195) (by decide +kernel)⟩
theorem lw_p1 : lw_okq (⟨"ResolverFleet", "siteNumbered", "(I)LResolverFleet$Site;"⟩, 13) := ⟨⟨by decide +kernel, by decide +kernel⟩, List.mem_of_getElem? (i := 16) (by decide +kernel), List.mem_of_getElem? (i := 274) (by decide +kernel), List.mem_of_getElem? (i := 275) (by decide +kernel)⟩
theorem lw_p2 : lw_okq (⟨"ResolverFleet", "nearestSite", "(I)LResolverFleet$Site;"⟩, 13) := ⟨⟨by decide +kernel, by decide +kernel⟩, List.mem_of_getElem? (i := 16) (by decide +kernel), List.mem_of_getElem? (i := 283) (by decide +kernel), List.mem_of_getElem? (i := 284) (by decide +kernel)⟩
theorem lw_p3 : lw_okq (⟨"ResolverFleet", "cacheAsked", "(II)LResolverFleet$Cache;"⟩, 13) := ⟨⟨by decide +kernel, by decide +kernel⟩, List.mem_of_getElem? (i := 16) (by decide +kernel), List.mem_of_getElem? (i := 298) (by decide +kernel), List.mem_of_getElem? (i := 299) (by decide +kernel)⟩
theorem lw_p4 : lw_okq (⟨"ResolverFleet", "siteAsked", "(II)LResolverFleet$Site;"⟩, 13) := ⟨⟨by decide +kernel, by decide +kernel⟩, List.mem_of_getElem? (i := 16) (by decide +kernel), List.mem_of_getElem? (i := 340) (by decide +kernel), List.mem_of_getElem? (i := 341) (by decide +kernel)⟩
theorem lw_p5 : lw_okq (⟨"ResolverFleet", "resolve", "(LResolverFleet$Cache;ILResolverFleet$Course;)I"⟩, 13) := ⟨⟨by decide +kernel, by decide +kernel⟩, List.mem_of_getElem? (i := 16) (by decide +kernel), List.mem_of_getElem? (i := 360) (by decide +kernel), List.mem_of_getElem? (i := 361) (by decide +kernel)⟩
theorem lw_p6 : lw_okq (⟨"ResolverFleet", "lookUp", "(LResolverFleet$Cache;ILResolverFleet$Course;)Z"⟩, 13) := ⟨⟨by decide +kernel, by decide +kernel⟩, List.mem_of_getElem? (i := 16) (by decide +kernel), List.mem_of_getElem? (i := 368) (by decide +kernel), List.mem_of_getElem? (i := 369) (by decide +kernel)⟩
theorem lw_p7 : lw_okq (⟨"ResolverFleet", "fetch", "(LResolverFleet$Cache;ILResolverFleet$Course;)V"⟩, 13) := ⟨⟨by decide +kernel, by decide +kernel⟩, List.mem_of_getElem? (i := 16) (by decide +kernel), List.mem_of_getElem? (i := 384) (by decide +kernel), List.mem_of_getElem? (i := 385) (by decide +kernel)⟩
theorem lw_p8 : lw_okq (⟨"ResolverFleet$Cache", "firstToEnd", "()I"⟩, 6) := ⟨⟨by decide +kernel, by decide +kernel⟩, List.mem_of_getElem? (i := 84) (by decide +kernel), List.mem_of_getElem? (i := 400) (by decide +kernel), List.mem_of_getElem? (i := 401) (by decide +kernel)⟩
theorem lw_p9 : lw_okq (⟨"ResolverFleet", "fetchHotAnew", "(LResolverFleet$Cache;LResolverFleet$Course;)V"⟩, 13) := ⟨⟨by decide +kernel, by decide +kernel⟩, List.mem_of_getElem? (i := 16) (by decide +kernel), List.mem_of_getElem? (i := 417) (by decide +kernel), List.mem_of_getElem? (i := 418) (by decide +kernel)⟩
theorem lw_p10 : lw_okq (⟨"ResolverFleet", "countQuery", "(I)V"⟩, 13) := ⟨⟨by decide +kernel, by decide +kernel⟩, List.mem_of_getElem? (i := 16) (by decide +kernel), List.mem_of_getElem? (i := 429) (by decide +kernel), List.mem_of_getElem? (i := 430) (by decide +kernel)⟩
def lw_privs_1 : List (MethodName × Nat) := [(⟨"java/lang/Throwable", "fillInStackTrace", "(I)Ljava/lang/Throwable;"⟩, 6), (⟨"ResolverFleet", "siteNumbered", "(I)LResolverFleet$Site;"⟩, 13), (⟨"ResolverFleet", "nearestSite", "(I)LResolverFleet$Site;"⟩, 13), (⟨"ResolverFleet", "cacheAsked", "(II)LResolverFleet$Cache;"⟩, 13), (⟨"ResolverFleet", "siteAsked", "(II)LResolverFleet$Site;"⟩, 13), (⟨"ResolverFleet", "resolve", "(LResolverFleet$Cache;ILResolverFleet$Course;)I"⟩, 13), (⟨"ResolverFleet", "lookUp", "(LResolverFleet$Cache;ILResolverFleet$Course;)Z"⟩, 13), (⟨"ResolverFleet", "fetch", "(LResolverFleet$Cache;ILResolverFleet$Course;)V"⟩, 13), (⟨"ResolverFleet$Cache", "firstToEnd", "()I"⟩, 6), (⟨"ResolverFleet", "fetchHotAnew", "(LResolverFleet$Cache;LResolverFleet$Course;)V"⟩, 13), (⟨"ResolverFleet", "countQuery", "(I)V"⟩, 13)]
theorem lw_r1 : ∀ q ∈ lw_privs_1, lw_okq q := List.forall_mem_cons.mpr ⟨lw_p0, List.forall_mem_cons.mpr ⟨lw_p1, List.forall_mem_cons.mpr ⟨lw_p2, List.forall_mem_cons.mpr ⟨lw_p3, List.forall_mem_cons.mpr ⟨lw_p4, List.forall_mem_cons.mpr ⟨lw_p5, List.forall_mem_cons.mpr ⟨lw_p6, List.forall_mem_cons.mpr ⟨lw_p7, List.forall_mem_cons.mpr ⟨lw_p8, List.forall_mem_cons.mpr ⟨lw_p9, List.forall_mem_cons.mpr ⟨lw_p10, fun _ h => absurd h List.not_mem_nil⟩⟩⟩⟩⟩⟩⟩⟩⟩⟩⟩
def lw_privs : List (MethodName × Nat) := lw_privs_1
def lw_tbl : List Cond := k2_sels lw_privs ++ tables_1
theorem lw_privs_ok : ∀ q ∈ lw_privs, lw_okq q := lw_r1
-- ===== end of PART A; then your names; then what follows =====
/-! ===== BEGIN words of one list among another's, by their places ===== -/
theorem goodIn_r {big : List Cond} (ws : List Cond) (ps : List Nat) (hp : ws = ps.filterMap (fun i => big[i]?)) (h : ws.all goodWord = true) : GoodIn big ws := by
  intro w hw
  have h1 := List.all_eq_true.mp h w hw
  rw [hp] at hw
  obtain ⟨i, -, hi⟩ := List.mem_filterMap.mp hw
  have hm : w ∈ big := by first | exact List.mem_of_getElem? hi | exact List.getElem?_mem hi
  exact ⟨hm, good_of_word h1⟩
theorem goodIn_app {big a b : List Cond} (ha : GoodIn big a) (hb : GoodIn big b) : GoodIn big (a ++ b) := fun w h => (List.mem_append.mp h).elim (ha w) (hb w)
theorem goodIn_ca {big a b : List Cond} {c : Cond} (ha : GoodIn big (c :: a)) (hb : GoodIn big b) : GoodIn big (c :: (a ++ b)) := fun w h => (List.mem_cons.mp h).elim (fun e => ha w (List.mem_cons.mpr (Or.inl e))) (fun h => (List.mem_append.mp h).elim (fun h => ha w (List.mem_cons.mpr (Or.inr h))) (hb w))
theorem goodIn_sub {big ws : List Cond} (hm : ∀ w ∈ ws, w ∈ big) (h : ws.all goodWord = true) : GoodIn big ws := fun w hw => ⟨hm w hw, good_of_word (List.all_eq_true.mp h w hw)⟩
/-! ===== END ===== -/

/-! ===== BEGIN exceptions that leave a method, and their catching by the caller (launches without stack traces) ===== -/
section VXA
/-! The laws vx_back, vx_callV, vx_callS, vx_callSW, vx_throw0, vx_throwS follow proofs of the library, with one case more: JvmDerived/Free/Laws.lean (Back.of_free), Shelf42/LK1.lean (callV, callS), Shelf/KitTraced.lean (throwNew0V, throwNewS). -/
/-- where a method has thrown q: the class by its name, the cell, what was written, the world -/
def vx_T (XC : String → State → State → Prop) (st : State) (q : Addr) (t : State) (mc ms : Nat) (free : Addr → Prop) : Prop :=
  ∃ (E : String) (ce : Cell) (L : List Loc), XC E st t ∧ t.heap[q]? = some ce ∧ ce.vm = .none ∧ st.vm.findClass E = some ce.cls ∧ st.WarmedH t.vm ∧ st.sameButNew ({ t with vm := st.vm } : State) L mc ms ∧ ∀ z ∈ L, free z.base
def vx_Q (Qc : Array Value → State → Outcome → State → Prop) (XC : String → State → State → Prop) (mc ms : Nat) (free : Addr → Prop) : Array Value → State → Outcome → State → Prop := fun a st o t =>
  (Qc a st o t ∧ ∃ L, FrameEnd st o t L mc ms ∧ ∀ q ∈ L, free q.base) ∨ ∃ q, o = .threw q ∧ vx_T XC st q t mc ms free
/-- a callee that returns or throws -/
def vx_Met (l : Launch) (y : MethodName) (ws : List Cond) (rm : Room) (Pc : Array Value → State → Prop) (Qc : Array Value → State → Outcome → State → Prop) (XC : String → State → State → Prop) (mc ms : Nat) (free : Addr → Prop) : Prop :=
  MetFree l y (headSpec ws rm) Pc (fun _ _ _ _ _ => True) (vx_Q Qc XC mc ms free)
def vx_Post (XC : String → State → State → Prop) (mc ms : Nat) (free : Addr → Prop) : Pt → Array Value → Addr → Pt → Prop := fun A a q B =>
  ∃ (g : JFrame) (mk : MethodId) (t : State) (L : List Loc) (E : String) (ce : Cell), B.U.heap = t.heap ∧ B.U.vm = t.vm ∧ XC E (A.U.calling g mk a) t ∧ t.heap[q]? = some ce ∧ ce.vm = .none ∧ A.U.vm.findClass E = some ce.cls ∧ B.locs = A.locs ++ L ∧ (∀ z ∈ L, free z.base) ∧ B.cells = A.cells + mc ∧ B.slots = A.slots + ms
def vx_Back (l : Launch) (R : Room) (p : Program) (e : Env) (below : List Frame) (s : State) (sargs : Array Value) (y : MethodName) (len W9 : Nat)
    (Pre : Pt → Array Value → Prop) (Post : Pt → Array Value → Option Value → Pt → Prop) (PostX : Pt → Array Value → Addr → Pt → Prop) : Prop :=
  ∀ (m : MethodId) (meth : Method) (c : Code) (A : Pt) (g : JFrame) (ig : Instr) (mk : MethodId) (a : Array Value),
    Stand p l e R s m sargs below meth c A.U A.locs A.cells A.slots → g.method = m → g.locals.size = c.maxLocals → decode c.code g.pc = .ok (ig, len) →
    2 * g.monitorRoom + (g.stack.map fun v => v.category).sum ≤ W9 → A.U.methodNamed? y = some mk → Pre A a →
    (∃ (v : Option Value) (B : Pt), Stand p l e R s m sargs below meth c B.U B.locs B.cells B.slots ∧ Post A a v B ∧
      Steps p.tables e below (doInvoke e (A.U.setTop g) [] mk a).1 (B.U.setTop { g with pc := g.pc + len, stack := v.toList ++ g.stack })) ∨
    (∃ (q : Addr) (B : Pt), Stand p l e R s m sargs below meth c B.U B.locs B.cells B.slots ∧ PostX A a q B ∧
      Steps p.tables e below (doInvoke e (A.U.setTop g) [] mk a).1 ((B.U.setTop g).pushFrame (.throwing q)))
section Payer
variable {l : Launch} {R : Room} {p : Program} {e : Env} {below : List Frame} {s : State} {sargs : Array Value} {y : MethodName} {len W9 : Nat}
theorem vx_back {ws : List Cond} {rm : Room} {Pc : Array Value → State → Prop} {Qc : Array Value → State → Outcome → State → Prop} {XC : String → State → State → Prop} {mc ms : Nat} {free : Addr → Prop} {bytes : ByteArray} {maxL : Nat} {ret : Option FieldType}
    (hM : vx_Met l y ws rm Pc Qc XC mc ms free) (hblind : FrameBlind Pc) (hrc : rm.cells = mc) (hrs : rm.slots = ms)
    (hframes : rm.frames + 1 ≤ R.frames) (hlocals : W9 + (maxL + 11) + rm.locals ≤ R.locals)
    (hws : ∀ w ∈ ws, ∀ a' U, s.WarmedH U.vm → w.before a' U = true) (hcode : Cond.code y bytes maxL ret ∈ ws) (hinit : ∀ a' U, s.WarmedH U.vm → (Cond.initialized y.cls).before a' U = true) :
    vx_Back l R p e below s sargs y len W9 (PreOf R mc ms Pc) (PostOf Qc mc ms free) (vx_Post XC mc ms free) := by
  intro m meth c A g ig mk a X hg hsize hdg hW hn hp
  have h1 : (headSpec ws rm).pre.before a A.U = true := atoms_intro fun w hw => hws w hw _ _ X.warmed
  have h2 : (Cond.code y bytes maxL ret).before a A.U = true := hws _ hcode _ _ X.warmed
  have h3 : (Cond.initialized y.cls).before a A.U = true := hinit _ _ X.warmed
  have h4 : A.cells + (headSpec ws rm).room.cells ≤ R.cells := by rw [show (headSpec ws rm).room.cells = mc from hrc]; exact hp.1
  have h5 : A.slots + (headSpec ws rm).room.slots ≤ R.slots := by rw [show (headSpec ws rm).room.slots = ms from hrs]; exact hp.2.1
  have hPc : Pc a (A.U.calling g mk a) := hblind _ _ _ _ hp.2.2
  obtain ⟨U, Ls, c0, s0⟩ := A
  dsimp only [Pt.U, Pt.locs, Pt.cells, Pt.slots] at h1 h2 h3 h4 h5 X hn hPc ⊢
  obtain ⟨methY, cY, hmY, hcY, -, hlY, -, -, -, -⟩ := Cond.code_spec hn h2
  obtain ⟨kY, hkY, -⟩ := className_of_methodNamed hn
  have hinitY : kY.init = .initialized := Cond.initialized_spec (findClass_of_methodNamed hn) hkY h3
  have h : At U g.method c below := by rw [hg]; exact X.here
  have hlocals9 : W9 + (maxL + 11) + (headSpec ws rm).room.locals ≤ R.locals := hlocals
  have happ : (headSpec ws rm).appliesLoose y e.platform (U.calling g mk a) = true :=
    Spec.appliesLoose_calling (g := g) h hdg hn hkY hinitY
      (X.room_calling (g := g) (R' := (headSpec ws rm).room) hsize hmY hcY hframes (by rw [hlY]; omega) h4 h5) h1
  obtain ⟨mid, hmid⟩ := h.above
  have hfr : (U.setTop g).frames = (.java g :: mid) ++ below := by rw [State.frames_setTop' g h.top, hmid]; rfl
  obtain ⟨o, s₂, hsteps, -, hend, hq⟩ := Steps.callFree hM p X.admits X.cas X.clock (acts := []) hfr happ hPc trivial
  have hq' : vx_Q Qc XC mc ms free a (U.calling g mk a) o s₂ := hq
  rw [State.frames_setTop' g h.top] at hend
  obtain ⟨g₀, hg0⟩ := Option.isSome_iff_exists.mp h.top
  obtain ⟨r, hr⟩ := State.topJava?_eq_some.mp hg0
  have hr' : (({ U with heap := s₂.heap, slotsUsed := s₂.slotsUsed } : State).setVm s₂.vm).frames = .java g₀ :: r := hr
  rcases hq' with ⟨hqc, L, hfe, hL⟩ | ⟨q, rfl, E, ce, L, hx, hce, hcv, hcl, hW₂, hsm, hL⟩
  · obtain ⟨⟨v, rfl⟩, hW₂, e2, q2, q3, q4, q5, q6⟩ := id hfe
    have e3 : s₂ = ({ (U.calling g mk a).setFrames s₂.frames with heap := s₂.heap, slotsUsed := s₂.slotsUsed } : State).setVm s₂.vm := by
      have : s₂ = ({ s₂ with vm := (U.calling g mk a).vm } : State).setVm s₂.vm := rfl
      rw [e2] at this
      exact this
    obtain ⟨c₂, i₂, len₂, hc₂, hd₂, hf₂⟩ := hend
    have hW' : U.WarmedH s₂.vm := hW₂
    have hcc : c₂ = c := by
      have h1 : s₂.code? g.method = U.code? g.method := by
        rw [State.code?_eq, State.code?_eq, hW'.alike.method?]
      exact Option.some.inj (hc₂.symm.trans (h1.trans h.code))
    subst hcc
    have hlen : len₂ = len := by rw [hdg] at hd₂; cases hd₂; rfl
    subst hlen
    have hs₂ : s₂ = (({ U with heap := s₂.heap, slotsUsed := s₂.slotsUsed } : State).setVm s₂.vm).setTop { g with pc := g.pc + len₂, stack := v.toList ++ g.stack } := by
      refine e3.trans ?_
      rw [hf₂, State.calling_eq h.top, State.setFrames_setFrames, State.setTop_of_frames _ hr', hr]
      rfl
    have hsame : U.sameButNew ({ U with heap := s₂.heap, slotsUsed := s₂.slotsUsed } : State) L mc ms := by
      refine ⟨?_, q2, q3, q4, q5, q6⟩
      obtain ⟨t, ht, -⟩ := State.frames_cons hr
      show ({ U with heap := s₂.heap, slotsUsed := s₂.slotsUsed } : State) = { U.setFrames U.frames with heap := s₂.heap, slotsUsed := s₂.slotsUsed }
      rw [State.setFrames_self ht]
    subst hg
    refine Or.inl ⟨v, ⟨(({ U with heap := s₂.heap, slotsUsed := s₂.slotsUsed } : State).setVm s₂.vm), Ls ++ L, c0 + mc, s0 + ms⟩,
      ⟨X.admits, X.cas, X.clock, X.frames, X.room, X.hears, X.method, X.code, (X.here.setHeapUsed s₂.heap s₂.slotsUsed).setVm hW'.alike, X.tail, State.WarmedH.trans X.warmed hW', X.limits, X.bytes, X.same.trans (hsame.setVm s.vm)⟩,
      ⟨g, mk, s₂, L, rfl, rfl, hqc, rfl, hL, rfl, rfl⟩, ?_⟩
    show Steps p.tables e below _ ((({ U with heap := s₂.heap, slotsUsed := s₂.slotsUsed } : State).setVm s₂.vm).setTop { g with pc := g.pc + len₂, stack := v.toList ++ g.stack })
    rw [← hs₂]
    exact hsteps
  · obtain ⟨e2, q2, q3, q4, q5, q6⟩ := id hsm
    have e3 : s₂ = ({ (U.calling g mk a).setFrames s₂.frames with heap := s₂.heap, slotsUsed := s₂.slotsUsed } : State).setVm s₂.vm := by
      have : s₂ = ({ s₂ with vm := (U.calling g mk a).vm } : State).setVm s₂.vm := rfl
      rw [e2] at this
      exact this
    have hf₂ : s₂.frames = .throwing q :: .java g :: U.frames.tail := hend
    have hW' : U.WarmedH s₂.vm := hW₂
    have hs₂ : s₂ = ((({ U with heap := s₂.heap, slotsUsed := s₂.slotsUsed } : State).setVm s₂.vm).setTop g).pushFrame (.throwing q) := by
      refine e3.trans ?_
      rw [hf₂, State.calling_eq h.top, State.setFrames_setFrames, State.pushFrame, State.frames_setTop _ hr', State.setTop_of_frames _ hr', State.setFrames_setFrames, hr]
      rfl
    have hsame : U.sameButNew ({ U with heap := s₂.heap, slotsUsed := s₂.slotsUsed } : State) L mc ms := by
      refine ⟨?_, q2, q3, q4, q5, q6⟩
      obtain ⟨t, ht, -⟩ := State.frames_cons hr
      show ({ U with heap := s₂.heap, slotsUsed := s₂.slotsUsed } : State) = { U.setFrames U.frames with heap := s₂.heap, slotsUsed := s₂.slotsUsed }
      rw [State.setFrames_self ht]
    subst hg
    refine Or.inr ⟨q, ⟨(({ U with heap := s₂.heap, slotsUsed := s₂.slotsUsed } : State).setVm s₂.vm), Ls ++ L, c0 + mc, s0 + ms⟩,
      ⟨X.admits, X.cas, X.clock, X.frames, X.room, X.hears, X.method, X.code, (X.here.setHeapUsed s₂.heap s₂.slotsUsed).setVm hW'.alike, X.tail, State.WarmedH.trans X.warmed hW', X.limits, X.bytes, X.same.trans (hsame.setVm s.vm)⟩,
      ⟨g, mk, s₂, L, E, ce, rfl, rfl, hx, hce, hcv, hcl, rfl, hL, rfl, rfl⟩, ?_⟩
    show Steps p.tables e below _ (((({ U with heap := s₂.heap, slotsUsed := s₂.slotsUsed } : State).setVm s₂.vm).setTop g).pushFrame (.throwing q))
    rw [← hs₂]
    exact hsteps
end Payer
section Calls
variable {p : Program} {l : Launch} {e : Env} {R : Room} {s : State} {m : MethodId} {args : Array Value} {below : List Frame} {meth : Method} {c : Code} {T : State} {locs : List Loc} {cells slots : Nat}
theorem vx_callV (X : Stand p l e R s m args below meth c T locs cells slots) (hexec : p.tables.exec = Jvm.exec) {own C : String} {index : Nat} {y : MethodName} {bytes : ByteArray} {maxL : Nat} {ret : Option FieldType}
    (hown : s.vm.findClass own = some m.cls) (hlink : (Cond.methodLink own index y).before args s = true) (hinst : (Cond.instanceMethod y).before args s = true) (hsel : (Cond.selects C y y).before args s = true)
    (hcode : (Cond.code y bytes maxL ret).before args s = true) (hy : y.cls ≠ "java/lang/invoke/MethodHandle" ∧ y.cls ≠ "java/lang/invoke/VarHandle")
    {W9 : Nat} {Pre : Pt → Array Value → Prop} {Post : Pt → Array Value → Option Value → Pt → Prop} {PostX : Pt → Array Value → Addr → Pt → Prop} (hK : vx_Back l R p e below s args y 3 W9 Pre Post PostX)
    {b : Addr} {cellB : Cell} (hcell : T.heap[b]? = some cellB) (hobj : cellB.vm.isStatics = false) (hcls : s.vm.findClass C = some cellB.cls)
    {g : JFrame} (hg : g.method = m) (hsize : g.locals.size = c.maxLocals) {argsL rest : List Value} (hlen : ∀ sig, parseMethodDescriptor y.desc = some sig → argsL.length = sig.parameters.length)
    (hstack : g.stack = argsL.reverse ++ .ref b :: rest) (hW : 2 * g.monitorRoom + (rest.map fun v => v.category).sum ≤ W9) (hdg : decode c.code g.pc = .ok (.invokevirtual index, 3))
    (hpre : ∀ vm₁, s.WarmedH vm₁ → Pre ⟨T.setVm vm₁, locs, cells, slots⟩ (Value.ref b :: argsL).toArray) :
    (∃ (v : Option Value) (vm₁ : Vm) (B : Pt), s.WarmedH vm₁ ∧ Stand p l e R s m args below meth c B.U B.locs B.cells B.slots ∧ Post ⟨T.setVm vm₁, locs, cells, slots⟩ (Value.ref b :: argsL).toArray v B ∧
      ∀ target, Steps p.tables e below (B.U.setTop { g with pc := g.pc + 3, stack := v.toList ++ rest }) target → Steps p.tables e below (T.setTop g) target) ∨
    (∃ (q : Addr) (vm₁ : Vm) (B : Pt), s.WarmedH vm₁ ∧ Stand p l e R s m args below meth c B.U B.locs B.cells B.slots ∧ PostX ⟨T.setVm vm₁, locs, cells, slots⟩ (Value.ref b :: argsL).toArray q B ∧
      Steps p.tables e below (T.setTop g) ((B.U.setTop { g with stack := rest }).pushFrame (.throwing q))) := by
  obtain ⟨mk, methM, hnamed, hmethM, hstM, habM⟩ := Cond.instanceMethod_spec hinst
  obtain ⟨methM', cM, hmethM', -, -, -, -, -, -, hsigM⟩ := Cond.code_spec hnamed hcode
  cases hmethM.symm.trans hmethM'
  obtain ⟨c2, r2, m2, q1, q2, q3, q4, kP, hkP, hkPi⟩ := Cond.selects_spec hsel
  cases hcls.symm.trans q1
  cases (State.methodFound?_of_named hnamed hy).symm.trans q2
  cases hnamed.symm.trans q3
  have hselP : selectMethod e.platform s.vm cellB.cls mk = .method mk := by rw [Launch.admits_selectMethod X.admits]; exact q4
  obtain ⟨vm₁, X₁, hstep₁⟩ := X.invokevirtual hexec hown hlink hnamed hmethM hstM hkP hkPi hy (a := b) (cell := cellB) hcell
    (fun z h => by rw [h] at hobj; cases hobj) hselP hmethM habM hkP hkPi (g := g) hg (argsL := argsL) (rest := rest) (hlen _ hsigM) hstack hdg
  rcases hK m meth c ⟨T.setVm vm₁, locs, cells, slots⟩ { g with stack := rest } (.invokevirtual index) mk (Value.ref b :: argsL).toArray X₁ hg hsize hdg hW (X₁.named hnamed) (hpre vm₁ X₁.warmed) with ⟨v, B, X', hpost, hsteps⟩ | ⟨q, B, X', hpost, hsteps⟩
  · exact Or.inl ⟨v, vm₁, B, X₁.warmed, X', hpost, fun target h => hstep₁ _ fun acts => by rw [doInvoke_state]; exact hsteps.trans h⟩
  · exact Or.inr ⟨q, vm₁, B, X₁.warmed, X', hpost, hstep₁ _ fun acts => by rw [doInvoke_state]; exact hsteps⟩
theorem vx_callS (X : Stand p l e R s m args below meth c T locs cells slots) (hexec : p.tables.exec = Jvm.exec) {own : String} {index : Nat} {y : MethodName} {bytes : ByteArray} {maxL : Nat} {ret : Option FieldType}
    (hown : s.vm.findClass own = some m.cls) (hlink : (Cond.methodLink own index y).before args s = true) (hstat : (Cond.static y).before args s = true) (hinit : (Cond.initialized y.cls).before args s = true)
    (hcode : (Cond.code y bytes maxL ret).before args s = true) (hy : y.cls ≠ "java/lang/invoke/MethodHandle" ∧ y.cls ≠ "java/lang/invoke/VarHandle")
    {W9 : Nat} {Pre : Pt → Array Value → Prop} {Post : Pt → Array Value → Option Value → Pt → Prop} {PostX : Pt → Array Value → Addr → Pt → Prop} (hK : vx_Back l R p e below s args y 3 W9 Pre Post PostX)
    {g : JFrame} (hg : g.method = m) (hsize : g.locals.size = c.maxLocals) {argsL rest : List Value} (hlen : ∀ sig, parseMethodDescriptor y.desc = some sig → argsL.length = sig.parameters.length)
    (hstack : g.stack = argsL.reverse ++ rest) (hW : 2 * g.monitorRoom + (rest.map fun v => v.category).sum ≤ W9) (hdg : decode c.code g.pc = .ok (.invokestatic index, 3))
    (hpre : ∀ vm₁, s.WarmedH vm₁ → Pre ⟨T.setVm vm₁, locs, cells, slots⟩ argsL.toArray) :
    (∃ (v : Option Value) (vm₁ : Vm) (B : Pt), s.WarmedH vm₁ ∧ Stand p l e R s m args below meth c B.U B.locs B.cells B.slots ∧ Post ⟨T.setVm vm₁, locs, cells, slots⟩ argsL.toArray v B ∧
      ∀ target, Steps p.tables e below (B.U.setTop { g with pc := g.pc + 3, stack := v.toList ++ rest }) target → Steps p.tables e below (T.setTop g) target) ∨
    (∃ (q : Addr) (vm₁ : Vm) (B : Pt), s.WarmedH vm₁ ∧ Stand p l e R s m args below meth c B.U B.locs B.cells B.slots ∧ PostX ⟨T.setVm vm₁, locs, cells, slots⟩ argsL.toArray q B ∧
      Steps p.tables e below (T.setTop g) ((B.U.setTop { g with stack := rest }).pushFrame (.throwing q))) := by
  obtain ⟨mk, hnamed⟩ := Cond.code_named hcode
  obtain ⟨methM, cM, hmethM, -, -, -, -, -, -, hsigM⟩ := Cond.code_spec hnamed hcode
  have hstatic : methM.isStatic = true := Cond.static_spec hnamed hmethM hstat
  obtain ⟨kP, hkP, -⟩ := className_of_methodNamed hnamed
  have hinitP : kP.init = .initialized := Cond.initialized_spec (findClass_of_methodNamed hnamed) hkP hinit
  obtain ⟨vm₁, X₁, hstep₁⟩ := X.invokestatic hexec hown hlink hnamed hmethM hstatic hkP hinitP hy (g := g) hg (argsL := argsL) (rest := rest) (hlen _ hsigM) hstack hdg
  rcases hK m meth c ⟨T.setVm vm₁, locs, cells, slots⟩ { g with stack := rest } (.invokestatic index) mk argsL.toArray X₁ hg hsize hdg hW (X₁.named hnamed) (hpre vm₁ X₁.warmed) with ⟨v, B, X', hpost, hsteps⟩ | ⟨q, B, X', hpost, hsteps⟩
  · exact Or.inl ⟨v, vm₁, B, X₁.warmed, X', hpost, fun target h => hstep₁ _ fun acts => by rw [doInvoke_state]; exact hsteps.trans h⟩
  · exact Or.inr ⟨q, vm₁, B, X₁.warmed, X', hpost, hstep₁ _ fun acts => by rw [doInvoke_state]; exact hsteps⟩
end Calls
theorem vx_cls {s : State} {T : State} {vm₁ : Vm} {E : String} {k : ClassId} (hW : s.WarmedH vm₁) (h : (T.setVm vm₁).vm.findClass E = some k) : s.vm.findClass E = some k := by
  have h1 : vm₁.findClass E = some k := h
  rw [hW.alike.findClass] at h1
  exact h1
/-- the method's frame g, with q thrown over it -/
def vx_W (p : Program) (l : Launch) (e : Env) (R : Room) (s : State) (m : MethodId) (args : Array Value) (below : List Frame) (meth : Method) (c : Code) (H : Heap) (locs : List Loc) (cells slots : Nat) (Q : State → Prop) (g : JFrame) (q : Addr) : Prop :=
  ∀ T : State, T.heap = H → Stand p l e R s m args below meth c T locs cells slots → ∃ t, Steps p.tables e below ((T.setTop g).pushFrame (.throwing q)) t ∧ Q t
def vx_Run (p : Program) (l : Launch) (e : Env) (R : Room) (s : State) (m : MethodId) (args : Array Value) (below : List Frame) (meth : Method) (c : Code) (H : Heap) (locs : List Loc) (cells slots mc ms : Nat) (g : JFrame) (rest : List Value) (Qa : State → Outcome → State → Prop) (XC : String → State → State → Prop) (free : Addr → Prop) : Prop :=
  ∀ T : State, T.heap = H → Stand p l e R s m args below meth c T locs cells slots →
    (∃ (v : Option Value) (st₀ t T' : State) (L : List Loc), st₀.heap = H ∧ Stand p l e R s m args below meth c T' (locs ++ L) (cells + mc) (slots + ms) ∧ (∀ q ∈ L, free q.base) ∧ T'.heap = t.heap ∧ T'.vm = t.vm ∧ Qa st₀ (.returned v) t ∧
      Goes p e below T g T' { g with pc := g.pc + 3, stack := v.toList ++ rest }) ∨
    (∃ (q : Addr) (st₀ t T' : State) (L : List Loc) (E : String) (ce : Cell), st₀.heap = H ∧ Stand p l e R s m args below meth c T' (locs ++ L) (cells + mc) (slots + ms) ∧ (∀ z ∈ L, free z.base) ∧ T'.heap = t.heap ∧ T'.vm = t.vm ∧ XC E st₀ t ∧ t.heap[q]? = some ce ∧ ce.vm = .none ∧ s.vm.findClass E = some ce.cls ∧
      Steps p.tables e below (T.setTop g) ((T'.setTop { g with stack := rest }).pushFrame (.throwing q)))
def vx_X {S : Type} (px : S → Prop) (B : String → S → State → Prop) (A : Nat → Prop) : String → State → State → Prop := fun E st t => ∃ u : S, px u ∧ B E u t ∧ va_F A st t
section Runs
variable {p : Program} {l : Launch} {e : Env} {R : Room} {s : State} {m : MethodId} {args : Array Value} {below : List Frame} {meth : Method} {c : Code} {H : Heap} {locs : List Loc} {cells slots : Nat}
variable {y : MethodName} {bytes cc : ByteArray} {maxL nL mc ms n index : Nat} {ret : Option FieldType} {ws : List Cond} {rm : Room} {Pc : Array Value → State → Prop} {Qc : Array Value → State → Outcome → State → Prop} {XC : String → State → State → Prop} {free : Addr → Prop} {Ts : List Cond} {own C : String} {b : Addr} {As rest : List Value} {g : JFrame}
theorem vx_callBack (cb : CallB R s args own index y bytes maxL ret ws rm mc ms n) (hM : vx_Met l y ws rm Pc Qc XC mc ms free) (hbl : FrameBlind Pc) : vx_Back l R p e below s args y 3 8 (PreOf R mc ms Pc) (PostOf Qc mc ms free) (vx_Post XC mc ms free) := by
  obtain ⟨hrc, hrs, hfr, hlo, hws, hcw, -, hini, -⟩ := cb
  exact vx_back (bytes := bytes) (maxL := maxL) (ret := ret) hM hbl hrc hrs hfr hlo hws hcw (fun a' U hW => word_at hW (Or.inl (by first | rfl | simp [Cond.onTables, Cond.keeps, Cond.steady])) hini)
theorem vx_runV (S : CallFix p m c cc nL s args Ts own) (hM : vx_Met l y ws rm Pc Qc XC mc ms free) (cw : CallW R s args own C index y bytes maxL ret ws rm mc ms n) (hp : PreV s H C b Pc As)
    (hg : g.method = m) (hn : As.length = n) (hsize : g.locals.size = nL) (hstack : g.stack = As.reverse ++ .ref b :: rest) (hW : 2 * g.monitorRoom + (rest.map fun v => v.category).sum ≤ 8) (hdg : decode cc g.pc = .ok (.invokevirtual index, 3)) (hf : cells + mc ≤ R.cells ∧ slots + ms ≤ R.slots) :
    vx_Run p l e R s m args below meth c H locs cells slots mc ms g rest (Qc (Value.ref b :: As).toArray) XC free := by
  have hK : vx_Back l R p e below s args y 3 8 (PreOf R mc ms Pc) (PostOf Qc mc ms free) (vx_Post XC mc ms free) := vx_callBack cw.1 hM hp.1
  obtain ⟨⟨-, -, -, -, -, -, hcode, -, hy, hlen, hl⟩, hin, hse⟩ := cw
  obtain ⟨hx, hb, hml, ho, -⟩ := S
  obtain ⟨-, ⟨cellB, hcB, hoB, hclB⟩, hPc⟩ := hp
  intro T hT X
  rcases vx_callV X hx (C := C) (bytes := bytes) (maxL := maxL) (ret := ret) ho hl hin hse hcode hy hK (by rw [hT]; exact hcB) hoB hclB hg (hsize.trans hml.symm) (argsL := As) (rest := rest) (fun sig h => hn.trans (hlen sig h)) hstack hW (by rw [hb]; exact hdg)
    (fun vm₁ hW₁ => ⟨hf.1, hf.2, hPc (T.setVm vm₁) hT hW₁⟩) with ⟨v, vm₁, ⟨U', l2, c2, s2⟩, hW₁, X', ⟨g', mk, t, L, e1, e2, hq, h1, hL, h2, h3⟩, st⟩ | ⟨q, vm₁, ⟨U', l2, c2, s2⟩, hW₁, X', ⟨g', mk, t, L, E, ce, e1, e2, hq, hce, hcv, hcl, h1, hL, h2, h3⟩, st⟩
  · dsimp only [Pt.U, Pt.locs, Pt.cells, Pt.slots] at X' e1 e2 h1 h2 h3 st
    subst h1; subst h2; subst h3
    exact Or.inl ⟨v, (T.setVm vm₁).calling g' mk (Value.ref b :: As).toArray, t, U', L, hT, X', hL, e1, e2, hq, st⟩
  · dsimp only [Pt.U, Pt.locs, Pt.cells, Pt.slots] at X' e1 e2 h1 h2 h3 st hcl
    subst h1; subst h2; subst h3
    exact Or.inr ⟨q, (T.setVm vm₁).calling g' mk (Value.ref b :: As).toArray, t, U', L, E, ce, hT, X', hL, e1, e2, hq, hce, hcv, vx_cls hW₁ hcl, st⟩
theorem vx_runS (S : CallFix p m c cc nL s args Ts own) (hM : vx_Met l y ws rm Pc Qc XC mc ms free) (cw : CallB R s args own index y bytes maxL ret ws rm mc ms n ∧ (Cond.static y).before args s = true) (hp : PreS s H Pc As)
    (hg : g.method = m) (hn : As.length = n) (hsize : g.locals.size = nL) (hstack : g.stack = As.reverse ++ rest) (hW : 2 * g.monitorRoom + (rest.map fun v => v.category).sum ≤ 8) (hdg : decode cc g.pc = .ok (.invokestatic index, 3)) (hf : cells + mc ≤ R.cells ∧ slots + ms ≤ R.slots) :
    vx_Run p l e R s m args below meth c H locs cells slots mc ms g rest (Qc As.toArray) XC free := by
  have hK : vx_Back l R p e below s args y 3 8 (PreOf R mc ms Pc) (PostOf Qc mc ms free) (vx_Post XC mc ms free) := vx_callBack cw.1 hM hp.1
  obtain ⟨⟨-, -, -, -, -, -, hcode, hini, hy, hlen, hl⟩, hstt⟩ := cw
  obtain ⟨hx, hb, hml, ho, -⟩ := S
  intro T hT X
  rcases vx_callS X hx (bytes := bytes) (maxL := maxL) (ret := ret) ho hl hstt hini hcode hy hK hg (hsize.trans hml.symm) (argsL := As) (rest := rest) (fun sig h => hn.trans (hlen sig h)) hstack hW (by rw [hb]; exact hdg)
    (fun vm₁ hW₁ => ⟨hf.1, hf.2, hp.2 (T.setVm vm₁) hT hW₁⟩) with ⟨v, vm₁, ⟨U', l2, c2, s2⟩, hW₁, X', ⟨g', mk, t, L, e1, e2, hq, h1, hL, h2, h3⟩, st⟩ | ⟨q, vm₁, ⟨U', l2, c2, s2⟩, hW₁, X', ⟨g', mk, t, L, E, ce, e1, e2, hq, hce, hcv, hcl, h1, hL, h2, h3⟩, st⟩
  · dsimp only [Pt.U, Pt.locs, Pt.cells, Pt.slots] at X' e1 e2 h1 h2 h3 st
    subst h1; subst h2; subst h3
    exact Or.inl ⟨v, (T.setVm vm₁).calling g' mk As.toArray, t, U', L, hT, X', hL, e1, e2, hq, st⟩
  · dsimp only [Pt.U, Pt.locs, Pt.cells, Pt.slots] at X' e1 e2 h1 h2 h3 st hcl
    subst h1; subst h2; subst h3
    exact Or.inr ⟨q, (T.setVm vm₁).calling g' mk As.toArray, t, U', L, E, ce, hT, X', hL, e1, e2, hq, hce, hcv, vx_cls hW₁ hcl, st⟩
end Runs
section Rows
variable {p : Program} {l : Launch} {e : Env} {R : Room} {s : State} {m : MethodId} {args : Array Value} {below : List Frame} {meth : Method} {c : Code} {H : Heap} {locs : List Loc} {cells slots : Nat} {Q : State → Prop}
variable {mc ms : Nat} {free : Addr → Prop} {A0 A1 : Nat → Prop} {H0 : Heap} {a : Array Value} {pc : Nat} {ls : Array Slot} {st0 rest : List Value}
theorem vx_keep {st₀ t T' : State} {L : List Loc} (h0 : st₀.heap = H) (e1 : T'.heap = t.heap) (hS : va_S A0 H0 H locs) (hA : ∀ q, q < H.size → A1 q → A0 q) (hf : ∀ q, free q → A0 q) (hL : ∀ q ∈ L, free q.base) (hF : va_F A1 st₀ t) :
    H.size ≤ T'.heap.size ∧ (∀ q : Nat, q < H.size → ¬ A1 q → T'.heap[q]? = H[q]?) ∧ va_S A0 H0 T'.heap (locs ++ L) := by
  obtain ⟨hz, hk⟩ := hF
  rw [h0] at hz hk
  exact ⟨by rw [e1]; exact hz, fun q h1 h2 => by rw [e1]; exact hk q h1 h2,
    ⟨Nat.le_trans hS.1 (by rw [e1]; exact hz), fun q h1 h2 => by rw [e1, hk q (Nat.lt_of_lt_of_le h1 hS.1) (fun z => h2 (hA q (Nat.lt_of_lt_of_le h1 hS.1) z))]; exact hS.2.1 q h1 h2, fun q hq => by
      rcases List.mem_append.mp hq with h | h
      · exact hS.2.2 q h
      · exact hf _ (hL q h)⟩⟩
theorem vx_calli {S SX : Type} {post : Int32 → S → Prop} {px : SX → Prop} {B : S → State → Prop} {BX : String → SX → State → Prop} {AX : Nat → Prop} (hr : vx_Run p l e R s m args below meth c H locs cells slots mc ms (F0 m pc ls st0) rest (va_Qi post B A1 a) (vx_X px BX AX) free) (hS : va_S A0 H0 H locs) (hA : ∀ q, q < H.size → A1 q → A0 q) (hf : ∀ q, free q → A0 q) (hAX : ∀ q, q < H.size → AX q → A0 q)
    (kx : ∀ (E : String) (ce : Cell) (q9 : Addr) (u : SX) (t : State) (H1 : Heap) (locs1 : List Loc), t.heap = H1 → s.vm.Alike t.vm → px u → BX E u t → H.size ≤ H1.size → (∀ q : Nat, q < H.size → ¬ AX q → H1[q]? = H[q]?) → va_S A0 H0 H1 locs1 → H1[q9]? = some ce → ce.vm = .none → s.vm.findClass E = some ce.cls → vx_W p l e R s m args below meth c H1 locs1 (cells + mc) (slots + ms) Q (F0 m pc ls rest) q9)
    (kk : ∀ (r : Int32) (u : S) (t : State) (H1 : Heap) (locs1 : List Loc), t.heap = H1 → s.vm.Alike t.vm → post r u → B u t → H.size ≤ H1.size → (∀ q : Nat, q < H.size → ¬ A1 q → H1[q]? = H[q]?) → va_S A0 H0 H1 locs1 → W p l e R s m args below meth c H1 locs1 (cells + mc) (slots + ms) Q (F0 m (pc + 3) ls (.int r :: rest))) : W p l e R s m args below meth c H locs cells slots Q (F0 m pc ls st0) := by
  intro T hT X
  rcases hr T hT X with ⟨v, st₀, t, T', L, h0, X', hL, e1, e2, ⟨⟨r, u, hv, hp, hb⟩, hF⟩, st⟩ | ⟨q, st₀, t, T', L, E, ce, h0, X', hL, e1, e2, ⟨u, hp, hb, hF⟩, hce, hcv, hcl, st⟩
  · cases hv
    obtain ⟨k1, k2, k3⟩ := vx_keep h0 e1 hS hA hf hL hF
    obtain ⟨t2, a1, b1⟩ := kk r u t T'.heap (locs ++ L) e1.symm (by rw [← e2]; exact X'.warmed.alike) hp hb k1 k2 k3 T' rfl X'
    exact ⟨t2, st t2 a1, b1⟩
  · obtain ⟨k1, k2, k3⟩ := vx_keep h0 e1 hS hAX hf hL hF
    obtain ⟨t2, a1, b1⟩ := kx E ce q u t T'.heap (locs ++ L) e1.symm (by rw [← e2]; exact X'.warmed.alike) hp hb k1 k2 k3 (by rw [e1]; exact hce) hcv hcl T' rfl X'
    exact ⟨t2, st.trans a1, b1⟩
theorem vx_calll {S SX : Type} {post : Int64 → S → Prop} {px : SX → Prop} {B : S → State → Prop} {BX : String → SX → State → Prop} {AX : Nat → Prop} (hr : vx_Run p l e R s m args below meth c H locs cells slots mc ms (F0 m pc ls st0) rest (va_Ql post B A1 a) (vx_X px BX AX) free) (hS : va_S A0 H0 H locs) (hA : ∀ q, q < H.size → A1 q → A0 q) (hf : ∀ q, free q → A0 q) (hAX : ∀ q, q < H.size → AX q → A0 q)
    (kx : ∀ (E : String) (ce : Cell) (q9 : Addr) (u : SX) (t : State) (H1 : Heap) (locs1 : List Loc), t.heap = H1 → s.vm.Alike t.vm → px u → BX E u t → H.size ≤ H1.size → (∀ q : Nat, q < H.size → ¬ AX q → H1[q]? = H[q]?) → va_S A0 H0 H1 locs1 → H1[q9]? = some ce → ce.vm = .none → s.vm.findClass E = some ce.cls → vx_W p l e R s m args below meth c H1 locs1 (cells + mc) (slots + ms) Q (F0 m pc ls rest) q9)
    (kk : ∀ (r : Int64) (u : S) (t : State) (H1 : Heap) (locs1 : List Loc), t.heap = H1 → s.vm.Alike t.vm → post r u → B u t → H.size ≤ H1.size → (∀ q : Nat, q < H.size → ¬ A1 q → H1[q]? = H[q]?) → va_S A0 H0 H1 locs1 → W p l e R s m args below meth c H1 locs1 (cells + mc) (slots + ms) Q (F0 m (pc + 3) ls (.long r :: rest))) : W p l e R s m args below meth c H locs cells slots Q (F0 m pc ls st0) := by
  intro T hT X
  rcases hr T hT X with ⟨v, st₀, t, T', L, h0, X', hL, e1, e2, ⟨⟨r, u, hv, hp, hb⟩, hF⟩, st⟩ | ⟨q, st₀, t, T', L, E, ce, h0, X', hL, e1, e2, ⟨u, hp, hb, hF⟩, hce, hcv, hcl, st⟩
  · cases hv
    obtain ⟨k1, k2, k3⟩ := vx_keep h0 e1 hS hA hf hL hF
    obtain ⟨t2, a1, b1⟩ := kk r u t T'.heap (locs ++ L) e1.symm (by rw [← e2]; exact X'.warmed.alike) hp hb k1 k2 k3 T' rfl X'
    exact ⟨t2, st t2 a1, b1⟩
  · obtain ⟨k1, k2, k3⟩ := vx_keep h0 e1 hS hAX hf hL hF
    obtain ⟨t2, a1, b1⟩ := kx E ce q u t T'.heap (locs ++ L) e1.symm (by rw [← e2]; exact X'.warmed.alike) hp hb k1 k2 k3 (by rw [e1]; exact hce) hcv hcl T' rfl X'
    exact ⟨t2, st.trans a1, b1⟩
theorem vx_callf {S SX : Type} {post : UInt32 → S → Prop} {px : SX → Prop} {B : S → State → Prop} {BX : String → SX → State → Prop} {AX : Nat → Prop} (hr : vx_Run p l e R s m args below meth c H locs cells slots mc ms (F0 m pc ls st0) rest (va_Qf post B A1 a) (vx_X px BX AX) free) (hS : va_S A0 H0 H locs) (hA : ∀ q, q < H.size → A1 q → A0 q) (hf : ∀ q, free q → A0 q) (hAX : ∀ q, q < H.size → AX q → A0 q)
    (kx : ∀ (E : String) (ce : Cell) (q9 : Addr) (u : SX) (t : State) (H1 : Heap) (locs1 : List Loc), t.heap = H1 → s.vm.Alike t.vm → px u → BX E u t → H.size ≤ H1.size → (∀ q : Nat, q < H.size → ¬ AX q → H1[q]? = H[q]?) → va_S A0 H0 H1 locs1 → H1[q9]? = some ce → ce.vm = .none → s.vm.findClass E = some ce.cls → vx_W p l e R s m args below meth c H1 locs1 (cells + mc) (slots + ms) Q (F0 m pc ls rest) q9)
    (kk : ∀ (r : UInt32) (u : S) (t : State) (H1 : Heap) (locs1 : List Loc), t.heap = H1 → s.vm.Alike t.vm → post r u → B u t → H.size ≤ H1.size → (∀ q : Nat, q < H.size → ¬ A1 q → H1[q]? = H[q]?) → va_S A0 H0 H1 locs1 → W p l e R s m args below meth c H1 locs1 (cells + mc) (slots + ms) Q (F0 m (pc + 3) ls (.float r :: rest))) : W p l e R s m args below meth c H locs cells slots Q (F0 m pc ls st0) := by
  intro T hT X
  rcases hr T hT X with ⟨v, st₀, t, T', L, h0, X', hL, e1, e2, ⟨⟨r, u, hv, hp, hb⟩, hF⟩, st⟩ | ⟨q, st₀, t, T', L, E, ce, h0, X', hL, e1, e2, ⟨u, hp, hb, hF⟩, hce, hcv, hcl, st⟩
  · cases hv
    obtain ⟨k1, k2, k3⟩ := vx_keep h0 e1 hS hA hf hL hF
    obtain ⟨t2, a1, b1⟩ := kk r u t T'.heap (locs ++ L) e1.symm (by rw [← e2]; exact X'.warmed.alike) hp hb k1 k2 k3 T' rfl X'
    exact ⟨t2, st t2 a1, b1⟩
  · obtain ⟨k1, k2, k3⟩ := vx_keep h0 e1 hS hAX hf hL hF
    obtain ⟨t2, a1, b1⟩ := kx E ce q u t T'.heap (locs ++ L) e1.symm (by rw [← e2]; exact X'.warmed.alike) hp hb k1 k2 k3 (by rw [e1]; exact hce) hcv hcl T' rfl X'
    exact ⟨t2, st.trans a1, b1⟩
theorem vx_calld {S SX : Type} {post : UInt64 → S → Prop} {px : SX → Prop} {B : S → State → Prop} {BX : String → SX → State → Prop} {AX : Nat → Prop} (hr : vx_Run p l e R s m args below meth c H locs cells slots mc ms (F0 m pc ls st0) rest (va_Qd post B A1 a) (vx_X px BX AX) free) (hS : va_S A0 H0 H locs) (hA : ∀ q, q < H.size → A1 q → A0 q) (hf : ∀ q, free q → A0 q) (hAX : ∀ q, q < H.size → AX q → A0 q)
    (kx : ∀ (E : String) (ce : Cell) (q9 : Addr) (u : SX) (t : State) (H1 : Heap) (locs1 : List Loc), t.heap = H1 → s.vm.Alike t.vm → px u → BX E u t → H.size ≤ H1.size → (∀ q : Nat, q < H.size → ¬ AX q → H1[q]? = H[q]?) → va_S A0 H0 H1 locs1 → H1[q9]? = some ce → ce.vm = .none → s.vm.findClass E = some ce.cls → vx_W p l e R s m args below meth c H1 locs1 (cells + mc) (slots + ms) Q (F0 m pc ls rest) q9)
    (kk : ∀ (r : UInt64) (u : S) (t : State) (H1 : Heap) (locs1 : List Loc), t.heap = H1 → s.vm.Alike t.vm → post r u → B u t → H.size ≤ H1.size → (∀ q : Nat, q < H.size → ¬ A1 q → H1[q]? = H[q]?) → va_S A0 H0 H1 locs1 → W p l e R s m args below meth c H1 locs1 (cells + mc) (slots + ms) Q (F0 m (pc + 3) ls (.double r :: rest))) : W p l e R s m args below meth c H locs cells slots Q (F0 m pc ls st0) := by
  intro T hT X
  rcases hr T hT X with ⟨v, st₀, t, T', L, h0, X', hL, e1, e2, ⟨⟨r, u, hv, hp, hb⟩, hF⟩, st⟩ | ⟨q, st₀, t, T', L, E, ce, h0, X', hL, e1, e2, ⟨u, hp, hb, hF⟩, hce, hcv, hcl, st⟩
  · cases hv
    obtain ⟨k1, k2, k3⟩ := vx_keep h0 e1 hS hA hf hL hF
    obtain ⟨t2, a1, b1⟩ := kk r u t T'.heap (locs ++ L) e1.symm (by rw [← e2]; exact X'.warmed.alike) hp hb k1 k2 k3 T' rfl X'
    exact ⟨t2, st t2 a1, b1⟩
  · obtain ⟨k1, k2, k3⟩ := vx_keep h0 e1 hS hAX hf hL hF
    obtain ⟨t2, a1, b1⟩ := kx E ce q u t T'.heap (locs ++ L) e1.symm (by rw [← e2]; exact X'.warmed.alike) hp hb k1 k2 k3 (by rw [e1]; exact hce) hcv hcl T' rfl X'
    exact ⟨t2, st.trans a1, b1⟩
theorem vx_callv {S SX : Type} {post : S → Prop} {px : SX → Prop} {B : S → State → Prop} {BX : String → SX → State → Prop} {AX : Nat → Prop} (hr : vx_Run p l e R s m args below meth c H locs cells slots mc ms (F0 m pc ls st0) rest (va_Qv post B A1 a) (vx_X px BX AX) free) (hS : va_S A0 H0 H locs) (hA : ∀ q, q < H.size → A1 q → A0 q) (hf : ∀ q, free q → A0 q) (hAX : ∀ q, q < H.size → AX q → A0 q)
    (kx : ∀ (E : String) (ce : Cell) (q9 : Addr) (u : SX) (t : State) (H1 : Heap) (locs1 : List Loc), t.heap = H1 → s.vm.Alike t.vm → px u → BX E u t → H.size ≤ H1.size → (∀ q : Nat, q < H.size → ¬ AX q → H1[q]? = H[q]?) → va_S A0 H0 H1 locs1 → H1[q9]? = some ce → ce.vm = .none → s.vm.findClass E = some ce.cls → vx_W p l e R s m args below meth c H1 locs1 (cells + mc) (slots + ms) Q (F0 m pc ls rest) q9)
    (kk : ∀ (u : S) (t : State) (H1 : Heap) (locs1 : List Loc), t.heap = H1 → s.vm.Alike t.vm → post u → B u t → H.size ≤ H1.size → (∀ q : Nat, q < H.size → ¬ A1 q → H1[q]? = H[q]?) → va_S A0 H0 H1 locs1 → W p l e R s m args below meth c H1 locs1 (cells + mc) (slots + ms) Q (F0 m (pc + 3) ls (rest))) : W p l e R s m args below meth c H locs cells slots Q (F0 m pc ls st0) := by
  intro T hT X
  rcases hr T hT X with ⟨v, st₀, t, T', L, h0, X', hL, e1, e2, ⟨⟨u, hv, hp, hb⟩, hF⟩, st⟩ | ⟨q, st₀, t, T', L, E, ce, h0, X', hL, e1, e2, ⟨u, hp, hb, hF⟩, hce, hcv, hcl, st⟩
  · cases hv
    obtain ⟨k1, k2, k3⟩ := vx_keep h0 e1 hS hA hf hL hF
    obtain ⟨t2, a1, b1⟩ := kk u t T'.heap (locs ++ L) e1.symm (by rw [← e2]; exact X'.warmed.alike) hp hb k1 k2 k3 T' rfl X'
    exact ⟨t2, st t2 a1, b1⟩
  · obtain ⟨k1, k2, k3⟩ := vx_keep h0 e1 hS hAX hf hL hF
    obtain ⟨t2, a1, b1⟩ := kx E ce q u t T'.heap (locs ++ L) e1.symm (by rw [← e2]; exact X'.warmed.alike) hp hb k1 k2 k3 (by rw [e1]; exact hce) hcv hcl T' rfl X'
    exact ⟨t2, st.trans a1, b1⟩
/-- caught by the row x of this method's table; the rows ahead don't take it -/
theorem vx_catch {own name : String} {E : String} {ce : Cell} {q : Addr} (hown : s.vm.findClass own = some m.cls) (pre : List ExceptionTableEntry) (x : ExceptionTableEntry) (suf : List ExceptionTableEntry) (hsplit : c.exceptionTable.toList = pre ++ x :: suf)
    (hpass : ∀ z ∈ pre, covers z pc = false ∨ (z.catchType ≠ 0 ∧ ∃ nm : String, (Cond.classLink own z.catchType nm).before args s = true ∧ va_Nc E nm s)) (hx : covers x pc = true) (h0 : x.catchType ≠ 0)
    (hlink : (Cond.classLink own x.catchType name).before args s = true) (hcast : (Cond.castable E name).before args s = true) (hcell : H[q]? = some ce) (hv : ce.vm = .none) (hcl : s.vm.findClass E = some ce.cls)
    (kk : W p l e R s m args below meth c H locs cells slots Q (F0 m x.handlerPc ls [.ref q])) : vx_W p l e R s m args below meth c H locs cells slots Q (F0 m pc ls rest) q := by
  intro T hT X
  have hpl : e.platform.magicAccessors = ({} : Platform).magicAccessors := by rw [X.admits.platform]
  obtain ⟨c3, c4, hc3, hc4, hasg⟩ := Cond.castable_spec hcast
  cases Option.some.inj (hc3.symm.trans hcl)
  obtain ⟨c5, hc5, hcl5⟩ := Cond.classLink_spec hown hlink e.platform hpl
  cases Option.some.inj (hc4.symm.trans hc5)
  obtain ⟨vm', X', st⟩ := X.thenCaughtThrough q (g := F0 m pc ls rest) rfl (Steps.refl _) (by rw [hT]; exact hcell) (by rw [hv]; rfl) (by obtain ⟨k9, h9, -⟩ := Vm.findClass_spec hcl; exact ⟨k9, h9⟩) pre x suf hsplit
    (fun z hz => by
      rcases hpass z hz with h | ⟨hz0, nm, hl1, hn1⟩
      · exact Or.inl h
      · obtain ⟨c6, hc6, hcl6⟩ := Cond.classLink_spec hown hl1 e.platform hpl
        obtain ⟨a8, b8, h1, h2, h3⟩ := hn1
        cases Option.some.inj (h1.symm.trans hcl)
        cases Option.some.inj (h2.symm.trans hc6)
        exact Or.inr ⟨hz0, _, hcl6, h3⟩) hx (Or.inr ⟨h0, c4, hcl5, hasg⟩)
  obtain ⟨t, a1, b1⟩ := kk (T.setVm vm') hT X'
  exact ⟨t, st.trans a1, b1⟩
end Rows
section Ends
variable {p : Program} {l : Launch} {e : Env} {R : Room} {s : State} {m : MethodId} {args : Array Value} {below : List Frame} {meth : Method} {c : Code} {H : Heap} {locs : List Loc} {cells slots : Nat} {Q : State → Prop}
variable {mc ms : Nat} {free : Addr → Prop} {A0 A1 : Nat → Prop} {H0 : Heap} {a : Array Value} {ls : Array Slot} {st0 rest : List Value}
variable {Qc : Array Value → State → Outcome → State → Prop} {XC : String → State → State → Prop}
/-- what a body that may throw owes at its end -/
def vx_MQ (below : List Frame) (Qc : Array Value → State → Outcome → State → Prop) (XC : String → State → State → Prop) (a : Array Value) (s : State) (mc ms : Nat) (free : Addr → Prop) : State → Prop := fun t =>
  ∃ o, t.status = .running ∧ Ended t below o ∧ vx_Q Qc XC mc ms free a s o t
theorem vx_ret {g : JFrame} {mc ms : Nat} (k : W p l e R s m args below meth c H locs cells slots (MQ below Qc args s mc ms free) g) : W p l e R s m args below meth c H locs cells slots (vx_MQ below Qc XC args s mc ms free) g := by
  intro T hT X
  obtain ⟨t, a1, o, b1, b2, b3, b4⟩ := k T hT X
  exact ⟨t, a1, o, b1, b2, Or.inl ⟨b3, b4⟩⟩
/-- not caught here: it goes on to the caller -/
theorem vx_widen {g : JFrame} {q : Addr} {k n : Nat} (h1 : cells ≤ k) (h2 : slots ≤ n) (kk : vx_W p l e R s m args below meth c H locs k n Q g q) : vx_W p l e R s m args below meth c H locs cells slots Q g q := fun T hT X => kk T hT (stand_widen X h1 h2)
theorem vx_out {pc : Nat} {E : String} {ce : Cell} {q : Addr} {mc ms : Nat} (hout : ∀ x ∈ c.exceptionTable.toList, covers x pc = false) (hlocks : meth.locks = false) (hcell : H[q]? = some ce) (hv : ce.vm = .none) (hcl : s.vm.findClass E = some ce.cls)
    (hx : ∀ t : State, t.heap = H → s.vm.Alike t.vm → XC E s t) (hf : ∀ z ∈ locs, free z.base) (hc : cells ≤ mc) (hs : slots ≤ ms) :
    vx_W p l e R s m args below meth c H locs cells slots (vx_MQ below Qc XC args s mc ms free) (F0 m pc ls rest) q := by
  intro T hT X
  obtain ⟨st1, hrun, hend, hW, hsm⟩ := X.leaveThrown q (g := F0 m pc ls rest) rfl rfl rfl hout hlocks
  have hcell9 : (T.setFrames (.throwing q :: below)).heap[q]? = some ce := by
    show T.heap[q]? = some ce
    rw [hT]; exact hcell
  exact ⟨_, st1, .threw q, hrun, hend, Or.inr ⟨q, rfl, E, ce, locs, hx _ hT hW.alike, hcell9, hv, hcl, hW, hsm.mono hc hs, hf⟩⟩
theorem vx_frame {U : State} {k n : Nat} (h : s.sameButNew ({ U with vm := s.vm } : State) locs k n) : s.heap.size ≤ U.heap.size ∧ ∀ q : Nat, q < s.heap.size → (∀ z ∈ locs, z.base ≠ q) → U.heap[q]? = s.heap[q]? := by
  obtain ⟨-, h2, -, -, -, h6⟩ := h
  refine ⟨h2, fun q hq hz => ?_⟩
  obtain ⟨c9, e1, e2, e3, e4⟩ := h6 q _ (Array.getElem?_eq_getElem hq)
  have hs : c9.slots = (s.heap[q]).slots := Array.ext_getElem? fun i => e4 i fun hm => hz _ hm rfl
  have h9 : c9 = s.heap[q] := by
    rw [hs] at e2
    exact e2
  have e5 : U.heap[q]? = some c9 := e1
  rw [e5, h9, Array.getElem?_eq_getElem hq]
/-- the words of a throw but the four that speak of the heap -/
def vx_no (w : Cond) : Bool := decide (w ≠ .isRef (.static Bundle.tN "UNASSIGNED_STACK" Bundle.steD)) && decide (w ≠ .isRef (.static Bundle.tN "SUPPRESSED_SENTINEL" Bundle.listD)) && decide (w ≠ .laysStatic Bundle.tN "UNASSIGNED_STACK" Bundle.steD) && decide (w ≠ .laysStatic Bundle.tN "SUPPRESSED_SENTINEL" Bundle.listD)
def vx_at0 (own : String) (ic : Nat) (X : String) (names : List String) : List Cond := (Bundle.ownAtoms0 own ic X names).filter vx_no
def vx_atS (own : String) (ic : Nat) (X : String) (names : List String) : List Cond := (Bundle.ownAtoms own ic X names).filter vx_no
/-- a word that the tables alone decide, or a good one -/
def vx_ot (w : Cond) : Bool := w.onTables || goodWord w
theorem vx_ot_at {args a' : Array Value} {s U : State} {w : Cond} (hW : s.WarmedH U.vm) (hvm : s.vm = U.vm) (hg : vx_ot w = true) (h : w.before args s = true) : w.before a' U = true := by
  simp only [vx_ot, Bool.or_eq_true] at hg
  rcases hg with hg | hg
  · exact va_tabs hg hvm h
  · exact word_at hW (good_of_word hg) h
/-- a list's words: the good ones out of the method's own list, the others by premises of their own -/
theorem vx_hat {args : Array Value} {s : State} {L B : List Cond} (h1 : ∀ w ∈ L.filter goodWord, w.before args s = true) (h2 : ∀ w ∈ L.filter (fun w => !goodWord w), w ∈ B) (h3 : ∀ w ∈ B, w.before args s = true) : ∀ w ∈ L, w.before args s = true := by
  intro w hw
  by_cases g : goodWord w = true
  · exact h1 w (List.mem_filter.mpr ⟨hw, g⟩)
  · refine h3 w (h2 w (List.mem_filter.mpr ⟨hw, ?_⟩))
    show (!goodWord w) = true
    cases hgw : goodWord w
    · rfl
    · exact absurd hgw g
theorem vx_c {args : Array Value} {s : State} {w : Cond} {B : List Cond} (h : w.before args s = true) (t : ∀ w ∈ B, w.before args s = true) : ∀ w' ∈ w :: B, w'.before args s = true := fun w' h' => (List.mem_cons.mp h').elim (fun e => by rw [e]; exact h) (t w')
theorem vx_n {args : Array Value} {s : State} : ∀ w ∈ ([] : List Cond), w.before args s = true := fun _ h => nomatch h
theorem vx_own {args : Array Value} {s : State} {L : List Cond} (h1 : ∀ w ∈ L.filter vx_no, w.before args s = true)
    (hU : (Cond.isRef (.static Bundle.tN "UNASSIGNED_STACK" Bundle.steD)).before args s = true) (hN : (Cond.isRef (.static Bundle.tN "SUPPRESSED_SENTINEL" Bundle.listD)).before args s = true)
    (lU : (Cond.laysStatic Bundle.tN "UNASSIGNED_STACK" Bundle.steD).before args s = true) (lN : (Cond.laysStatic Bundle.tN "SUPPRESSED_SENTINEL" Bundle.listD).before args s = true) : ∀ w ∈ L, w.before args s = true := by
  intro w hw
  by_cases e1 : w = .isRef (.static Bundle.tN "UNASSIGNED_STACK" Bundle.steD)
  · rw [e1]; exact hU
  · by_cases e2 : w = .isRef (.static Bundle.tN "SUPPRESSED_SENTINEL" Bundle.listD)
    · rw [e2]; exact hN
    · by_cases e3 : w = .laysStatic Bundle.tN "UNASSIGNED_STACK" Bundle.steD
      · rw [e3]; exact lU
      · by_cases e4 : w = .laysStatic Bundle.tN "SUPPRESSED_SENTINEL" Bundle.listD
        · rw [e4]; exact lN
        · exact h1 w (List.mem_filter.mpr ⟨hw, by unfold vx_no; rw [decide_eq_true e1, decide_eq_true e2, decide_eq_true e3, decide_eq_true e4]; rfl⟩)
/-- where a static field lies, its class's statics cell in H -/
def vx_L (C n d : String) (A : Nat → Prop) (U : State) (H : Heap) : Prop := ∃ (c : ClassId) (k : Class) (i : Nat) (f : Field) (a : Nat) (cell : Cell), U.vm.findClass C = some c ∧ U.fieldFound? C n d = some (c, k, i, f) ∧ f.isStatic = true ∧ k.statics = some a ∧ H[a]? = some cell ∧ cell.vm.isStatics = true ∧ cell.cls = c ∧ f.slot < cell.slots.size ∧ k.staticTypes[f.slot]? = some f.type ∧ ¬ A a
theorem vx_L.moved {C n d : String} {A : Nat → Prop} {u U : State} {H : Heap} (hvm : u.vm.Alike U.vm) (h : vx_L C n d A u H) : vx_L C n d A U H := by
  obtain ⟨c, k, i, f, a, cell, h1, h2, h3, h4, h5, h6, h7, h8, h9, h10⟩ := h
  obtain ⟨k', hi', he⟩ := State.fieldFound?_setVm hvm h2
  exact ⟨c, k', i, f, a, cell, by rw [hvm.findClass]; exact h1, hi', h3, by rw [he]; exact h4, h5, h6, h7, h8, by rw [he]; exact h9, h10⟩
theorem vx_L.kept {C n d : String} {A : Nat → Prop} {U : State} {H H1 : Heap} (h : vx_L C n d A U H) (hq : ∀ a : Nat, a < H.size → ¬ A a → H1[a]? = H[a]?) : vx_L C n d A U H1 := by
  obtain ⟨c, k, i, f, a, cell, h1, h2, h3, h4, h5, h6, h7, h8, h9, h10⟩ := h
  exact ⟨c, k, i, f, a, cell, h1, h2, h3, h4, by rw [hq a (Array.getElem?_eq_some_iff.mp h5).1 h10]; exact h5, h6, h7, h8, h9, h10⟩
theorem vx_L.narrow {C n d : String} {A B : Nat → Prop} {U : State} {H : Heap} (h : vx_L C n d A U H) (hAB : ∀ q, B q → A q) : vx_L C n d B U H := by
  obtain ⟨c, k, i, f, a, cell, h1, h2, h3, h4, h5, h6, h7, h8, h9, h10⟩ := h
  exact ⟨c, k, i, f, a, cell, h1, h2, h3, h4, h5, h6, h7, h8, h9, fun z => h10 (hAB _ z)⟩
theorem vx_L.word {C n d : String} {A : Nat → Prop} {s : State} {args : Array Value} (h : vx_L C n d A s s.heap) : (Cond.laysStatic C n d).before args s = true := by
  obtain ⟨c, k, i, f, a, cell, h1, h2, h3, h4, h5, h6, h7, h8, h9, -⟩ := h
  show (Cond.laysStatic C n d).holds args s none s [] = true
  exact Cond.laysStatic_of h1 h2 h3 h4 h5 h6 h7 h8 h9
/-- .. and what it holds: null or some reference -/
def vx_Zq (C n d : String) (A : Nat → Prop) (U : State) (H : Heap) : Prop := va_Zq C n d A U H ∧ vx_L C n d A U H
theorem vx_Zq.moved {C n d : String} {A : Nat → Prop} {u U : State} {H : Heap} (hvm : u.vm.Alike U.vm) (h : vx_Zq C n d A u H) : vx_Zq C n d A U H := ⟨va_Zq.moved hvm h.1, vx_L.moved hvm h.2⟩
theorem vx_Zq.kept {C n d : String} {A : Nat → Prop} {U : State} {H H1 : Heap} (h : vx_Zq C n d A U H) (hq : ∀ a : Nat, a < H.size → ¬ A a → H1[a]? = H[a]?) : vx_Zq C n d A U H1 := ⟨va_Zq.kept h.1 hq, vx_L.kept h.2 hq⟩
theorem vx_Zq.narrow {C n d : String} {A B : Nat → Prop} {U : State} {H : Heap} (h : vx_Zq C n d A U H) (hAB : ∀ q, B q → A q) : vx_Zq C n d B U H := ⟨va_Zq.narrow h.1 hAB, vx_L.narrow h.2 hAB⟩
theorem vx_Zqof {args : Array Value} {s : State} {C n d : String} {A : Nat → Prop} (hl : (Cond.laysStatic C n d).before args s = true) (hini : (Cond.initialized C).before args s = true) (h : (Cond.isRef (.static C n d)).before args s = true) (hA : ∀ a : Nat, a < s.heap.size → ¬ A a) : vx_Zq C n d A s s.heap := by
  refine ⟨va_Zqof hl hini h hA, ?_⟩
  obtain ⟨c, k, i, f, a, cell, h1, h2, h3, h4, h5, h6, h7, h8, h9⟩ := Cond.laysStatic_spec hl
  exact ⟨c, k, i, f, a, cell, h1, h2, h3, h4, h5, h6, h7, h8, h9, hA a (Array.getElem?_eq_some_iff.mp h5).1⟩
theorem vx_isRef {C n d : String} {v : Value} {A : Nat → Prop} {s : State} {args : Array Value} (h : va_Z C n d v A s s.heap) (hv : v.isRef = true) : (Cond.isRef (.static C n d)).before args s = true := by
  obtain ⟨cf, kf, fi, f, a, cell, h1, h2, h3, h4, h5, h6, h7, -⟩ := h
  have he : (Term.static C n d).eval args s none [] s = some v := by
    simp [Term.eval, State.fieldNamed?, h1, h2, h4, h5, h6, h7]
  simp only [Cond.before, Cond.holds, Cond.value, he]
  cases v <;> simp_all [Value.isRef]
theorem vx_isRefq {C n d : String} {A : Nat → Prop} {s : State} {args : Array Value} (h : va_Zq C n d A s s.heap) : (Cond.isRef (.static C n d)).before args s = true := by
  rcases h with h | ⟨t, h⟩
  · exact vx_isRef h rfl
  · exact vx_isRef h rfl
/-- the same frame, seen from here: as if the method were called anew in this heap -/
theorem vx_rebase {T : State} (X : Stand p l e R s m args below meth c T locs cells slots) {R' : Room} (hf : R'.frames ≤ R.frames) (hl : R'.locals ≤ R.locals) (hc : cells + R'.cells ≤ R.cells) (hs : slots + R'.slots ≤ R.slots) :
    Stand p l e R' ((T.setVm s.vm).setFrames (.invoking m args :: below)) m args below meth c T [] 0 0 := by
  have htop : (T.setVm s.vm).topJava?.isSome := X.here.top
  have hF : ((T.setVm s.vm).setFrames (.invoking m args :: below)).frames = .invoking m args :: below := State.frames_setFrames _ (State.cur_lt_of_top htop)
  obtain ⟨g₀, hg0⟩ := Option.isSome_iff_exists.mp htop
  obtain ⟨r, hr⟩ := State.topJava?_eq_some.mp hg0
  have hl9 : e.platform.stackLimits (T.setVm s.vm).me = e.platform.stackLimits s.me := X.limits
  have hb9 : (T.setVm s.vm).me.stackBytes = s.me.stackBytes := X.bytes
  refine ⟨X.admits, X.cas, X.clock, hF, ?_, X.hears, X.method, X.code, X.here, X.tail, X.warmed, ?_, ?_, ?_⟩
  · have h := X.room
    have hU : ((T.setVm s.vm).setFrames (.invoking m args :: below)).localsInUse = s.localsInUse := by
      rw [State.localsInUse_invoking hF (meth := meth) (c := c) X.method X.code, State.localsInUse_invoking X.frames X.method X.code]
    simp only [State.hasRoom, Bool.and_eq_true, decide_eq_true_eq] at h ⊢
    obtain ⟨⟨⟨⟨h1, h2, h3, h4, h5, h6⟩, h7⟩, h8⟩, h9⟩ := h
    rw [X.frames, List.length_cons] at h2 h3
    have q1 := X.heapSize
    have q2 := X.used
    simp only [hF, hU, List.length_cons, State.stackLimits_setFrames, State.stackBytes_setFrames, hl9, hb9]
    refine ⟨⟨⟨⟨by omega, by omega, by omega, by omega, by omega, h6⟩, ?_⟩, ?_⟩, X.book⟩
    · show T.heap.size + R'.cells ≤ e.platform.maxCells
      omega
    · show T.slotsUsed + R'.slots ≤ e.platform.maxSlots
      omega
  · rw [State.stackLimits_setFrames]; rfl
  · rw [State.stackBytes_setFrames]; rfl
  · refine ⟨?_, Nat.le_refl _, Nat.le_refl _, ?_, ?_, fun a c9 h9 => ⟨c9, h9, rfl, rfl, fun _ _ => rfl⟩⟩
    · obtain ⟨t, ht, -⟩ := State.frames_cons hr
      show T.setVm s.vm = { ((T.setVm s.vm).setFrames (.invoking m args :: below)).setFrames (T.setVm s.vm).frames with heap := T.heap, slotsUsed := T.slotsUsed }
      rw [State.setFrames_setFrames, State.setFrames_self ht]
      rfl
    · show T.slotsUsed = T.slotsUsed + ((T.heap.toList.drop T.heap.size).map (·.slots.size)).sum
      rw [List.drop_eq_nil_of_le (Nat.le_of_eq Array.length_toList)]
      rfl
    · show ((T.heap.toList.drop T.heap.size).map (·.slots.size)).sum ≤ 0
      rw [List.drop_eq_nil_of_le (Nat.le_of_eq Array.length_toList)]
      exact Nat.le_refl _
/-- 'throw new E()': new; dup; invokespecial; athrow -/
theorem vx_throw0 {cc : ByteArray} {pc : Nat} (hexec : p.tables.exec = Jvm.exec) (hb : c.code = cc) (hl : l.stackTraces = false) {own cls : String} {names : List String} {ik ic mc ms : Nat} {A : Nat → Prop}
    (hown : s.vm.findClass own = some m.cls) (hcls : Bundle.fit cls = true) (hnames : ∀ n ∈ names, Bundle.fit n = true)
    (hk : (Cond.classLink own ik cls).before args s = true) (hini : (Cond.initialized cls).before args s = true) (hat : ∀ w ∈ vx_at0 own ic cls names, w.before args s = true)
    (hgood : ∀ w ∈ Cond.classLink own ik cls :: Cond.initialized cls :: vx_at0 own ic cls names, vx_ot w = true)
    (hU : vx_Zq Bundle.tN "UNASSIGNED_STACK" Bundle.steD A s s.heap) (hN : vx_Zq Bundle.tN "SUPPRESSED_SENTINEL" Bundle.listD A s s.heap) (hS : va_S A s.heap H locs) (hsize : ls.size = c.maxLocals)
    (d0 : decode cc pc = .ok (.new ik, 3)) (d3 : decode cc (pc + 3) = .ok (.dup, 1)) (d4 : decode cc (pc + 4) = .ok (.invokespecial ic, 3)) (d7 : decode cc (pc + 7) = .ok (.athrow, 1))
    (hout : ∀ x ∈ c.exceptionTable.toList, covers x (pc + 7) = false)
    (hRframes : names.length + 3 < R.frames) (hRlocals : (rest.map fun v => v.category).sum + (13 * (names.length + 1) + 42) ≤ R.locals) (hRcells : cells + 1 ≤ R.cells) (hRslots : slots + 6 ≤ R.slots) (hlocks : meth.locks = false)
    (hx : ∀ t : State, s.vm.Alike t.vm → H.size ≤ t.heap.size → (∀ q : Nat, q < H.size → t.heap[q]? = H[q]?) → XC cls s t)
    (hf : ∀ z ∈ locs, free z.base) (hc : cells + 1 ≤ mc) (hs : slots + 6 ≤ ms) :
    W p l e R s m args below meth c H locs cells slots (vx_MQ below Qc XC args s mc ms free) (F0 m pc ls rest) := by
  intro T hT X
  have htr : e.platform.stackTraces = false := (show e.platform.stackTraces = l.stackTraces by rw [X.admits.platform]).trans hl
  have Y := vx_rebase X (R' := { frames := R.frames, locals := R.locals, cells := 1, slots := 6 }) (Nat.le_refl _) (Nat.le_refl _) hRcells hRslots
  obtain ⟨s', hA⟩ : ∃ z, z = (T.setVm s.vm).setFrames (.invoking m args :: below) := ⟨_, rfl⟩
  rw [← hA] at Y
  have hvm : s'.vm = s.vm := by rw [hA]; rfl
  have hhp : s'.heap = H := by rw [hA]; exact hT
  have hW0 : s.WarmedH s'.vm := by rw [hvm]; exact State.WarmedH.refl s
  have hat' : ∀ w ∈ vx_at0 own ic cls names, w.before args s' = true := fun w hw => vx_ot_at hW0 hvm.symm (hgood w (List.mem_cons_of_mem _ (List.mem_cons_of_mem _ hw))) (hat w hw)
  have hk' : (Cond.classLink own ik cls).before args s' = true := vx_ot_at hW0 hvm.symm (hgood _ List.mem_cons_self) hk
  have hini' : (Cond.initialized cls).before args s' = true := vx_ot_at hW0 hvm.symm (hgood _ (List.mem_cons_of_mem _ List.mem_cons_self)) hini
  have hU' : vx_Zq Bundle.tN "UNASSIGNED_STACK" Bundle.steD A s' s'.heap := by rw [hhp]; exact vx_Zq.moved hW0.alike (hU.kept hS.2.1)
  have hN' : vx_Zq Bundle.tN "SUPPRESSED_SENTINEL" Bundle.listD A s' s'.heap := by rw [hhp]; exact vx_Zq.moved hW0.alike (hN.kept hS.2.1)
  have h : ∀ w ∈ Bundle.ownAtoms0 own ic cls names, w.before args s' = true := vx_own hat' (vx_isRefq hU'.1) (vx_isRefq hN'.1) hU'.2.word hN'.2.word
  have hown' : s'.vm.findClass own = some m.cls := by rw [hvm]; exact hown
  have hins : (Cond.instantiable cls 6).before args s' = true := h _ (by simp [Bundle.ownAtoms0])
  obtain ⟨vm₁, cX, kX, hfX, hkX, -, -, X₁, st1⟩ := Y.newCold hexec (own := own) (C := cls) (index := ik) (n := 6) hown' hk' hins hini'
    (g := F0 m pc ls rest) rfl (by rw [hb]; exact d0) (Nat.le_refl _) (Nat.le_refl _)
  generalize hT1 : (T.setVm vm₁).pushCell { cls := cX, slots := kX.instanceTypes.map defaultValue, vm := .none } = T1 at X₁ st1
  have hcat : (Value.ref T.heap.size).category = 1 := rfl
  have hcellA : T1.heap[T.heap.size]? = some (freshCell cX kX) := by rw [← hT1]; exact State.heap_pushCell_size _ _
  have d3' : decode c.code (pc + 3) = .ok (.dup, 1) := by rw [hb]; exact d3
  obtain ⟨U, hsteps, hrun, hend, hW, hsame, ce, hce, hO⟩ := X₁.ctorThrow0 hexec htr (own := own) (cls := cls) (names := names) (ic := ic) hown' hcls hnames h (fun x hx => nomatch hx) hfX hkX hcellA (by rw [hhp, hT]; exact Nat.le_refl _)
    (g := { method := m, pc := pc + 4, locals := ls, stack := .ref T.heap.size :: .ref T.heap.size :: rest, locked := none }) rfl hsize rfl rfl (rest := rest) rfl
    (by rw [hb]; exact d4) (by rw [hb]; exact d7) hout hRframes (by simp only [List.map_cons, List.sum_cons, hcat]; omega) hlocks
  obtain ⟨f1, f2⟩ := vx_frame hsame
  rw [hhp] at f1 f2
  have hWs : s.WarmedH U.vm := State.WarmedH.trans hW0 hW
  have hcl : s.vm.findClass cls = some ce.cls := by
    have h9 := hO.cls
    rw [hvm] at h9
    exact h9
  have hall : s.sameButNew ({ U with vm := s.vm } : State) locs mc ms := by
    subst hA
    obtain ⟨e1, e2⟩ := hsame
    rw [State.setFrames_setFrames] at e1
    have h2 : (T.setVm s.vm).sameButNew ({ U with vm := s.vm } : State) [] (0 + 1) (0 + 6) := ⟨e1, e2⟩
    have h3 := X.same.trans h2
    rw [List.append_nil] at h3
    exact h3.mono hc hs
  refine ⟨U, ?_, .threw T.heap.size, hrun, hend, Or.inr ⟨T.heap.size, rfl, cls, ce, locs, hx U hWs.alike f1 (fun q hq => f2 q hq (fun z hz => nomatch hz)), hce, hO.vm, hcl, hWs, hall, hf⟩⟩
  refine st1 _ ?_
  show Steps p.tables e below (T1.setTop { method := m, pc := pc + 3, locals := ls, stack := .ref T.heap.size :: rest, locked := none }) _
  jvm_step X₁.here [X₁.here.top, hexec, d3', Value.category]
  exact hsteps
/-- 'throw new E("text")': new; dup; ldc; invokespecial; athrow -/
theorem vx_throwS {cc : ByteArray} {pc : Nat} (hexec : p.tables.exec = Jvm.exec) (hb : c.code = cc) (hl : l.stackTraces = false) {own cls text : String} {names : List String} {ik is ic mc ms sa : Nat} {A : Nat → Prop}
    (hown : s.vm.findClass own = some m.cls) (hcls : Bundle.fit cls = true) (hnames : ∀ n ∈ names, Bundle.fit n = true)
    (hk : (Cond.classLink own ik cls).before args s = true) (hini : (Cond.initialized cls).before args s = true) (hstr : vk_R own is text sa s) (hat : ∀ w ∈ vx_atS own ic cls names, w.before args s = true)
    (hgood : ∀ w ∈ Cond.classLink own ik cls :: Cond.initialized cls :: vx_atS own ic cls names, vx_ot w = true)
    (hU : vx_Zq Bundle.tN "UNASSIGNED_STACK" Bundle.steD A s s.heap) (hN : vx_Zq Bundle.tN "SUPPRESSED_SENTINEL" Bundle.listD A s s.heap) (hS : va_S A s.heap H locs) (hsize : ls.size = c.maxLocals)
    (d0 : decode cc pc = .ok (.new ik, 3)) (d3 : decode cc (pc + 3) = .ok (.dup, 1)) (d4 : decode cc (pc + 4) = .ok (.ldc is, 2)) (d6 : decode cc (pc + 6) = .ok (.invokespecial ic, 3)) (d9 : decode cc (pc + 9) = .ok (.athrow, 1))
    (hout : ∀ x ∈ c.exceptionTable.toList, covers x (pc + 9) = false)
    (hRframes : names.length + 3 < R.frames) (hRlocals : (rest.map fun v => v.category).sum + (13 * (names.length + 1) + 43) ≤ R.locals) (hRcells : cells + 1 ≤ R.cells) (hRslots : slots + 6 ≤ R.slots) (hlocks : meth.locks = false)
    (hx : ∀ t : State, s.vm.Alike t.vm → H.size ≤ t.heap.size → (∀ q : Nat, q < H.size → t.heap[q]? = H[q]?) → XC cls s t)
    (hf : ∀ z ∈ locs, free z.base) (hc : cells + 1 ≤ mc) (hs : slots + 6 ≤ ms) :
    W p l e R s m args below meth c H locs cells slots (vx_MQ below Qc XC args s mc ms free) (F0 m pc ls rest) := by
  intro T hT X
  have htr : e.platform.stackTraces = false := (show e.platform.stackTraces = l.stackTraces by rw [X.admits.platform]).trans hl
  have Y := vx_rebase X (R' := { frames := R.frames, locals := R.locals, cells := 1, slots := 6 }) (Nat.le_refl _) (Nat.le_refl _) hRcells hRslots
  obtain ⟨s', hA⟩ : ∃ z, z = (T.setVm s.vm).setFrames (.invoking m args :: below) := ⟨_, rfl⟩
  rw [← hA] at Y
  have hvm : s'.vm = s.vm := by rw [hA]; rfl
  have hhp : s'.heap = H := by rw [hA]; exact hT
  have hW0 : s.WarmedH s'.vm := by rw [hvm]; exact State.WarmedH.refl s
  have hat' : ∀ w ∈ vx_atS own ic cls names, w.before args s' = true := fun w hw => vx_ot_at hW0 hvm.symm (hgood w (List.mem_cons_of_mem _ (List.mem_cons_of_mem _ hw))) (hat w hw)
  have hk' : (Cond.classLink own ik cls).before args s' = true := vx_ot_at hW0 hvm.symm (hgood _ List.mem_cons_self) hk
  have hini' : (Cond.initialized cls).before args s' = true := vx_ot_at hW0 hvm.symm (hgood _ (List.mem_cons_of_mem _ List.mem_cons_self)) hini
  have hU' : vx_Zq Bundle.tN "UNASSIGNED_STACK" Bundle.steD A s' s'.heap := by rw [hhp]; exact vx_Zq.moved hW0.alike (hU.kept hS.2.1)
  have hN' : vx_Zq Bundle.tN "SUPPRESSED_SENTINEL" Bundle.listD A s' s'.heap := by rw [hhp]; exact vx_Zq.moved hW0.alike (hN.kept hS.2.1)
  have h : ∀ w ∈ Bundle.ownAtoms own ic cls names, w.before args s' = true := vx_own hat' (vx_isRefq hU'.1) (vx_isRefq hN'.1) hU'.2.word hN'.2.word
  have hown' : s'.vm.findClass own = some m.cls := by rw [hvm]; exact hown
  have hins : (Cond.instantiable cls 6).before args s' = true := h _ (by simp [Bundle.ownAtoms])
  obtain ⟨vm₁, cX, kX, hfX, hkX, -, -, X₁, st1⟩ := Y.newCold hexec (own := own) (C := cls) (index := ik) (n := 6) hown' hk' hins hini'
    (g := F0 m pc ls rest) rfl (by rw [hb]; exact d0) (Nat.le_refl _) (Nat.le_refl _)
  generalize hT1 : (T.setVm vm₁).pushCell { cls := cX, slots := kX.instanceTypes.map defaultValue, vm := .none } = T1 at X₁ st1
  have hcat : (Value.ref T.heap.size).category = 1 := rfl
  have hcellA : T1.heap[T.heap.size]? = some (freshCell cX kX) := by rw [← hT1]; exact State.heap_pushCell_size _ _
  have d3' : decode c.code (pc + 3) = .ok (.dup, 1) := by rw [hb]; exact d3
  have d4' : decode c.code (pc + 4) = .ok (.ldc is, 2) := by rw [hb]; exact d4
  have hstr' : vk_R own is text sa s' := vk_R.warm hW0 hstr
  obtain ⟨U, hsteps, hrun, hend, hW, hsame, ce, hce, hO⟩ := X₁.ctorThrowS hexec htr (own := own) (cls := cls) (names := names) (ic := ic) hown' hcls hnames h (fun x hx => nomatch hx) hfX hkX hcellA (by rw [hhp, hT]; exact Nat.le_refl _) (msg := .ref sa) rfl
    (g := { method := m, pc := pc + 6, locals := ls, stack := .ref sa :: .ref T.heap.size :: .ref T.heap.size :: rest, locked := none }) rfl hsize rfl rfl (rest := rest) rfl
    (by rw [hb]; exact d6) (by rw [hb]; exact d9) hout hRframes (by simp only [List.map_cons, List.sum_cons, hcat]; omega) hlocks
  obtain ⟨f1, f2⟩ := vx_frame hsame
  rw [hhp] at f1 f2
  have hWs : s.WarmedH U.vm := State.WarmedH.trans hW0 hW
  have hcl : s.vm.findClass cls = some ce.cls := by
    have h9 := hO.cls
    rw [hvm] at h9
    exact h9
  have hall : s.sameButNew ({ U with vm := s.vm } : State) locs mc ms := by
    subst hA
    obtain ⟨e1, e2⟩ := hsame
    rw [State.setFrames_setFrames] at e1
    have h2 : (T.setVm s.vm).sameButNew ({ U with vm := s.vm } : State) [] (0 + 1) (0 + 6) := ⟨e1, e2⟩
    have h3 := X.same.trans h2
    rw [List.append_nil] at h3
    exact h3.mono hc hs
  refine ⟨U, ?_, .threw T.heap.size, hrun, hend, Or.inr ⟨T.heap.size, rfl, cls, ce, locs, hx U hWs.alike f1 (fun q hq => f2 q hq (fun z hz => nomatch hz)), hce, hO.vm, hcl, hWs, hall, hf⟩⟩
  refine st1 _ ?_
  show Steps p.tables e below (T1.setTop { method := m, pc := pc + 3, locals := ls, stack := .ref T.heap.size :: rest, locked := none }) _
  jvm_step X₁.here [X₁.here.top, hexec, d3', Value.category]
  exact X₁.ldcString hexec (own := own) (text := text) (index := is) (a := sa) hown' hstr'.1 hstr'.2
    (g := { method := m, pc := pc + 4, locals := ls, stack := .ref T.heap.size :: .ref T.heap.size :: rest, locked := none }) rfl d4' _ hsteps
/-- 'throw new E("text")', the text by a wide index -/
theorem vx_throwSW {cc : ByteArray} {pc : Nat} (hexec : p.tables.exec = Jvm.exec) (hb : c.code = cc) (hl : l.stackTraces = false) {own cls text : String} {names : List String} {ik is ic mc ms sa : Nat} {A : Nat → Prop}
    (hown : s.vm.findClass own = some m.cls) (hcls : Bundle.fit cls = true) (hnames : ∀ n ∈ names, Bundle.fit n = true)
    (hk : (Cond.classLink own ik cls).before args s = true) (hini : (Cond.initialized cls).before args s = true) (hstr : vk_R own is text sa s) (hat : ∀ w ∈ vx_atS own ic cls names, w.before args s = true)
    (hgood : ∀ w ∈ Cond.classLink own ik cls :: Cond.initialized cls :: vx_atS own ic cls names, vx_ot w = true)
    (hU : vx_Zq Bundle.tN "UNASSIGNED_STACK" Bundle.steD A s s.heap) (hN : vx_Zq Bundle.tN "SUPPRESSED_SENTINEL" Bundle.listD A s s.heap) (hS : va_S A s.heap H locs) (hsize : ls.size = c.maxLocals)
    (d0 : decode cc pc = .ok (.new ik, 3)) (d3 : decode cc (pc + 3) = .ok (.dup, 1)) (d4 : decode cc (pc + 4) = .ok (.ldc_w is, 3)) (d7 : decode cc (pc + 7) = .ok (.invokespecial ic, 3)) (d10 : decode cc (pc + 10) = .ok (.athrow, 1))
    (hout : ∀ x ∈ c.exceptionTable.toList, covers x (pc + 10) = false)
    (hRframes : names.length + 3 < R.frames) (hRlocals : (rest.map fun v => v.category).sum + (13 * (names.length + 1) + 43) ≤ R.locals) (hRcells : cells + 1 ≤ R.cells) (hRslots : slots + 6 ≤ R.slots) (hlocks : meth.locks = false)
    (hx : ∀ t : State, s.vm.Alike t.vm → H.size ≤ t.heap.size → (∀ q : Nat, q < H.size → t.heap[q]? = H[q]?) → XC cls s t)
    (hf : ∀ z ∈ locs, free z.base) (hc : cells + 1 ≤ mc) (hs : slots + 6 ≤ ms) :
    W p l e R s m args below meth c H locs cells slots (vx_MQ below Qc XC args s mc ms free) (F0 m pc ls rest) := by
  intro T hT X
  have htr : e.platform.stackTraces = false := (show e.platform.stackTraces = l.stackTraces by rw [X.admits.platform]).trans hl
  have Y := vx_rebase X (R' := { frames := R.frames, locals := R.locals, cells := 1, slots := 6 }) (Nat.le_refl _) (Nat.le_refl _) hRcells hRslots
  obtain ⟨s', hA⟩ : ∃ z, z = (T.setVm s.vm).setFrames (.invoking m args :: below) := ⟨_, rfl⟩
  rw [← hA] at Y
  have hvm : s'.vm = s.vm := by rw [hA]; rfl
  have hhp : s'.heap = H := by rw [hA]; exact hT
  have hW0 : s.WarmedH s'.vm := by rw [hvm]; exact State.WarmedH.refl s
  have hat' : ∀ w ∈ vx_atS own ic cls names, w.before args s' = true := fun w hw => vx_ot_at hW0 hvm.symm (hgood w (List.mem_cons_of_mem _ (List.mem_cons_of_mem _ hw))) (hat w hw)
  have hk' : (Cond.classLink own ik cls).before args s' = true := vx_ot_at hW0 hvm.symm (hgood _ List.mem_cons_self) hk
  have hini' : (Cond.initialized cls).before args s' = true := vx_ot_at hW0 hvm.symm (hgood _ (List.mem_cons_of_mem _ List.mem_cons_self)) hini
  have hU' : vx_Zq Bundle.tN "UNASSIGNED_STACK" Bundle.steD A s' s'.heap := by rw [hhp]; exact vx_Zq.moved hW0.alike (hU.kept hS.2.1)
  have hN' : vx_Zq Bundle.tN "SUPPRESSED_SENTINEL" Bundle.listD A s' s'.heap := by rw [hhp]; exact vx_Zq.moved hW0.alike (hN.kept hS.2.1)
  have h : ∀ w ∈ Bundle.ownAtoms own ic cls names, w.before args s' = true := vx_own hat' (vx_isRefq hU'.1) (vx_isRefq hN'.1) hU'.2.word hN'.2.word
  have hown' : s'.vm.findClass own = some m.cls := by rw [hvm]; exact hown
  have hins : (Cond.instantiable cls 6).before args s' = true := h _ (by simp [Bundle.ownAtoms])
  obtain ⟨vm₁, cX, kX, hfX, hkX, -, -, X₁, st1⟩ := Y.newCold hexec (own := own) (C := cls) (index := ik) (n := 6) hown' hk' hins hini'
    (g := F0 m pc ls rest) rfl (by rw [hb]; exact d0) (Nat.le_refl _) (Nat.le_refl _)
  generalize hT1 : (T.setVm vm₁).pushCell { cls := cX, slots := kX.instanceTypes.map defaultValue, vm := .none } = T1 at X₁ st1
  have hcat : (Value.ref T.heap.size).category = 1 := rfl
  have hcellA : T1.heap[T.heap.size]? = some (freshCell cX kX) := by rw [← hT1]; exact State.heap_pushCell_size _ _
  have d3' : decode c.code (pc + 3) = .ok (.dup, 1) := by rw [hb]; exact d3
  have d4' : decode c.code (pc + 4) = .ok (.ldc_w is, 3) := by rw [hb]; exact d4
  have hstr' : vk_R own is text sa s' := vk_R.warm hW0 hstr
  obtain ⟨U, hsteps, hrun, hend, hW, hsame, ce, hce, hO⟩ := X₁.ctorThrowS hexec htr (own := own) (cls := cls) (names := names) (ic := ic) hown' hcls hnames h (fun x hx => nomatch hx) hfX hkX hcellA (by rw [hhp, hT]; exact Nat.le_refl _) (msg := .ref sa) rfl
    (g := { method := m, pc := pc + 7, locals := ls, stack := .ref sa :: .ref T.heap.size :: .ref T.heap.size :: rest, locked := none }) rfl hsize rfl rfl (rest := rest) rfl
    (by rw [hb]; exact d7) (by rw [hb]; exact d10) hout hRframes (by simp only [List.map_cons, List.sum_cons, hcat]; omega) hlocks
  obtain ⟨f1, f2⟩ := vx_frame hsame
  rw [hhp] at f1 f2
  have hWs : s.WarmedH U.vm := State.WarmedH.trans hW0 hW
  have hcl : s.vm.findClass cls = some ce.cls := by
    have h9 := hO.cls
    rw [hvm] at h9
    exact h9
  have hall : s.sameButNew ({ U with vm := s.vm } : State) locs mc ms := by
    subst hA
    obtain ⟨e1, e2⟩ := hsame
    rw [State.setFrames_setFrames] at e1
    have h2 : (T.setVm s.vm).sameButNew ({ U with vm := s.vm } : State) [] (0 + 1) (0 + 6) := ⟨e1, e2⟩
    have h3 := X.same.trans h2
    rw [List.append_nil] at h3
    exact h3.mono hc hs
  refine ⟨U, ?_, .threw T.heap.size, hrun, hend, Or.inr ⟨T.heap.size, rfl, cls, ce, locs, hx U hWs.alike f1 (fun q hq => f2 q hq (fun z hz => nomatch hz)), hce, hO.vm, hcl, hWs, hall, hf⟩⟩
  refine st1 _ ?_
  show Steps p.tables e below (T1.setTop { method := m, pc := pc + 3, locals := ls, stack := .ref T.heap.size :: rest, locked := none }) _
  jvm_step X₁.here [X₁.here.top, hexec, d3', Value.category]
  exact X₁.ldcStringW hexec (own := own) (text := text) (index := is) (a := sa) hown' hstr'.1 hstr'.2
    (g := { method := m, pc := pc + 4, locals := ls, stack := .ref T.heap.size :: .ref T.heap.size :: rest, locked := none }) rfl d4' _ hsteps
end Ends
section Bodies
variable {l : Launch}
theorem vx_ofW {y : MethodName} {ws ws' : List Cond} {rm : Room} {Pc : Array Value → State → Prop} {Qc : Array Value → State → Outcome → State → Prop} {XC : String → State → State → Prop} {mc ms : Nat} {free : Addr → Prop} {cc : ByteArray} {maxL : Nat} {ret : Option FieldType}
    (hy : plainName y.cls = true) (hw : ws = Cond.code y cc maxL ret :: ws')
    (body : ∀ p e s m args below meth c s₁, BodyLoose p l y (headSpec ws rm) cc maxL ret e s m args below meth c s₁ → c.maxLocals = maxL → (∀ x ∈ c.exceptionTable.toList, False) → Pc args s →
      W p l e (headSpec ws rm).room s m args below meth c s.heap [] 0 0 (vx_MQ below Qc XC args s mc ms free) (entryFrame m args maxL)) : vx_Met l y ws rm Pc Qc XC mc ms free := by
  refine MetFree.of_bodyS (code := cc) (maxLocals := maxL) (ret := ret) hy ?_ ?_
  · intro args s m h hn
    obtain ⟨meth, c, h1, h2, h3, h4, h5, h6, -, -⟩ := Cond.code_spec hn (atoms_spec (ws := ws) h _ (by rw [hw]; exact List.mem_cons_self))
    exact ⟨meth, c, h1, h2, h3, h4, h5, h6⟩
  · intro p e s m args below meth c s₁ B hml hP _
    have hh0 : s₁.heap = s.heap := by rw [B.state]; rfl
    have ht : ∀ x ∈ c.exceptionTable.toList, False := by
      obtain ⟨meth9, c9, h1, h2, -, -, -, -, h7, -⟩ := Cond.code_spec B.named (atoms_spec (ws := ws) B.pre _ (by rw [hw]; exact List.mem_cons_self))
      cases Option.some.inj (h1.symm.trans B.method)
      cases Option.some.inj (h2.symm.trans (Stand.of_body B).code)
      intro x hx
      rw [Array.isEmpty_iff.mp h7] at hx
      cases hx
    obtain ⟨t, a1, o, b1, b2, b3⟩ := body p e s m args below meth c s₁ B hml ht hP s₁ hh0 (Stand.of_body B)
    exact ⟨t, o, a1, b1, b2, b3⟩
/-- the table of a body with handlers -/
theorem vx_table {p : Program} {x y : MethodName} {S : Spec} {cc bytes : ByteArray} {maxL maxL' : Nat} {ret ret' : Option FieldType} {e : Env} {s s₁ : State} {m : MethodId} {args : Array Value} {below : List Frame} {meth : Method} {c : Code} {hh : List (Nat × Nat × Nat × Nat)}
    (B : BodyLoose p l y S cc maxL ret e s m args below meth c s₁) (h : (Cond.codeWith y bytes maxL' ret' hh).before args s = true) : c.exceptionTable.toList = tableOf hh := by
  obtain ⟨m9, meth9, c9, hn9, h1, h2, -, -, h6, -⟩ := Cond.codeWith_spec h
  cases Option.some.inj (hn9.symm.trans B.named)
  cases Option.some.inj (h1.symm.trans B.method)
  cases Option.some.inj (h2.symm.trans (Stand.of_body B).code)
  rw [← h6, table_eq]
end Bodies
end VXA
/-! ===== END ===== -/
/-! ===== BEGIN a static call of a method with an exception table ===== -/
section VXS
variable {p : Program} {l : Launch} {e : Env} {R : Room} {s : State} {m : MethodId} {args : Array Value} {below : List Frame} {meth : Method} {c : Code} {T : State} {H : Heap} {locs : List Loc} {cells slots : Nat}
abbrev vx_CSW (R : Room) (s : State) (args : Array Value) (own : String) (index : Nat) (y : MethodName) (bytes : ByteArray) (maxL : Nat) (ret : Option FieldType) (hh : List (Nat × Nat × Nat × Nat)) (ws : List Cond) (rm : Room) (mc ms n : Nat) : Prop :=
  (rm.cells = mc ∧ rm.slots = ms ∧ rm.frames + 1 ≤ R.frames ∧ 8 + (maxL + 11) + rm.locals ≤ R.locals ∧ (∀ w ∈ ws, ∀ (a' : Array Value) (U : State), s.WarmedH U.vm → w.before a' U = true) ∧ Cond.codeWith y bytes maxL ret hh ∈ ws) ∧
  (Cond.codeWith y bytes maxL ret hh).before args s = true ∧ (Cond.initialized y.cls).before args s = true ∧ (y.cls ≠ "java/lang/invoke/MethodHandle" ∧ y.cls ≠ "java/lang/invoke/VarHandle") ∧
  (∀ sig, parseMethodDescriptor y.desc = some sig → n = sig.parameters.length) ∧ (Cond.methodLink own index y).before args s = true ∧ (Cond.static y).before args s = true
theorem vx_cwSW {own : String} {index maxL mc ms : Nat} {y : MethodName} {bytes : ByteArray} {ret : Option FieldType} {hh : List (Nat × Nat × Nat × Nat)} {Ts ws ws' : List Cond} {rm : Room} (n : Nat) (ht : ∀ w ∈ Ts, w.before args s = true) (hT : GoodIn Ts (va_wsS own index y ws)) (hw : ws = Cond.codeWith y bytes maxL ret hh :: ws') (hrc : rm.cells = mc) (hrs : rm.slots = ms)
    (hd : y.cls ≠ "java/lang/invoke/MethodHandle" ∧ y.cls ≠ "java/lang/invoke/VarHandle" ∧ (parseMethodDescriptor y.desc).map (fun d => d.parameters.length) = some n) (hR : rm.frames + 1 ≤ R.frames ∧ 8 + (maxL + 11) + rm.locals ≤ R.locals) :
    vx_CSW R s args own index y bytes maxL ret hh ws rm mc ms n := by
  have ok : ∀ w ∈ va_wsS own index y ws, w.before args s = true := fun w h => ht w (hT w h).1
  have hG : GoodIn Ts ws := fun w h => hT w (by unfold va_wsS; exact List.mem_append_right _ h)
  have hc : Cond.codeWith y bytes maxL ret hh ∈ ws := by rw [hw]; exact List.mem_cons_self
  refine ⟨⟨hrc, hrs, hR.1, hR.2, pay_in ht hG, hc⟩, ht _ (hG _ hc).1, ok _ (by simp [va_wsS]), ⟨hd.1, hd.2.1⟩, fun sig h => ?_, ok _ (by simp [va_wsS]), ok _ (by simp [va_wsS])⟩
  have h2 := hd.2.2
  rw [h] at h2
  exact (Option.some.inj h2).symm
theorem vx_callSW (X : Stand p l e R s m args below meth c T locs cells slots) (hexec : p.tables.exec = Jvm.exec) {own : String} {index : Nat} {y : MethodName} {bytes : ByteArray} {maxL : Nat} {ret : Option FieldType} {hh : List (Nat × Nat × Nat × Nat)}
    (hown : s.vm.findClass own = some m.cls) (hlink : (Cond.methodLink own index y).before args s = true) (hstat : (Cond.static y).before args s = true) (hinit : (Cond.initialized y.cls).before args s = true)
    (hcode : (Cond.codeWith y bytes maxL ret hh).before args s = true) (hy : y.cls ≠ "java/lang/invoke/MethodHandle" ∧ y.cls ≠ "java/lang/invoke/VarHandle")
    {W9 : Nat} {Pre : Pt → Array Value → Prop} {Post : Pt → Array Value → Option Value → Pt → Prop} (hK : Back l R p e below s args y 3 W9 Pre Post)
    {g : JFrame} (hg : g.method = m) (hsize : g.locals.size = c.maxLocals) {argsL rest : List Value} (hlen : ∀ sig, parseMethodDescriptor y.desc = some sig → argsL.length = sig.parameters.length)
    (hstack : g.stack = argsL.reverse ++ rest) (hW : 2 * g.monitorRoom + (rest.map fun v => v.category).sum ≤ W9) (hdg : decode c.code g.pc = .ok (.invokestatic index, 3))
    (hpre : ∀ vm₁, s.WarmedH vm₁ → Pre ⟨T.setVm vm₁, locs, cells, slots⟩ argsL.toArray) :
    ∃ (v : Option Value) (vm₁ : Vm) (B : Pt), s.WarmedH vm₁ ∧ Stand p l e R s m args below meth c B.U B.locs B.cells B.slots ∧ Post ⟨T.setVm vm₁, locs, cells, slots⟩ argsL.toArray v B ∧
      ∀ target, Steps p.tables e below (B.U.setTop { g with pc := g.pc + 3, stack := v.toList ++ rest }) target → Steps p.tables e below (T.setTop g) target := by
  obtain ⟨mk, methM, cM, hnamed, hmethM, -, -, -, -, -, -, hsigM⟩ := Cond.codeWith_spec hcode
  have hstatic : methM.isStatic = true := Cond.static_spec hnamed hmethM hstat
  obtain ⟨kP, hkP, -⟩ := className_of_methodNamed hnamed
  have hinitP : kP.init = .initialized := Cond.initialized_spec (findClass_of_methodNamed hnamed) hkP hinit
  obtain ⟨vm₁, X₁, hstep₁⟩ := X.invokestatic hexec hown hlink hnamed hmethM hstatic hkP hinitP hy (g := g) hg (argsL := argsL) (rest := rest) (hlen _ hsigM) hstack hdg
  obtain ⟨v, B, X', hpost, hsteps⟩ := hK m meth c ⟨T.setVm vm₁, locs, cells, slots⟩ { g with stack := rest } (.invokestatic index) mk argsL.toArray X₁ hg hsize hdg hW (X₁.named hnamed) (hpre vm₁ X₁.warmed)
  exact ⟨v, vm₁, B, X₁.warmed, X', hpost, fun target h => hstep₁ _ fun acts => by rw [doInvoke_state]; exact hsteps.trans h⟩
theorem vx_runSW {y : MethodName} {bytes cc : ByteArray} {maxL nL mc ms n index : Nat} {ret : Option FieldType} {hh : List (Nat × Nat × Nat × Nat)} {ws : List Cond} {rm : Room} {Pc : Array Value → State → Prop} {Qc : Array Value → State → Outcome → State → Prop} {free : Addr → Prop} {Ts : List Cond} {own : String} {As rest : List Value} {g : JFrame}
    (S : CallFix p m c cc nL s args Ts own) (hM : Met l y ws rm Pc Qc mc ms free) (cw : vx_CSW R s args own index y bytes maxL ret hh ws rm mc ms n) (hp : PreS s H Pc As)
    (hg : g.method = m) (hn : As.length = n) (hsize : g.locals.size = nL) (hstack : g.stack = As.reverse ++ rest) (hW : 2 * g.monitorRoom + (rest.map fun v => v.category).sum ≤ 8) (hdg : decode cc g.pc = .ok (.invokestatic index, 3)) (hf : cells + mc ≤ R.cells ∧ slots + ms ≤ R.slots) :
    va_Run p l e R s m args below meth c H locs cells slots mc ms g rest (Qc As.toArray) (free) := by
  obtain ⟨⟨hrc, hrs, hfr, hlo, hws, hcw⟩, hcode, hini, hy, hlen, hl, hstt⟩ := cw
  have hK : Back l R p e below s args y 3 8 (PreOf R mc ms Pc) (PostOf Qc mc ms free) := va_backW (hh := hh) (bytes := bytes) (maxL := maxL) (ret := ret) hM hp.1 hrc hrs hfr hlo hws hcw (fun a' U hW => word_at hW (Or.inl (by first | rfl | simp [Cond.onTables, Cond.keeps, Cond.steady])) hini)
  obtain ⟨hx, hb, hml, ho, -⟩ := S
  intro T hT X
  obtain ⟨v, vm₁, ⟨U', l2, c2, s2⟩, hW₁, X', ⟨g', mk, t, L, e1, e2, hq, h1, hL, h2, h3⟩, st⟩ := vx_callSW X hx (hh := hh) (bytes := bytes) (maxL := maxL) (ret := ret) ho hl hstt hini hcode hy hK hg (hsize.trans hml.symm) (argsL := As) (rest := rest) (fun sig h => hn.trans (hlen sig h)) hstack hW (by rw [hb]; exact hdg)
    (fun vm₁ hW₁ => ⟨hf.1, hf.2, hp.2 (T.setVm vm₁) hT hW₁⟩)
  dsimp only [Pt.U, Pt.locs, Pt.cells, Pt.slots] at X' e1 e2 h1 h2 h3 st
  subst h1; subst h2; subst h3
  exact ⟨v, (T.setVm vm₁).calling g' mk As.toArray, t, U', L, hT, X', hL, e1, e2, hq, st⟩
/-- not caught here, past rows that name other classes: it goes on to the caller -/
theorem vx_outP {p : Program} {l : Launch} {e : Env} {R : Room} {s : State} {m : MethodId} {args : Array Value} {below : List Frame} {meth : Method} {c : Code} {H : Heap} {locs : List Loc} {cells slots : Nat} {free : Addr → Prop} {ls : Array Slot} {rest : List Value} {Qc : Array Value → State → Outcome → State → Prop} {XC : String → State → State → Prop}
    {pc : Nat} {own E : String} {ce : Cell} {q : Addr} {mc ms : Nat} (hown : s.vm.findClass own = some m.cls) (hlocks : meth.locks = false)
    (hpass : ∀ z ∈ c.exceptionTable.toList, covers z pc = false ∨ (z.catchType ≠ 0 ∧ ∃ nm : String, (Cond.classLink own z.catchType nm).before args s = true ∧ va_Nc E nm s)) (hcell : H[q]? = some ce) (hv : ce.vm = .none) (hcl : s.vm.findClass E = some ce.cls)
    (hx : ∀ t : State, t.heap = H → s.vm.Alike t.vm → XC E s t) (hf : ∀ z ∈ locs, free z.base) (hc : cells ≤ mc) (hs : slots ≤ ms) :
    vx_W p l e R s m args below meth c H locs cells slots (vx_MQ below Qc XC args s mc ms free) (F0 m pc ls rest) q := by
  intro T hT X
  have hpl : e.platform.magicAccessors = ({} : Platform).magicAccessors := by rw [X.admits.platform]
  obtain ⟨vm', hW', X', st⟩ := X.outThrough hlocks q (g := F0 m pc ls rest) rfl rfl rfl (cell := ce) (by rw [hT]; exact hcell) (by rw [hv]; rfl)
    (by obtain ⟨k9, h9, -⟩ := Vm.findClass_spec hcl; exact ⟨k9, h9⟩) (fun z hz => by
      rcases hpass z hz with h | ⟨hz0, nm, hl1, hn1⟩
      · exact Or.inl h
      · obtain ⟨c6, hc6, hcl6⟩ := Cond.classLink_spec hown hl1 e.platform hpl
        obtain ⟨a8, b8, h1, h2, h3⟩ := hn1
        cases Option.some.inj (h1.symm.trans hcl)
        cases Option.some.inj (h2.symm.trans hc6)
        exact Or.inr ⟨hz0, _, hcl6, h3⟩)
  obtain ⟨g₀, hfr⟩ := X'.frames_eq
  have hcell9 : ((T.setVm vm').setFrames (.throwing q :: below)).heap[q]? = some ce := by
    show T.heap[q]? = some ce
    rw [hT]; exact hcell
  have hend : Ended ((T.setVm vm').setFrames (.throwing q :: below)) below (.threw q) := State.frames_setFrames _ (State.cur_lt_of_frames hfr)
  refine ⟨(T.setVm vm').setFrames (.throwing q :: below), ?_, .threw q, X'.here.running, hend, Or.inr ⟨q, rfl, E, ce, locs, hx _ hT (X'.ends _).1.alike, hcell9, hv, hcl, (X'.ends _).1, (X'.ends _).2.mono hc hs, hf⟩⟩
  rw [X.pushThrowing_eq]
  exact st
/-- a thing of a world lies in the heap -/
theorem vx_lt {D : va_G} {cl : List vw_C} {ws : va_W} {H1 : Heap} (h : va_P D cl ws H1) {k : Nat} {q : Nat × va_E} (hk : ws[k]? = some q) : q.1 < H1.size := (h k q hk).lt
end VXS
/-! ===== END ===== -/
/-! ===== BEGIN methods with a table of their own: called by a name, returning or throwing ===== -/
section VXH
/-! vx_backW, vx_callVX, vx_callSX, vx_callVW, vx_runVW, vx_runVX, vx_runSX, vx_ofWH follow the same proofs as their sisters above (Free/Laws.lean, Shelf42/LK1.lean); vx_outP calls Shelf42/NT130.lean (outThrough). -/
section
variable {l : Launch} {R : Room} {p : Program} {e : Env} {below : List Frame} {s : State} {sargs : Array Value} {y : MethodName} {len W9 : Nat}
theorem vx_backW {ws : List Cond} {rm : Room} {Pc : Array Value → State → Prop} {Qc : Array Value → State → Outcome → State → Prop} {XC : String → State → State → Prop} {mc ms : Nat} {free : Addr → Prop} {bytes : ByteArray} {maxL : Nat} {ret : Option FieldType} {hh : List (Nat × Nat × Nat × Nat)}
    (hM : vx_Met l y ws rm Pc Qc XC mc ms free) (hblind : FrameBlind Pc) (hrc : rm.cells = mc) (hrs : rm.slots = ms)
    (hframes : rm.frames + 1 ≤ R.frames) (hlocals : W9 + (maxL + 11) + rm.locals ≤ R.locals)
    (hws : ∀ w ∈ ws, ∀ a' U, s.WarmedH U.vm → w.before a' U = true) (hcode : Cond.codeWith y bytes maxL ret hh ∈ ws) (hinit : ∀ a' U, s.WarmedH U.vm → (Cond.initialized y.cls).before a' U = true) :
    vx_Back l R p e below s sargs y len W9 (PreOf R mc ms Pc) (PostOf Qc mc ms free) (vx_Post XC mc ms free) := by
  intro m meth c A g ig mk a X hg hsize hdg hW hn hp
  have h1 : (headSpec ws rm).pre.before a A.U = true := atoms_intro fun w hw => hws w hw _ _ X.warmed
  have h2 : (Cond.codeWith y bytes maxL ret hh).before a A.U = true := hws _ hcode _ _ X.warmed
  have h3 : (Cond.initialized y.cls).before a A.U = true := hinit _ _ X.warmed
  have h4 : A.cells + (headSpec ws rm).room.cells ≤ R.cells := by rw [show (headSpec ws rm).room.cells = mc from hrc]; exact hp.1
  have h5 : A.slots + (headSpec ws rm).room.slots ≤ R.slots := by rw [show (headSpec ws rm).room.slots = ms from hrs]; exact hp.2.1
  have hPc : Pc a (A.U.calling g mk a) := hblind _ _ _ _ hp.2.2
  obtain ⟨U, Ls, c0, s0⟩ := A
  dsimp only [Pt.U, Pt.locs, Pt.cells, Pt.slots] at h1 h2 h3 h4 h5 X hn hPc ⊢
  obtain ⟨m9, methY, cY, hn9, hmY, hcY, -, hlY, -⟩ := Cond.codeWith_spec h2
  cases Option.some.inj (hn9.symm.trans hn)
  obtain ⟨kY, hkY, -⟩ := className_of_methodNamed hn
  have hinitY : kY.init = .initialized := Cond.initialized_spec (findClass_of_methodNamed hn) hkY h3
  have h : At U g.method c below := by rw [hg]; exact X.here
  have hlocals9 : W9 + (maxL + 11) + (headSpec ws rm).room.locals ≤ R.locals := hlocals
  have happ : (headSpec ws rm).appliesLoose y e.platform (U.calling g mk a) = true :=
    Spec.appliesLoose_calling (g := g) h hdg hn hkY hinitY
      (X.room_calling (g := g) (R' := (headSpec ws rm).room) hsize hmY hcY hframes (by rw [hlY]; omega) h4 h5) h1
  obtain ⟨mid, hmid⟩ := h.above
  have hfr : (U.setTop g).frames = (.java g :: mid) ++ below := by rw [State.frames_setTop' g h.top, hmid]; rfl
  obtain ⟨o, s₂, hsteps, -, hend, hq⟩ := Steps.callFree hM p X.admits X.cas X.clock (acts := []) hfr happ hPc trivial
  have hq' : vx_Q Qc XC mc ms free a (U.calling g mk a) o s₂ := hq
  rw [State.frames_setTop' g h.top] at hend
  obtain ⟨g₀, hg0⟩ := Option.isSome_iff_exists.mp h.top
  obtain ⟨r, hr⟩ := State.topJava?_eq_some.mp hg0
  have hr' : (({ U with heap := s₂.heap, slotsUsed := s₂.slotsUsed } : State).setVm s₂.vm).frames = .java g₀ :: r := hr
  rcases hq' with ⟨hqc, L, hfe, hL⟩ | ⟨q, rfl, E, ce, L, hx, hce, hcv, hcl, hW₂, hsm, hL⟩
  · obtain ⟨⟨v, rfl⟩, hW₂, e2, q2, q3, q4, q5, q6⟩ := id hfe
    have e3 : s₂ = ({ (U.calling g mk a).setFrames s₂.frames with heap := s₂.heap, slotsUsed := s₂.slotsUsed } : State).setVm s₂.vm := by
      have : s₂ = ({ s₂ with vm := (U.calling g mk a).vm } : State).setVm s₂.vm := rfl
      rw [e2] at this
      exact this
    obtain ⟨c₂, i₂, len₂, hc₂, hd₂, hf₂⟩ := hend
    have hW' : U.WarmedH s₂.vm := hW₂
    have hcc : c₂ = c := by
      have h1 : s₂.code? g.method = U.code? g.method := by
        rw [State.code?_eq, State.code?_eq, hW'.alike.method?]
      exact Option.some.inj (hc₂.symm.trans (h1.trans h.code))
    subst hcc
    have hlen : len₂ = len := by rw [hdg] at hd₂; cases hd₂; rfl
    subst hlen
    have hs₂ : s₂ = (({ U with heap := s₂.heap, slotsUsed := s₂.slotsUsed } : State).setVm s₂.vm).setTop { g with pc := g.pc + len₂, stack := v.toList ++ g.stack } := by
      refine e3.trans ?_
      rw [hf₂, State.calling_eq h.top, State.setFrames_setFrames, State.setTop_of_frames _ hr', hr]
      rfl
    have hsame : U.sameButNew ({ U with heap := s₂.heap, slotsUsed := s₂.slotsUsed } : State) L mc ms := by
      refine ⟨?_, q2, q3, q4, q5, q6⟩
      obtain ⟨t, ht, -⟩ := State.frames_cons hr
      show ({ U with heap := s₂.heap, slotsUsed := s₂.slotsUsed } : State) = { U.setFrames U.frames with heap := s₂.heap, slotsUsed := s₂.slotsUsed }
      rw [State.setFrames_self ht]
    subst hg
    refine Or.inl ⟨v, ⟨(({ U with heap := s₂.heap, slotsUsed := s₂.slotsUsed } : State).setVm s₂.vm), Ls ++ L, c0 + mc, s0 + ms⟩,
      ⟨X.admits, X.cas, X.clock, X.frames, X.room, X.hears, X.method, X.code, (X.here.setHeapUsed s₂.heap s₂.slotsUsed).setVm hW'.alike, X.tail, State.WarmedH.trans X.warmed hW', X.limits, X.bytes, X.same.trans (hsame.setVm s.vm)⟩,
      ⟨g, mk, s₂, L, rfl, rfl, hqc, rfl, hL, rfl, rfl⟩, ?_⟩
    show Steps p.tables e below _ ((({ U with heap := s₂.heap, slotsUsed := s₂.slotsUsed } : State).setVm s₂.vm).setTop { g with pc := g.pc + len₂, stack := v.toList ++ g.stack })
    rw [← hs₂]
    exact hsteps
  · obtain ⟨e2, q2, q3, q4, q5, q6⟩ := id hsm
    have e3 : s₂ = ({ (U.calling g mk a).setFrames s₂.frames with heap := s₂.heap, slotsUsed := s₂.slotsUsed } : State).setVm s₂.vm := by
      have : s₂ = ({ s₂ with vm := (U.calling g mk a).vm } : State).setVm s₂.vm := rfl
      rw [e2] at this
      exact this
    have hf₂ : s₂.frames = .throwing q :: .java g :: U.frames.tail := hend
    have hW' : U.WarmedH s₂.vm := hW₂
    have hs₂ : s₂ = ((({ U with heap := s₂.heap, slotsUsed := s₂.slotsUsed } : State).setVm s₂.vm).setTop g).pushFrame (.throwing q) := by
      refine e3.trans ?_
      rw [hf₂, State.calling_eq h.top, State.setFrames_setFrames, State.pushFrame, State.frames_setTop _ hr', State.setTop_of_frames _ hr', State.setFrames_setFrames, hr]
      rfl
    have hsame : U.sameButNew ({ U with heap := s₂.heap, slotsUsed := s₂.slotsUsed } : State) L mc ms := by
      refine ⟨?_, q2, q3, q4, q5, q6⟩
      obtain ⟨t, ht, -⟩ := State.frames_cons hr
      show ({ U with heap := s₂.heap, slotsUsed := s₂.slotsUsed } : State) = { U.setFrames U.frames with heap := s₂.heap, slotsUsed := s₂.slotsUsed }
      rw [State.setFrames_self ht]
    subst hg
    refine Or.inr ⟨q, ⟨(({ U with heap := s₂.heap, slotsUsed := s₂.slotsUsed } : State).setVm s₂.vm), Ls ++ L, c0 + mc, s0 + ms⟩,
      ⟨X.admits, X.cas, X.clock, X.frames, X.room, X.hears, X.method, X.code, (X.here.setHeapUsed s₂.heap s₂.slotsUsed).setVm hW'.alike, X.tail, State.WarmedH.trans X.warmed hW', X.limits, X.bytes, X.same.trans (hsame.setVm s.vm)⟩,
      ⟨g, mk, s₂, L, E, ce, rfl, rfl, hx, hce, hcv, hcl, rfl, hL, rfl, rfl⟩, ?_⟩
    show Steps p.tables e below _ (((({ U with heap := s₂.heap, slotsUsed := s₂.slotsUsed } : State).setVm s₂.vm).setTop g).pushFrame (.throwing q))
    rw [← hs₂]
    exact hsteps
end
variable {p : Program} {l : Launch} {e : Env} {R : Room} {s : State} {m : MethodId} {args : Array Value} {below : List Frame} {meth : Method} {c : Code} {T : State} {H : Heap} {locs : List Loc} {cells slots : Nat}
theorem vx_callVX (X : Stand p l e R s m args below meth c T locs cells slots) (hexec : p.tables.exec = Jvm.exec) {own C : String} {index : Nat} {y : MethodName} {bytes : ByteArray} {maxL : Nat} {ret : Option FieldType} {hh : List (Nat × Nat × Nat × Nat)}
    (hown : s.vm.findClass own = some m.cls) (hlink : (Cond.methodLink own index y).before args s = true) (hinst : (Cond.instanceMethod y).before args s = true) (hsel : (Cond.selects C y y).before args s = true)
    (hcode : (Cond.codeWith y bytes maxL ret hh).before args s = true) (hy : y.cls ≠ "java/lang/invoke/MethodHandle" ∧ y.cls ≠ "java/lang/invoke/VarHandle")
    {W9 : Nat} {Pre : Pt → Array Value → Prop} {Post : Pt → Array Value → Option Value → Pt → Prop} {PostX : Pt → Array Value → Addr → Pt → Prop} (hK : vx_Back l R p e below s args y 3 W9 Pre Post PostX)
    {b : Addr} {cellB : Cell} (hcell : T.heap[b]? = some cellB) (hobj : cellB.vm.isStatics = false) (hcls : s.vm.findClass C = some cellB.cls)
    {g : JFrame} (hg : g.method = m) (hsize : g.locals.size = c.maxLocals) {argsL rest : List Value} (hlen : ∀ sig, parseMethodDescriptor y.desc = some sig → argsL.length = sig.parameters.length)
    (hstack : g.stack = argsL.reverse ++ .ref b :: rest) (hW : 2 * g.monitorRoom + (rest.map fun v => v.category).sum ≤ W9) (hdg : decode c.code g.pc = .ok (.invokevirtual index, 3))
    (hpre : ∀ vm₁, s.WarmedH vm₁ → Pre ⟨T.setVm vm₁, locs, cells, slots⟩ (Value.ref b :: argsL).toArray) :
    (∃ (v : Option Value) (vm₁ : Vm) (B : Pt), s.WarmedH vm₁ ∧ Stand p l e R s m args below meth c B.U B.locs B.cells B.slots ∧ Post ⟨T.setVm vm₁, locs, cells, slots⟩ (Value.ref b :: argsL).toArray v B ∧
      ∀ target, Steps p.tables e below (B.U.setTop { g with pc := g.pc + 3, stack := v.toList ++ rest }) target → Steps p.tables e below (T.setTop g) target) ∨
    (∃ (q : Addr) (vm₁ : Vm) (B : Pt), s.WarmedH vm₁ ∧ Stand p l e R s m args below meth c B.U B.locs B.cells B.slots ∧ PostX ⟨T.setVm vm₁, locs, cells, slots⟩ (Value.ref b :: argsL).toArray q B ∧
      Steps p.tables e below (T.setTop g) ((B.U.setTop { g with stack := rest }).pushFrame (.throwing q))) := by
  obtain ⟨mk, methM, hnamed, hmethM, hstM, habM⟩ := Cond.instanceMethod_spec hinst
  obtain ⟨m8, methM', cM, hn8, hmethM', -, -, -, -, -, -, hsigM⟩ := Cond.codeWith_spec hcode
  cases Option.some.inj (hn8.symm.trans hnamed)
  cases hmethM.symm.trans hmethM'
  obtain ⟨c2, r2, m2, q1, q2, q3, q4, kP, hkP, hkPi⟩ := Cond.selects_spec hsel
  cases hcls.symm.trans q1
  cases (State.methodFound?_of_named hnamed hy).symm.trans q2
  cases hnamed.symm.trans q3
  have hselP : selectMethod e.platform s.vm cellB.cls mk = .method mk := by rw [Launch.admits_selectMethod X.admits]; exact q4
  obtain ⟨vm₁, X₁, hstep₁⟩ := X.invokevirtual hexec hown hlink hnamed hmethM hstM hkP hkPi hy (a := b) (cell := cellB) hcell
    (fun z h => by rw [h] at hobj; cases hobj) hselP hmethM habM hkP hkPi (g := g) hg (argsL := argsL) (rest := rest) (hlen _ hsigM) hstack hdg
  rcases hK m meth c ⟨T.setVm vm₁, locs, cells, slots⟩ { g with stack := rest } (.invokevirtual index) mk (Value.ref b :: argsL).toArray X₁ hg hsize hdg hW (X₁.named hnamed) (hpre vm₁ X₁.warmed) with ⟨v, B, X', hpost, hsteps⟩ | ⟨q, B, X', hpost, hsteps⟩
  · exact Or.inl ⟨v, vm₁, B, X₁.warmed, X', hpost, fun target h => hstep₁ _ fun acts => by rw [doInvoke_state]; exact hsteps.trans h⟩
  · exact Or.inr ⟨q, vm₁, B, X₁.warmed, X', hpost, hstep₁ _ fun acts => by rw [doInvoke_state]; exact hsteps⟩
theorem vx_callSX (X : Stand p l e R s m args below meth c T locs cells slots) (hexec : p.tables.exec = Jvm.exec) {own : String} {index : Nat} {y : MethodName} {bytes : ByteArray} {maxL : Nat} {ret : Option FieldType} {hh : List (Nat × Nat × Nat × Nat)}
    (hown : s.vm.findClass own = some m.cls) (hlink : (Cond.methodLink own index y).before args s = true) (hstat : (Cond.static y).before args s = true) (hinit : (Cond.initialized y.cls).before args s = true)
    (hcode : (Cond.codeWith y bytes maxL ret hh).before args s = true) (hy : y.cls ≠ "java/lang/invoke/MethodHandle" ∧ y.cls ≠ "java/lang/invoke/VarHandle")
    {W9 : Nat} {Pre : Pt → Array Value → Prop} {Post : Pt → Array Value → Option Value → Pt → Prop} {PostX : Pt → Array Value → Addr → Pt → Prop} (hK : vx_Back l R p e below s args y 3 W9 Pre Post PostX)
    {g : JFrame} (hg : g.method = m) (hsize : g.locals.size = c.maxLocals) {argsL rest : List Value} (hlen : ∀ sig, parseMethodDescriptor y.desc = some sig → argsL.length = sig.parameters.length)
    (hstack : g.stack = argsL.reverse ++ rest) (hW : 2 * g.monitorRoom + (rest.map fun v => v.category).sum ≤ W9) (hdg : decode c.code g.pc = .ok (.invokestatic index, 3))
    (hpre : ∀ vm₁, s.WarmedH vm₁ → Pre ⟨T.setVm vm₁, locs, cells, slots⟩ argsL.toArray) :
    (∃ (v : Option Value) (vm₁ : Vm) (B : Pt), s.WarmedH vm₁ ∧ Stand p l e R s m args below meth c B.U B.locs B.cells B.slots ∧ Post ⟨T.setVm vm₁, locs, cells, slots⟩ argsL.toArray v B ∧
      ∀ target, Steps p.tables e below (B.U.setTop { g with pc := g.pc + 3, stack := v.toList ++ rest }) target → Steps p.tables e below (T.setTop g) target) ∨
    (∃ (q : Addr) (vm₁ : Vm) (B : Pt), s.WarmedH vm₁ ∧ Stand p l e R s m args below meth c B.U B.locs B.cells B.slots ∧ PostX ⟨T.setVm vm₁, locs, cells, slots⟩ argsL.toArray q B ∧
      Steps p.tables e below (T.setTop g) ((B.U.setTop { g with stack := rest }).pushFrame (.throwing q))) := by
  obtain ⟨mk, methM, cM, hnamed, hmethM, -, -, -, -, -, -, hsigM⟩ := Cond.codeWith_spec hcode
  have hstatic : methM.isStatic = true := Cond.static_spec hnamed hmethM hstat
  obtain ⟨kP, hkP, -⟩ := className_of_methodNamed hnamed
  have hinitP : kP.init = .initialized := Cond.initialized_spec (findClass_of_methodNamed hnamed) hkP hinit
  obtain ⟨vm₁, X₁, hstep₁⟩ := X.invokestatic hexec hown hlink hnamed hmethM hstatic hkP hinitP hy (g := g) hg (argsL := argsL) (rest := rest) (hlen _ hsigM) hstack hdg
  rcases hK m meth c ⟨T.setVm vm₁, locs, cells, slots⟩ { g with stack := rest } (.invokestatic index) mk argsL.toArray X₁ hg hsize hdg hW (X₁.named hnamed) (hpre vm₁ X₁.warmed) with ⟨v, B, X', hpost, hsteps⟩ | ⟨q, B, X', hpost, hsteps⟩
  · exact Or.inl ⟨v, vm₁, B, X₁.warmed, X', hpost, fun target h => hstep₁ _ fun acts => by rw [doInvoke_state]; exact hsteps.trans h⟩
  · exact Or.inr ⟨q, vm₁, B, X₁.warmed, X', hpost, hstep₁ _ fun acts => by rw [doInvoke_state]; exact hsteps⟩
theorem vx_callVW (X : Stand p l e R s m args below meth c T locs cells slots) (hexec : p.tables.exec = Jvm.exec) {own C : String} {index : Nat} {y : MethodName} {bytes : ByteArray} {maxL : Nat} {ret : Option FieldType} {hh : List (Nat × Nat × Nat × Nat)}
    (hown : s.vm.findClass own = some m.cls) (hlink : (Cond.methodLink own index y).before args s = true) (hinst : (Cond.instanceMethod y).before args s = true) (hsel : (Cond.selects C y y).before args s = true)
    (hcode : (Cond.codeWith y bytes maxL ret hh).before args s = true) (hy : y.cls ≠ "java/lang/invoke/MethodHandle" ∧ y.cls ≠ "java/lang/invoke/VarHandle")
    {W9 : Nat} {Pre : Pt → Array Value → Prop} {Post : Pt → Array Value → Option Value → Pt → Prop} (hK : Back l R p e below s args y 3 W9 Pre Post)
    {b : Addr} {cellB : Cell} (hcell : T.heap[b]? = some cellB) (hobj : cellB.vm.isStatics = false) (hcls : s.vm.findClass C = some cellB.cls)
    {g : JFrame} (hg : g.method = m) (hsize : g.locals.size = c.maxLocals) {argsL rest : List Value} (hlen : ∀ sig, parseMethodDescriptor y.desc = some sig → argsL.length = sig.parameters.length)
    (hstack : g.stack = argsL.reverse ++ .ref b :: rest) (hW : 2 * g.monitorRoom + (rest.map fun v => v.category).sum ≤ W9) (hdg : decode c.code g.pc = .ok (.invokevirtual index, 3))
    (hpre : ∀ vm₁, s.WarmedH vm₁ → Pre ⟨T.setVm vm₁, locs, cells, slots⟩ (Value.ref b :: argsL).toArray) :
    ∃ (v : Option Value) (vm₁ : Vm) (B : Pt), s.WarmedH vm₁ ∧ Stand p l e R s m args below meth c B.U B.locs B.cells B.slots ∧ Post ⟨T.setVm vm₁, locs, cells, slots⟩ (Value.ref b :: argsL).toArray v B ∧
      ∀ target, Steps p.tables e below (B.U.setTop { g with pc := g.pc + 3, stack := v.toList ++ rest }) target → Steps p.tables e below (T.setTop g) target := by
  obtain ⟨mk, methM, hnamed, hmethM, hstM, habM⟩ := Cond.instanceMethod_spec hinst
  obtain ⟨m8, methM', cM, hn8, hmethM', -, -, -, -, -, -, hsigM⟩ := Cond.codeWith_spec hcode
  cases Option.some.inj (hn8.symm.trans hnamed)
  cases hmethM.symm.trans hmethM'
  obtain ⟨c2, r2, m2, q1, q2, q3, q4, kP, hkP, hkPi⟩ := Cond.selects_spec hsel
  cases hcls.symm.trans q1
  cases (State.methodFound?_of_named hnamed hy).symm.trans q2
  cases hnamed.symm.trans q3
  have hselP : selectMethod e.platform s.vm cellB.cls mk = .method mk := by rw [Launch.admits_selectMethod X.admits]; exact q4
  obtain ⟨vm₁, X₁, hstep₁⟩ := X.invokevirtual hexec hown hlink hnamed hmethM hstM hkP hkPi hy (a := b) (cell := cellB) hcell
    (fun z h => by rw [h] at hobj; cases hobj) hselP hmethM habM hkP hkPi (g := g) hg (argsL := argsL) (rest := rest) (hlen _ hsigM) hstack hdg
  obtain ⟨v, B, X', hpost, hsteps⟩ := hK m meth c ⟨T.setVm vm₁, locs, cells, slots⟩ { g with stack := rest } (.invokevirtual index) mk (Value.ref b :: argsL).toArray X₁ hg hsize hdg hW (X₁.named hnamed) (hpre vm₁ X₁.warmed)
  exact ⟨v, vm₁, B, X₁.warmed, X', hpost, fun target h => hstep₁ _ fun acts => by rw [doInvoke_state]; exact hsteps.trans h⟩
abbrev vx_CVW (R : Room) (s : State) (args : Array Value) (own C : String) (index : Nat) (y : MethodName) (bytes : ByteArray) (maxL : Nat) (ret : Option FieldType) (hh : List (Nat × Nat × Nat × Nat)) (ws : List Cond) (rm : Room) (mc ms n : Nat) : Prop :=
  (rm.cells = mc ∧ rm.slots = ms ∧ rm.frames + 1 ≤ R.frames ∧ 8 + (maxL + 11) + rm.locals ≤ R.locals ∧ (∀ w ∈ ws, ∀ (a' : Array Value) (U : State), s.WarmedH U.vm → w.before a' U = true) ∧ Cond.codeWith y bytes maxL ret hh ∈ ws) ∧
  (Cond.codeWith y bytes maxL ret hh).before args s = true ∧ (Cond.initialized y.cls).before args s = true ∧ (y.cls ≠ "java/lang/invoke/MethodHandle" ∧ y.cls ≠ "java/lang/invoke/VarHandle") ∧
  (∀ sig, parseMethodDescriptor y.desc = some sig → n = sig.parameters.length) ∧ (Cond.methodLink own index y).before args s = true ∧ (Cond.instanceMethod y).before args s = true ∧ (Cond.selects C y y).before args s = true
theorem vx_cwVW {own C : String} {index maxL mc ms : Nat} {y : MethodName} {bytes : ByteArray} {ret : Option FieldType} {hh : List (Nat × Nat × Nat × Nat)} {Ts ws ws' : List Cond} {rm : Room} (n : Nat) (ht : ∀ w ∈ Ts, w.before args s = true) (hT : GoodIn Ts (wsV own index C y ws)) (hw : ws = Cond.codeWith y bytes maxL ret hh :: ws') (hrc : rm.cells = mc) (hrs : rm.slots = ms)
    (hd : y.cls = C ∧ y.cls ≠ "java/lang/invoke/MethodHandle" ∧ y.cls ≠ "java/lang/invoke/VarHandle" ∧ (parseMethodDescriptor y.desc).map (fun d => d.parameters.length) = some n) (hR : rm.frames + 1 ≤ R.frames ∧ 8 + (maxL + 11) + rm.locals ≤ R.locals) :
    vx_CVW R s args own C index y bytes maxL ret hh ws rm mc ms n := by
  obtain ⟨hC, hd⟩ := hd
  subst hC
  have ok : ∀ w ∈ wsV own index y.cls y ws, w.before args s = true := fun w h => ht w (hT w h).1
  have hG : GoodIn Ts ws := fun w h => hT w (by unfold wsV; exact List.mem_append_right _ h)
  have hc : Cond.codeWith y bytes maxL ret hh ∈ ws := by rw [hw]; exact List.mem_cons_self
  refine ⟨⟨hrc, hrs, hR.1, hR.2, pay_in ht hG, hc⟩, ht _ (hG _ hc).1, ok _ (by simp [wsV]), ⟨hd.1, hd.2.1⟩, fun sig h => ?_, ok _ (by simp [wsV]), ok _ (by simp [wsV]), ok _ (by simp [wsV])⟩
  have h2 := hd.2.2
  rw [h] at h2
  exact (Option.some.inj h2).symm
theorem vx_runVW {y : MethodName} {bytes cc : ByteArray} {maxL nL mc ms n index : Nat} {ret : Option FieldType} {hh : List (Nat × Nat × Nat × Nat)} {ws : List Cond} {rm : Room} {Pc : Array Value → State → Prop} {Qc : Array Value → State → Outcome → State → Prop} {free : Addr → Prop} {Ts : List Cond} {own C : String} {b : Addr} {As rest : List Value} {g : JFrame}
    (S : CallFix p m c cc nL s args Ts own) (hM : Met l y ws rm Pc Qc mc ms free) (cw : vx_CVW R s args own C index y bytes maxL ret hh ws rm mc ms n) (hp : PreV s H C b Pc As)
    (hg : g.method = m) (hn : As.length = n) (hsize : g.locals.size = nL) (hstack : g.stack = As.reverse ++ .ref b :: rest) (hW : 2 * g.monitorRoom + (rest.map fun v => v.category).sum ≤ 8) (hdg : decode cc g.pc = .ok (.invokevirtual index, 3)) (hf : cells + mc ≤ R.cells ∧ slots + ms ≤ R.slots) :
    va_Run p l e R s m args below meth c H locs cells slots mc ms g rest (Qc (Value.ref b :: As).toArray) free := by
  obtain ⟨⟨hrc, hrs, hfr, hlo, hws, hcw⟩, hcode, hini, hy, hlen, hl, hin, hse⟩ := cw
  have hK : Back l R p e below s args y 3 8 (PreOf R mc ms Pc) (PostOf Qc mc ms free) := va_backW (hh := hh) (bytes := bytes) (maxL := maxL) (ret := ret) hM hp.1 hrc hrs hfr hlo hws hcw (fun a' U hW => word_at hW (Or.inl (by first | rfl | simp [Cond.onTables, Cond.keeps, Cond.steady])) hini)
  obtain ⟨hx, hb, hml, ho, -⟩ := S
  obtain ⟨-, ⟨cellB, hcB, hoB, hclB⟩, hPc⟩ := hp
  intro T hT X
  obtain ⟨v, vm₁, ⟨U', l2, c2, s2⟩, hW₁, X', ⟨g', mk, t, L, e1, e2, hq, h1, hL, h2, h3⟩, st⟩ := vx_callVW X hx (C := C) (hh := hh) (bytes := bytes) (maxL := maxL) (ret := ret) ho hl hin hse hcode hy hK (by rw [hT]; exact hcB) hoB hclB hg (hsize.trans hml.symm) (argsL := As) (rest := rest) (fun sig h => hn.trans (hlen sig h)) hstack hW (by rw [hb]; exact hdg)
    (fun vm₁ hW₁ => ⟨hf.1, hf.2, hPc (T.setVm vm₁) hT hW₁⟩)
  dsimp only [Pt.U, Pt.locs, Pt.cells, Pt.slots] at X' e1 e2 h1 h2 h3 st
  subst h1; subst h2; subst h3
  exact ⟨v, (T.setVm vm₁).calling g' mk (Value.ref b :: As).toArray, t, U', L, hT, X', hL, e1, e2, hq, st⟩
section
variable {y : MethodName} {bytes cc : ByteArray} {maxL nL mc ms n index : Nat} {ret : Option FieldType} {ws : List Cond} {rm : Room} {Pc : Array Value → State → Prop} {Qc : Array Value → State → Outcome → State → Prop} {XC : String → State → State → Prop} {free : Addr → Prop} {Ts : List Cond} {own C : String} {b : Addr} {As rest : List Value} {g : JFrame}
theorem vx_runVX {hh : List (Nat × Nat × Nat × Nat)} (S : CallFix p m c cc nL s args Ts own) (hM : vx_Met l y ws rm Pc Qc XC mc ms free) (cw : vx_CVW R s args own C index y bytes maxL ret hh ws rm mc ms n) (hp : PreV s H C b Pc As)
    (hg : g.method = m) (hn : As.length = n) (hsize : g.locals.size = nL) (hstack : g.stack = As.reverse ++ .ref b :: rest) (hW : 2 * g.monitorRoom + (rest.map fun v => v.category).sum ≤ 8) (hdg : decode cc g.pc = .ok (.invokevirtual index, 3)) (hf : cells + mc ≤ R.cells ∧ slots + ms ≤ R.slots) :
    vx_Run p l e R s m args below meth c H locs cells slots mc ms g rest (Qc (Value.ref b :: As).toArray) XC free := by
  obtain ⟨⟨hrc, hrs, hfr, hlo, hws, hcw⟩, hcode, hini, hy, hlen, hl, hin, hse⟩ := cw
  have hK : vx_Back l R p e below s args y 3 8 (PreOf R mc ms Pc) (PostOf Qc mc ms free) (vx_Post XC mc ms free) := vx_backW (hh := hh) (bytes := bytes) (maxL := maxL) (ret := ret) hM hp.1 hrc hrs hfr hlo hws hcw (fun a' U hW => word_at hW (Or.inl (by first | rfl | simp [Cond.onTables, Cond.keeps, Cond.steady])) hini)
  obtain ⟨hx, hb, hml, ho, -⟩ := S
  obtain ⟨-, ⟨cellB, hcB, hoB, hclB⟩, hPc⟩ := hp
  intro T hT X
  rcases vx_callVX X hx (C := C) (hh := hh) (bytes := bytes) (maxL := maxL) (ret := ret) ho hl hin hse hcode hy hK (by rw [hT]; exact hcB) hoB hclB hg (hsize.trans hml.symm) (argsL := As) (rest := rest) (fun sig h => hn.trans (hlen sig h)) hstack hW (by rw [hb]; exact hdg)
    (fun vm₁ hW₁ => ⟨hf.1, hf.2, hPc (T.setVm vm₁) hT hW₁⟩) with ⟨v, vm₁, ⟨U', l2, c2, s2⟩, hW₁, X', ⟨g', mk, t, L, e1, e2, hq, h1, hL, h2, h3⟩, st⟩ | ⟨q, vm₁, ⟨U', l2, c2, s2⟩, hW₁, X', ⟨g', mk, t, L, E, ce, e1, e2, hq, hce, hcv, hcl, h1, hL, h2, h3⟩, st⟩
  · dsimp only [Pt.U, Pt.locs, Pt.cells, Pt.slots] at X' e1 e2 h1 h2 h3 st
    subst h1; subst h2; subst h3
    exact Or.inl ⟨v, (T.setVm vm₁).calling g' mk (Value.ref b :: As).toArray, t, U', L, hT, X', hL, e1, e2, hq, st⟩
  · dsimp only [Pt.U, Pt.locs, Pt.cells, Pt.slots] at X' e1 e2 h1 h2 h3 st hcl
    subst h1; subst h2; subst h3
    exact Or.inr ⟨q, (T.setVm vm₁).calling g' mk (Value.ref b :: As).toArray, t, U', L, E, ce, hT, X', hL, e1, e2, hq, hce, hcv, vx_cls hW₁ hcl, st⟩
theorem vx_runSX {hh : List (Nat × Nat × Nat × Nat)} (S : CallFix p m c cc nL s args Ts own) (hM : vx_Met l y ws rm Pc Qc XC mc ms free) (cw : vx_CSW R s args own index y bytes maxL ret hh ws rm mc ms n) (hp : PreS s H Pc As)
    (hg : g.method = m) (hn : As.length = n) (hsize : g.locals.size = nL) (hstack : g.stack = As.reverse ++ rest) (hW : 2 * g.monitorRoom + (rest.map fun v => v.category).sum ≤ 8) (hdg : decode cc g.pc = .ok (.invokestatic index, 3)) (hf : cells + mc ≤ R.cells ∧ slots + ms ≤ R.slots) :
    vx_Run p l e R s m args below meth c H locs cells slots mc ms g rest (Qc As.toArray) XC free := by
  obtain ⟨⟨hrc, hrs, hfr, hlo, hws, hcw⟩, hcode, hini, hy, hlen, hl, hstt⟩ := cw
  have hK : vx_Back l R p e below s args y 3 8 (PreOf R mc ms Pc) (PostOf Qc mc ms free) (vx_Post XC mc ms free) := vx_backW (hh := hh) (bytes := bytes) (maxL := maxL) (ret := ret) hM hp.1 hrc hrs hfr hlo hws hcw (fun a' U hW => word_at hW (Or.inl (by first | rfl | simp [Cond.onTables, Cond.keeps, Cond.steady])) hini)
  obtain ⟨hx, hb, hml, ho, -⟩ := S
  intro T hT X
  rcases vx_callSX X hx (hh := hh) (bytes := bytes) (maxL := maxL) (ret := ret) ho hl hstt hini hcode hy hK hg (hsize.trans hml.symm) (argsL := As) (rest := rest) (fun sig h => hn.trans (hlen sig h)) hstack hW (by rw [hb]; exact hdg)
    (fun vm₁ hW₁ => ⟨hf.1, hf.2, hp.2 (T.setVm vm₁) hT hW₁⟩) with ⟨v, vm₁, ⟨U', l2, c2, s2⟩, hW₁, X', ⟨g', mk, t, L, e1, e2, hq, h1, hL, h2, h3⟩, st⟩ | ⟨q, vm₁, ⟨U', l2, c2, s2⟩, hW₁, X', ⟨g', mk, t, L, E, ce, e1, e2, hq, hce, hcv, hcl, h1, hL, h2, h3⟩, st⟩
  · dsimp only [Pt.U, Pt.locs, Pt.cells, Pt.slots] at X' e1 e2 h1 h2 h3 st
    subst h1; subst h2; subst h3
    exact Or.inl ⟨v, (T.setVm vm₁).calling g' mk As.toArray, t, U', L, hT, X', hL, e1, e2, hq, st⟩
  · dsimp only [Pt.U, Pt.locs, Pt.cells, Pt.slots] at X' e1 e2 h1 h2 h3 st hcl
    subst h1; subst h2; subst h3
    exact Or.inr ⟨q, (T.setVm vm₁).calling g' mk As.toArray, t, U', L, E, ce, hT, X', hL, e1, e2, hq, hce, hcv, vx_cls hW₁ hcl, st⟩
end
end VXH
theorem vx_ofWH {l : Launch} {y : MethodName} {ws ws' : List Cond} {rm : Room} {Pc : Array Value → State → Prop} {Qc : Array Value → State → Outcome → State → Prop} {XC : String → State → State → Prop} {mc ms : Nat} {free : Addr → Prop} {cc : ByteArray} {maxL : Nat} {ret : Option FieldType} {hh : List (Nat × Nat × Nat × Nat)}
    (hy : plainName y.cls = true) (hw : ws = Cond.codeWith y cc maxL ret hh :: ws')
    (body : ∀ p e s m args below meth c s₁, BodyLoose p l y (headSpec ws rm) cc maxL ret e s m args below meth c s₁ → c.maxLocals = maxL → Pc args s →
      W p l e (headSpec ws rm).room s m args below meth c s.heap [] 0 0 (vx_MQ below Qc XC args s mc ms free) (entryFrame m args maxL)) : vx_Met l y ws rm Pc Qc XC mc ms free := by
  refine MetFree.of_bodyS (code := cc) (maxLocals := maxL) (ret := ret) hy ?_ ?_
  · intro args s m h hn
    obtain ⟨m9, meth, c, hn9, h1, h2, h3, h4, -, h5, h6, -⟩ := Cond.codeWith_spec (atoms_spec (ws := ws) h _ (by rw [hw]; exact List.mem_cons_self))
    cases hn.symm.trans hn9
    exact ⟨meth, c, h1, h2, h3, h4, h5, h6⟩
  · intro p e s m args below meth c s₁ B hml hP _
    have hh0 : s₁.heap = s.heap := by rw [B.state]; rfl
    obtain ⟨t, a1, o, b1, b2, b3⟩ := body p e s m args below meth c s₁ B hml hP s₁ hh0 (Stand.of_body B)
    exact ⟨t, o, a1, b1, b2, b3⟩
/-! ===== END ===== -/

/-! ===== BEGIN printed: names, fields, word lists, decode rows ===== -/
def RX0 : String := "ResolverFleet$Cache"
def TX0 : u_T := fun k => match k with
  | 0 => ("ResolverFleet$Cache", "kinds", "[I", true)
  | 1 => ("ResolverFleet$Cache", "values", "[I", true)
  | 2 => ("ResolverFleet$Cache", "lives", "[I", true)
  | 3 => ("ResolverFleet$Cache", "ends", "[I", true)
  | 4 => ("ResolverFleet$Cache", "hits", "[I", true)
  | _ => ("ResolverFleet$Cache", "size", "I", false)
def tyX0 : Nat → FieldType := fun k => match k with
  | 0 => .array .int
  | 1 => .array .int
  | 2 => .array .int
  | 3 => .array .int
  | 4 => .array .int
  | _ => .int
abbrev wsX00 : List Cond := u_ws RX0 TX0 6
theorem nmX0 : ∀ a, a < 6 → ∀ b, b < 6 → a ≠ b → (TX0 a).2.1 ≠ (TX0 b).2.1 := by decide +kernel
theorem tyX0_ok : ∀ k, k < 6 → parseFieldDescriptor (TX0 k).2.2.1 = some (tyX0 k) := by decide +kernel
abbrev cX0_init : ByteArray := prog_2_method_1_code
def yX0_init : MethodName := ⟨RX0, "<init>", "()V"⟩
abbrev cX0_copyFrom : ByteArray := prog_2_method_2_code
def yX0_copyFrom : MethodName := ⟨RX0, "copyFrom", "(LResolverFleet$Cache;)V"⟩
abbrev cX0_has : ByteArray := prog_2_method_3_code
def yX0_has : MethodName := ⟨RX0, "has", "(I)Z"⟩
abbrev cX0_kindOf : ByteArray := prog_2_method_4_code
def yX0_kindOf : MethodName := ⟨RX0, "kindOf", "(I)I"⟩
abbrev cX0_valueOf : ByteArray := prog_2_method_5_code
def yX0_valueOf : MethodName := ⟨RX0, "valueOf", "(I)I"⟩
abbrev cX0_endOf : ByteArray := prog_2_method_6_code
def yX0_endOf : MethodName := ⟨RX0, "endOf", "(I)I"⟩
abbrev cX0_hitsFor : ByteArray := prog_2_method_7_code
def yX0_hitsFor : MethodName := ⟨RX0, "hitsFor", "(I)I"⟩
abbrev cX0_isFresh : ByteArray := prog_2_method_8_code
def yX0_isFresh : MethodName := ⟨RX0, "isFresh", "(II)Z"⟩
abbrev cX0_servesStale : ByteArray := prog_2_method_9_code
def yX0_servesStale : MethodName := ⟨RX0, "servesStale", "(II)Z"⟩
abbrev cX0_isHot : ByteArray := prog_2_method_10_code
def yX0_isHot : MethodName := ⟨RX0, "isHot", "(II)Z"⟩
abbrev cX0_countHit : ByteArray := prog_2_method_11_code
def yX0_countHit : MethodName := ⟨RX0, "countHit", "(I)V"⟩
abbrev cX0_drop : ByteArray := prog_2_method_12_code
def yX0_drop : MethodName := ⟨RX0, "drop", "(I)Z"⟩
abbrev cX0_put : ByteArray := prog_2_method_13_code
def yX0_put : MethodName := ⟨RX0, "put", "(IIIII)V"⟩
abbrev cX0_firstToEnd : ByteArray := prog_2_method_14_code
def yX0_firstToEnd : MethodName := ⟨RX0, "firstToEnd", "()I"⟩
def RX1 : String := "ResolverFleet$Course"
def TX1 : u_T := fun k => match k with
  | 0 => ("ResolverFleet$Course", "freshNames", "[I", true)
  | 1 => ("ResolverFleet$Course", "freshCount", "I", false)
  | 2 => ("ResolverFleet$Course", "lookUps", "I", false)
  | 3 => ("ResolverFleet$Course", "fetches", "I", false)
  | 4 => ("ResolverFleet$Course", "prefetches", "I", false)
  | _ => ("ResolverFleet$Course", "isStale", "Z", false)
def tyX1 : Nat → FieldType := fun k => match k with
  | 0 => .array .int
  | 1 => .int
  | 2 => .int
  | 3 => .int
  | 4 => .int
  | _ => .boolean
abbrev wsX10 : List Cond := u_ws RX1 TX1 6
theorem nmX1 : ∀ a, a < 6 → ∀ b, b < 6 → a ≠ b → (TX1 a).2.1 ≠ (TX1 b).2.1 := by decide +kernel
theorem tyX1_ok : ∀ k, k < 6 → parseFieldDescriptor (TX1 k).2.2.1 = some (tyX1 k) := by decide +kernel
abbrev cX1_init : ByteArray := prog_3_method_1_code
def yX1_init : MethodName := ⟨RX1, "<init>", "()V"⟩
abbrev cX1_begin : ByteArray := prog_3_method_2_code
def yX1_begin : MethodName := ⟨RX1, "begin", "()V"⟩
abbrev cX1_noteFresh : ByteArray := prog_3_method_3_code
def yX1_noteFresh : MethodName := ⟨RX1, "noteFresh", "(I)V"⟩
abbrev cX1_freshNameAt : ByteArray := prog_3_method_4_code
def yX1_freshNameAt : MethodName := ⟨RX1, "freshNameAt", "(I)I"⟩
def RX2 : String := "ResolverFleet$Site"
def TX2 : u_T := fun k => match k with
  | 0 => ("ResolverFleet$Site", "number", "I", true)
  | 1 => ("ResolverFleet$Site", "position", "I", true)
  | 2 => ("ResolverFleet$Site", "cache", "LResolverFleet$Cache;", true)
  | _ => ("ResolverFleet$Site", "isAnnounced", "Z", false)
def tyX2 : Nat → FieldType := fun k => match k with
  | 0 => .int
  | 1 => .int
  | 2 => .object "ResolverFleet$Cache"
  | _ => .boolean
abbrev wsX20 : List Cond := u_ws RX2 TX2 4
theorem nmX2 : ∀ a, a < 4 → ∀ b, b < 4 → a ≠ b → (TX2 a).2.1 ≠ (TX2 b).2.1 := by decide +kernel
theorem tyX2_ok : ∀ k, k < 4 → parseFieldDescriptor (TX2 k).2.2.1 = some (tyX2 k) := by decide +kernel
abbrev cX2_init : ByteArray := prog_4_method_1_code
def yX2_init : MethodName := ⟨RX2, "<init>", "(II)V"⟩
abbrev cX2_distanceTo : ByteArray := prog_4_method_2_code
def yX2_distanceTo : MethodName := ⟨RX2, "distanceTo", "(I)I"⟩
def RX3 : String := "ResolverFleet$Zone"
def TX3 : u_T := fun k => match k with
  | 0 => ("ResolverFleet$Zone", "kinds", "[I", true)
  | 1 => ("ResolverFleet$Zone", "values", "[I", true)
  | 2 => ("ResolverFleet$Zone", "lives", "[I", true)
  | 3 => ("ResolverFleet$Zone", "bound", "I", false)
  | _ => ("ResolverFleet$Zone", "isUp", "Z", false)
def tyX3 : Nat → FieldType := fun k => match k with
  | 0 => .array .int
  | 1 => .array .int
  | 2 => .array .int
  | 3 => .int
  | _ => .boolean
abbrev wsX30 : List Cond := u_ws RX3 TX3 5
theorem nmX3 : ∀ a, a < 5 → ∀ b, b < 5 → a ≠ b → (TX3 a).2.1 ≠ (TX3 b).2.1 := by decide +kernel
theorem tyX3_ok : ∀ k, k < 5 → parseFieldDescriptor (TX3 k).2.2.1 = some (tyX3 k) := by decide +kernel
abbrev cX3_init : ByteArray := prog_5_method_1_code
def yX3_init : MethodName := ⟨RX3, "<init>", "()V"⟩
abbrev cX3_put : ByteArray := prog_5_method_2_code
def yX3_put : MethodName := ⟨RX3, "put", "(IIII)V"⟩
abbrev cX3_kindOf : ByteArray := prog_5_method_3_code
def yX3_kindOf : MethodName := ⟨RX3, "kindOf", "(I)I"⟩
abbrev cX3_valueOf : ByteArray := prog_5_method_4_code
def yX3_valueOf : MethodName := ⟨RX3, "valueOf", "(I)I"⟩
abbrev cX3_lifeOf : ByteArray := prog_5_method_5_code
def yX3_lifeOf : MethodName := ⟨RX3, "lifeOf", "(I)I"⟩
def RX4 : String := "ResolverFleet"
def TX4 : u_T := fun k => match k with
  | 0 => ("ResolverFleet", "zone", "LResolverFleet$Zone;", true)
  | 1 => ("ResolverFleet", "sites", "[LResolverFleet$Site;", true)
  | 2 => ("ResolverFleet", "siteCount", "I", false)
  | 3 => ("ResolverFleet", "now", "I", false)
  | 4 => ("ResolverFleet", "last", "LResolverFleet$Course;", true)
  | 5 => ("ResolverFleet", "lastSiteNumber", "I", false)
  | 6 => ("ResolverFleet", "trial", "LResolverFleet$Course;", true)
  | 7 => ("ResolverFleet", "trialCache", "LResolverFleet$Cache;", true)
  | 8 => ("ResolverFleet", "queryCount", "I", false)
  | 9 => ("ResolverFleet", "fetchCount", "I", false)
  | 10 => ("ResolverFleet", "prefetchCount", "I", false)
  | 11 => ("ResolverFleet", "staleCount", "I", false)
  | _ => ("ResolverFleet", "failureCount", "I", false)
def tyX4 : Nat → FieldType := fun k => match k with
  | 0 => .object "ResolverFleet$Zone"
  | 1 => .array (.object "ResolverFleet$Site")
  | 2 => .int
  | 3 => .int
  | 4 => .object "ResolverFleet$Course"
  | 5 => .int
  | 6 => .object "ResolverFleet$Course"
  | 7 => .object "ResolverFleet$Cache"
  | 8 => .int
  | 9 => .int
  | 10 => .int
  | 11 => .int
  | _ => .int
abbrev wsX40 : List Cond := u_ws RX4 TX4 13
theorem nmX4 : ∀ a, a < 13 → ∀ b, b < 13 → a ≠ b → (TX4 a).2.1 ≠ (TX4 b).2.1 := by decide +kernel
theorem tyX4_ok : ∀ k, k < 13 → parseFieldDescriptor (TX4 k).2.2.1 = some (tyX4 k) := by decide +kernel
abbrev cX4_init : ByteArray := prog_1_method_1_code
def yX4_init : MethodName := ⟨RX4, "<init>", "()V"⟩
abbrev cX4_setAddress : ByteArray := prog_1_method_2_code
def yX4_setAddress : MethodName := ⟨RX4, "setAddress", "(III)V"⟩
abbrev cX4_setAlias : ByteArray := prog_1_method_3_code
def yX4_setAlias : MethodName := ⟨RX4, "setAlias", "(III)V"⟩
abbrev cX4_remove : ByteArray := prog_1_method_4_code
def yX4_remove : MethodName := ⟨RX4, "remove", "(I)Z"⟩
abbrev cX4_setBound : ByteArray := prog_1_method_5_code
def yX4_setBound : MethodName := ⟨RX4, "setBound", "(I)I"⟩
abbrev cX4_setAuthority : ByteArray := prog_1_method_6_code
def yX4_setAuthority : MethodName := ⟨RX4, "setAuthority", "(Z)Z"⟩
abbrev cX4_truth : ByteArray := prog_1_method_7_code
def yX4_truth : MethodName := ⟨RX4, "truth", "(I)I"⟩
abbrev cX4_addSite : ByteArray := prog_1_method_8_code
def yX4_addSite : MethodName := ⟨RX4, "addSite", "(I)I"⟩
abbrev cX4_announce : ByteArray := prog_1_method_9_code
def yX4_announce : MethodName := ⟨RX4, "announce", "(IZ)Z"⟩
abbrev cX4_siteFor : ByteArray := prog_1_method_10_code
def yX4_siteFor : MethodName := ⟨RX4, "siteFor", "(I)I"⟩
abbrev cX4_flush : ByteArray := prog_1_method_11_code
def yX4_flush : MethodName := ⟨RX4, "flush", "(II)Z"⟩
abbrev cX4_pass : ByteArray := prog_1_method_12_code
def yX4_pass : MethodName := ⟨RX4, "pass", "(I)I"⟩
abbrev cX4_time : ByteArray := prog_1_method_13_code
def yX4_time : MethodName := ⟨RX4, "time", "()I"⟩
abbrev cX4_query : ByteArray := prog_1_method_14_code
def yX4_query : MethodName := ⟨RX4, "query", "(II)I"⟩
abbrev cX4_wouldAnswer : ByteArray := prog_1_method_15_code
def yX4_wouldAnswer : MethodName := ⟨RX4, "wouldAnswer", "(II)I"⟩
abbrev cX4_lastSite : ByteArray := prog_1_method_16_code
def yX4_lastSite : MethodName := ⟨RX4, "lastSite", "()I"⟩
abbrev cX4_lastWasStale : ByteArray := prog_1_method_17_code
def yX4_lastWasStale : MethodName := ⟨RX4, "lastWasStale", "()Z"⟩
abbrev cX4_lastLookUps : ByteArray := prog_1_method_18_code
def yX4_lastLookUps : MethodName := ⟨RX4, "lastLookUps", "()I"⟩
abbrev cX4_lastFetches : ByteArray := prog_1_method_19_code
def yX4_lastFetches : MethodName := ⟨RX4, "lastFetches", "()I"⟩
abbrev cX4_entries : ByteArray := prog_1_method_20_code
def yX4_entries : MethodName := ⟨RX4, "entries", "(I)I"⟩
abbrev cX4_cachedKind : ByteArray := prog_1_method_21_code
def yX4_cachedKind : MethodName := ⟨RX4, "cachedKind", "(II)I"⟩
abbrev cX4_cachedValue : ByteArray := prog_1_method_22_code
def yX4_cachedValue : MethodName := ⟨RX4, "cachedValue", "(II)I"⟩
abbrev cX4_left : ByteArray := prog_1_method_23_code
def yX4_left : MethodName := ⟨RX4, "left", "(II)I"⟩
abbrev cX4_hitsOf : ByteArray := prog_1_method_24_code
def yX4_hitsOf : MethodName := ⟨RX4, "hitsOf", "(II)I"⟩
abbrev cX4_queries : ByteArray := prog_1_method_25_code
def yX4_queries : MethodName := ⟨RX4, "queries", "()I"⟩
abbrev cX4_fetches : ByteArray := prog_1_method_26_code
def yX4_fetches : MethodName := ⟨RX4, "fetches", "()I"⟩
abbrev cX4_prefetches : ByteArray := prog_1_method_27_code
def yX4_prefetches : MethodName := ⟨RX4, "prefetches", "()I"⟩
abbrev cX4_staleAnswers : ByteArray := prog_1_method_28_code
def yX4_staleAnswers : MethodName := ⟨RX4, "staleAnswers", "()I"⟩
abbrev cX4_failures : ByteArray := prog_1_method_29_code
def yX4_failures : MethodName := ⟨RX4, "failures", "()I"⟩
abbrev cX4_resolve : ByteArray := prog_1_method_30_code
def yX4_resolve : MethodName := ⟨RX4, "resolve", "(LResolverFleet$Cache;ILResolverFleet$Course;)I"⟩
abbrev cX4_lookUp : ByteArray := prog_1_method_31_code
def yX4_lookUp : MethodName := ⟨RX4, "lookUp", "(LResolverFleet$Cache;ILResolverFleet$Course;)Z"⟩
abbrev cX4_fetch : ByteArray := prog_1_method_32_code
def yX4_fetch : MethodName := ⟨RX4, "fetch", "(LResolverFleet$Cache;ILResolverFleet$Course;)V"⟩
abbrev cX4_fetchHotAnew : ByteArray := prog_1_method_33_code
def yX4_fetchHotAnew : MethodName := ⟨RX4, "fetchHotAnew", "(LResolverFleet$Cache;LResolverFleet$Course;)V"⟩
abbrev cX4_countQuery : ByteArray := prog_1_method_34_code
def yX4_countQuery : MethodName := ⟨RX4, "countQuery", "(I)V"⟩
abbrev cX4_requireName : ByteArray := prog_1_method_35_code
def yX4_requireName : MethodName := ⟨RX4, "requireName", "(I)V"⟩
abbrev cX4_requireWithin : ByteArray := prog_1_method_36_code
def yX4_requireWithin : MethodName := ⟨RX4, "requireWithin", "(III)V"⟩
abbrev cX4_siteNumbered : ByteArray := prog_1_method_37_code
def yX4_siteNumbered : MethodName := ⟨RX4, "siteNumbered", "(I)LResolverFleet$Site;"⟩
abbrev cX4_cacheAsked : ByteArray := prog_1_method_38_code
def yX4_cacheAsked : MethodName := ⟨RX4, "cacheAsked", "(II)LResolverFleet$Cache;"⟩
abbrev cX4_siteAsked : ByteArray := prog_1_method_39_code
def yX4_siteAsked : MethodName := ⟨RX4, "siteAsked", "(II)LResolverFleet$Site;"⟩
abbrev cX4_nearestSite : ByteArray := prog_1_method_40_code
def yX4_nearestSite : MethodName := ⟨RX4, "nearestSite", "(I)LResolverFleet$Site;"⟩
def RX5 : String := "ResolverFleetModel"
def TX5 : u_T := fun k => match k with
  | _ => ("", "", "", false)
def tyX5 : Nat → FieldType := fun k => match k with
  | _ => .int
abbrev wsX50 : List Cond := u_ws RX5 TX5 0
theorem nmX5 : ∀ a, a < 0 → ∀ b, b < 0 → a ≠ b → (TX5 a).2.1 ≠ (TX5 b).2.1 := by decide +kernel
theorem tyX5_ok : ∀ k, k < 0 → parseFieldDescriptor (TX5 k).2.2.1 = some (tyX5 k) := by decide +kernel
def RJx145de : String := "java/io/Serializable"
def TJx145de : u_T := fun k => match k with
  | _ => ("", "", "", false)
def tyJx145de : Nat → FieldType := fun k => match k with
  | _ => .int
abbrev wsJx145de0 : List Cond := u_ws RJx145de TJx145de 0
theorem nmJx145de : ∀ a, a < 0 → ∀ b, b < 0 → a ≠ b → (TJx145de a).2.1 ≠ (TJx145de b).2.1 := by decide +kernel
theorem tyJx145de_ok : ∀ k, k < 0 → parseFieldDescriptor (TJx145de k).2.2.1 = some (tyJx145de k) := by decide +kernel
def RJ9 : String := "java/lang/Math"
def TJ9 : u_T := fun k => match k with
  | _ => ("", "", "", false)
def tyJ9 : Nat → FieldType := fun k => match k with
  | _ => .int
abbrev wsJ90 : List Cond := u_ws RJ9 TJ9 0
theorem nmJ9 : ∀ a, a < 0 → ∀ b, b < 0 → a ≠ b → (TJ9 a).2.1 ≠ (TJ9 b).2.1 := by decide +kernel
theorem tyJ9_ok : ∀ k, k < 0 → parseFieldDescriptor (TJ9 k).2.2.1 = some (tyJ9 k) := by decide +kernel
abbrev cJ9_abs_0f7a4 : ByteArray := prog_12_method_59_code
def yJ9_abs_0f7a4 : MethodName := ⟨RJ9, "abs", "(I)I"⟩
def RJ0 : String := "java/lang/String"
def TJ0 : u_T := fun k => match k with
  | _ => ("", "", "", false)
def tyJ0 : Nat → FieldType := fun k => match k with
  | _ => .int
abbrev wsJ00 : List Cond := u_ws RJ0 TJ0 0
theorem nmJ0 : ∀ a, a < 0 → ∀ b, b < 0 → a ≠ b → (TJ0 a).2.1 ≠ (TJ0 b).2.1 := by decide +kernel
theorem tyJ0_ok : ∀ k, k < 0 → parseFieldDescriptor (TJ0 k).2.2.1 = some (tyJ0 k) := by decide +kernel
def RJ10 : String := "java/lang/System"
def TJ10 : u_T := fun k => match k with
  | _ => ("", "", "", false)
def tyJ10 : Nat → FieldType := fun k => match k with
  | _ => .int
abbrev wsJ100 : List Cond := u_ws RJ10 TJ10 0
theorem nmJ10 : ∀ a, a < 0 → ∀ b, b < 0 → a ≠ b → (TJ10 a).2.1 ≠ (TJ10 b).2.1 := by decide +kernel
theorem tyJ10_ok : ∀ k, k < 0 → parseFieldDescriptor (TJ10 k).2.2.1 = some (tyJ10 k) := by decide +kernel
def RJ7 : String := "java/util/Arrays"
def TJ7 : u_T := fun k => match k with
  | _ => ("", "", "", false)
def tyJ7 : Nat → FieldType := fun k => match k with
  | _ => .int
abbrev wsJ70 : List Cond := u_ws RJ7 TJ7 0
theorem nmJ7 : ∀ a, a < 0 → ∀ b, b < 0 → a ≠ b → (TJ7 a).2.1 ≠ (TJ7 b).2.1 := by decide +kernel
theorem tyJ7_ok : ∀ k, k < 0 → parseFieldDescriptor (TJ7 k).2.2.1 = some (tyJ7 k) := by decide +kernel
abbrev cJ7_fill_53178 : ByteArray := prog_17_method_103_code
def yJ7_fill_53178 : MethodName := ⟨RJ7, "fill", "([II)V"⟩
def RL : String := "ResolverFleetLaw"
abbrev cL_slot : ByteArray := method_2_code
def yL_slot : MethodName := ⟨RL, "slot", "([III)I"⟩
abbrev cL_fetches : ByteArray := method_3_code
def yL_fetches : MethodName := ⟨RL, "fetches", "([I[I[I[I[I[I[III)V"⟩
abbrev cL_resolves : ByteArray := method_4_code
def yL_resolves : MethodName := ⟨RL, "resolves", "([I[I[I[I[I[I[III)I"⟩
abbrev cL_nearest : ByteArray := method_5_code
def yL_nearest : MethodName := ⟨RL, "nearest", "([II)I"⟩
abbrev cL_asks : ByteArray := method_6_code
def yL_asks : MethodName := ⟨RL, "asks", "([I[I[I[I[I[I[III)I"⟩
abbrev cL_tries : ByteArray := method_7_code
def yL_tries : MethodName := ⟨RL, "tries", "([I[I[I[I[I[I[III)I"⟩
abbrev cL_truth : ByteArray := method_8_code
def yL_truth : MethodName := ⟨RL, "truth", "([II)I"⟩
abbrev cL_told : ByteArray := method_9_code
def yL_told : MethodName := ⟨RL, "told", "(LResolverFleet;III)I"⟩
abbrev cL_isFleet : ByteArray := method_10_code
def yL_isFleet : MethodName := ⟨RL, "isFleet", "(LResolverFleet;[I[I[I[I[I[I)Z"⟩
abbrev cL_law : ByteArray := code
def yL_law : MethodName := ⟨RL, "law", "([I)Z"⟩
def wsJ7_fill_53178 : List Cond := .code yJ7_fill_53178 cJ7_fill_53178 4 none :: ([])
def wsX0_init : List Cond := .code yX0_init cX0_init 1 none :: ([.methodLink RX0 3 objectInit, .instanceMethod objectInit, .code objectInit ⟨#[0xb1]⟩ 1 none, .arrayClass .int, .fieldLink RX0 9 "ResolverFleet$Cache" "kinds" "[I", .fieldLink RX0 15 "ResolverFleet$Cache" "values" "[I", .fieldLink RX0 18 "ResolverFleet$Cache" "lives" "[I", .fieldLink RX0 21 "ResolverFleet$Cache" "ends" "[I", .fieldLink RX0 24 "ResolverFleet$Cache" "hits" "[I", .methodLink RX0 27 yJ7_fill_53178, .static yJ7_fill_53178, .initialized RJ7, .code yJ7_fill_53178 cJ7_fill_53178 4 none] ++ wsX00)
def wsX0_copyFrom : List Cond := .code yX0_copyFrom cX0_copyFrom 2 none :: ([.fieldLink RX0 9 "ResolverFleet$Cache" "kinds" "[I", .methodLink RX0 33 arraycopyName, .native arraycopyName, .static arraycopyName, .initialized "java/lang/System", .fieldLink RX0 15 "ResolverFleet$Cache" "values" "[I", .fieldLink RX0 18 "ResolverFleet$Cache" "lives" "[I", .fieldLink RX0 21 "ResolverFleet$Cache" "ends" "[I", .fieldLink RX0 24 "ResolverFleet$Cache" "hits" "[I", .fieldLink RX0 39 "ResolverFleet$Cache" "size" "I"] ++ wsX00)
def wsX0_has : List Cond := .code yX0_has cX0_has 2 (some .boolean) :: ([.fieldLink RX0 9 "ResolverFleet$Cache" "kinds" "[I"] ++ wsX00)
def wsX0_kindOf : List Cond := .code yX0_kindOf cX0_kindOf 2 (some .int) :: ([.fieldLink RX0 9 "ResolverFleet$Cache" "kinds" "[I", .methodLink RX0 43 yX0_has, .instanceMethod yX0_has, .selects RX0 yX0_has yX0_has, .initialized RX0, .code yX0_has cX0_has 2 (some .boolean)] ++ wsX00)
def wsX0_valueOf : List Cond := .code yX0_valueOf cX0_valueOf 2 (some .int) :: ([.fieldLink RX0 15 "ResolverFleet$Cache" "values" "[I", .methodLink RX0 43 yX0_has, .instanceMethod yX0_has, .selects RX0 yX0_has yX0_has, .initialized RX0, .code yX0_has cX0_has 2 (some .boolean), .fieldLink RX0 9 "ResolverFleet$Cache" "kinds" "[I"] ++ wsX00)
def wsX0_endOf : List Cond := .code yX0_endOf cX0_endOf 2 (some .int) :: ([.fieldLink RX0 21 "ResolverFleet$Cache" "ends" "[I", .methodLink RX0 43 yX0_has, .instanceMethod yX0_has, .selects RX0 yX0_has yX0_has, .initialized RX0, .code yX0_has cX0_has 2 (some .boolean), .fieldLink RX0 9 "ResolverFleet$Cache" "kinds" "[I"] ++ wsX00)
def wsX0_hitsFor : List Cond := .code yX0_hitsFor cX0_hitsFor 2 (some .int) :: ([.fieldLink RX0 24 "ResolverFleet$Cache" "hits" "[I", .methodLink RX0 43 yX0_has, .instanceMethod yX0_has, .selects RX0 yX0_has yX0_has, .initialized RX0, .code yX0_has cX0_has 2 (some .boolean), .fieldLink RX0 9 "ResolverFleet$Cache" "kinds" "[I"] ++ wsX00)
def wsX0_isFresh : List Cond := .code yX0_isFresh cX0_isFresh 3 (some .boolean) :: ([.fieldLink RX0 21 "ResolverFleet$Cache" "ends" "[I", .methodLink RX0 43 yX0_has, .instanceMethod yX0_has, .selects RX0 yX0_has yX0_has, .initialized RX0, .code yX0_has cX0_has 2 (some .boolean), .fieldLink RX0 9 "ResolverFleet$Cache" "kinds" "[I"] ++ wsX00)
def wsX0_servesStale : List Cond := .code yX0_servesStale cX0_servesStale 3 (some .boolean) :: ([.fieldLink RX0 21 "ResolverFleet$Cache" "ends" "[I", .methodLink RX0 43 yX0_has, .instanceMethod yX0_has, .selects RX0 yX0_has yX0_has, .initialized RX0, .code yX0_has cX0_has 2 (some .boolean), .fieldLink RX0 9 "ResolverFleet$Cache" "kinds" "[I"] ++ wsX00)
def wsX0_isHot : List Cond := .code yX0_isHot cX0_isHot 3 (some .boolean) :: ([.fieldLink RX0 24 "ResolverFleet$Cache" "hits" "[I", .fieldLink RX0 21 "ResolverFleet$Cache" "ends" "[I", .fieldLink RX0 18 "ResolverFleet$Cache" "lives" "[I", .methodLink RX0 43 yX0_has, .instanceMethod yX0_has, .selects RX0 yX0_has yX0_has, .initialized RX0, .code yX0_has cX0_has 2 (some .boolean), .fieldLink RX0 9 "ResolverFleet$Cache" "kinds" "[I"] ++ wsX00)
def wsX0_countHit : List Cond := .code yX0_countHit cX0_countHit 2 none :: ([.fieldLink RX0 24 "ResolverFleet$Cache" "hits" "[I", .methodLink RX0 43 yX0_has, .instanceMethod yX0_has, .selects RX0 yX0_has yX0_has, .initialized RX0, .code yX0_has cX0_has 2 (some .boolean), .fieldLink RX0 9 "ResolverFleet$Cache" "kinds" "[I"] ++ wsX00)
def wsX0_drop : List Cond := .code yX0_drop cX0_drop 2 (some .boolean) :: ([.fieldLink RX0 9 "ResolverFleet$Cache" "kinds" "[I", .fieldLink RX0 39 "ResolverFleet$Cache" "size" "I", .methodLink RX0 43 yX0_has, .instanceMethod yX0_has, .selects RX0 yX0_has yX0_has, .initialized RX0, .code yX0_has cX0_has 2 (some .boolean)] ++ wsX00)
def wsX0_firstToEnd : List Cond := .code yX0_firstToEnd cX0_firstToEnd 3 (some .int) :: ([.fieldLink RX0 9 "ResolverFleet$Cache" "kinds" "[I", .fieldLink RX0 21 "ResolverFleet$Cache" "ends" "[I"] ++ wsX00)
def wsX0_put : List Cond := .code yX0_put cX0_put 6 none :: ([.fieldLink RX0 9 "ResolverFleet$Cache" "kinds" "[I", .fieldLink RX0 39 "ResolverFleet$Cache" "size" "I", .fieldLink RX0 15 "ResolverFleet$Cache" "values" "[I", .fieldLink RX0 18 "ResolverFleet$Cache" "lives" "[I", .fieldLink RX0 21 "ResolverFleet$Cache" "ends" "[I", .fieldLink RX0 24 "ResolverFleet$Cache" "hits" "[I", .methodLink RX0 47 yX0_firstToEnd, .instanceMethod yX0_firstToEnd, .selects RX0 yX0_firstToEnd yX0_firstToEnd, .initialized RX0, .code yX0_firstToEnd cX0_firstToEnd 3 (some .int), .methodLink RX0 51 yX0_drop, .instanceMethod yX0_drop, .selects RX0 yX0_drop yX0_drop, .code yX0_drop cX0_drop 2 (some .boolean), .methodLink RX0 43 yX0_has, .instanceMethod yX0_has, .selects RX0 yX0_has yX0_has, .code yX0_has cX0_has 2 (some .boolean)] ++ wsX00)
def wsX1_init : List Cond := .code yX1_init cX1_init 1 none :: ([.methodLink RX1 3 objectInit, .instanceMethod objectInit, .code objectInit ⟨#[0xb1]⟩ 1 none, .arrayClass .int, .fieldLink RX1 9 "ResolverFleet$Course" "freshNames" "[I"] ++ wsX10)
def wsX1_begin : List Cond := .code yX1_begin cX1_begin 1 none :: ([.fieldLink RX1 15 "ResolverFleet$Course" "freshCount" "I", .fieldLink RX1 19 "ResolverFleet$Course" "lookUps" "I", .fieldLink RX1 22 "ResolverFleet$Course" "fetches" "I", .fieldLink RX1 25 "ResolverFleet$Course" "prefetches" "I", .fieldLink RX1 28 "ResolverFleet$Course" "isStale" "Z"] ++ wsX10)
def wsX1_noteFresh : List Cond := .code yX1_noteFresh cX1_noteFresh 2 none :: ([.fieldLink RX1 15 "ResolverFleet$Course" "freshCount" "I", .fieldLink RX1 9 "ResolverFleet$Course" "freshNames" "[I"] ++ wsX10)
def wsX1_freshNameAt : List Cond := .code yX1_freshNameAt cX1_freshNameAt 2 (some .int) :: ([.fieldLink RX1 15 "ResolverFleet$Course" "freshCount" "I", .fieldLink RX1 9 "ResolverFleet$Course" "freshNames" "[I"] ++ wsX10)
def wsX2_init : List Cond := .code yX2_init cX2_init 3 none :: ([.methodLink RX2 1 objectInit, .instanceMethod objectInit, .code objectInit ⟨#[0xb1]⟩ 1 none, .classLink RX2 7 RX0, .instantiable RX0 6, .initialized RX0, .fieldLink RX2 10 "ResolverFleet$Site" "cache" "LResolverFleet$Cache;", .fieldLink RX2 16 "ResolverFleet$Site" "isAnnounced" "Z", .fieldLink RX2 20 "ResolverFleet$Site" "number" "I", .fieldLink RX2 24 "ResolverFleet$Site" "position" "I", .methodLink RX2 9 yX0_init, .instanceMethod yX0_init, .code yX0_init cX0_init 1 none, .methodLink RX0 3 objectInit, .arrayClass .int, .fieldLink RX0 9 "ResolverFleet$Cache" "kinds" "[I", .fieldLink RX0 15 "ResolverFleet$Cache" "values" "[I", .fieldLink RX0 18 "ResolverFleet$Cache" "lives" "[I", .fieldLink RX0 21 "ResolverFleet$Cache" "ends" "[I", .fieldLink RX0 24 "ResolverFleet$Cache" "hits" "[I", .methodLink RX0 27 yJ7_fill_53178, .static yJ7_fill_53178, .initialized RJ7, .code yJ7_fill_53178 cJ7_fill_53178 4 none] ++ wsX00 ++ wsX20)
def wsX2_distanceTo : List Cond := .code yX2_distanceTo cX2_distanceTo 2 (some .int) :: ([.fieldLink RX2 24 "ResolverFleet$Site" "position" "I", .methodLink RX2 27 Lib.Math.abs.name, .static Lib.Math.abs.name, .initialized "java/lang/Math", .code Lib.Math.abs.name Lib.Math.abs.code 1 (some .int)] ++ wsX20)
def wsX3_init : List Cond := .code yX3_init cX3_init 1 none :: ([.methodLink RX3 3 objectInit, .instanceMethod objectInit, .code objectInit ⟨#[0xb1]⟩ 1 none, .arrayClass .int, .fieldLink RX3 9 "ResolverFleet$Zone" "kinds" "[I", .fieldLink RX3 15 "ResolverFleet$Zone" "values" "[I", .fieldLink RX3 18 "ResolverFleet$Zone" "lives" "[I", .fieldLink RX3 21 "ResolverFleet$Zone" "bound" "I", .fieldLink RX3 25 "ResolverFleet$Zone" "isUp" "Z", .methodLink RX3 29 yJ7_fill_53178, .static yJ7_fill_53178, .initialized RJ7, .code yJ7_fill_53178 cJ7_fill_53178 4 none] ++ wsX30)
def wsX3_put : List Cond := .code yX3_put cX3_put 5 none :: ([.fieldLink RX3 9 "ResolverFleet$Zone" "kinds" "[I", .fieldLink RX3 15 "ResolverFleet$Zone" "values" "[I", .fieldLink RX3 18 "ResolverFleet$Zone" "lives" "[I"] ++ wsX30)
def wsX3_kindOf : List Cond := .code yX3_kindOf cX3_kindOf 2 (some .int) :: ([.fieldLink RX3 9 "ResolverFleet$Zone" "kinds" "[I"] ++ wsX30)
def wsX3_valueOf : List Cond := .code yX3_valueOf cX3_valueOf 2 (some .int) :: ([.fieldLink RX3 15 "ResolverFleet$Zone" "values" "[I"] ++ wsX30)
def wsX3_lifeOf : List Cond := .code yX3_lifeOf cX3_lifeOf 2 (some .int) :: ([.fieldLink RX3 9 "ResolverFleet$Zone" "kinds" "[I", .fieldLink RX3 21 "ResolverFleet$Zone" "bound" "I", .fieldLink RX3 18 "ResolverFleet$Zone" "lives" "[I"] ++ wsX30)
def wsX4_init_r1 : List Cond := [Cond.methodLink RX4 1 objectInit, Cond.instanceMethod objectInit, Cond.code objectInit ⟨#[0xb1]⟩ 1 none, Cond.classLink RX4 7 RX3, Cond.instantiable RX3 5, Cond.initialized RX3, Cond.fieldLink RX4 10 "ResolverFleet" "zone" "LResolverFleet$Zone;", Cond.classLink RX4 16 RX2, Cond.fieldLink RX4 18 "ResolverFleet" "sites" "[LResolverFleet$Site;", Cond.classLink RX4 22 RX1, Cond.instantiable RX1 6, Cond.initialized RX1, Cond.fieldLink RX4 25 "ResolverFleet" "last" "LResolverFleet$Course;", Cond.fieldLink RX4 29 "ResolverFleet" "lastSiteNumber" "I", Cond.fieldLink RX4 33 "ResolverFleet" "trial" "LResolverFleet$Course;", Cond.classLink RX4 36 RX0, Cond.instantiable RX0 6, Cond.initialized RX0, Cond.fieldLink RX4 39 "ResolverFleet" "trialCache" "LResolverFleet$Cache;", Cond.methodLink RX4 9 yX3_init, Cond.instanceMethod yX3_init, Cond.code yX3_init cX3_init 1 none, Cond.methodLink RX3 3 objectInit, Cond.arrayClass .int]
def wsX4_init_r2 : List Cond := [Cond.fieldLink RX3 9 "ResolverFleet$Zone" "kinds" "[I", Cond.fieldLink RX3 15 "ResolverFleet$Zone" "values" "[I", Cond.fieldLink RX3 18 "ResolverFleet$Zone" "lives" "[I", Cond.fieldLink RX3 21 "ResolverFleet$Zone" "bound" "I", Cond.fieldLink RX3 25 "ResolverFleet$Zone" "isUp" "Z", Cond.methodLink RX3 29 yJ7_fill_53178, Cond.static yJ7_fill_53178, Cond.initialized RJ7, Cond.code yJ7_fill_53178 cJ7_fill_53178 4 none, Cond.methodLink RX4 24 yX1_init, Cond.instanceMethod yX1_init, Cond.code yX1_init cX1_init 1 none, Cond.methodLink RX1 3 objectInit, Cond.fieldLink RX1 9 "ResolverFleet$Course" "freshNames" "[I", Cond.methodLink RX4 38 yX0_init, Cond.instanceMethod yX0_init, Cond.code yX0_init cX0_init 1 none, Cond.methodLink RX0 3 objectInit, Cond.fieldLink RX0 9 "ResolverFleet$Cache" "kinds" "[I", Cond.fieldLink RX0 15 "ResolverFleet$Cache" "values" "[I", Cond.fieldLink RX0 18 "ResolverFleet$Cache" "lives" "[I", Cond.fieldLink RX0 21 "ResolverFleet$Cache" "ends" "[I", Cond.fieldLink RX0 24 "ResolverFleet$Cache" "hits" "[I", Cond.methodLink RX0 27 yJ7_fill_53178]
def wsX4_init : List Cond := .code yX4_init cX4_init 1 none :: ((wsX4_init_r1 ++ wsX4_init_r2) ++ wsX30 ++ wsX40 ++ wsX10 ++ wsX00)
def wsX4_requireName : List Cond := .code yX4_requireName cX4_requireName 1 none :: ([.classLink RX4 215 "java/lang/IndexOutOfBoundsException", .initialized "java/lang/IndexOutOfBoundsException"] ++ (vx_atS RX4 219 "java/lang/IndexOutOfBoundsException" ["java/lang/RuntimeException", "java/lang/Exception"]).filter goodWord)
def wsX4_requireWithin : List Cond := .code yX4_requireWithin cX4_requireWithin 3 none :: ([.classLink RX4 55 "java/lang/IllegalArgumentException", .initialized "java/lang/IllegalArgumentException"] ++ (vx_atS RX4 59 "java/lang/IllegalArgumentException" ["java/lang/RuntimeException", "java/lang/Exception"]).filter goodWord)
def wsX4_setAddress : List Cond := .code yX4_setAddress cX4_setAddress 4 none :: ([.fieldLink RX4 10 "ResolverFleet" "zone" "LResolverFleet$Zone;", .methodLink RX4 43 yX4_requireName, .static yX4_requireName, .initialized RX4, .code yX4_requireName cX4_requireName 1 none, .classLink RX4 215 "java/lang/IndexOutOfBoundsException", .initialized "java/lang/IndexOutOfBoundsException", .methodLink RX4 47 yX4_requireWithin, .static yX4_requireWithin, .code yX4_requireWithin cX4_requireWithin 3 none, .classLink RX4 55 "java/lang/IllegalArgumentException", .initialized "java/lang/IllegalArgumentException", .methodLink RX4 51 yX3_put, .instanceMethod yX3_put, .selects RX3 yX3_put yX3_put, .initialized RX3, .code yX3_put cX3_put 5 none, .fieldLink RX3 9 "ResolverFleet$Zone" "kinds" "[I", .fieldLink RX3 15 "ResolverFleet$Zone" "values" "[I", .fieldLink RX3 18 "ResolverFleet$Zone" "lives" "[I"] ++ wsX40 ++ wsX30 ++ (vx_atS RX4 219 "java/lang/IndexOutOfBoundsException" ["java/lang/RuntimeException", "java/lang/Exception"]).filter goodWord ++ (vx_atS RX4 59 "java/lang/IllegalArgumentException" ["java/lang/RuntimeException", "java/lang/Exception"]).filter goodWord)
def wsX4_setAlias : List Cond := .code yX4_setAlias cX4_setAlias 4 none :: ([.classLink RX4 55 "java/lang/IllegalArgumentException", .initialized "java/lang/IllegalArgumentException", .fieldLink RX4 10 "ResolverFleet" "zone" "LResolverFleet$Zone;", .methodLink RX4 43 yX4_requireName, .static yX4_requireName, .initialized RX4, .code yX4_requireName cX4_requireName 1 none, .classLink RX4 215 "java/lang/IndexOutOfBoundsException", .initialized "java/lang/IndexOutOfBoundsException", .methodLink RX4 47 yX4_requireWithin, .static yX4_requireWithin, .code yX4_requireWithin cX4_requireWithin 3 none, .methodLink RX4 51 yX3_put, .instanceMethod yX3_put, .selects RX3 yX3_put yX3_put, .initialized RX3, .code yX3_put cX3_put 5 none, .fieldLink RX3 9 "ResolverFleet$Zone" "kinds" "[I", .fieldLink RX3 15 "ResolverFleet$Zone" "values" "[I", .fieldLink RX3 18 "ResolverFleet$Zone" "lives" "[I"] ++ wsX40 ++ wsX30 ++ (vx_atS RX4 59 "java/lang/IllegalArgumentException" ["java/lang/RuntimeException", "java/lang/Exception"]).filter goodWord ++ (vx_atS RX4 219 "java/lang/IndexOutOfBoundsException" ["java/lang/RuntimeException", "java/lang/Exception"]).filter goodWord)
def wsX4_remove : List Cond := .code yX4_remove cX4_remove 3 (some .boolean) :: ([.fieldLink RX4 10 "ResolverFleet" "zone" "LResolverFleet$Zone;", .methodLink RX4 43 yX4_requireName, .static yX4_requireName, .initialized RX4, .code yX4_requireName cX4_requireName 1 none, .classLink RX4 215 "java/lang/IndexOutOfBoundsException", .initialized "java/lang/IndexOutOfBoundsException", .methodLink RX4 62 yX3_kindOf, .instanceMethod yX3_kindOf, .selects RX3 yX3_kindOf yX3_kindOf, .initialized RX3, .code yX3_kindOf cX3_kindOf 2 (some .int), .fieldLink RX3 9 "ResolverFleet$Zone" "kinds" "[I", .methodLink RX4 51 yX3_put, .instanceMethod yX3_put, .selects RX3 yX3_put yX3_put, .code yX3_put cX3_put 5 none, .fieldLink RX3 15 "ResolverFleet$Zone" "values" "[I", .fieldLink RX3 18 "ResolverFleet$Zone" "lives" "[I"] ++ wsX40 ++ wsX30 ++ (vx_atS RX4 219 "java/lang/IndexOutOfBoundsException" ["java/lang/RuntimeException", "java/lang/Exception"]).filter goodWord)
def wsX4_setBound : List Cond := .code yX4_setBound cX4_setBound 3 (some .int) :: ([.fieldLink RX4 10 "ResolverFleet" "zone" "LResolverFleet$Zone;", .fieldLink RX4 66 "ResolverFleet$Zone" "bound" "I", .methodLink RX4 47 yX4_requireWithin, .static yX4_requireWithin, .initialized RX4, .code yX4_requireWithin cX4_requireWithin 3 none, .classLink RX4 55 "java/lang/IllegalArgumentException", .initialized "java/lang/IllegalArgumentException"] ++ wsX40 ++ wsX30 ++ (vx_atS RX4 59 "java/lang/IllegalArgumentException" ["java/lang/RuntimeException", "java/lang/Exception"]).filter goodWord)
def wsX4_setAuthority : List Cond := .code yX4_setAuthority cX4_setAuthority 3 (some .boolean) :: ([.fieldLink RX4 10 "ResolverFleet" "zone" "LResolverFleet$Zone;", .fieldLink RX4 69 "ResolverFleet$Zone" "isUp" "Z"] ++ wsX40 ++ wsX30)
def wsX4_truth : List Cond := .code yX4_truth cX4_truth 6 (some .int) :: ([.fieldLink RX4 10 "ResolverFleet" "zone" "LResolverFleet$Zone;", .methodLink RX4 43 yX4_requireName, .static yX4_requireName, .initialized RX4, .code yX4_requireName cX4_requireName 1 none, .classLink RX4 215 "java/lang/IndexOutOfBoundsException", .initialized "java/lang/IndexOutOfBoundsException", .methodLink RX4 62 yX3_kindOf, .instanceMethod yX3_kindOf, .selects RX3 yX3_kindOf yX3_kindOf, .initialized RX3, .code yX3_kindOf cX3_kindOf 2 (some .int), .fieldLink RX3 9 "ResolverFleet$Zone" "kinds" "[I", .methodLink RX4 73 yX3_valueOf, .instanceMethod yX3_valueOf, .selects RX3 yX3_valueOf yX3_valueOf, .code yX3_valueOf cX3_valueOf 2 (some .int), .fieldLink RX3 15 "ResolverFleet$Zone" "values" "[I"] ++ wsX40 ++ wsX30 ++ (vx_atS RX4 219 "java/lang/IndexOutOfBoundsException" ["java/lang/RuntimeException", "java/lang/Exception"]).filter goodWord)
def wsX4_addSite_r1 : List Cond := [Cond.classLink RX4 79 "java/lang/IllegalStateException", Cond.initialized "java/lang/IllegalStateException", Cond.fieldLink RX4 76 "ResolverFleet" "siteCount" "I", Cond.fieldLink RX4 18 "ResolverFleet" "sites" "[LResolverFleet$Site;", Cond.classLink RX4 16 RX2, Cond.instantiable RX2 4, Cond.initialized RX2, Cond.methodLink RX4 47 yX4_requireWithin, Cond.static yX4_requireWithin, Cond.initialized RX4, Cond.code yX4_requireWithin cX4_requireWithin 3 none, Cond.classLink RX4 55 "java/lang/IllegalArgumentException", Cond.initialized "java/lang/IllegalArgumentException", Cond.methodLink RX4 84 yX2_init, Cond.instanceMethod yX2_init, Cond.code yX2_init cX2_init 3 none, Cond.methodLink RX2 1 objectInit, Cond.instanceMethod objectInit, Cond.code objectInit ⟨#[0xb1]⟩ 1 none, Cond.classLink RX2 7 RX0, Cond.instantiable RX0 6, Cond.initialized RX0, Cond.fieldLink RX2 10 "ResolverFleet$Site" "cache" "LResolverFleet$Cache;", Cond.fieldLink RX2 16 "ResolverFleet$Site" "isAnnounced" "Z"]
def wsX4_addSite_r2 : List Cond := [Cond.fieldLink RX2 20 "ResolverFleet$Site" "number" "I", Cond.fieldLink RX2 24 "ResolverFleet$Site" "position" "I", Cond.methodLink RX2 9 yX0_init, Cond.instanceMethod yX0_init, Cond.code yX0_init cX0_init 1 none, Cond.methodLink RX0 3 objectInit, Cond.arrayClass .int, Cond.fieldLink RX0 9 "ResolverFleet$Cache" "kinds" "[I", Cond.fieldLink RX0 15 "ResolverFleet$Cache" "values" "[I", Cond.fieldLink RX0 18 "ResolverFleet$Cache" "lives" "[I", Cond.fieldLink RX0 21 "ResolverFleet$Cache" "ends" "[I", Cond.fieldLink RX0 24 "ResolverFleet$Cache" "hits" "[I", Cond.methodLink RX0 27 yJ7_fill_53178, Cond.static yJ7_fill_53178, Cond.initialized RJ7, Cond.code yJ7_fill_53178 cJ7_fill_53178 4 none]
def wsX4_addSite : List Cond := .code yX4_addSite cX4_addSite 3 (some .int) :: ((wsX4_addSite_r1 ++ wsX4_addSite_r2) ++ wsX40 ++ wsX20 ++ wsX00 ++ (vx_atS RX4 83 "java/lang/IllegalStateException" ["java/lang/RuntimeException", "java/lang/Exception"]).filter goodWord ++ (vx_atS RX4 59 "java/lang/IllegalArgumentException" ["java/lang/RuntimeException", "java/lang/Exception"]).filter goodWord)
def wsX4_siteNumbered : List Cond := .code yX4_siteNumbered cX4_siteNumbered 3 (some (.object "ResolverFleet$Site")) :: ([.classLink RX4 215 "java/lang/IndexOutOfBoundsException", .initialized "java/lang/IndexOutOfBoundsException", .fieldLink RX4 18 "ResolverFleet" "sites" "[LResolverFleet$Site;"] ++ wsX40 ++ (vx_atS RX4 219 "java/lang/IndexOutOfBoundsException" ["java/lang/RuntimeException", "java/lang/Exception"]).filter goodWord)
def wsX4_announce : List Cond := .code yX4_announce cX4_announce 5 (some .boolean) :: ([.fieldLink RX4 91 "ResolverFleet$Site" "isAnnounced" "Z", .methodLink RX4 87 yX4_siteNumbered, .instanceMethod yX4_siteNumbered, .selects RX4 yX4_siteNumbered yX4_siteNumbered, .initialized RX4, .code yX4_siteNumbered cX4_siteNumbered 3 (some (.object "ResolverFleet$Site")), .classLink RX4 215 "java/lang/IndexOutOfBoundsException", .initialized "java/lang/IndexOutOfBoundsException", .fieldLink RX4 18 "ResolverFleet" "sites" "[LResolverFleet$Site;"] ++ wsX20 ++ wsX40 ++ (vx_atS RX4 219 "java/lang/IndexOutOfBoundsException" ["java/lang/RuntimeException", "java/lang/Exception"]).filter goodWord)
def wsX4_nearestSite : List Cond := .code yX4_nearestSite cX4_nearestSite 7 (some (.object "ResolverFleet$Site")) :: ([.fieldLink RX4 18 "ResolverFleet" "sites" "[LResolverFleet$Site;", .fieldLink RX4 91 "ResolverFleet$Site" "isAnnounced" "Z", .methodLink RX4 226 yX2_distanceTo, .instanceMethod yX2_distanceTo, .selects RX2 yX2_distanceTo yX2_distanceTo, .initialized RX2, .code yX2_distanceTo cX2_distanceTo 2 (some .int), .fieldLink RX2 24 "ResolverFleet$Site" "position" "I", .methodLink RX2 27 Lib.Math.abs.name, .static Lib.Math.abs.name, .initialized "java/lang/Math", .code Lib.Math.abs.name Lib.Math.abs.code 1 (some .int)] ++ wsX40 ++ wsX20)
def wsX4_siteFor : List Cond := .code yX4_siteFor cX4_siteFor 3 (some .int) :: ([.fieldLink RX4 97 "ResolverFleet$Site" "number" "I", .methodLink RX4 47 yX4_requireWithin, .static yX4_requireWithin, .initialized RX4, .code yX4_requireWithin cX4_requireWithin 3 none, .classLink RX4 55 "java/lang/IllegalArgumentException", .initialized "java/lang/IllegalArgumentException", .methodLink RX4 94 yX4_nearestSite, .instanceMethod yX4_nearestSite, .selects RX4 yX4_nearestSite yX4_nearestSite, .code yX4_nearestSite cX4_nearestSite 7 (some (.object "ResolverFleet$Site")), .fieldLink RX4 18 "ResolverFleet" "sites" "[LResolverFleet$Site;", .fieldLink RX4 91 "ResolverFleet$Site" "isAnnounced" "Z", .methodLink RX4 226 yX2_distanceTo, .instanceMethod yX2_distanceTo, .selects RX2 yX2_distanceTo yX2_distanceTo, .initialized RX2, .code yX2_distanceTo cX2_distanceTo 2 (some .int), .fieldLink RX2 24 "ResolverFleet$Site" "position" "I", .methodLink RX2 27 Lib.Math.abs.name, .static Lib.Math.abs.name, .initialized "java/lang/Math", .code Lib.Math.abs.name Lib.Math.abs.code 1 (some .int)] ++ wsX20 ++ wsX40 ++ (vx_atS RX4 59 "java/lang/IllegalArgumentException" ["java/lang/RuntimeException", "java/lang/Exception"]).filter goodWord)
def wsX4_cacheAsked : List Cond := .code yX4_cacheAsked cX4_cacheAsked 4 (some (.object "ResolverFleet$Cache")) :: ([.fieldLink RX4 115 "ResolverFleet$Site" "cache" "LResolverFleet$Cache;", .methodLink RX4 87 yX4_siteNumbered, .instanceMethod yX4_siteNumbered, .selects RX4 yX4_siteNumbered yX4_siteNumbered, .initialized RX4, .code yX4_siteNumbered cX4_siteNumbered 3 (some (.object "ResolverFleet$Site")), .classLink RX4 215 "java/lang/IndexOutOfBoundsException", .initialized "java/lang/IndexOutOfBoundsException", .fieldLink RX4 18 "ResolverFleet" "sites" "[LResolverFleet$Site;", .methodLink RX4 43 yX4_requireName, .static yX4_requireName, .code yX4_requireName cX4_requireName 1 none] ++ wsX20 ++ wsX40 ++ (vx_atS RX4 219 "java/lang/IndexOutOfBoundsException" ["java/lang/RuntimeException", "java/lang/Exception"]).filter goodWord)
def wsX4_flush_r1 : List Cond := [Cond.methodLink RX4 100 yX4_cacheAsked, Cond.instanceMethod yX4_cacheAsked, Cond.selects RX4 yX4_cacheAsked yX4_cacheAsked, Cond.initialized RX4, Cond.code yX4_cacheAsked cX4_cacheAsked 4 (some (.object "ResolverFleet$Cache")), Cond.fieldLink RX4 115 "ResolverFleet$Site" "cache" "LResolverFleet$Cache;", Cond.methodLink RX4 87 yX4_siteNumbered, Cond.instanceMethod yX4_siteNumbered, Cond.selects RX4 yX4_siteNumbered yX4_siteNumbered, Cond.code yX4_siteNumbered cX4_siteNumbered 3 (some (.object "ResolverFleet$Site")), Cond.classLink RX4 215 "java/lang/IndexOutOfBoundsException", Cond.initialized "java/lang/IndexOutOfBoundsException", Cond.fieldLink RX4 18 "ResolverFleet" "sites" "[LResolverFleet$Site;", Cond.methodLink RX4 43 yX4_requireName, Cond.static yX4_requireName, Cond.code yX4_requireName cX4_requireName 1 none, Cond.methodLink RX4 104 yX0_drop, Cond.instanceMethod yX0_drop, Cond.selects RX0 yX0_drop yX0_drop, Cond.initialized RX0, Cond.code yX0_drop cX0_drop 2 (some .boolean), Cond.fieldLink RX0 9 "ResolverFleet$Cache" "kinds" "[I", Cond.fieldLink RX0 39 "ResolverFleet$Cache" "size" "I", Cond.methodLink RX0 43 yX0_has]
def wsX4_flush_r2 : List Cond := [Cond.instanceMethod yX0_has, Cond.selects RX0 yX0_has yX0_has, Cond.code yX0_has cX0_has 2 (some .boolean)]
def wsX4_flush : List Cond := .code yX4_flush cX4_flush 3 (some .boolean) :: ((wsX4_flush_r1 ++ wsX4_flush_r2) ++ wsX20 ++ wsX40 ++ wsX00 ++ (vx_atS RX4 219 "java/lang/IndexOutOfBoundsException" ["java/lang/RuntimeException", "java/lang/Exception"]).filter goodWord)
def wsX4_pass : List Cond := .code yX4_pass cX4_pass 2 (some .int) :: ([.fieldLink RX4 108 "ResolverFleet" "now" "I", .methodLink RX4 47 yX4_requireWithin, .static yX4_requireWithin, .initialized RX4, .code yX4_requireWithin cX4_requireWithin 3 none, .classLink RX4 55 "java/lang/IllegalArgumentException", .initialized "java/lang/IllegalArgumentException"] ++ wsX40 ++ (vx_atS RX4 59 "java/lang/IllegalArgumentException" ["java/lang/RuntimeException", "java/lang/Exception"]).filter goodWord)
def wsX4_time : List Cond := .code yX4_time cX4_time 1 (some .int) :: ([.fieldLink RX4 108 "ResolverFleet" "now" "I"] ++ wsX40)
def wsX4_siteAsked_r1 : List Cond := [Cond.classLink RX4 79 "java/lang/IllegalStateException", Cond.initialized "java/lang/IllegalStateException", Cond.methodLink RX4 43 yX4_requireName, Cond.static yX4_requireName, Cond.initialized RX4, Cond.code yX4_requireName cX4_requireName 1 none, Cond.classLink RX4 215 "java/lang/IndexOutOfBoundsException", Cond.initialized "java/lang/IndexOutOfBoundsException", Cond.methodLink RX4 47 yX4_requireWithin, Cond.static yX4_requireWithin, Cond.code yX4_requireWithin cX4_requireWithin 3 none, Cond.classLink RX4 55 "java/lang/IllegalArgumentException", Cond.initialized "java/lang/IllegalArgumentException", Cond.methodLink RX4 94 yX4_nearestSite, Cond.instanceMethod yX4_nearestSite, Cond.selects RX4 yX4_nearestSite yX4_nearestSite, Cond.code yX4_nearestSite cX4_nearestSite 7 (some (.object "ResolverFleet$Site")), Cond.fieldLink RX4 18 "ResolverFleet" "sites" "[LResolverFleet$Site;", Cond.fieldLink RX4 91 "ResolverFleet$Site" "isAnnounced" "Z", Cond.methodLink RX4 226 yX2_distanceTo, Cond.instanceMethod yX2_distanceTo, Cond.selects RX2 yX2_distanceTo yX2_distanceTo, Cond.initialized RX2, Cond.code yX2_distanceTo cX2_distanceTo 2 (some .int)]
def wsX4_siteAsked_r2 : List Cond := [Cond.fieldLink RX2 24 "ResolverFleet$Site" "position" "I", Cond.methodLink RX2 27 Lib.Math.abs.name, Cond.static Lib.Math.abs.name, Cond.initialized "java/lang/Math", Cond.code Lib.Math.abs.name Lib.Math.abs.code 1 (some .int)]
def wsX4_siteAsked : List Cond := .code yX4_siteAsked cX4_siteAsked 4 (some (.object "ResolverFleet$Site")) :: ((wsX4_siteAsked_r1 ++ wsX4_siteAsked_r2) ++ wsX40 ++ wsX20 ++ (vx_atS RX4 83 "java/lang/IllegalStateException" ["java/lang/RuntimeException", "java/lang/Exception"]).filter goodWord ++ (vx_atS RX4 219 "java/lang/IndexOutOfBoundsException" ["java/lang/RuntimeException", "java/lang/Exception"]).filter goodWord ++ (vx_atS RX4 59 "java/lang/IllegalArgumentException" ["java/lang/RuntimeException", "java/lang/Exception"]).filter goodWord)
def wsX4_fetch_r1 : List Cond := [Cond.fieldLink RX4 10 "ResolverFleet" "zone" "LResolverFleet$Zone;", Cond.fieldLink RX4 108 "ResolverFleet" "now" "I", Cond.fieldLink RX4 139 "ResolverFleet$Course" "fetches" "I", Cond.methodLink RX4 62 yX3_kindOf, Cond.instanceMethod yX3_kindOf, Cond.selects RX3 yX3_kindOf yX3_kindOf, Cond.initialized RX3, Cond.code yX3_kindOf cX3_kindOf 2 (some .int), Cond.fieldLink RX3 9 "ResolverFleet$Zone" "kinds" "[I", Cond.methodLink RX4 73 yX3_valueOf, Cond.instanceMethod yX3_valueOf, Cond.selects RX3 yX3_valueOf yX3_valueOf, Cond.code yX3_valueOf cX3_valueOf 2 (some .int), Cond.fieldLink RX3 15 "ResolverFleet$Zone" "values" "[I", Cond.methodLink RX4 197 yX3_lifeOf, Cond.instanceMethod yX3_lifeOf, Cond.selects RX3 yX3_lifeOf yX3_lifeOf, Cond.code yX3_lifeOf cX3_lifeOf 2 (some .int), Cond.fieldLink RX3 21 "ResolverFleet$Zone" "bound" "I", Cond.fieldLink RX3 18 "ResolverFleet$Zone" "lives" "[I", Cond.methodLink RX4 200 yX0_put, Cond.instanceMethod yX0_put, Cond.selects RX0 yX0_put yX0_put, Cond.initialized RX0]
def wsX4_fetch_r2 : List Cond := [Cond.code yX0_put cX0_put 6 none, Cond.fieldLink RX0 9 "ResolverFleet$Cache" "kinds" "[I", Cond.fieldLink RX0 39 "ResolverFleet$Cache" "size" "I", Cond.fieldLink RX0 15 "ResolverFleet$Cache" "values" "[I", Cond.fieldLink RX0 18 "ResolverFleet$Cache" "lives" "[I", Cond.fieldLink RX0 21 "ResolverFleet$Cache" "ends" "[I", Cond.fieldLink RX0 24 "ResolverFleet$Cache" "hits" "[I", Cond.methodLink RX0 47 yX0_firstToEnd, Cond.instanceMethod yX0_firstToEnd, Cond.selects RX0 yX0_firstToEnd yX0_firstToEnd, Cond.code yX0_firstToEnd cX0_firstToEnd 3 (some .int), Cond.methodLink RX0 51 yX0_drop, Cond.instanceMethod yX0_drop, Cond.selects RX0 yX0_drop yX0_drop, Cond.code yX0_drop cX0_drop 2 (some .boolean), Cond.methodLink RX0 43 yX0_has, Cond.instanceMethod yX0_has, Cond.selects RX0 yX0_has yX0_has, Cond.code yX0_has cX0_has 2 (some .boolean)]
def wsX4_fetch : List Cond := .code yX4_fetch cX4_fetch 4 none :: ((wsX4_fetch_r1 ++ wsX4_fetch_r2) ++ wsX40 ++ wsX10 ++ wsX30 ++ wsX00)
def wsX4_lookUp_r1 : List Cond := [Cond.fieldLink RX4 136 "ResolverFleet$Course" "lookUps" "I", Cond.fieldLink RX4 108 "ResolverFleet" "now" "I", Cond.fieldLink RX4 10 "ResolverFleet" "zone" "LResolverFleet$Zone;", Cond.fieldLink RX4 69 "ResolverFleet$Zone" "isUp" "Z", Cond.fieldLink RX4 133 "ResolverFleet$Course" "isStale" "Z", Cond.methodLink RX4 180 yX0_isFresh, Cond.instanceMethod yX0_isFresh, Cond.selects RX0 yX0_isFresh yX0_isFresh, Cond.initialized RX0, Cond.code yX0_isFresh cX0_isFresh 3 (some .boolean), Cond.fieldLink RX0 21 "ResolverFleet$Cache" "ends" "[I", Cond.methodLink RX0 43 yX0_has, Cond.instanceMethod yX0_has, Cond.selects RX0 yX0_has yX0_has, Cond.code yX0_has cX0_has 2 (some .boolean), Cond.fieldLink RX0 9 "ResolverFleet$Cache" "kinds" "[I", Cond.methodLink RX4 184 yX0_countHit, Cond.instanceMethod yX0_countHit, Cond.selects RX0 yX0_countHit yX0_countHit, Cond.code yX0_countHit cX0_countHit 2 none, Cond.fieldLink RX0 24 "ResolverFleet$Cache" "hits" "[I", Cond.methodLink RX4 187 yX1_noteFresh, Cond.instanceMethod yX1_noteFresh, Cond.selects RX1 yX1_noteFresh yX1_noteFresh]
def wsX4_lookUp_r2 : List Cond := [Cond.initialized RX1, Cond.code yX1_noteFresh cX1_noteFresh 2 none, Cond.fieldLink RX1 15 "ResolverFleet$Course" "freshCount" "I", Cond.fieldLink RX1 9 "ResolverFleet$Course" "freshNames" "[I", Cond.methodLink RX4 190 yX4_fetch, Cond.instanceMethod yX4_fetch, Cond.selects RX4 yX4_fetch yX4_fetch, Cond.initialized RX4, Cond.code yX4_fetch cX4_fetch 4 none, Cond.fieldLink RX4 139 "ResolverFleet$Course" "fetches" "I", Cond.methodLink RX4 62 yX3_kindOf, Cond.instanceMethod yX3_kindOf, Cond.selects RX3 yX3_kindOf yX3_kindOf, Cond.initialized RX3, Cond.code yX3_kindOf cX3_kindOf 2 (some .int), Cond.fieldLink RX3 9 "ResolverFleet$Zone" "kinds" "[I", Cond.methodLink RX4 73 yX3_valueOf, Cond.instanceMethod yX3_valueOf, Cond.selects RX3 yX3_valueOf yX3_valueOf, Cond.code yX3_valueOf cX3_valueOf 2 (some .int), Cond.fieldLink RX3 15 "ResolverFleet$Zone" "values" "[I", Cond.methodLink RX4 197 yX3_lifeOf, Cond.instanceMethod yX3_lifeOf, Cond.selects RX3 yX3_lifeOf yX3_lifeOf]
def wsX4_lookUp_r3 : List Cond := [Cond.code yX3_lifeOf cX3_lifeOf 2 (some .int), Cond.fieldLink RX3 21 "ResolverFleet$Zone" "bound" "I", Cond.fieldLink RX3 18 "ResolverFleet$Zone" "lives" "[I", Cond.methodLink RX4 200 yX0_put, Cond.instanceMethod yX0_put, Cond.selects RX0 yX0_put yX0_put, Cond.code yX0_put cX0_put 6 none, Cond.fieldLink RX0 39 "ResolverFleet$Cache" "size" "I", Cond.fieldLink RX0 15 "ResolverFleet$Cache" "values" "[I", Cond.fieldLink RX0 18 "ResolverFleet$Cache" "lives" "[I", Cond.methodLink RX0 47 yX0_firstToEnd, Cond.instanceMethod yX0_firstToEnd, Cond.selects RX0 yX0_firstToEnd yX0_firstToEnd, Cond.code yX0_firstToEnd cX0_firstToEnd 3 (some .int), Cond.methodLink RX0 51 yX0_drop, Cond.instanceMethod yX0_drop, Cond.selects RX0 yX0_drop yX0_drop, Cond.code yX0_drop cX0_drop 2 (some .boolean), Cond.methodLink RX4 194 yX0_servesStale, Cond.instanceMethod yX0_servesStale, Cond.selects RX0 yX0_servesStale yX0_servesStale, Cond.code yX0_servesStale cX0_servesStale 3 (some .boolean)]
def wsX4_lookUp : List Cond := .code yX4_lookUp cX4_lookUp 4 (some .boolean) :: ((wsX4_lookUp_r1 ++ (wsX4_lookUp_r2 ++ wsX4_lookUp_r3)) ++ wsX10 ++ wsX40 ++ wsX30 ++ wsX00)
def wsX4_resolve_r1 : List Cond := [Cond.methodLink RX4 173 yX1_begin, Cond.instanceMethod yX1_begin, Cond.selects RX1 yX1_begin yX1_begin, Cond.initialized RX1, Cond.code yX1_begin cX1_begin 1 none, Cond.fieldLink RX1 15 "ResolverFleet$Course" "freshCount" "I", Cond.fieldLink RX1 19 "ResolverFleet$Course" "lookUps" "I", Cond.fieldLink RX1 22 "ResolverFleet$Course" "fetches" "I", Cond.fieldLink RX1 25 "ResolverFleet$Course" "prefetches" "I", Cond.fieldLink RX1 28 "ResolverFleet$Course" "isStale" "Z", Cond.methodLink RX4 176 yX4_lookUp, Cond.instanceMethod yX4_lookUp, Cond.selects RX4 yX4_lookUp yX4_lookUp, Cond.initialized RX4, Cond.code yX4_lookUp cX4_lookUp 4 (some .boolean), Cond.fieldLink RX4 136 "ResolverFleet$Course" "lookUps" "I", Cond.fieldLink RX4 108 "ResolverFleet" "now" "I", Cond.fieldLink RX4 10 "ResolverFleet" "zone" "LResolverFleet$Zone;", Cond.fieldLink RX4 69 "ResolverFleet$Zone" "isUp" "Z", Cond.fieldLink RX4 133 "ResolverFleet$Course" "isStale" "Z", Cond.methodLink RX4 180 yX0_isFresh, Cond.instanceMethod yX0_isFresh, Cond.selects RX0 yX0_isFresh yX0_isFresh, Cond.initialized RX0]
def wsX4_resolve_r2 : List Cond := [Cond.code yX0_isFresh cX0_isFresh 3 (some .boolean), Cond.fieldLink RX0 21 "ResolverFleet$Cache" "ends" "[I", Cond.methodLink RX0 43 yX0_has, Cond.instanceMethod yX0_has, Cond.selects RX0 yX0_has yX0_has, Cond.code yX0_has cX0_has 2 (some .boolean), Cond.fieldLink RX0 9 "ResolverFleet$Cache" "kinds" "[I", Cond.methodLink RX4 184 yX0_countHit, Cond.instanceMethod yX0_countHit, Cond.selects RX0 yX0_countHit yX0_countHit, Cond.code yX0_countHit cX0_countHit 2 none, Cond.fieldLink RX0 24 "ResolverFleet$Cache" "hits" "[I", Cond.methodLink RX4 187 yX1_noteFresh, Cond.instanceMethod yX1_noteFresh, Cond.selects RX1 yX1_noteFresh yX1_noteFresh, Cond.code yX1_noteFresh cX1_noteFresh 2 none, Cond.fieldLink RX1 9 "ResolverFleet$Course" "freshNames" "[I", Cond.methodLink RX4 190 yX4_fetch, Cond.instanceMethod yX4_fetch, Cond.selects RX4 yX4_fetch yX4_fetch, Cond.code yX4_fetch cX4_fetch 4 none, Cond.fieldLink RX4 139 "ResolverFleet$Course" "fetches" "I", Cond.methodLink RX4 62 yX3_kindOf, Cond.instanceMethod yX3_kindOf]
def wsX4_resolve_r3 : List Cond := [Cond.selects RX3 yX3_kindOf yX3_kindOf, Cond.initialized RX3, Cond.code yX3_kindOf cX3_kindOf 2 (some .int), Cond.fieldLink RX3 9 "ResolverFleet$Zone" "kinds" "[I", Cond.methodLink RX4 73 yX3_valueOf, Cond.instanceMethod yX3_valueOf, Cond.selects RX3 yX3_valueOf yX3_valueOf, Cond.code yX3_valueOf cX3_valueOf 2 (some .int), Cond.fieldLink RX3 15 "ResolverFleet$Zone" "values" "[I", Cond.methodLink RX4 197 yX3_lifeOf, Cond.instanceMethod yX3_lifeOf, Cond.selects RX3 yX3_lifeOf yX3_lifeOf, Cond.code yX3_lifeOf cX3_lifeOf 2 (some .int), Cond.fieldLink RX3 21 "ResolverFleet$Zone" "bound" "I", Cond.fieldLink RX3 18 "ResolverFleet$Zone" "lives" "[I", Cond.methodLink RX4 200 yX0_put, Cond.instanceMethod yX0_put, Cond.selects RX0 yX0_put yX0_put, Cond.code yX0_put cX0_put 6 none, Cond.fieldLink RX0 39 "ResolverFleet$Cache" "size" "I", Cond.fieldLink RX0 15 "ResolverFleet$Cache" "values" "[I", Cond.fieldLink RX0 18 "ResolverFleet$Cache" "lives" "[I", Cond.methodLink RX0 47 yX0_firstToEnd, Cond.instanceMethod yX0_firstToEnd]
def wsX4_resolve_r4 : List Cond := [Cond.selects RX0 yX0_firstToEnd yX0_firstToEnd, Cond.code yX0_firstToEnd cX0_firstToEnd 3 (some .int), Cond.methodLink RX0 51 yX0_drop, Cond.instanceMethod yX0_drop, Cond.selects RX0 yX0_drop yX0_drop, Cond.code yX0_drop cX0_drop 2 (some .boolean), Cond.methodLink RX4 194 yX0_servesStale, Cond.instanceMethod yX0_servesStale, Cond.selects RX0 yX0_servesStale yX0_servesStale, Cond.code yX0_servesStale cX0_servesStale 3 (some .boolean), Cond.methodLink RX4 145 yX0_kindOf, Cond.instanceMethod yX0_kindOf, Cond.selects RX0 yX0_kindOf yX0_kindOf, Cond.code yX0_kindOf cX0_kindOf 2 (some .int), Cond.methodLink RX4 146 yX0_valueOf, Cond.instanceMethod yX0_valueOf, Cond.selects RX0 yX0_valueOf yX0_valueOf, Cond.code yX0_valueOf cX0_valueOf 2 (some .int)]
def wsX4_resolve : List Cond := .code yX4_resolve cX4_resolve 8 (some .int) :: ((wsX4_resolve_r1 ++ (wsX4_resolve_r2 ++ (wsX4_resolve_r3 ++ wsX4_resolve_r4))) ++ wsX10 ++ wsX40 ++ wsX30 ++ wsX00)
def wsX4_fetchHotAnew_r1 : List Cond := [Cond.fieldLink RX4 10 "ResolverFleet" "zone" "LResolverFleet$Zone;", Cond.fieldLink RX4 69 "ResolverFleet$Zone" "isUp" "Z", Cond.fieldLink RX4 203 "ResolverFleet$Course" "freshCount" "I", Cond.fieldLink RX4 108 "ResolverFleet" "now" "I", Cond.fieldLink RX4 212 "ResolverFleet$Course" "prefetches" "I", Cond.methodLink RX4 206 yX1_freshNameAt, Cond.instanceMethod yX1_freshNameAt, Cond.selects RX1 yX1_freshNameAt yX1_freshNameAt, Cond.initialized RX1, Cond.code yX1_freshNameAt cX1_freshNameAt 2 (some .int), Cond.fieldLink RX1 15 "ResolverFleet$Course" "freshCount" "I", Cond.fieldLink RX1 9 "ResolverFleet$Course" "freshNames" "[I", Cond.methodLink RX4 209 yX0_isHot, Cond.instanceMethod yX0_isHot, Cond.selects RX0 yX0_isHot yX0_isHot, Cond.initialized RX0, Cond.code yX0_isHot cX0_isHot 3 (some .boolean), Cond.fieldLink RX0 24 "ResolverFleet$Cache" "hits" "[I", Cond.fieldLink RX0 21 "ResolverFleet$Cache" "ends" "[I", Cond.fieldLink RX0 18 "ResolverFleet$Cache" "lives" "[I", Cond.methodLink RX0 43 yX0_has, Cond.instanceMethod yX0_has, Cond.selects RX0 yX0_has yX0_has, Cond.code yX0_has cX0_has 2 (some .boolean)]
def wsX4_fetchHotAnew_r2 : List Cond := [Cond.fieldLink RX0 9 "ResolverFleet$Cache" "kinds" "[I", Cond.methodLink RX4 190 yX4_fetch, Cond.instanceMethod yX4_fetch, Cond.selects RX4 yX4_fetch yX4_fetch, Cond.initialized RX4, Cond.code yX4_fetch cX4_fetch 4 none, Cond.fieldLink RX4 139 "ResolverFleet$Course" "fetches" "I", Cond.methodLink RX4 62 yX3_kindOf, Cond.instanceMethod yX3_kindOf, Cond.selects RX3 yX3_kindOf yX3_kindOf, Cond.initialized RX3, Cond.code yX3_kindOf cX3_kindOf 2 (some .int), Cond.fieldLink RX3 9 "ResolverFleet$Zone" "kinds" "[I", Cond.methodLink RX4 73 yX3_valueOf, Cond.instanceMethod yX3_valueOf, Cond.selects RX3 yX3_valueOf yX3_valueOf, Cond.code yX3_valueOf cX3_valueOf 2 (some .int), Cond.fieldLink RX3 15 "ResolverFleet$Zone" "values" "[I", Cond.methodLink RX4 197 yX3_lifeOf, Cond.instanceMethod yX3_lifeOf, Cond.selects RX3 yX3_lifeOf yX3_lifeOf, Cond.code yX3_lifeOf cX3_lifeOf 2 (some .int), Cond.fieldLink RX3 21 "ResolverFleet$Zone" "bound" "I", Cond.fieldLink RX3 18 "ResolverFleet$Zone" "lives" "[I"]
def wsX4_fetchHotAnew_r3 : List Cond := [Cond.methodLink RX4 200 yX0_put, Cond.instanceMethod yX0_put, Cond.selects RX0 yX0_put yX0_put, Cond.code yX0_put cX0_put 6 none, Cond.fieldLink RX0 39 "ResolverFleet$Cache" "size" "I", Cond.fieldLink RX0 15 "ResolverFleet$Cache" "values" "[I", Cond.methodLink RX0 47 yX0_firstToEnd, Cond.instanceMethod yX0_firstToEnd, Cond.selects RX0 yX0_firstToEnd yX0_firstToEnd, Cond.code yX0_firstToEnd cX0_firstToEnd 3 (some .int), Cond.methodLink RX0 51 yX0_drop, Cond.instanceMethod yX0_drop, Cond.selects RX0 yX0_drop yX0_drop, Cond.code yX0_drop cX0_drop 2 (some .boolean)]
def wsX4_fetchHotAnew : List Cond := .code yX4_fetchHotAnew cX4_fetchHotAnew 6 none :: ((wsX4_fetchHotAnew_r1 ++ (wsX4_fetchHotAnew_r2 ++ wsX4_fetchHotAnew_r3)) ++ wsX40 ++ wsX30 ++ wsX10 ++ wsX00)
def wsX4_countQuery : List Cond := .code yX4_countQuery cX4_countQuery 2 none :: ([.fieldLink RX4 158 "ResolverFleet" "queryCount" "I", .fieldLink RX4 161 "ResolverFleet" "fetchCount" "I", .fieldLink RX4 25 "ResolverFleet" "last" "LResolverFleet$Course;", .fieldLink RX4 139 "ResolverFleet$Course" "fetches" "I", .fieldLink RX4 164 "ResolverFleet" "prefetchCount" "I", .fieldLink RX4 212 "ResolverFleet$Course" "prefetches" "I", .fieldLink RX4 133 "ResolverFleet$Course" "isStale" "Z", .fieldLink RX4 167 "ResolverFleet" "staleCount" "I", .fieldLink RX4 170 "ResolverFleet" "failureCount" "I"] ++ wsX40 ++ wsX10)
def wsX4_query_r1 : List Cond := [Cond.fieldLink RX4 115 "ResolverFleet$Site" "cache" "LResolverFleet$Cache;", Cond.fieldLink RX4 25 "ResolverFleet" "last" "LResolverFleet$Course;", Cond.fieldLink RX4 97 "ResolverFleet$Site" "number" "I", Cond.fieldLink RX4 29 "ResolverFleet" "lastSiteNumber" "I", Cond.methodLink RX4 111 yX4_siteAsked, Cond.instanceMethod yX4_siteAsked, Cond.selects RX4 yX4_siteAsked yX4_siteAsked, Cond.initialized RX4, Cond.code yX4_siteAsked cX4_siteAsked 4 (some (.object "ResolverFleet$Site")), Cond.classLink RX4 79 "java/lang/IllegalStateException", Cond.initialized "java/lang/IllegalStateException", Cond.methodLink RX4 43 yX4_requireName, Cond.static yX4_requireName, Cond.code yX4_requireName cX4_requireName 1 none, Cond.classLink RX4 215 "java/lang/IndexOutOfBoundsException", Cond.initialized "java/lang/IndexOutOfBoundsException", Cond.methodLink RX4 47 yX4_requireWithin, Cond.static yX4_requireWithin, Cond.code yX4_requireWithin cX4_requireWithin 3 none, Cond.classLink RX4 55 "java/lang/IllegalArgumentException", Cond.initialized "java/lang/IllegalArgumentException", Cond.methodLink RX4 94 yX4_nearestSite, Cond.instanceMethod yX4_nearestSite, Cond.selects RX4 yX4_nearestSite yX4_nearestSite]
def wsX4_query_r2 : List Cond := [Cond.code yX4_nearestSite cX4_nearestSite 7 (some (.object "ResolverFleet$Site")), Cond.fieldLink RX4 18 "ResolverFleet" "sites" "[LResolverFleet$Site;", Cond.fieldLink RX4 91 "ResolverFleet$Site" "isAnnounced" "Z", Cond.methodLink RX4 226 yX2_distanceTo, Cond.instanceMethod yX2_distanceTo, Cond.selects RX2 yX2_distanceTo yX2_distanceTo, Cond.initialized RX2, Cond.code yX2_distanceTo cX2_distanceTo 2 (some .int), Cond.fieldLink RX2 24 "ResolverFleet$Site" "position" "I", Cond.methodLink RX2 27 Lib.Math.abs.name, Cond.static Lib.Math.abs.name, Cond.initialized "java/lang/Math", Cond.code Lib.Math.abs.name Lib.Math.abs.code 1 (some .int), Cond.methodLink RX4 118 yX4_resolve, Cond.instanceMethod yX4_resolve, Cond.selects RX4 yX4_resolve yX4_resolve, Cond.code yX4_resolve cX4_resolve 8 (some .int), Cond.methodLink RX4 173 yX1_begin, Cond.instanceMethod yX1_begin, Cond.selects RX1 yX1_begin yX1_begin, Cond.initialized RX1, Cond.code yX1_begin cX1_begin 1 none, Cond.fieldLink RX1 15 "ResolverFleet$Course" "freshCount" "I", Cond.fieldLink RX1 19 "ResolverFleet$Course" "lookUps" "I"]
def wsX4_query_r3 : List Cond := [Cond.fieldLink RX1 22 "ResolverFleet$Course" "fetches" "I", Cond.fieldLink RX1 25 "ResolverFleet$Course" "prefetches" "I", Cond.fieldLink RX1 28 "ResolverFleet$Course" "isStale" "Z", Cond.methodLink RX4 176 yX4_lookUp, Cond.instanceMethod yX4_lookUp, Cond.selects RX4 yX4_lookUp yX4_lookUp, Cond.code yX4_lookUp cX4_lookUp 4 (some .boolean), Cond.fieldLink RX4 136 "ResolverFleet$Course" "lookUps" "I", Cond.fieldLink RX4 108 "ResolverFleet" "now" "I", Cond.fieldLink RX4 10 "ResolverFleet" "zone" "LResolverFleet$Zone;", Cond.fieldLink RX4 69 "ResolverFleet$Zone" "isUp" "Z", Cond.fieldLink RX4 133 "ResolverFleet$Course" "isStale" "Z", Cond.methodLink RX4 180 yX0_isFresh, Cond.instanceMethod yX0_isFresh, Cond.selects RX0 yX0_isFresh yX0_isFresh, Cond.initialized RX0, Cond.code yX0_isFresh cX0_isFresh 3 (some .boolean), Cond.fieldLink RX0 21 "ResolverFleet$Cache" "ends" "[I", Cond.methodLink RX0 43 yX0_has, Cond.instanceMethod yX0_has, Cond.selects RX0 yX0_has yX0_has, Cond.code yX0_has cX0_has 2 (some .boolean), Cond.fieldLink RX0 9 "ResolverFleet$Cache" "kinds" "[I", Cond.methodLink RX4 184 yX0_countHit]
def wsX4_query_r4 : List Cond := [Cond.instanceMethod yX0_countHit, Cond.selects RX0 yX0_countHit yX0_countHit, Cond.code yX0_countHit cX0_countHit 2 none, Cond.fieldLink RX0 24 "ResolverFleet$Cache" "hits" "[I", Cond.methodLink RX4 187 yX1_noteFresh, Cond.instanceMethod yX1_noteFresh, Cond.selects RX1 yX1_noteFresh yX1_noteFresh, Cond.code yX1_noteFresh cX1_noteFresh 2 none, Cond.fieldLink RX1 9 "ResolverFleet$Course" "freshNames" "[I", Cond.methodLink RX4 190 yX4_fetch, Cond.instanceMethod yX4_fetch, Cond.selects RX4 yX4_fetch yX4_fetch, Cond.code yX4_fetch cX4_fetch 4 none, Cond.fieldLink RX4 139 "ResolverFleet$Course" "fetches" "I", Cond.methodLink RX4 62 yX3_kindOf, Cond.instanceMethod yX3_kindOf, Cond.selects RX3 yX3_kindOf yX3_kindOf, Cond.initialized RX3, Cond.code yX3_kindOf cX3_kindOf 2 (some .int), Cond.fieldLink RX3 9 "ResolverFleet$Zone" "kinds" "[I", Cond.methodLink RX4 73 yX3_valueOf, Cond.instanceMethod yX3_valueOf, Cond.selects RX3 yX3_valueOf yX3_valueOf, Cond.code yX3_valueOf cX3_valueOf 2 (some .int)]
def wsX4_query_r5 : List Cond := [Cond.fieldLink RX3 15 "ResolverFleet$Zone" "values" "[I", Cond.methodLink RX4 197 yX3_lifeOf, Cond.instanceMethod yX3_lifeOf, Cond.selects RX3 yX3_lifeOf yX3_lifeOf, Cond.code yX3_lifeOf cX3_lifeOf 2 (some .int), Cond.fieldLink RX3 21 "ResolverFleet$Zone" "bound" "I", Cond.fieldLink RX3 18 "ResolverFleet$Zone" "lives" "[I", Cond.methodLink RX4 200 yX0_put, Cond.instanceMethod yX0_put, Cond.selects RX0 yX0_put yX0_put, Cond.code yX0_put cX0_put 6 none, Cond.fieldLink RX0 39 "ResolverFleet$Cache" "size" "I", Cond.fieldLink RX0 15 "ResolverFleet$Cache" "values" "[I", Cond.fieldLink RX0 18 "ResolverFleet$Cache" "lives" "[I", Cond.methodLink RX0 47 yX0_firstToEnd, Cond.instanceMethod yX0_firstToEnd, Cond.selects RX0 yX0_firstToEnd yX0_firstToEnd, Cond.code yX0_firstToEnd cX0_firstToEnd 3 (some .int), Cond.methodLink RX0 51 yX0_drop, Cond.instanceMethod yX0_drop, Cond.selects RX0 yX0_drop yX0_drop, Cond.code yX0_drop cX0_drop 2 (some .boolean), Cond.methodLink RX4 194 yX0_servesStale, Cond.instanceMethod yX0_servesStale]
def wsX4_query_r6 : List Cond := [Cond.selects RX0 yX0_servesStale yX0_servesStale, Cond.code yX0_servesStale cX0_servesStale 3 (some .boolean), Cond.methodLink RX4 145 yX0_kindOf, Cond.instanceMethod yX0_kindOf, Cond.selects RX0 yX0_kindOf yX0_kindOf, Cond.code yX0_kindOf cX0_kindOf 2 (some .int), Cond.methodLink RX4 146 yX0_valueOf, Cond.instanceMethod yX0_valueOf, Cond.selects RX0 yX0_valueOf yX0_valueOf, Cond.code yX0_valueOf cX0_valueOf 2 (some .int), Cond.methodLink RX4 122 yX4_fetchHotAnew, Cond.instanceMethod yX4_fetchHotAnew, Cond.selects RX4 yX4_fetchHotAnew yX4_fetchHotAnew, Cond.code yX4_fetchHotAnew cX4_fetchHotAnew 6 none, Cond.fieldLink RX4 203 "ResolverFleet$Course" "freshCount" "I", Cond.fieldLink RX4 212 "ResolverFleet$Course" "prefetches" "I", Cond.methodLink RX4 206 yX1_freshNameAt, Cond.instanceMethod yX1_freshNameAt, Cond.selects RX1 yX1_freshNameAt yX1_freshNameAt, Cond.code yX1_freshNameAt cX1_freshNameAt 2 (some .int), Cond.methodLink RX4 209 yX0_isHot, Cond.instanceMethod yX0_isHot, Cond.selects RX0 yX0_isHot yX0_isHot, Cond.code yX0_isHot cX0_isHot 3 (some .boolean)]
def wsX4_query_r7 : List Cond := [Cond.methodLink RX4 126 yX4_countQuery, Cond.instanceMethod yX4_countQuery, Cond.selects RX4 yX4_countQuery yX4_countQuery, Cond.code yX4_countQuery cX4_countQuery 2 none, Cond.fieldLink RX4 158 "ResolverFleet" "queryCount" "I", Cond.fieldLink RX4 161 "ResolverFleet" "fetchCount" "I", Cond.fieldLink RX4 164 "ResolverFleet" "prefetchCount" "I", Cond.fieldLink RX4 167 "ResolverFleet" "staleCount" "I", Cond.fieldLink RX4 170 "ResolverFleet" "failureCount" "I"]
def wsX4_query : List Cond := .code yX4_query cX4_query 5 (some .int) :: ((wsX4_query_r1 ++ (wsX4_query_r2 ++ (wsX4_query_r3 ++ (wsX4_query_r4 ++ (wsX4_query_r5 ++ (wsX4_query_r6 ++ wsX4_query_r7)))))) ++ wsX20 ++ wsX40 ++ wsX10 ++ wsX30 ++ wsX00 ++ (vx_atS RX4 83 "java/lang/IllegalStateException" ["java/lang/RuntimeException", "java/lang/Exception"]).filter goodWord ++ (vx_atS RX4 219 "java/lang/IndexOutOfBoundsException" ["java/lang/RuntimeException", "java/lang/Exception"]).filter goodWord ++ (vx_atS RX4 59 "java/lang/IllegalArgumentException" ["java/lang/RuntimeException", "java/lang/Exception"]).filter goodWord)
def wsX4_wouldAnswer_r1 : List Cond := [Cond.fieldLink RX4 39 "ResolverFleet" "trialCache" "LResolverFleet$Cache;", Cond.fieldLink RX4 115 "ResolverFleet$Site" "cache" "LResolverFleet$Cache;", Cond.fieldLink RX4 33 "ResolverFleet" "trial" "LResolverFleet$Course;", Cond.methodLink RX4 111 yX4_siteAsked, Cond.instanceMethod yX4_siteAsked, Cond.selects RX4 yX4_siteAsked yX4_siteAsked, Cond.initialized RX4, Cond.code yX4_siteAsked cX4_siteAsked 4 (some (.object "ResolverFleet$Site")), Cond.classLink RX4 79 "java/lang/IllegalStateException", Cond.initialized "java/lang/IllegalStateException", Cond.methodLink RX4 43 yX4_requireName, Cond.static yX4_requireName, Cond.code yX4_requireName cX4_requireName 1 none, Cond.classLink RX4 215 "java/lang/IndexOutOfBoundsException", Cond.initialized "java/lang/IndexOutOfBoundsException", Cond.methodLink RX4 47 yX4_requireWithin, Cond.static yX4_requireWithin, Cond.code yX4_requireWithin cX4_requireWithin 3 none, Cond.classLink RX4 55 "java/lang/IllegalArgumentException", Cond.initialized "java/lang/IllegalArgumentException", Cond.methodLink RX4 94 yX4_nearestSite, Cond.instanceMethod yX4_nearestSite, Cond.selects RX4 yX4_nearestSite yX4_nearestSite, Cond.code yX4_nearestSite cX4_nearestSite 7 (some (.object "ResolverFleet$Site"))]
def wsX4_wouldAnswer_r2 : List Cond := [Cond.fieldLink RX4 18 "ResolverFleet" "sites" "[LResolverFleet$Site;", Cond.fieldLink RX4 91 "ResolverFleet$Site" "isAnnounced" "Z", Cond.methodLink RX4 226 yX2_distanceTo, Cond.instanceMethod yX2_distanceTo, Cond.selects RX2 yX2_distanceTo yX2_distanceTo, Cond.initialized RX2, Cond.code yX2_distanceTo cX2_distanceTo 2 (some .int), Cond.fieldLink RX2 24 "ResolverFleet$Site" "position" "I", Cond.methodLink RX2 27 Lib.Math.abs.name, Cond.static Lib.Math.abs.name, Cond.initialized "java/lang/Math", Cond.code Lib.Math.abs.name Lib.Math.abs.code 1 (some .int), Cond.methodLink RX4 129 yX0_copyFrom, Cond.instanceMethod yX0_copyFrom, Cond.selects RX0 yX0_copyFrom yX0_copyFrom, Cond.initialized RX0, Cond.code yX0_copyFrom cX0_copyFrom 2 none, Cond.fieldLink RX0 9 "ResolverFleet$Cache" "kinds" "[I", Cond.methodLink RX0 33 arraycopyName, Cond.native arraycopyName, Cond.static arraycopyName, Cond.initialized "java/lang/System", Cond.fieldLink RX0 15 "ResolverFleet$Cache" "values" "[I", Cond.fieldLink RX0 18 "ResolverFleet$Cache" "lives" "[I"]
def wsX4_wouldAnswer_r3 : List Cond := [Cond.fieldLink RX0 21 "ResolverFleet$Cache" "ends" "[I", Cond.fieldLink RX0 24 "ResolverFleet$Cache" "hits" "[I", Cond.fieldLink RX0 39 "ResolverFleet$Cache" "size" "I", Cond.methodLink RX4 118 yX4_resolve, Cond.instanceMethod yX4_resolve, Cond.selects RX4 yX4_resolve yX4_resolve, Cond.code yX4_resolve cX4_resolve 8 (some .int), Cond.methodLink RX4 173 yX1_begin, Cond.instanceMethod yX1_begin, Cond.selects RX1 yX1_begin yX1_begin, Cond.initialized RX1, Cond.code yX1_begin cX1_begin 1 none, Cond.fieldLink RX1 15 "ResolverFleet$Course" "freshCount" "I", Cond.fieldLink RX1 19 "ResolverFleet$Course" "lookUps" "I", Cond.fieldLink RX1 22 "ResolverFleet$Course" "fetches" "I", Cond.fieldLink RX1 25 "ResolverFleet$Course" "prefetches" "I", Cond.fieldLink RX1 28 "ResolverFleet$Course" "isStale" "Z", Cond.methodLink RX4 176 yX4_lookUp, Cond.instanceMethod yX4_lookUp, Cond.selects RX4 yX4_lookUp yX4_lookUp, Cond.code yX4_lookUp cX4_lookUp 4 (some .boolean), Cond.fieldLink RX4 136 "ResolverFleet$Course" "lookUps" "I", Cond.fieldLink RX4 108 "ResolverFleet" "now" "I", Cond.fieldLink RX4 10 "ResolverFleet" "zone" "LResolverFleet$Zone;"]
def wsX4_wouldAnswer_r4 : List Cond := [Cond.fieldLink RX4 69 "ResolverFleet$Zone" "isUp" "Z", Cond.fieldLink RX4 133 "ResolverFleet$Course" "isStale" "Z", Cond.methodLink RX4 180 yX0_isFresh, Cond.instanceMethod yX0_isFresh, Cond.selects RX0 yX0_isFresh yX0_isFresh, Cond.code yX0_isFresh cX0_isFresh 3 (some .boolean), Cond.methodLink RX0 43 yX0_has, Cond.instanceMethod yX0_has, Cond.selects RX0 yX0_has yX0_has, Cond.code yX0_has cX0_has 2 (some .boolean), Cond.methodLink RX4 184 yX0_countHit, Cond.instanceMethod yX0_countHit, Cond.selects RX0 yX0_countHit yX0_countHit, Cond.code yX0_countHit cX0_countHit 2 none, Cond.methodLink RX4 187 yX1_noteFresh, Cond.instanceMethod yX1_noteFresh, Cond.selects RX1 yX1_noteFresh yX1_noteFresh, Cond.code yX1_noteFresh cX1_noteFresh 2 none, Cond.fieldLink RX1 9 "ResolverFleet$Course" "freshNames" "[I", Cond.methodLink RX4 190 yX4_fetch, Cond.instanceMethod yX4_fetch, Cond.selects RX4 yX4_fetch yX4_fetch, Cond.code yX4_fetch cX4_fetch 4 none, Cond.fieldLink RX4 139 "ResolverFleet$Course" "fetches" "I"]
def wsX4_wouldAnswer_r5 : List Cond := [Cond.methodLink RX4 62 yX3_kindOf, Cond.instanceMethod yX3_kindOf, Cond.selects RX3 yX3_kindOf yX3_kindOf, Cond.initialized RX3, Cond.code yX3_kindOf cX3_kindOf 2 (some .int), Cond.fieldLink RX3 9 "ResolverFleet$Zone" "kinds" "[I", Cond.methodLink RX4 73 yX3_valueOf, Cond.instanceMethod yX3_valueOf, Cond.selects RX3 yX3_valueOf yX3_valueOf, Cond.code yX3_valueOf cX3_valueOf 2 (some .int), Cond.fieldLink RX3 15 "ResolverFleet$Zone" "values" "[I", Cond.methodLink RX4 197 yX3_lifeOf, Cond.instanceMethod yX3_lifeOf, Cond.selects RX3 yX3_lifeOf yX3_lifeOf, Cond.code yX3_lifeOf cX3_lifeOf 2 (some .int), Cond.fieldLink RX3 21 "ResolverFleet$Zone" "bound" "I", Cond.fieldLink RX3 18 "ResolverFleet$Zone" "lives" "[I", Cond.methodLink RX4 200 yX0_put, Cond.instanceMethod yX0_put, Cond.selects RX0 yX0_put yX0_put, Cond.code yX0_put cX0_put 6 none, Cond.methodLink RX0 47 yX0_firstToEnd, Cond.instanceMethod yX0_firstToEnd, Cond.selects RX0 yX0_firstToEnd yX0_firstToEnd]
def wsX4_wouldAnswer_r6 : List Cond := [Cond.code yX0_firstToEnd cX0_firstToEnd 3 (some .int), Cond.methodLink RX0 51 yX0_drop, Cond.instanceMethod yX0_drop, Cond.selects RX0 yX0_drop yX0_drop, Cond.code yX0_drop cX0_drop 2 (some .boolean), Cond.methodLink RX4 194 yX0_servesStale, Cond.instanceMethod yX0_servesStale, Cond.selects RX0 yX0_servesStale yX0_servesStale, Cond.code yX0_servesStale cX0_servesStale 3 (some .boolean), Cond.methodLink RX4 145 yX0_kindOf, Cond.instanceMethod yX0_kindOf, Cond.selects RX0 yX0_kindOf yX0_kindOf, Cond.code yX0_kindOf cX0_kindOf 2 (some .int), Cond.methodLink RX4 146 yX0_valueOf, Cond.instanceMethod yX0_valueOf, Cond.selects RX0 yX0_valueOf yX0_valueOf, Cond.code yX0_valueOf cX0_valueOf 2 (some .int)]
def wsX4_wouldAnswer : List Cond := .code yX4_wouldAnswer cX4_wouldAnswer 4 (some .int) :: ((wsX4_wouldAnswer_r1 ++ (wsX4_wouldAnswer_r2 ++ (wsX4_wouldAnswer_r3 ++ (wsX4_wouldAnswer_r4 ++ (wsX4_wouldAnswer_r5 ++ wsX4_wouldAnswer_r6))))) ++ wsX40 ++ wsX20 ++ wsX00 ++ wsX10 ++ wsX30 ++ (vx_atS RX4 83 "java/lang/IllegalStateException" ["java/lang/RuntimeException", "java/lang/Exception"]).filter goodWord ++ (vx_atS RX4 219 "java/lang/IndexOutOfBoundsException" ["java/lang/RuntimeException", "java/lang/Exception"]).filter goodWord ++ (vx_atS RX4 59 "java/lang/IllegalArgumentException" ["java/lang/RuntimeException", "java/lang/Exception"]).filter goodWord)
def wsX4_lastSite : List Cond := .code yX4_lastSite cX4_lastSite 1 (some .int) :: ([.fieldLink RX4 29 "ResolverFleet" "lastSiteNumber" "I"] ++ wsX40)
def wsX4_lastWasStale : List Cond := .code yX4_lastWasStale cX4_lastWasStale 1 (some .boolean) :: ([.fieldLink RX4 25 "ResolverFleet" "last" "LResolverFleet$Course;", .fieldLink RX4 133 "ResolverFleet$Course" "isStale" "Z"] ++ wsX40 ++ wsX10)
def wsX4_lastLookUps : List Cond := .code yX4_lastLookUps cX4_lastLookUps 1 (some .int) :: ([.fieldLink RX4 25 "ResolverFleet" "last" "LResolverFleet$Course;", .fieldLink RX4 136 "ResolverFleet$Course" "lookUps" "I"] ++ wsX40 ++ wsX10)
def wsX4_lastFetches : List Cond := .code yX4_lastFetches cX4_lastFetches 1 (some .int) :: ([.fieldLink RX4 25 "ResolverFleet" "last" "LResolverFleet$Course;", .fieldLink RX4 139 "ResolverFleet$Course" "fetches" "I"] ++ wsX40 ++ wsX10)
def wsX4_entries : List Cond := .code yX4_entries cX4_entries 2 (some .int) :: ([.fieldLink RX4 115 "ResolverFleet$Site" "cache" "LResolverFleet$Cache;", .fieldLink RX4 142 "ResolverFleet$Cache" "size" "I", .methodLink RX4 87 yX4_siteNumbered, .instanceMethod yX4_siteNumbered, .selects RX4 yX4_siteNumbered yX4_siteNumbered, .initialized RX4, .code yX4_siteNumbered cX4_siteNumbered 3 (some (.object "ResolverFleet$Site")), .classLink RX4 215 "java/lang/IndexOutOfBoundsException", .initialized "java/lang/IndexOutOfBoundsException", .fieldLink RX4 18 "ResolverFleet" "sites" "[LResolverFleet$Site;"] ++ wsX20 ++ wsX00 ++ wsX40 ++ (vx_atS RX4 219 "java/lang/IndexOutOfBoundsException" ["java/lang/RuntimeException", "java/lang/Exception"]).filter goodWord)
def wsX4_cachedKind_r1 : List Cond := [Cond.methodLink RX4 100 yX4_cacheAsked, Cond.instanceMethod yX4_cacheAsked, Cond.selects RX4 yX4_cacheAsked yX4_cacheAsked, Cond.initialized RX4, Cond.code yX4_cacheAsked cX4_cacheAsked 4 (some (.object "ResolverFleet$Cache")), Cond.fieldLink RX4 115 "ResolverFleet$Site" "cache" "LResolverFleet$Cache;", Cond.methodLink RX4 87 yX4_siteNumbered, Cond.instanceMethod yX4_siteNumbered, Cond.selects RX4 yX4_siteNumbered yX4_siteNumbered, Cond.code yX4_siteNumbered cX4_siteNumbered 3 (some (.object "ResolverFleet$Site")), Cond.classLink RX4 215 "java/lang/IndexOutOfBoundsException", Cond.initialized "java/lang/IndexOutOfBoundsException", Cond.fieldLink RX4 18 "ResolverFleet" "sites" "[LResolverFleet$Site;", Cond.methodLink RX4 43 yX4_requireName, Cond.static yX4_requireName, Cond.code yX4_requireName cX4_requireName 1 none, Cond.methodLink RX4 145 yX0_kindOf, Cond.instanceMethod yX0_kindOf, Cond.selects RX0 yX0_kindOf yX0_kindOf, Cond.initialized RX0, Cond.code yX0_kindOf cX0_kindOf 2 (some .int), Cond.fieldLink RX0 9 "ResolverFleet$Cache" "kinds" "[I", Cond.methodLink RX0 43 yX0_has, Cond.instanceMethod yX0_has]
def wsX4_cachedKind_r2 : List Cond := [Cond.selects RX0 yX0_has yX0_has, Cond.code yX0_has cX0_has 2 (some .boolean)]
def wsX4_cachedKind : List Cond := .code yX4_cachedKind cX4_cachedKind 3 (some .int) :: ((wsX4_cachedKind_r1 ++ wsX4_cachedKind_r2) ++ wsX20 ++ wsX40 ++ wsX00 ++ (vx_atS RX4 219 "java/lang/IndexOutOfBoundsException" ["java/lang/RuntimeException", "java/lang/Exception"]).filter goodWord)
def wsX4_cachedValue_r1 : List Cond := [Cond.methodLink RX4 100 yX4_cacheAsked, Cond.instanceMethod yX4_cacheAsked, Cond.selects RX4 yX4_cacheAsked yX4_cacheAsked, Cond.initialized RX4, Cond.code yX4_cacheAsked cX4_cacheAsked 4 (some (.object "ResolverFleet$Cache")), Cond.fieldLink RX4 115 "ResolverFleet$Site" "cache" "LResolverFleet$Cache;", Cond.methodLink RX4 87 yX4_siteNumbered, Cond.instanceMethod yX4_siteNumbered, Cond.selects RX4 yX4_siteNumbered yX4_siteNumbered, Cond.code yX4_siteNumbered cX4_siteNumbered 3 (some (.object "ResolverFleet$Site")), Cond.classLink RX4 215 "java/lang/IndexOutOfBoundsException", Cond.initialized "java/lang/IndexOutOfBoundsException", Cond.fieldLink RX4 18 "ResolverFleet" "sites" "[LResolverFleet$Site;", Cond.methodLink RX4 43 yX4_requireName, Cond.static yX4_requireName, Cond.code yX4_requireName cX4_requireName 1 none, Cond.methodLink RX4 146 yX0_valueOf, Cond.instanceMethod yX0_valueOf, Cond.selects RX0 yX0_valueOf yX0_valueOf, Cond.initialized RX0, Cond.code yX0_valueOf cX0_valueOf 2 (some .int), Cond.fieldLink RX0 15 "ResolverFleet$Cache" "values" "[I", Cond.methodLink RX0 43 yX0_has, Cond.instanceMethod yX0_has]
def wsX4_cachedValue_r2 : List Cond := [Cond.selects RX0 yX0_has yX0_has, Cond.code yX0_has cX0_has 2 (some .boolean), Cond.fieldLink RX0 9 "ResolverFleet$Cache" "kinds" "[I"]
def wsX4_cachedValue : List Cond := .code yX4_cachedValue cX4_cachedValue 3 (some .int) :: ((wsX4_cachedValue_r1 ++ wsX4_cachedValue_r2) ++ wsX20 ++ wsX40 ++ wsX00 ++ (vx_atS RX4 219 "java/lang/IndexOutOfBoundsException" ["java/lang/RuntimeException", "java/lang/Exception"]).filter goodWord)
def wsX4_left_r1 : List Cond := [Cond.classLink RX4 79 "java/lang/IllegalStateException", Cond.initialized "java/lang/IllegalStateException", Cond.fieldLink RX4 108 "ResolverFleet" "now" "I", Cond.methodLink RX4 100 yX4_cacheAsked, Cond.instanceMethod yX4_cacheAsked, Cond.selects RX4 yX4_cacheAsked yX4_cacheAsked, Cond.initialized RX4, Cond.code yX4_cacheAsked cX4_cacheAsked 4 (some (.object "ResolverFleet$Cache")), Cond.fieldLink RX4 115 "ResolverFleet$Site" "cache" "LResolverFleet$Cache;", Cond.methodLink RX4 87 yX4_siteNumbered, Cond.instanceMethod yX4_siteNumbered, Cond.selects RX4 yX4_siteNumbered yX4_siteNumbered, Cond.code yX4_siteNumbered cX4_siteNumbered 3 (some (.object "ResolverFleet$Site")), Cond.classLink RX4 215 "java/lang/IndexOutOfBoundsException", Cond.initialized "java/lang/IndexOutOfBoundsException", Cond.fieldLink RX4 18 "ResolverFleet" "sites" "[LResolverFleet$Site;", Cond.methodLink RX4 43 yX4_requireName, Cond.static yX4_requireName, Cond.code yX4_requireName cX4_requireName 1 none, Cond.methodLink RX4 147 yX0_has, Cond.instanceMethod yX0_has, Cond.selects RX0 yX0_has yX0_has, Cond.initialized RX0, Cond.code yX0_has cX0_has 2 (some .boolean)]
def wsX4_left_r2 : List Cond := [Cond.fieldLink RX0 9 "ResolverFleet$Cache" "kinds" "[I", Cond.methodLink RX4 152 yX0_endOf, Cond.instanceMethod yX0_endOf, Cond.selects RX0 yX0_endOf yX0_endOf, Cond.code yX0_endOf cX0_endOf 2 (some .int), Cond.fieldLink RX0 21 "ResolverFleet$Cache" "ends" "[I", Cond.methodLink RX0 43 yX0_has]
def wsX4_left : List Cond := .code yX4_left cX4_left 4 (some .int) :: ((wsX4_left_r1 ++ wsX4_left_r2) ++ wsX40 ++ wsX20 ++ wsX00 ++ (vx_atS RX4 83 "java/lang/IllegalStateException" ["java/lang/RuntimeException", "java/lang/Exception"]).filter goodWord ++ (vx_atS RX4 219 "java/lang/IndexOutOfBoundsException" ["java/lang/RuntimeException", "java/lang/Exception"]).filter goodWord)
def wsX4_hitsOf_r1 : List Cond := [Cond.methodLink RX4 100 yX4_cacheAsked, Cond.instanceMethod yX4_cacheAsked, Cond.selects RX4 yX4_cacheAsked yX4_cacheAsked, Cond.initialized RX4, Cond.code yX4_cacheAsked cX4_cacheAsked 4 (some (.object "ResolverFleet$Cache")), Cond.fieldLink RX4 115 "ResolverFleet$Site" "cache" "LResolverFleet$Cache;", Cond.methodLink RX4 87 yX4_siteNumbered, Cond.instanceMethod yX4_siteNumbered, Cond.selects RX4 yX4_siteNumbered yX4_siteNumbered, Cond.code yX4_siteNumbered cX4_siteNumbered 3 (some (.object "ResolverFleet$Site")), Cond.classLink RX4 215 "java/lang/IndexOutOfBoundsException", Cond.initialized "java/lang/IndexOutOfBoundsException", Cond.fieldLink RX4 18 "ResolverFleet" "sites" "[LResolverFleet$Site;", Cond.methodLink RX4 43 yX4_requireName, Cond.static yX4_requireName, Cond.code yX4_requireName cX4_requireName 1 none, Cond.methodLink RX4 155 yX0_hitsFor, Cond.instanceMethod yX0_hitsFor, Cond.selects RX0 yX0_hitsFor yX0_hitsFor, Cond.initialized RX0, Cond.code yX0_hitsFor cX0_hitsFor 2 (some .int), Cond.fieldLink RX0 24 "ResolverFleet$Cache" "hits" "[I", Cond.methodLink RX0 43 yX0_has, Cond.instanceMethod yX0_has]
def wsX4_hitsOf_r2 : List Cond := [Cond.selects RX0 yX0_has yX0_has, Cond.code yX0_has cX0_has 2 (some .boolean), Cond.fieldLink RX0 9 "ResolverFleet$Cache" "kinds" "[I"]
def wsX4_hitsOf : List Cond := .code yX4_hitsOf cX4_hitsOf 3 (some .int) :: ((wsX4_hitsOf_r1 ++ wsX4_hitsOf_r2) ++ wsX20 ++ wsX40 ++ wsX00 ++ (vx_atS RX4 219 "java/lang/IndexOutOfBoundsException" ["java/lang/RuntimeException", "java/lang/Exception"]).filter goodWord)
def wsX4_queries : List Cond := .code yX4_queries cX4_queries 1 (some .int) :: ([.fieldLink RX4 158 "ResolverFleet" "queryCount" "I"] ++ wsX40)
def wsX4_fetches : List Cond := .code yX4_fetches cX4_fetches 1 (some .int) :: ([.fieldLink RX4 161 "ResolverFleet" "fetchCount" "I"] ++ wsX40)
def wsX4_prefetches : List Cond := .code yX4_prefetches cX4_prefetches 1 (some .int) :: ([.fieldLink RX4 164 "ResolverFleet" "prefetchCount" "I"] ++ wsX40)
def wsX4_staleAnswers : List Cond := .code yX4_staleAnswers cX4_staleAnswers 1 (some .int) :: ([.fieldLink RX4 167 "ResolverFleet" "staleCount" "I"] ++ wsX40)
def wsX4_failures : List Cond := .code yX4_failures cX4_failures 1 (some .int) :: ([.fieldLink RX4 170 "ResolverFleet" "failureCount" "I"] ++ wsX40)
def wsJ9_abs_0f7a4 : List Cond := .code yJ9_abs_0f7a4 cJ9_abs_0f7a4 1 (some .int) :: ([])
def wsL_slot : List Cond := .code yL_slot cL_slot 4 (some .int) :: ([])
def wsL_fetches : List Cond := .code yL_fetches cL_fetches 11 none :: ([.methodLink RL 7 yL_slot, .static yL_slot, .initialized RL, .code yL_slot cL_slot 4 (some .int)])
def wsL_resolves : List Cond := .code yL_resolves cL_resolves 17 (some .int) :: ([.arrayClass .int, .methodLink RL 7 yL_slot, .static yL_slot, .initialized RL, .code yL_slot cL_slot 4 (some .int), .methodLink RL 13 yL_fetches, .static yL_fetches, .code yL_fetches cL_fetches 11 none])
def wsL_nearest : List Cond := .code yL_nearest cL_nearest 6 (some .int) :: ([])
def wsL_asks : List Cond := .code yL_asks cL_asks 11 (some .int) :: ([.methodLink RL 17 yL_nearest, .static yL_nearest, .initialized RL, .code yL_nearest cL_nearest 6 (some .int), .methodLink RL 21 yL_resolves, .static yL_resolves, .code yL_resolves cL_resolves 17 (some .int), .arrayClass .int, .methodLink RL 7 yL_slot, .static yL_slot, .code yL_slot cL_slot 4 (some .int), .methodLink RL 13 yL_fetches, .static yL_fetches, .code yL_fetches cL_fetches 11 none])
def wsL_tries : List Cond := .code yL_tries cL_tries 16 (some .int) :: ([.arrayClass .int, .methodLink RL 25 yL_asks, .static yL_asks, .initialized RL, .code yL_asks cL_asks 11 (some .int), .methodLink RL 17 yL_nearest, .static yL_nearest, .code yL_nearest cL_nearest 6 (some .int), .methodLink RL 21 yL_resolves, .static yL_resolves, .code yL_resolves cL_resolves 17 (some .int), .methodLink RL 7 yL_slot, .static yL_slot, .code yL_slot cL_slot 4 (some .int), .methodLink RL 13 yL_fetches, .static yL_fetches, .code yL_fetches cL_fetches 11 none])
def wsL_truth : List Cond := .code yL_truth cL_truth 4 (some .int) :: ([])
def wsL_told_r1 : List Cond := [Cond.classLink RL 44 "java/lang/IllegalStateException", Cond.methodLink RL 28 yX4_query, Cond.instanceMethod yX4_query, Cond.selects RX4 yX4_query yX4_query, Cond.initialized RX4, Cond.code yX4_query cX4_query 5 (some .int), Cond.fieldLink RX4 115 "ResolverFleet$Site" "cache" "LResolverFleet$Cache;", Cond.fieldLink RX4 25 "ResolverFleet" "last" "LResolverFleet$Course;", Cond.fieldLink RX4 97 "ResolverFleet$Site" "number" "I", Cond.fieldLink RX4 29 "ResolverFleet" "lastSiteNumber" "I", Cond.methodLink RX4 111 yX4_siteAsked, Cond.instanceMethod yX4_siteAsked, Cond.selects RX4 yX4_siteAsked yX4_siteAsked, Cond.code yX4_siteAsked cX4_siteAsked 4 (some (.object "ResolverFleet$Site")), Cond.classLink RX4 79 "java/lang/IllegalStateException", Cond.initialized "java/lang/IllegalStateException", Cond.methodLink RX4 43 yX4_requireName, Cond.static yX4_requireName, Cond.code yX4_requireName cX4_requireName 1 none, Cond.classLink RX4 215 "java/lang/IndexOutOfBoundsException", Cond.initialized "java/lang/IndexOutOfBoundsException", Cond.methodLink RX4 47 yX4_requireWithin, Cond.static yX4_requireWithin, Cond.code yX4_requireWithin cX4_requireWithin 3 none]
def wsL_told_r2 : List Cond := [Cond.classLink RX4 55 "java/lang/IllegalArgumentException", Cond.initialized "java/lang/IllegalArgumentException", Cond.methodLink RX4 94 yX4_nearestSite, Cond.instanceMethod yX4_nearestSite, Cond.selects RX4 yX4_nearestSite yX4_nearestSite, Cond.code yX4_nearestSite cX4_nearestSite 7 (some (.object "ResolverFleet$Site")), Cond.fieldLink RX4 18 "ResolverFleet" "sites" "[LResolverFleet$Site;", Cond.fieldLink RX4 91 "ResolverFleet$Site" "isAnnounced" "Z", Cond.methodLink RX4 226 yX2_distanceTo, Cond.instanceMethod yX2_distanceTo, Cond.selects RX2 yX2_distanceTo yX2_distanceTo, Cond.initialized RX2, Cond.code yX2_distanceTo cX2_distanceTo 2 (some .int), Cond.fieldLink RX2 24 "ResolverFleet$Site" "position" "I", Cond.methodLink RX2 27 Lib.Math.abs.name, Cond.static Lib.Math.abs.name, Cond.initialized "java/lang/Math", Cond.code Lib.Math.abs.name Lib.Math.abs.code 1 (some .int), Cond.methodLink RX4 118 yX4_resolve, Cond.instanceMethod yX4_resolve, Cond.selects RX4 yX4_resolve yX4_resolve, Cond.code yX4_resolve cX4_resolve 8 (some .int), Cond.methodLink RX4 173 yX1_begin, Cond.instanceMethod yX1_begin]
def wsL_told_r3 : List Cond := [Cond.selects RX1 yX1_begin yX1_begin, Cond.initialized RX1, Cond.code yX1_begin cX1_begin 1 none, Cond.fieldLink RX1 15 "ResolverFleet$Course" "freshCount" "I", Cond.fieldLink RX1 19 "ResolverFleet$Course" "lookUps" "I", Cond.fieldLink RX1 22 "ResolverFleet$Course" "fetches" "I", Cond.fieldLink RX1 25 "ResolverFleet$Course" "prefetches" "I", Cond.fieldLink RX1 28 "ResolverFleet$Course" "isStale" "Z", Cond.methodLink RX4 176 yX4_lookUp, Cond.instanceMethod yX4_lookUp, Cond.selects RX4 yX4_lookUp yX4_lookUp, Cond.code yX4_lookUp cX4_lookUp 4 (some .boolean), Cond.fieldLink RX4 136 "ResolverFleet$Course" "lookUps" "I", Cond.fieldLink RX4 108 "ResolverFleet" "now" "I", Cond.fieldLink RX4 10 "ResolverFleet" "zone" "LResolverFleet$Zone;", Cond.fieldLink RX4 69 "ResolverFleet$Zone" "isUp" "Z", Cond.fieldLink RX4 133 "ResolverFleet$Course" "isStale" "Z", Cond.methodLink RX4 180 yX0_isFresh, Cond.instanceMethod yX0_isFresh, Cond.selects RX0 yX0_isFresh yX0_isFresh, Cond.initialized RX0, Cond.code yX0_isFresh cX0_isFresh 3 (some .boolean), Cond.fieldLink RX0 21 "ResolverFleet$Cache" "ends" "[I", Cond.methodLink RX0 43 yX0_has]
def wsL_told_r4 : List Cond := [Cond.instanceMethod yX0_has, Cond.selects RX0 yX0_has yX0_has, Cond.code yX0_has cX0_has 2 (some .boolean), Cond.fieldLink RX0 9 "ResolverFleet$Cache" "kinds" "[I", Cond.methodLink RX4 184 yX0_countHit, Cond.instanceMethod yX0_countHit, Cond.selects RX0 yX0_countHit yX0_countHit, Cond.code yX0_countHit cX0_countHit 2 none, Cond.fieldLink RX0 24 "ResolverFleet$Cache" "hits" "[I", Cond.methodLink RX4 187 yX1_noteFresh, Cond.instanceMethod yX1_noteFresh, Cond.selects RX1 yX1_noteFresh yX1_noteFresh, Cond.code yX1_noteFresh cX1_noteFresh 2 none, Cond.fieldLink RX1 9 "ResolverFleet$Course" "freshNames" "[I", Cond.methodLink RX4 190 yX4_fetch, Cond.instanceMethod yX4_fetch, Cond.selects RX4 yX4_fetch yX4_fetch, Cond.code yX4_fetch cX4_fetch 4 none, Cond.fieldLink RX4 139 "ResolverFleet$Course" "fetches" "I", Cond.methodLink RX4 62 yX3_kindOf, Cond.instanceMethod yX3_kindOf, Cond.selects RX3 yX3_kindOf yX3_kindOf, Cond.initialized RX3, Cond.code yX3_kindOf cX3_kindOf 2 (some .int)]
def wsL_told_r5 : List Cond := [Cond.fieldLink RX3 9 "ResolverFleet$Zone" "kinds" "[I", Cond.methodLink RX4 73 yX3_valueOf, Cond.instanceMethod yX3_valueOf, Cond.selects RX3 yX3_valueOf yX3_valueOf, Cond.code yX3_valueOf cX3_valueOf 2 (some .int), Cond.fieldLink RX3 15 "ResolverFleet$Zone" "values" "[I", Cond.methodLink RX4 197 yX3_lifeOf, Cond.instanceMethod yX3_lifeOf, Cond.selects RX3 yX3_lifeOf yX3_lifeOf, Cond.code yX3_lifeOf cX3_lifeOf 2 (some .int), Cond.fieldLink RX3 21 "ResolverFleet$Zone" "bound" "I", Cond.fieldLink RX3 18 "ResolverFleet$Zone" "lives" "[I", Cond.methodLink RX4 200 yX0_put, Cond.instanceMethod yX0_put, Cond.selects RX0 yX0_put yX0_put, Cond.code yX0_put cX0_put 6 none, Cond.fieldLink RX0 39 "ResolverFleet$Cache" "size" "I", Cond.fieldLink RX0 15 "ResolverFleet$Cache" "values" "[I", Cond.fieldLink RX0 18 "ResolverFleet$Cache" "lives" "[I", Cond.methodLink RX0 47 yX0_firstToEnd, Cond.instanceMethod yX0_firstToEnd, Cond.selects RX0 yX0_firstToEnd yX0_firstToEnd, Cond.code yX0_firstToEnd cX0_firstToEnd 3 (some .int), Cond.methodLink RX0 51 yX0_drop]
def wsL_told_r6 : List Cond := [Cond.instanceMethod yX0_drop, Cond.selects RX0 yX0_drop yX0_drop, Cond.code yX0_drop cX0_drop 2 (some .boolean), Cond.methodLink RX4 194 yX0_servesStale, Cond.instanceMethod yX0_servesStale, Cond.selects RX0 yX0_servesStale yX0_servesStale, Cond.code yX0_servesStale cX0_servesStale 3 (some .boolean), Cond.methodLink RX4 145 yX0_kindOf, Cond.instanceMethod yX0_kindOf, Cond.selects RX0 yX0_kindOf yX0_kindOf, Cond.code yX0_kindOf cX0_kindOf 2 (some .int), Cond.methodLink RX4 146 yX0_valueOf, Cond.instanceMethod yX0_valueOf, Cond.selects RX0 yX0_valueOf yX0_valueOf, Cond.code yX0_valueOf cX0_valueOf 2 (some .int), Cond.methodLink RX4 122 yX4_fetchHotAnew, Cond.instanceMethod yX4_fetchHotAnew, Cond.selects RX4 yX4_fetchHotAnew yX4_fetchHotAnew, Cond.code yX4_fetchHotAnew cX4_fetchHotAnew 6 none, Cond.fieldLink RX4 203 "ResolverFleet$Course" "freshCount" "I", Cond.fieldLink RX4 212 "ResolverFleet$Course" "prefetches" "I", Cond.methodLink RX4 206 yX1_freshNameAt, Cond.instanceMethod yX1_freshNameAt, Cond.selects RX1 yX1_freshNameAt yX1_freshNameAt]
def wsL_told_r7 : List Cond := [Cond.code yX1_freshNameAt cX1_freshNameAt 2 (some .int), Cond.methodLink RX4 209 yX0_isHot, Cond.instanceMethod yX0_isHot, Cond.selects RX0 yX0_isHot yX0_isHot, Cond.code yX0_isHot cX0_isHot 3 (some .boolean), Cond.methodLink RX4 126 yX4_countQuery, Cond.instanceMethod yX4_countQuery, Cond.selects RX4 yX4_countQuery yX4_countQuery, Cond.code yX4_countQuery cX4_countQuery 2 none, Cond.fieldLink RX4 158 "ResolverFleet" "queryCount" "I", Cond.fieldLink RX4 161 "ResolverFleet" "fetchCount" "I", Cond.fieldLink RX4 164 "ResolverFleet" "prefetchCount" "I", Cond.fieldLink RX4 167 "ResolverFleet" "staleCount" "I", Cond.fieldLink RX4 170 "ResolverFleet" "failureCount" "I", Cond.methodLink RL 34 yX4_wouldAnswer, Cond.instanceMethod yX4_wouldAnswer, Cond.selects RX4 yX4_wouldAnswer yX4_wouldAnswer, Cond.code yX4_wouldAnswer cX4_wouldAnswer 4 (some .int), Cond.fieldLink RX4 39 "ResolverFleet" "trialCache" "LResolverFleet$Cache;", Cond.fieldLink RX4 33 "ResolverFleet" "trial" "LResolverFleet$Course;", Cond.methodLink RX4 129 yX0_copyFrom, Cond.instanceMethod yX0_copyFrom, Cond.selects RX0 yX0_copyFrom yX0_copyFrom, Cond.code yX0_copyFrom cX0_copyFrom 2 none]
def wsL_told_r8 : List Cond := [Cond.methodLink RX0 33 arraycopyName, Cond.native arraycopyName, Cond.static arraycopyName, Cond.initialized "java/lang/System", Cond.methodLink RL 37 yX4_addSite, Cond.instanceMethod yX4_addSite, Cond.selects RX4 yX4_addSite yX4_addSite, Cond.code yX4_addSite cX4_addSite 3 (some .int), Cond.fieldLink RX4 76 "ResolverFleet" "siteCount" "I", Cond.classLink RX4 16 RX2, Cond.instantiable RX2 4, Cond.methodLink RX4 84 yX2_init, Cond.instanceMethod yX2_init, Cond.code yX2_init cX2_init 3 none, Cond.methodLink RX2 1 objectInit, Cond.instanceMethod objectInit, Cond.code objectInit ⟨#[0xb1]⟩ 1 none, Cond.classLink RX2 7 RX0, Cond.instantiable RX0 6, Cond.fieldLink RX2 10 "ResolverFleet$Site" "cache" "LResolverFleet$Cache;", Cond.fieldLink RX2 16 "ResolverFleet$Site" "isAnnounced" "Z", Cond.fieldLink RX2 20 "ResolverFleet$Site" "number" "I", Cond.methodLink RX2 9 yX0_init, Cond.instanceMethod yX0_init]
def wsL_told_r9 : List Cond := [Cond.code yX0_init cX0_init 1 none, Cond.methodLink RX0 3 objectInit, Cond.arrayClass .int, Cond.methodLink RX0 27 yJ7_fill_53178, Cond.static yJ7_fill_53178, Cond.initialized RJ7, Cond.code yJ7_fill_53178 cJ7_fill_53178 4 none, Cond.methodLink RL 41 yX4_left, Cond.instanceMethod yX4_left, Cond.selects RX4 yX4_left yX4_left, Cond.code yX4_left cX4_left 4 (some .int), Cond.methodLink RX4 100 yX4_cacheAsked, Cond.instanceMethod yX4_cacheAsked, Cond.selects RX4 yX4_cacheAsked yX4_cacheAsked, Cond.code yX4_cacheAsked cX4_cacheAsked 4 (some (.object "ResolverFleet$Cache")), Cond.methodLink RX4 87 yX4_siteNumbered, Cond.instanceMethod yX4_siteNumbered, Cond.selects RX4 yX4_siteNumbered yX4_siteNumbered, Cond.code yX4_siteNumbered cX4_siteNumbered 3 (some (.object "ResolverFleet$Site")), Cond.methodLink RX4 147 yX0_has, Cond.methodLink RX4 152 yX0_endOf, Cond.instanceMethod yX0_endOf, Cond.selects RX0 yX0_endOf yX0_endOf, Cond.code yX0_endOf cX0_endOf 2 (some .int)]
def wsL_told : List Cond := .codeWith yL_told cL_told 5 (some .int) [(0, 46, 47, 44)] :: ((wsL_told_r1 ++ (wsL_told_r2 ++ (wsL_told_r3 ++ (wsL_told_r4 ++ (wsL_told_r5 ++ (wsL_told_r6 ++ (wsL_told_r7 ++ (wsL_told_r8 ++ wsL_told_r9)))))))) ++ wsX20 ++ wsX40 ++ wsX10 ++ wsX30 ++ wsX00 ++ (vx_atS RX4 83 "java/lang/IllegalStateException" ["java/lang/RuntimeException", "java/lang/Exception"]).filter goodWord ++ (vx_atS RX4 219 "java/lang/IndexOutOfBoundsException" ["java/lang/RuntimeException", "java/lang/Exception"]).filter goodWord ++ (vx_atS RX4 59 "java/lang/IllegalArgumentException" ["java/lang/RuntimeException", "java/lang/Exception"]).filter goodWord)
def wsL_isFleet_r1 : List Cond := [Cond.methodLink RL 46 yX4_time, Cond.instanceMethod yX4_time, Cond.selects RX4 yX4_time yX4_time, Cond.initialized RX4, Cond.code yX4_time cX4_time 1 (some .int), Cond.fieldLink RX4 108 "ResolverFleet" "now" "I", Cond.methodLink RL 50 yX4_queries, Cond.instanceMethod yX4_queries, Cond.selects RX4 yX4_queries yX4_queries, Cond.code yX4_queries cX4_queries 1 (some .int), Cond.fieldLink RX4 158 "ResolverFleet" "queryCount" "I", Cond.methodLink RL 53 yX4_fetches, Cond.instanceMethod yX4_fetches, Cond.selects RX4 yX4_fetches yX4_fetches, Cond.code yX4_fetches cX4_fetches 1 (some .int), Cond.fieldLink RX4 161 "ResolverFleet" "fetchCount" "I", Cond.methodLink RL 55 yX4_prefetches, Cond.instanceMethod yX4_prefetches, Cond.selects RX4 yX4_prefetches yX4_prefetches, Cond.code yX4_prefetches cX4_prefetches 1 (some .int), Cond.fieldLink RX4 164 "ResolverFleet" "prefetchCount" "I", Cond.methodLink RL 58 yX4_staleAnswers, Cond.instanceMethod yX4_staleAnswers, Cond.selects RX4 yX4_staleAnswers yX4_staleAnswers]
def wsL_isFleet_r2 : List Cond := [Cond.code yX4_staleAnswers cX4_staleAnswers 1 (some .int), Cond.fieldLink RX4 167 "ResolverFleet" "staleCount" "I", Cond.methodLink RL 61 yX4_failures, Cond.instanceMethod yX4_failures, Cond.selects RX4 yX4_failures yX4_failures, Cond.code yX4_failures cX4_failures 1 (some .int), Cond.fieldLink RX4 170 "ResolverFleet" "failureCount" "I", Cond.methodLink RL 64 yX4_lastSite, Cond.instanceMethod yX4_lastSite, Cond.selects RX4 yX4_lastSite yX4_lastSite, Cond.code yX4_lastSite cX4_lastSite 1 (some .int), Cond.fieldLink RX4 29 "ResolverFleet" "lastSiteNumber" "I", Cond.methodLink RL 67 yX4_lastWasStale, Cond.instanceMethod yX4_lastWasStale, Cond.selects RX4 yX4_lastWasStale yX4_lastWasStale, Cond.code yX4_lastWasStale cX4_lastWasStale 1 (some .boolean), Cond.fieldLink RX4 25 "ResolverFleet" "last" "LResolverFleet$Course;", Cond.fieldLink RX4 133 "ResolverFleet$Course" "isStale" "Z", Cond.methodLink RL 71 yX4_lastLookUps, Cond.instanceMethod yX4_lastLookUps, Cond.selects RX4 yX4_lastLookUps yX4_lastLookUps, Cond.code yX4_lastLookUps cX4_lastLookUps 1 (some .int), Cond.fieldLink RX4 136 "ResolverFleet$Course" "lookUps" "I", Cond.methodLink RL 74 yX4_lastFetches]
def wsL_isFleet_r3 : List Cond := [Cond.instanceMethod yX4_lastFetches, Cond.selects RX4 yX4_lastFetches yX4_lastFetches, Cond.code yX4_lastFetches cX4_lastFetches 1 (some .int), Cond.fieldLink RX4 139 "ResolverFleet$Course" "fetches" "I", Cond.methodLink RL 77 yX4_truth, Cond.instanceMethod yX4_truth, Cond.selects RX4 yX4_truth yX4_truth, Cond.code yX4_truth cX4_truth 6 (some .int), Cond.fieldLink RX4 10 "ResolverFleet" "zone" "LResolverFleet$Zone;", Cond.methodLink RX4 43 yX4_requireName, Cond.static yX4_requireName, Cond.code yX4_requireName cX4_requireName 1 none, Cond.classLink RX4 215 "java/lang/IndexOutOfBoundsException", Cond.initialized "java/lang/IndexOutOfBoundsException", Cond.methodLink RX4 62 yX3_kindOf, Cond.instanceMethod yX3_kindOf, Cond.selects RX3 yX3_kindOf yX3_kindOf, Cond.initialized RX3, Cond.code yX3_kindOf cX3_kindOf 2 (some .int), Cond.fieldLink RX3 9 "ResolverFleet$Zone" "kinds" "[I", Cond.methodLink RX4 73 yX3_valueOf, Cond.instanceMethod yX3_valueOf, Cond.selects RX3 yX3_valueOf yX3_valueOf, Cond.code yX3_valueOf cX3_valueOf 2 (some .int)]
def wsL_isFleet_r4 : List Cond := [Cond.fieldLink RX3 15 "ResolverFleet$Zone" "values" "[I", Cond.methodLink RL 80 yL_truth, Cond.static yL_truth, Cond.initialized RL, Cond.code yL_truth cL_truth 4 (some .int), Cond.methodLink RL 7 yL_slot, Cond.static yL_slot, Cond.code yL_slot cL_slot 4 (some .int), Cond.methodLink RL 82 yX4_cachedKind, Cond.instanceMethod yX4_cachedKind, Cond.selects RX4 yX4_cachedKind yX4_cachedKind, Cond.code yX4_cachedKind cX4_cachedKind 3 (some .int), Cond.methodLink RX4 100 yX4_cacheAsked, Cond.instanceMethod yX4_cacheAsked, Cond.selects RX4 yX4_cacheAsked yX4_cacheAsked, Cond.code yX4_cacheAsked cX4_cacheAsked 4 (some (.object "ResolverFleet$Cache")), Cond.fieldLink RX4 115 "ResolverFleet$Site" "cache" "LResolverFleet$Cache;", Cond.methodLink RX4 87 yX4_siteNumbered, Cond.instanceMethod yX4_siteNumbered, Cond.selects RX4 yX4_siteNumbered yX4_siteNumbered, Cond.code yX4_siteNumbered cX4_siteNumbered 3 (some (.object "ResolverFleet$Site")), Cond.fieldLink RX4 18 "ResolverFleet" "sites" "[LResolverFleet$Site;", Cond.methodLink RX4 145 yX0_kindOf, Cond.instanceMethod yX0_kindOf]
def wsL_isFleet_r5 : List Cond := [Cond.selects RX0 yX0_kindOf yX0_kindOf, Cond.initialized RX0, Cond.code yX0_kindOf cX0_kindOf 2 (some .int), Cond.fieldLink RX0 9 "ResolverFleet$Cache" "kinds" "[I", Cond.methodLink RX0 43 yX0_has, Cond.instanceMethod yX0_has, Cond.selects RX0 yX0_has yX0_has, Cond.code yX0_has cX0_has 2 (some .boolean), Cond.methodLink RL 85 yX4_cachedValue, Cond.instanceMethod yX4_cachedValue, Cond.selects RX4 yX4_cachedValue yX4_cachedValue, Cond.code yX4_cachedValue cX4_cachedValue 3 (some .int), Cond.methodLink RX4 146 yX0_valueOf, Cond.instanceMethod yX0_valueOf, Cond.selects RX0 yX0_valueOf yX0_valueOf, Cond.code yX0_valueOf cX0_valueOf 2 (some .int), Cond.fieldLink RX0 15 "ResolverFleet$Cache" "values" "[I", Cond.methodLink RL 88 yX4_hitsOf, Cond.instanceMethod yX4_hitsOf, Cond.selects RX4 yX4_hitsOf yX4_hitsOf, Cond.code yX4_hitsOf cX4_hitsOf 3 (some .int), Cond.methodLink RX4 155 yX0_hitsFor, Cond.instanceMethod yX0_hitsFor, Cond.selects RX0 yX0_hitsFor yX0_hitsFor]
def wsL_isFleet_r6 : List Cond := [Cond.code yX0_hitsFor cX0_hitsFor 2 (some .int), Cond.fieldLink RX0 24 "ResolverFleet$Cache" "hits" "[I", Cond.methodLink RL 41 yX4_left, Cond.instanceMethod yX4_left, Cond.selects RX4 yX4_left yX4_left, Cond.code yX4_left cX4_left 4 (some .int), Cond.classLink RX4 79 "java/lang/IllegalStateException", Cond.initialized "java/lang/IllegalStateException", Cond.methodLink RX4 147 yX0_has, Cond.methodLink RX4 152 yX0_endOf, Cond.instanceMethod yX0_endOf, Cond.selects RX0 yX0_endOf yX0_endOf, Cond.code yX0_endOf cX0_endOf 2 (some .int), Cond.fieldLink RX0 21 "ResolverFleet$Cache" "ends" "[I", Cond.methodLink RL 91 yX4_entries, Cond.instanceMethod yX4_entries, Cond.selects RX4 yX4_entries yX4_entries, Cond.code yX4_entries cX4_entries 2 (some .int), Cond.fieldLink RX4 142 "ResolverFleet$Cache" "size" "I"]
def wsL_isFleet : List Cond := .code yL_isFleet cL_isFleet 12 (some .boolean) :: ((wsL_isFleet_r1 ++ (wsL_isFleet_r2 ++ (wsL_isFleet_r3 ++ (wsL_isFleet_r4 ++ (wsL_isFleet_r5 ++ wsL_isFleet_r6))))) ++ wsX40 ++ wsX10 ++ wsX30 ++ wsX20 ++ wsX00 ++ (vx_atS RX4 219 "java/lang/IndexOutOfBoundsException" ["java/lang/RuntimeException", "java/lang/Exception"]).filter goodWord ++ (vx_atS RX4 83 "java/lang/IllegalStateException" ["java/lang/RuntimeException", "java/lang/Exception"]).filter goodWord)
def wsL_law0_r1 : List Cond := [Cond.classLink RL 29 RX4, Cond.instantiable RX4 13, Cond.initialized RX4, Cond.arrayClass .int, Cond.constant RL 99 (2147483647), Cond.constant RL 100 (44497), Cond.methodLink RL 94 yX4_init, Cond.instanceMethod yX4_init, Cond.code yX4_init cX4_init 1 none, Cond.methodLink RX4 1 objectInit, Cond.instanceMethod objectInit, Cond.code objectInit ⟨#[0xb1]⟩ 1 none, Cond.classLink RX4 7 RX3, Cond.instantiable RX3 5, Cond.initialized RX3, Cond.fieldLink RX4 10 "ResolverFleet" "zone" "LResolverFleet$Zone;", Cond.classLink RX4 16 RX2, Cond.fieldLink RX4 18 "ResolverFleet" "sites" "[LResolverFleet$Site;", Cond.classLink RX4 22 RX1, Cond.instantiable RX1 6, Cond.initialized RX1, Cond.fieldLink RX4 25 "ResolverFleet" "last" "LResolverFleet$Course;", Cond.fieldLink RX4 29 "ResolverFleet" "lastSiteNumber" "I", Cond.fieldLink RX4 33 "ResolverFleet" "trial" "LResolverFleet$Course;"]
def wsL_law0_r2 : List Cond := [Cond.classLink RX4 36 RX0, Cond.instantiable RX0 6, Cond.initialized RX0, Cond.fieldLink RX4 39 "ResolverFleet" "trialCache" "LResolverFleet$Cache;", Cond.methodLink RX4 9 yX3_init, Cond.instanceMethod yX3_init, Cond.code yX3_init cX3_init 1 none, Cond.methodLink RX3 3 objectInit, Cond.fieldLink RX3 9 "ResolverFleet$Zone" "kinds" "[I", Cond.fieldLink RX3 15 "ResolverFleet$Zone" "values" "[I", Cond.fieldLink RX3 18 "ResolverFleet$Zone" "lives" "[I", Cond.fieldLink RX3 21 "ResolverFleet$Zone" "bound" "I", Cond.fieldLink RX3 25 "ResolverFleet$Zone" "isUp" "Z", Cond.methodLink RX3 29 yJ7_fill_53178, Cond.static yJ7_fill_53178, Cond.initialized RJ7, Cond.code yJ7_fill_53178 cJ7_fill_53178 4 none, Cond.methodLink RX4 24 yX1_init, Cond.instanceMethod yX1_init, Cond.code yX1_init cX1_init 1 none, Cond.methodLink RX1 3 objectInit, Cond.fieldLink RX1 9 "ResolverFleet$Course" "freshNames" "[I", Cond.methodLink RX4 38 yX0_init, Cond.instanceMethod yX0_init]
def wsL_law0_r3 : List Cond := [Cond.code yX0_init cX0_init 1 none, Cond.methodLink RX0 3 objectInit, Cond.fieldLink RX0 9 "ResolverFleet$Cache" "kinds" "[I", Cond.fieldLink RX0 15 "ResolverFleet$Cache" "values" "[I", Cond.fieldLink RX0 18 "ResolverFleet$Cache" "lives" "[I", Cond.fieldLink RX0 21 "ResolverFleet$Cache" "ends" "[I", Cond.fieldLink RX0 24 "ResolverFleet$Cache" "hits" "[I", Cond.methodLink RX0 27 yJ7_fill_53178, Cond.methodLink RL 95 yL_isFleet, Cond.static yL_isFleet, Cond.initialized RL, Cond.code yL_isFleet cL_isFleet 12 (some .boolean), Cond.methodLink RL 46 yX4_time, Cond.instanceMethod yX4_time, Cond.selects RX4 yX4_time yX4_time, Cond.code yX4_time cX4_time 1 (some .int), Cond.fieldLink RX4 108 "ResolverFleet" "now" "I", Cond.methodLink RL 50 yX4_queries, Cond.instanceMethod yX4_queries, Cond.selects RX4 yX4_queries yX4_queries, Cond.code yX4_queries cX4_queries 1 (some .int), Cond.fieldLink RX4 158 "ResolverFleet" "queryCount" "I", Cond.methodLink RL 53 yX4_fetches, Cond.instanceMethod yX4_fetches]
def wsL_law0_r4 : List Cond := [Cond.selects RX4 yX4_fetches yX4_fetches, Cond.code yX4_fetches cX4_fetches 1 (some .int), Cond.fieldLink RX4 161 "ResolverFleet" "fetchCount" "I", Cond.methodLink RL 55 yX4_prefetches, Cond.instanceMethod yX4_prefetches, Cond.selects RX4 yX4_prefetches yX4_prefetches, Cond.code yX4_prefetches cX4_prefetches 1 (some .int), Cond.fieldLink RX4 164 "ResolverFleet" "prefetchCount" "I", Cond.methodLink RL 58 yX4_staleAnswers, Cond.instanceMethod yX4_staleAnswers, Cond.selects RX4 yX4_staleAnswers yX4_staleAnswers, Cond.code yX4_staleAnswers cX4_staleAnswers 1 (some .int), Cond.fieldLink RX4 167 "ResolverFleet" "staleCount" "I", Cond.methodLink RL 61 yX4_failures, Cond.instanceMethod yX4_failures, Cond.selects RX4 yX4_failures yX4_failures, Cond.code yX4_failures cX4_failures 1 (some .int), Cond.fieldLink RX4 170 "ResolverFleet" "failureCount" "I", Cond.methodLink RL 64 yX4_lastSite, Cond.instanceMethod yX4_lastSite, Cond.selects RX4 yX4_lastSite yX4_lastSite, Cond.code yX4_lastSite cX4_lastSite 1 (some .int), Cond.methodLink RL 67 yX4_lastWasStale, Cond.instanceMethod yX4_lastWasStale]
def wsL_law0_r5 : List Cond := [Cond.selects RX4 yX4_lastWasStale yX4_lastWasStale, Cond.code yX4_lastWasStale cX4_lastWasStale 1 (some .boolean), Cond.fieldLink RX4 133 "ResolverFleet$Course" "isStale" "Z", Cond.methodLink RL 71 yX4_lastLookUps, Cond.instanceMethod yX4_lastLookUps, Cond.selects RX4 yX4_lastLookUps yX4_lastLookUps, Cond.code yX4_lastLookUps cX4_lastLookUps 1 (some .int), Cond.fieldLink RX4 136 "ResolverFleet$Course" "lookUps" "I", Cond.methodLink RL 74 yX4_lastFetches, Cond.instanceMethod yX4_lastFetches, Cond.selects RX4 yX4_lastFetches yX4_lastFetches, Cond.code yX4_lastFetches cX4_lastFetches 1 (some .int), Cond.fieldLink RX4 139 "ResolverFleet$Course" "fetches" "I", Cond.methodLink RL 77 yX4_truth, Cond.instanceMethod yX4_truth, Cond.selects RX4 yX4_truth yX4_truth, Cond.code yX4_truth cX4_truth 6 (some .int), Cond.methodLink RX4 43 yX4_requireName, Cond.static yX4_requireName, Cond.code yX4_requireName cX4_requireName 1 none, Cond.classLink RX4 215 "java/lang/IndexOutOfBoundsException", Cond.initialized "java/lang/IndexOutOfBoundsException", Cond.methodLink RX4 62 yX3_kindOf, Cond.instanceMethod yX3_kindOf]
def wsL_law0_r6 : List Cond := [Cond.selects RX3 yX3_kindOf yX3_kindOf, Cond.code yX3_kindOf cX3_kindOf 2 (some .int), Cond.methodLink RX4 73 yX3_valueOf, Cond.instanceMethod yX3_valueOf, Cond.selects RX3 yX3_valueOf yX3_valueOf, Cond.code yX3_valueOf cX3_valueOf 2 (some .int), Cond.methodLink RL 80 yL_truth, Cond.static yL_truth, Cond.code yL_truth cL_truth 4 (some .int), Cond.methodLink RL 7 yL_slot, Cond.static yL_slot, Cond.code yL_slot cL_slot 4 (some .int), Cond.methodLink RL 82 yX4_cachedKind, Cond.instanceMethod yX4_cachedKind, Cond.selects RX4 yX4_cachedKind yX4_cachedKind, Cond.code yX4_cachedKind cX4_cachedKind 3 (some .int), Cond.methodLink RX4 100 yX4_cacheAsked, Cond.instanceMethod yX4_cacheAsked, Cond.selects RX4 yX4_cacheAsked yX4_cacheAsked, Cond.code yX4_cacheAsked cX4_cacheAsked 4 (some (.object "ResolverFleet$Cache")), Cond.fieldLink RX4 115 "ResolverFleet$Site" "cache" "LResolverFleet$Cache;", Cond.methodLink RX4 87 yX4_siteNumbered, Cond.instanceMethod yX4_siteNumbered, Cond.selects RX4 yX4_siteNumbered yX4_siteNumbered]
def wsL_law0_r7 : List Cond := [Cond.code yX4_siteNumbered cX4_siteNumbered 3 (some (.object "ResolverFleet$Site")), Cond.methodLink RX4 145 yX0_kindOf, Cond.instanceMethod yX0_kindOf, Cond.selects RX0 yX0_kindOf yX0_kindOf, Cond.code yX0_kindOf cX0_kindOf 2 (some .int), Cond.methodLink RX0 43 yX0_has, Cond.instanceMethod yX0_has, Cond.selects RX0 yX0_has yX0_has, Cond.code yX0_has cX0_has 2 (some .boolean), Cond.methodLink RL 85 yX4_cachedValue, Cond.instanceMethod yX4_cachedValue, Cond.selects RX4 yX4_cachedValue yX4_cachedValue, Cond.code yX4_cachedValue cX4_cachedValue 3 (some .int), Cond.methodLink RX4 146 yX0_valueOf, Cond.instanceMethod yX0_valueOf, Cond.selects RX0 yX0_valueOf yX0_valueOf, Cond.code yX0_valueOf cX0_valueOf 2 (some .int), Cond.methodLink RL 88 yX4_hitsOf, Cond.instanceMethod yX4_hitsOf, Cond.selects RX4 yX4_hitsOf yX4_hitsOf, Cond.code yX4_hitsOf cX4_hitsOf 3 (some .int), Cond.methodLink RX4 155 yX0_hitsFor, Cond.instanceMethod yX0_hitsFor, Cond.selects RX0 yX0_hitsFor yX0_hitsFor]
def wsL_law0_r8 : List Cond := [Cond.code yX0_hitsFor cX0_hitsFor 2 (some .int), Cond.methodLink RL 41 yX4_left, Cond.instanceMethod yX4_left, Cond.selects RX4 yX4_left yX4_left, Cond.code yX4_left cX4_left 4 (some .int), Cond.classLink RX4 79 "java/lang/IllegalStateException", Cond.initialized "java/lang/IllegalStateException", Cond.methodLink RX4 147 yX0_has, Cond.methodLink RX4 152 yX0_endOf, Cond.instanceMethod yX0_endOf, Cond.selects RX0 yX0_endOf yX0_endOf, Cond.code yX0_endOf cX0_endOf 2 (some .int), Cond.methodLink RL 91 yX4_entries, Cond.instanceMethod yX4_entries, Cond.selects RX4 yX4_entries yX4_entries, Cond.code yX4_entries cX4_entries 2 (some .int), Cond.fieldLink RX4 142 "ResolverFleet$Cache" "size" "I", Cond.methodLink RL 101 yX4_setAddress, Cond.instanceMethod yX4_setAddress, Cond.selects RX4 yX4_setAddress yX4_setAddress, Cond.code yX4_setAddress cX4_setAddress 4 none, Cond.methodLink RX4 47 yX4_requireWithin, Cond.static yX4_requireWithin, Cond.code yX4_requireWithin cX4_requireWithin 3 none]
def wsL_law0_r9 : List Cond := [Cond.classLink RX4 55 "java/lang/IllegalArgumentException", Cond.initialized "java/lang/IllegalArgumentException", Cond.methodLink RX4 51 yX3_put, Cond.instanceMethod yX3_put, Cond.selects RX3 yX3_put yX3_put, Cond.code yX3_put cX3_put 5 none, Cond.methodLink RL 105 yX4_setAlias, Cond.instanceMethod yX4_setAlias, Cond.selects RX4 yX4_setAlias yX4_setAlias, Cond.code yX4_setAlias cX4_setAlias 4 none, Cond.methodLink RL 108 yX4_remove, Cond.instanceMethod yX4_remove, Cond.selects RX4 yX4_remove yX4_remove, Cond.code yX4_remove cX4_remove 3 (some .boolean), Cond.methodLink RL 112 yX4_setBound, Cond.instanceMethod yX4_setBound, Cond.selects RX4 yX4_setBound yX4_setBound, Cond.code yX4_setBound cX4_setBound 3 (some .int), Cond.fieldLink RX4 66 "ResolverFleet$Zone" "bound" "I", Cond.methodLink RL 115 yX4_setAuthority, Cond.instanceMethod yX4_setAuthority, Cond.selects RX4 yX4_setAuthority yX4_setAuthority, Cond.code yX4_setAuthority cX4_setAuthority 3 (some .boolean), Cond.fieldLink RX4 69 "ResolverFleet$Zone" "isUp" "Z"]
def wsL_law0_r10 : List Cond := [Cond.methodLink RL 119 yL_told, Cond.static yL_told, Cond.codeWith yL_told cL_told 5 (some .int) [(0, 46, 47, 44)], Cond.classLink RL 44 "java/lang/IllegalStateException", Cond.methodLink RL 28 yX4_query, Cond.instanceMethod yX4_query, Cond.selects RX4 yX4_query yX4_query, Cond.code yX4_query cX4_query 5 (some .int), Cond.fieldLink RX4 97 "ResolverFleet$Site" "number" "I", Cond.methodLink RX4 111 yX4_siteAsked, Cond.instanceMethod yX4_siteAsked, Cond.selects RX4 yX4_siteAsked yX4_siteAsked, Cond.code yX4_siteAsked cX4_siteAsked 4 (some (.object "ResolverFleet$Site")), Cond.methodLink RX4 94 yX4_nearestSite, Cond.instanceMethod yX4_nearestSite, Cond.selects RX4 yX4_nearestSite yX4_nearestSite, Cond.code yX4_nearestSite cX4_nearestSite 7 (some (.object "ResolverFleet$Site")), Cond.fieldLink RX4 91 "ResolverFleet$Site" "isAnnounced" "Z", Cond.methodLink RX4 226 yX2_distanceTo, Cond.instanceMethod yX2_distanceTo, Cond.selects RX2 yX2_distanceTo yX2_distanceTo, Cond.initialized RX2, Cond.code yX2_distanceTo cX2_distanceTo 2 (some .int), Cond.fieldLink RX2 24 "ResolverFleet$Site" "position" "I"]
def wsL_law0_r11 : List Cond := [Cond.methodLink RX2 27 Lib.Math.abs.name, Cond.static Lib.Math.abs.name, Cond.initialized "java/lang/Math", Cond.code Lib.Math.abs.name Lib.Math.abs.code 1 (some .int), Cond.methodLink RX4 118 yX4_resolve, Cond.instanceMethod yX4_resolve, Cond.selects RX4 yX4_resolve yX4_resolve, Cond.code yX4_resolve cX4_resolve 8 (some .int), Cond.methodLink RX4 173 yX1_begin, Cond.instanceMethod yX1_begin, Cond.selects RX1 yX1_begin yX1_begin, Cond.code yX1_begin cX1_begin 1 none, Cond.fieldLink RX1 15 "ResolverFleet$Course" "freshCount" "I", Cond.fieldLink RX1 19 "ResolverFleet$Course" "lookUps" "I", Cond.fieldLink RX1 22 "ResolverFleet$Course" "fetches" "I", Cond.fieldLink RX1 25 "ResolverFleet$Course" "prefetches" "I", Cond.fieldLink RX1 28 "ResolverFleet$Course" "isStale" "Z", Cond.methodLink RX4 176 yX4_lookUp, Cond.instanceMethod yX4_lookUp, Cond.selects RX4 yX4_lookUp yX4_lookUp, Cond.code yX4_lookUp cX4_lookUp 4 (some .boolean), Cond.methodLink RX4 180 yX0_isFresh, Cond.instanceMethod yX0_isFresh, Cond.selects RX0 yX0_isFresh yX0_isFresh]
def wsL_law0_r12 : List Cond := [Cond.code yX0_isFresh cX0_isFresh 3 (some .boolean), Cond.methodLink RX4 184 yX0_countHit, Cond.instanceMethod yX0_countHit, Cond.selects RX0 yX0_countHit yX0_countHit, Cond.code yX0_countHit cX0_countHit 2 none, Cond.methodLink RX4 187 yX1_noteFresh, Cond.instanceMethod yX1_noteFresh, Cond.selects RX1 yX1_noteFresh yX1_noteFresh, Cond.code yX1_noteFresh cX1_noteFresh 2 none, Cond.methodLink RX4 190 yX4_fetch, Cond.instanceMethod yX4_fetch, Cond.selects RX4 yX4_fetch yX4_fetch, Cond.code yX4_fetch cX4_fetch 4 none, Cond.methodLink RX4 197 yX3_lifeOf, Cond.instanceMethod yX3_lifeOf, Cond.selects RX3 yX3_lifeOf yX3_lifeOf, Cond.code yX3_lifeOf cX3_lifeOf 2 (some .int), Cond.methodLink RX4 200 yX0_put, Cond.instanceMethod yX0_put, Cond.selects RX0 yX0_put yX0_put, Cond.code yX0_put cX0_put 6 none, Cond.fieldLink RX0 39 "ResolverFleet$Cache" "size" "I", Cond.methodLink RX0 47 yX0_firstToEnd, Cond.instanceMethod yX0_firstToEnd]
def wsL_law0_r13 : List Cond := [Cond.selects RX0 yX0_firstToEnd yX0_firstToEnd, Cond.code yX0_firstToEnd cX0_firstToEnd 3 (some .int), Cond.methodLink RX0 51 yX0_drop, Cond.instanceMethod yX0_drop, Cond.selects RX0 yX0_drop yX0_drop, Cond.code yX0_drop cX0_drop 2 (some .boolean), Cond.methodLink RX4 194 yX0_servesStale, Cond.instanceMethod yX0_servesStale, Cond.selects RX0 yX0_servesStale yX0_servesStale, Cond.code yX0_servesStale cX0_servesStale 3 (some .boolean), Cond.methodLink RX4 122 yX4_fetchHotAnew, Cond.instanceMethod yX4_fetchHotAnew, Cond.selects RX4 yX4_fetchHotAnew yX4_fetchHotAnew, Cond.code yX4_fetchHotAnew cX4_fetchHotAnew 6 none, Cond.fieldLink RX4 203 "ResolverFleet$Course" "freshCount" "I", Cond.fieldLink RX4 212 "ResolverFleet$Course" "prefetches" "I", Cond.methodLink RX4 206 yX1_freshNameAt, Cond.instanceMethod yX1_freshNameAt, Cond.selects RX1 yX1_freshNameAt yX1_freshNameAt, Cond.code yX1_freshNameAt cX1_freshNameAt 2 (some .int), Cond.methodLink RX4 209 yX0_isHot, Cond.instanceMethod yX0_isHot, Cond.selects RX0 yX0_isHot yX0_isHot, Cond.code yX0_isHot cX0_isHot 3 (some .boolean)]
def wsL_law0_r14 : List Cond := [Cond.methodLink RX4 126 yX4_countQuery, Cond.instanceMethod yX4_countQuery, Cond.selects RX4 yX4_countQuery yX4_countQuery, Cond.code yX4_countQuery cX4_countQuery 2 none, Cond.methodLink RL 34 yX4_wouldAnswer, Cond.instanceMethod yX4_wouldAnswer, Cond.selects RX4 yX4_wouldAnswer yX4_wouldAnswer, Cond.code yX4_wouldAnswer cX4_wouldAnswer 4 (some .int), Cond.methodLink RX4 129 yX0_copyFrom, Cond.instanceMethod yX0_copyFrom, Cond.selects RX0 yX0_copyFrom yX0_copyFrom, Cond.code yX0_copyFrom cX0_copyFrom 2 none, Cond.methodLink RX0 33 arraycopyName, Cond.native arraycopyName, Cond.static arraycopyName, Cond.initialized "java/lang/System", Cond.methodLink RL 37 yX4_addSite, Cond.instanceMethod yX4_addSite, Cond.selects RX4 yX4_addSite yX4_addSite, Cond.code yX4_addSite cX4_addSite 3 (some .int), Cond.fieldLink RX4 76 "ResolverFleet" "siteCount" "I", Cond.instantiable RX2 4, Cond.methodLink RX4 84 yX2_init, Cond.instanceMethod yX2_init]
def wsL_law0_r15 : List Cond := [Cond.code yX2_init cX2_init 3 none, Cond.methodLink RX2 1 objectInit, Cond.classLink RX2 7 RX0, Cond.fieldLink RX2 10 "ResolverFleet$Site" "cache" "LResolverFleet$Cache;", Cond.fieldLink RX2 16 "ResolverFleet$Site" "isAnnounced" "Z", Cond.fieldLink RX2 20 "ResolverFleet$Site" "number" "I", Cond.methodLink RX2 9 yX0_init, Cond.methodLink RL 123 yX4_announce, Cond.instanceMethod yX4_announce, Cond.selects RX4 yX4_announce yX4_announce, Cond.code yX4_announce cX4_announce 5 (some .boolean), Cond.methodLink RL 127 yX4_flush, Cond.instanceMethod yX4_flush, Cond.selects RX4 yX4_flush yX4_flush, Cond.code yX4_flush cX4_flush 3 (some .boolean), Cond.methodLink RX4 104 yX0_drop, Cond.methodLink RL 131 yX4_pass, Cond.instanceMethod yX4_pass, Cond.selects RX4 yX4_pass yX4_pass, Cond.code yX4_pass cX4_pass 2 (some .int), Cond.methodLink RL 134 yL_tries, Cond.static yL_tries, Cond.code yL_tries cL_tries 16 (some .int), Cond.methodLink RL 25 yL_asks]
def wsL_law0_r16 : List Cond := [Cond.static yL_asks, Cond.code yL_asks cL_asks 11 (some .int), Cond.methodLink RL 17 yL_nearest, Cond.static yL_nearest, Cond.code yL_nearest cL_nearest 6 (some .int), Cond.methodLink RL 21 yL_resolves, Cond.static yL_resolves, Cond.code yL_resolves cL_resolves 17 (some .int), Cond.methodLink RL 13 yL_fetches, Cond.static yL_fetches, Cond.code yL_fetches cL_fetches 11 none, Cond.methodLink RL 137 yX4_siteFor, Cond.instanceMethod yX4_siteFor, Cond.selects RX4 yX4_siteFor yX4_siteFor, Cond.code yX4_siteFor cX4_siteFor 3 (some .int)]
def wsL_law0 : List Cond := (wsL_law0_r1 ++ (wsL_law0_r2 ++ (wsL_law0_r3 ++ (wsL_law0_r4 ++ (wsL_law0_r5 ++ (wsL_law0_r6 ++ (wsL_law0_r7 ++ (wsL_law0_r8 ++ (wsL_law0_r9 ++ (wsL_law0_r10 ++ (wsL_law0_r11 ++ (wsL_law0_r12 ++ (wsL_law0_r13 ++ (wsL_law0_r14 ++ (wsL_law0_r15 ++ wsL_law0_r16))))))))))))))) ++ wsX40 ++ wsX30 ++ wsX10 ++ wsX00 ++ wsX20 ++ ([] : List Cond)
def wsL_law : List Cond := wsL_law0 ++ (vx_atS RX4 219 "java/lang/IndexOutOfBoundsException" ["java/lang/RuntimeException", "java/lang/Exception"]).filter goodWord ++ (vx_atS RX4 83 "java/lang/IllegalStateException" ["java/lang/RuntimeException", "java/lang/Exception"]).filter goodWord ++ (vx_atS RX4 59 "java/lang/IllegalArgumentException" ["java/lang/RuntimeException", "java/lang/Exception"]).filter goodWord
abbrev vwCl : List vw_C := [(RX0, TX0, 6), (RX1, TX1, 6), (RX2, TX2, 4), (RX3, TX3, 5), (RX4, TX4, 13)]
end
section
set_option maxRecDepth 20000 in
theorem ggX0_init_J7_fill_53178 : GoodIn wsX0_init wsJ7_fill_53178 := goodIn_r _ [13] (by decide +kernel) (by decide +kernel)
set_option maxRecDepth 20000 in
theorem gX0_init_J7_fill_53178 : GoodIn wsX0_init (va_wsS RX0 27 yJ7_fill_53178 wsJ7_fill_53178) := goodIn_app (goodIn_of _ (by decide +kernel)) ggX0_init_J7_fill_53178
theorem dX0_init_0 : decode cX0_init 0 = .ok (.aload_n 0, 1) := by decide +kernel
theorem dX0_init_1 : decode cX0_init 1 = .ok (.invokespecial 3, 3) := by decide +kernel
theorem dX0_init_4 : decode cX0_init 4 = .ok (.aload_n 0, 1) := by decide +kernel
theorem dX0_init_5 : decode cX0_init 5 = .ok (.bipush 16, 2) := by decide +kernel
theorem dX0_init_7 : decode cX0_init 7 = .ok (.newarray .int, 2) := by decide +kernel
theorem dX0_init_9 : decode cX0_init 9 = .ok (.putfield 9, 3) := by decide +kernel
theorem dX0_init_12 : decode cX0_init 12 = .ok (.aload_n 0, 1) := by decide +kernel
theorem dX0_init_13 : decode cX0_init 13 = .ok (.bipush 16, 2) := by decide +kernel
theorem dX0_init_15 : decode cX0_init 15 = .ok (.newarray .int, 2) := by decide +kernel
theorem dX0_init_17 : decode cX0_init 17 = .ok (.putfield 15, 3) := by decide +kernel
theorem dX0_init_20 : decode cX0_init 20 = .ok (.aload_n 0, 1) := by decide +kernel
theorem dX0_init_21 : decode cX0_init 21 = .ok (.bipush 16, 2) := by decide +kernel
theorem dX0_init_23 : decode cX0_init 23 = .ok (.newarray .int, 2) := by decide +kernel
theorem dX0_init_25 : decode cX0_init 25 = .ok (.putfield 18, 3) := by decide +kernel
theorem dX0_init_28 : decode cX0_init 28 = .ok (.aload_n 0, 1) := by decide +kernel
theorem dX0_init_29 : decode cX0_init 29 = .ok (.bipush 16, 2) := by decide +kernel
theorem dX0_init_31 : decode cX0_init 31 = .ok (.newarray .int, 2) := by decide +kernel
theorem dX0_init_33 : decode cX0_init 33 = .ok (.putfield 21, 3) := by decide +kernel
theorem dX0_init_36 : decode cX0_init 36 = .ok (.aload_n 0, 1) := by decide +kernel
theorem dX0_init_37 : decode cX0_init 37 = .ok (.bipush 16, 2) := by decide +kernel
theorem dX0_init_39 : decode cX0_init 39 = .ok (.newarray .int, 2) := by decide +kernel
theorem dX0_init_41 : decode cX0_init 41 = .ok (.putfield 24, 3) := by decide +kernel
theorem dX0_init_44 : decode cX0_init 44 = .ok (.aload_n 0, 1) := by decide +kernel
theorem dX0_init_45 : decode cX0_init 45 = .ok (.getfield 9, 3) := by decide +kernel
theorem dX0_init_48 : decode cX0_init 48 = .ok (.iconst 3, 1) := by decide +kernel
theorem dX0_init_49 : decode cX0_init 49 = .ok (.invokestatic 27, 3) := by decide +kernel
theorem dX0_init_52 : decode cX0_init 52 = .ok (.return_, 1) := by decide +kernel
theorem dX0_copyFrom_0 : decode cX0_copyFrom 0 = .ok (.aload_n 1, 1) := by decide +kernel
theorem dX0_copyFrom_1 : decode cX0_copyFrom 1 = .ok (.getfield 9, 3) := by decide +kernel
theorem dX0_copyFrom_4 : decode cX0_copyFrom 4 = .ok (.iconst 0, 1) := by decide +kernel
theorem dX0_copyFrom_5 : decode cX0_copyFrom 5 = .ok (.aload_n 0, 1) := by decide +kernel
theorem dX0_copyFrom_6 : decode cX0_copyFrom 6 = .ok (.getfield 9, 3) := by decide +kernel
theorem dX0_copyFrom_9 : decode cX0_copyFrom 9 = .ok (.iconst 0, 1) := by decide +kernel
theorem dX0_copyFrom_10 : decode cX0_copyFrom 10 = .ok (.bipush 16, 2) := by decide +kernel
theorem dX0_copyFrom_12 : decode cX0_copyFrom 12 = .ok (.invokestatic 33, 3) := by decide +kernel
theorem dX0_copyFrom_15 : decode cX0_copyFrom 15 = .ok (.aload_n 1, 1) := by decide +kernel
theorem dX0_copyFrom_16 : decode cX0_copyFrom 16 = .ok (.getfield 15, 3) := by decide +kernel
theorem dX0_copyFrom_19 : decode cX0_copyFrom 19 = .ok (.iconst 0, 1) := by decide +kernel
theorem dX0_copyFrom_20 : decode cX0_copyFrom 20 = .ok (.aload_n 0, 1) := by decide +kernel
theorem dX0_copyFrom_21 : decode cX0_copyFrom 21 = .ok (.getfield 15, 3) := by decide +kernel
theorem dX0_copyFrom_24 : decode cX0_copyFrom 24 = .ok (.iconst 0, 1) := by decide +kernel
theorem dX0_copyFrom_25 : decode cX0_copyFrom 25 = .ok (.bipush 16, 2) := by decide +kernel
theorem dX0_copyFrom_27 : decode cX0_copyFrom 27 = .ok (.invokestatic 33, 3) := by decide +kernel
theorem dX0_copyFrom_30 : decode cX0_copyFrom 30 = .ok (.aload_n 1, 1) := by decide +kernel
theorem dX0_copyFrom_31 : decode cX0_copyFrom 31 = .ok (.getfield 18, 3) := by decide +kernel
theorem dX0_copyFrom_34 : decode cX0_copyFrom 34 = .ok (.iconst 0, 1) := by decide +kernel
theorem dX0_copyFrom_35 : decode cX0_copyFrom 35 = .ok (.aload_n 0, 1) := by decide +kernel
theorem dX0_copyFrom_36 : decode cX0_copyFrom 36 = .ok (.getfield 18, 3) := by decide +kernel
theorem dX0_copyFrom_39 : decode cX0_copyFrom 39 = .ok (.iconst 0, 1) := by decide +kernel
theorem dX0_copyFrom_40 : decode cX0_copyFrom 40 = .ok (.bipush 16, 2) := by decide +kernel
theorem dX0_copyFrom_42 : decode cX0_copyFrom 42 = .ok (.invokestatic 33, 3) := by decide +kernel
theorem dX0_copyFrom_45 : decode cX0_copyFrom 45 = .ok (.aload_n 1, 1) := by decide +kernel
theorem dX0_copyFrom_46 : decode cX0_copyFrom 46 = .ok (.getfield 21, 3) := by decide +kernel
theorem dX0_copyFrom_49 : decode cX0_copyFrom 49 = .ok (.iconst 0, 1) := by decide +kernel
theorem dX0_copyFrom_50 : decode cX0_copyFrom 50 = .ok (.aload_n 0, 1) := by decide +kernel
theorem dX0_copyFrom_51 : decode cX0_copyFrom 51 = .ok (.getfield 21, 3) := by decide +kernel
theorem dX0_copyFrom_54 : decode cX0_copyFrom 54 = .ok (.iconst 0, 1) := by decide +kernel
theorem dX0_copyFrom_55 : decode cX0_copyFrom 55 = .ok (.bipush 16, 2) := by decide +kernel
theorem dX0_copyFrom_57 : decode cX0_copyFrom 57 = .ok (.invokestatic 33, 3) := by decide +kernel
theorem dX0_copyFrom_60 : decode cX0_copyFrom 60 = .ok (.aload_n 1, 1) := by decide +kernel
theorem dX0_copyFrom_61 : decode cX0_copyFrom 61 = .ok (.getfield 24, 3) := by decide +kernel
theorem dX0_copyFrom_64 : decode cX0_copyFrom 64 = .ok (.iconst 0, 1) := by decide +kernel
theorem dX0_copyFrom_65 : decode cX0_copyFrom 65 = .ok (.aload_n 0, 1) := by decide +kernel
theorem dX0_copyFrom_66 : decode cX0_copyFrom 66 = .ok (.getfield 24, 3) := by decide +kernel
theorem dX0_copyFrom_69 : decode cX0_copyFrom 69 = .ok (.iconst 0, 1) := by decide +kernel
theorem dX0_copyFrom_70 : decode cX0_copyFrom 70 = .ok (.bipush 16, 2) := by decide +kernel
theorem dX0_copyFrom_72 : decode cX0_copyFrom 72 = .ok (.invokestatic 33, 3) := by decide +kernel
theorem dX0_copyFrom_75 : decode cX0_copyFrom 75 = .ok (.aload_n 0, 1) := by decide +kernel
theorem dX0_copyFrom_76 : decode cX0_copyFrom 76 = .ok (.aload_n 1, 1) := by decide +kernel
theorem dX0_copyFrom_77 : decode cX0_copyFrom 77 = .ok (.getfield 39, 3) := by decide +kernel
theorem dX0_copyFrom_80 : decode cX0_copyFrom 80 = .ok (.putfield 39, 3) := by decide +kernel
theorem dX0_copyFrom_83 : decode cX0_copyFrom 83 = .ok (.return_, 1) := by decide +kernel
theorem dX0_has_0 : decode cX0_has 0 = .ok (.iload_n 1, 1) := by decide +kernel
theorem dX0_has_1 : decode cX0_has 1 = .ok (.ifCond .lt 23, 3) := by decide +kernel
theorem dX0_has_4 : decode cX0_has 4 = .ok (.iload_n 1, 1) := by decide +kernel
theorem dX0_has_5 : decode cX0_has 5 = .ok (.bipush 16, 2) := by decide +kernel
theorem dX0_has_7 : decode cX0_has 7 = .ok (.if_icmp .ge 17, 3) := by decide +kernel
theorem dX0_has_10 : decode cX0_has 10 = .ok (.aload_n 0, 1) := by decide +kernel
theorem dX0_has_11 : decode cX0_has 11 = .ok (.getfield 9, 3) := by decide +kernel
theorem dX0_has_14 : decode cX0_has 14 = .ok (.iload_n 1, 1) := by decide +kernel
theorem dX0_has_15 : decode cX0_has 15 = .ok (.iaload, 1) := by decide +kernel
theorem dX0_has_16 : decode cX0_has 16 = .ok (.iconst 3, 1) := by decide +kernel
theorem dX0_has_17 : decode cX0_has 17 = .ok (.if_icmp .eq 7, 3) := by decide +kernel
theorem dX0_has_20 : decode cX0_has 20 = .ok (.iconst 1, 1) := by decide +kernel
theorem dX0_has_21 : decode cX0_has 21 = .ok (.goto 4, 3) := by decide +kernel
theorem dX0_has_24 : decode cX0_has 24 = .ok (.iconst 0, 1) := by decide +kernel
theorem dX0_has_25 : decode cX0_has 25 = .ok (.ireturn, 1) := by decide +kernel
set_option maxRecDepth 20000 in
theorem ggX0_kindOf_X0_has : GoodIn wsX0_kindOf wsX0_has := goodIn_r _ [6, 1, 7, 8, 9, 10, 11, 12] (by decide +kernel) (by decide +kernel)
set_option maxRecDepth 20000 in
theorem gX0_kindOf_X0_has : GoodIn wsX0_kindOf (wsV RX0 43 RX0 yX0_has wsX0_has) := goodIn_app (goodIn_of _ (by decide +kernel)) ggX0_kindOf_X0_has
theorem dX0_kindOf_0 : decode cX0_kindOf 0 = .ok (.aload_n 0, 1) := by decide +kernel
theorem dX0_kindOf_1 : decode cX0_kindOf 1 = .ok (.iload_n 1, 1) := by decide +kernel
theorem dX0_kindOf_2 : decode cX0_kindOf 2 = .ok (.invokevirtual 43, 3) := by decide +kernel
theorem dX0_kindOf_5 : decode cX0_kindOf 5 = .ok (.ifCond .eq 12, 3) := by decide +kernel
theorem dX0_kindOf_8 : decode cX0_kindOf 8 = .ok (.aload_n 0, 1) := by decide +kernel
theorem dX0_kindOf_9 : decode cX0_kindOf 9 = .ok (.getfield 9, 3) := by decide +kernel
theorem dX0_kindOf_12 : decode cX0_kindOf 12 = .ok (.iload_n 1, 1) := by decide +kernel
theorem dX0_kindOf_13 : decode cX0_kindOf 13 = .ok (.iaload, 1) := by decide +kernel
theorem dX0_kindOf_14 : decode cX0_kindOf 14 = .ok (.goto 4, 3) := by decide +kernel
theorem dX0_kindOf_17 : decode cX0_kindOf 17 = .ok (.iconst 3, 1) := by decide +kernel
theorem dX0_kindOf_18 : decode cX0_kindOf 18 = .ok (.ireturn, 1) := by decide +kernel
set_option maxRecDepth 20000 in
theorem ggX0_valueOf_X0_has : GoodIn wsX0_valueOf wsX0_has := goodIn_r _ [6, 7, 8, 9, 10, 11, 12, 13] (by decide +kernel) (by decide +kernel)
set_option maxRecDepth 20000 in
theorem gX0_valueOf_X0_has : GoodIn wsX0_valueOf (wsV RX0 43 RX0 yX0_has wsX0_has) := goodIn_app (goodIn_of _ (by decide +kernel)) ggX0_valueOf_X0_has
theorem dX0_valueOf_0 : decode cX0_valueOf 0 = .ok (.aload_n 0, 1) := by decide +kernel
theorem dX0_valueOf_1 : decode cX0_valueOf 1 = .ok (.iload_n 1, 1) := by decide +kernel
theorem dX0_valueOf_2 : decode cX0_valueOf 2 = .ok (.invokevirtual 43, 3) := by decide +kernel
theorem dX0_valueOf_5 : decode cX0_valueOf 5 = .ok (.ifCond .eq 12, 3) := by decide +kernel
theorem dX0_valueOf_8 : decode cX0_valueOf 8 = .ok (.aload_n 0, 1) := by decide +kernel
theorem dX0_valueOf_9 : decode cX0_valueOf 9 = .ok (.getfield 15, 3) := by decide +kernel
theorem dX0_valueOf_12 : decode cX0_valueOf 12 = .ok (.iload_n 1, 1) := by decide +kernel
theorem dX0_valueOf_13 : decode cX0_valueOf 13 = .ok (.iaload, 1) := by decide +kernel
theorem dX0_valueOf_14 : decode cX0_valueOf 14 = .ok (.goto 5, 3) := by decide +kernel
theorem dX0_valueOf_17 : decode cX0_valueOf 17 = .ok (.bipush (-3), 2) := by decide +kernel
theorem dX0_valueOf_19 : decode cX0_valueOf 19 = .ok (.ireturn, 1) := by decide +kernel
set_option maxRecDepth 20000 in
theorem ggX0_endOf_X0_has : GoodIn wsX0_endOf wsX0_has := goodIn_r _ [6, 7, 8, 9, 10, 11, 12, 13] (by decide +kernel) (by decide +kernel)
set_option maxRecDepth 20000 in
theorem gX0_endOf_X0_has : GoodIn wsX0_endOf (wsV RX0 43 RX0 yX0_has wsX0_has) := goodIn_app (goodIn_of _ (by decide +kernel)) ggX0_endOf_X0_has
theorem dX0_endOf_0 : decode cX0_endOf 0 = .ok (.aload_n 0, 1) := by decide +kernel
theorem dX0_endOf_1 : decode cX0_endOf 1 = .ok (.iload_n 1, 1) := by decide +kernel
theorem dX0_endOf_2 : decode cX0_endOf 2 = .ok (.invokevirtual 43, 3) := by decide +kernel
theorem dX0_endOf_5 : decode cX0_endOf 5 = .ok (.ifCond .eq 12, 3) := by decide +kernel
theorem dX0_endOf_8 : decode cX0_endOf 8 = .ok (.aload_n 0, 1) := by decide +kernel
theorem dX0_endOf_9 : decode cX0_endOf 9 = .ok (.getfield 21, 3) := by decide +kernel
theorem dX0_endOf_12 : decode cX0_endOf 12 = .ok (.iload_n 1, 1) := by decide +kernel
theorem dX0_endOf_13 : decode cX0_endOf 13 = .ok (.iaload, 1) := by decide +kernel
theorem dX0_endOf_14 : decode cX0_endOf 14 = .ok (.goto 4, 3) := by decide +kernel
theorem dX0_endOf_17 : decode cX0_endOf 17 = .ok (.iconst 0, 1) := by decide +kernel
theorem dX0_endOf_18 : decode cX0_endOf 18 = .ok (.ireturn, 1) := by decide +kernel
set_option maxRecDepth 20000 in
theorem ggX0_hitsFor_X0_has : GoodIn wsX0_hitsFor wsX0_has := goodIn_r _ [6, 7, 8, 9, 10, 11, 12, 13] (by decide +kernel) (by decide +kernel)
set_option maxRecDepth 20000 in
theorem gX0_hitsFor_X0_has : GoodIn wsX0_hitsFor (wsV RX0 43 RX0 yX0_has wsX0_has) := goodIn_app (goodIn_of _ (by decide +kernel)) ggX0_hitsFor_X0_has
theorem dX0_hitsFor_0 : decode cX0_hitsFor 0 = .ok (.aload_n 0, 1) := by decide +kernel
theorem dX0_hitsFor_1 : decode cX0_hitsFor 1 = .ok (.iload_n 1, 1) := by decide +kernel
theorem dX0_hitsFor_2 : decode cX0_hitsFor 2 = .ok (.invokevirtual 43, 3) := by decide +kernel
theorem dX0_hitsFor_5 : decode cX0_hitsFor 5 = .ok (.ifCond .eq 12, 3) := by decide +kernel
theorem dX0_hitsFor_8 : decode cX0_hitsFor 8 = .ok (.aload_n 0, 1) := by decide +kernel
theorem dX0_hitsFor_9 : decode cX0_hitsFor 9 = .ok (.getfield 24, 3) := by decide +kernel
theorem dX0_hitsFor_12 : decode cX0_hitsFor 12 = .ok (.iload_n 1, 1) := by decide +kernel
theorem dX0_hitsFor_13 : decode cX0_hitsFor 13 = .ok (.iaload, 1) := by decide +kernel
theorem dX0_hitsFor_14 : decode cX0_hitsFor 14 = .ok (.goto 4, 3) := by decide +kernel
theorem dX0_hitsFor_17 : decode cX0_hitsFor 17 = .ok (.iconst 0, 1) := by decide +kernel
theorem dX0_hitsFor_18 : decode cX0_hitsFor 18 = .ok (.ireturn, 1) := by decide +kernel
set_option maxRecDepth 20000 in
theorem ggX0_isFresh_X0_has : GoodIn wsX0_isFresh wsX0_has := goodIn_r _ [6, 7, 8, 9, 10, 11, 12, 13] (by decide +kernel) (by decide +kernel)
set_option maxRecDepth 20000 in
theorem gX0_isFresh_X0_has : GoodIn wsX0_isFresh (wsV RX0 43 RX0 yX0_has wsX0_has) := goodIn_app (goodIn_of _ (by decide +kernel)) ggX0_isFresh_X0_has
theorem dX0_isFresh_0 : decode cX0_isFresh 0 = .ok (.aload_n 0, 1) := by decide +kernel
theorem dX0_isFresh_1 : decode cX0_isFresh 1 = .ok (.iload_n 1, 1) := by decide +kernel
theorem dX0_isFresh_2 : decode cX0_isFresh 2 = .ok (.invokevirtual 43, 3) := by decide +kernel
theorem dX0_isFresh_5 : decode cX0_isFresh 5 = .ok (.ifCond .eq 17, 3) := by decide +kernel
theorem dX0_isFresh_8 : decode cX0_isFresh 8 = .ok (.iload_n 2, 1) := by decide +kernel
theorem dX0_isFresh_9 : decode cX0_isFresh 9 = .ok (.aload_n 0, 1) := by decide +kernel
theorem dX0_isFresh_10 : decode cX0_isFresh 10 = .ok (.getfield 21, 3) := by decide +kernel
theorem dX0_isFresh_13 : decode cX0_isFresh 13 = .ok (.iload_n 1, 1) := by decide +kernel
theorem dX0_isFresh_14 : decode cX0_isFresh 14 = .ok (.iaload, 1) := by decide +kernel
theorem dX0_isFresh_15 : decode cX0_isFresh 15 = .ok (.if_icmp .ge 7, 3) := by decide +kernel
theorem dX0_isFresh_18 : decode cX0_isFresh 18 = .ok (.iconst 1, 1) := by decide +kernel
theorem dX0_isFresh_19 : decode cX0_isFresh 19 = .ok (.goto 4, 3) := by decide +kernel
theorem dX0_isFresh_22 : decode cX0_isFresh 22 = .ok (.iconst 0, 1) := by decide +kernel
theorem dX0_isFresh_23 : decode cX0_isFresh 23 = .ok (.ireturn, 1) := by decide +kernel
set_option maxRecDepth 20000 in
theorem ggX0_servesStale_X0_has : GoodIn wsX0_servesStale wsX0_has := goodIn_r _ [6, 7, 8, 9, 10, 11, 12, 13] (by decide +kernel) (by decide +kernel)
set_option maxRecDepth 20000 in
theorem gX0_servesStale_X0_has : GoodIn wsX0_servesStale (wsV RX0 43 RX0 yX0_has wsX0_has) := goodIn_app (goodIn_of _ (by decide +kernel)) ggX0_servesStale_X0_has
theorem dX0_servesStale_0 : decode cX0_servesStale 0 = .ok (.aload_n 0, 1) := by decide +kernel
theorem dX0_servesStale_1 : decode cX0_servesStale 1 = .ok (.iload_n 1, 1) := by decide +kernel
theorem dX0_servesStale_2 : decode cX0_servesStale 2 = .ok (.invokevirtual 43, 3) := by decide +kernel
theorem dX0_servesStale_5 : decode cX0_servesStale 5 = .ok (.ifCond .eq 20, 3) := by decide +kernel
theorem dX0_servesStale_8 : decode cX0_servesStale 8 = .ok (.iload_n 2, 1) := by decide +kernel
theorem dX0_servesStale_9 : decode cX0_servesStale 9 = .ok (.aload_n 0, 1) := by decide +kernel
theorem dX0_servesStale_10 : decode cX0_servesStale 10 = .ok (.getfield 21, 3) := by decide +kernel
theorem dX0_servesStale_13 : decode cX0_servesStale 13 = .ok (.iload_n 1, 1) := by decide +kernel
theorem dX0_servesStale_14 : decode cX0_servesStale 14 = .ok (.iaload, 1) := by decide +kernel
theorem dX0_servesStale_15 : decode cX0_servesStale 15 = .ok (.isub, 1) := by decide +kernel
theorem dX0_servesStale_16 : decode cX0_servesStale 16 = .ok (.bipush 100, 2) := by decide +kernel
theorem dX0_servesStale_18 : decode cX0_servesStale 18 = .ok (.if_icmp .ge 7, 3) := by decide +kernel
theorem dX0_servesStale_21 : decode cX0_servesStale 21 = .ok (.iconst 1, 1) := by decide +kernel
theorem dX0_servesStale_22 : decode cX0_servesStale 22 = .ok (.goto 4, 3) := by decide +kernel
theorem dX0_servesStale_25 : decode cX0_servesStale 25 = .ok (.iconst 0, 1) := by decide +kernel
theorem dX0_servesStale_26 : decode cX0_servesStale 26 = .ok (.ireturn, 1) := by decide +kernel
set_option maxRecDepth 20000 in
theorem ggX0_isHot_X0_has : GoodIn wsX0_isHot wsX0_has := goodIn_r _ [8, 9, 10, 11, 12, 13, 14, 15] (by decide +kernel) (by decide +kernel)
set_option maxRecDepth 20000 in
theorem gX0_isHot_X0_has : GoodIn wsX0_isHot (wsV RX0 43 RX0 yX0_has wsX0_has) := goodIn_app (goodIn_of _ (by decide +kernel)) ggX0_isHot_X0_has
theorem dX0_isHot_0 : decode cX0_isHot 0 = .ok (.aload_n 0, 1) := by decide +kernel
theorem dX0_isHot_1 : decode cX0_isHot 1 = .ok (.iload_n 1, 1) := by decide +kernel
theorem dX0_isHot_2 : decode cX0_isHot 2 = .ok (.invokevirtual 43, 3) := by decide +kernel
theorem dX0_isHot_5 : decode cX0_isHot 5 = .ok (.ifCond .eq 36, 3) := by decide +kernel
theorem dX0_isHot_8 : decode cX0_isHot 8 = .ok (.aload_n 0, 1) := by decide +kernel
theorem dX0_isHot_9 : decode cX0_isHot 9 = .ok (.getfield 24, 3) := by decide +kernel
theorem dX0_isHot_12 : decode cX0_isHot 12 = .ok (.iload_n 1, 1) := by decide +kernel
theorem dX0_isHot_13 : decode cX0_isHot 13 = .ok (.iaload, 1) := by decide +kernel
theorem dX0_isHot_14 : decode cX0_isHot 14 = .ok (.iconst 3, 1) := by decide +kernel
theorem dX0_isHot_15 : decode cX0_isHot 15 = .ok (.if_icmp .lt 26, 3) := by decide +kernel
theorem dX0_isHot_18 : decode cX0_isHot 18 = .ok (.iconst 4, 1) := by decide +kernel
theorem dX0_isHot_19 : decode cX0_isHot 19 = .ok (.aload_n 0, 1) := by decide +kernel
theorem dX0_isHot_20 : decode cX0_isHot 20 = .ok (.getfield 21, 3) := by decide +kernel
theorem dX0_isHot_23 : decode cX0_isHot 23 = .ok (.iload_n 1, 1) := by decide +kernel
theorem dX0_isHot_24 : decode cX0_isHot 24 = .ok (.iaload, 1) := by decide +kernel
theorem dX0_isHot_25 : decode cX0_isHot 25 = .ok (.iload_n 2, 1) := by decide +kernel
theorem dX0_isHot_26 : decode cX0_isHot 26 = .ok (.isub, 1) := by decide +kernel
theorem dX0_isHot_27 : decode cX0_isHot 27 = .ok (.imul, 1) := by decide +kernel
theorem dX0_isHot_28 : decode cX0_isHot 28 = .ok (.aload_n 0, 1) := by decide +kernel
theorem dX0_isHot_29 : decode cX0_isHot 29 = .ok (.getfield 18, 3) := by decide +kernel
theorem dX0_isHot_32 : decode cX0_isHot 32 = .ok (.iload_n 1, 1) := by decide +kernel
theorem dX0_isHot_33 : decode cX0_isHot 33 = .ok (.iaload, 1) := by decide +kernel
theorem dX0_isHot_34 : decode cX0_isHot 34 = .ok (.if_icmp .gt 7, 3) := by decide +kernel
theorem dX0_isHot_37 : decode cX0_isHot 37 = .ok (.iconst 1, 1) := by decide +kernel
theorem dX0_isHot_38 : decode cX0_isHot 38 = .ok (.goto 4, 3) := by decide +kernel
theorem dX0_isHot_41 : decode cX0_isHot 41 = .ok (.iconst 0, 1) := by decide +kernel
theorem dX0_isHot_42 : decode cX0_isHot 42 = .ok (.ireturn, 1) := by decide +kernel
set_option maxRecDepth 20000 in
theorem ggX0_countHit_X0_has : GoodIn wsX0_countHit wsX0_has := goodIn_r _ [6, 7, 8, 9, 10, 11, 12, 13] (by decide +kernel) (by decide +kernel)
set_option maxRecDepth 20000 in
theorem gX0_countHit_X0_has : GoodIn wsX0_countHit (wsV RX0 43 RX0 yX0_has wsX0_has) := goodIn_app (goodIn_of _ (by decide +kernel)) ggX0_countHit_X0_has
theorem dX0_countHit_0 : decode cX0_countHit 0 = .ok (.aload_n 0, 1) := by decide +kernel
theorem dX0_countHit_1 : decode cX0_countHit 1 = .ok (.iload_n 1, 1) := by decide +kernel
theorem dX0_countHit_2 : decode cX0_countHit 2 = .ok (.invokevirtual 43, 3) := by decide +kernel
theorem dX0_countHit_5 : decode cX0_countHit 5 = .ok (.ifCond .eq 13, 3) := by decide +kernel
theorem dX0_countHit_8 : decode cX0_countHit 8 = .ok (.aload_n 0, 1) := by decide +kernel
theorem dX0_countHit_9 : decode cX0_countHit 9 = .ok (.getfield 24, 3) := by decide +kernel
theorem dX0_countHit_12 : decode cX0_countHit 12 = .ok (.iload_n 1, 1) := by decide +kernel
theorem dX0_countHit_13 : decode cX0_countHit 13 = .ok (.dup2, 1) := by decide +kernel
theorem dX0_countHit_14 : decode cX0_countHit 14 = .ok (.iaload, 1) := by decide +kernel
theorem dX0_countHit_15 : decode cX0_countHit 15 = .ok (.iconst 1, 1) := by decide +kernel
theorem dX0_countHit_16 : decode cX0_countHit 16 = .ok (.iadd, 1) := by decide +kernel
theorem dX0_countHit_17 : decode cX0_countHit 17 = .ok (.iastore, 1) := by decide +kernel
theorem dX0_countHit_18 : decode cX0_countHit 18 = .ok (.return_, 1) := by decide +kernel
set_option maxRecDepth 20000 in
theorem ggX0_drop_X0_has : GoodIn wsX0_drop wsX0_has := goodIn_r _ [7, 1, 8, 9, 10, 11, 12, 13] (by decide +kernel) (by decide +kernel)
set_option maxRecDepth 20000 in
theorem gX0_drop_X0_has : GoodIn wsX0_drop (wsV RX0 43 RX0 yX0_has wsX0_has) := goodIn_app (goodIn_of _ (by decide +kernel)) ggX0_drop_X0_has
theorem dX0_drop_0 : decode cX0_drop 0 = .ok (.aload_n 0, 1) := by decide +kernel
theorem dX0_drop_1 : decode cX0_drop 1 = .ok (.iload_n 1, 1) := by decide +kernel
theorem dX0_drop_2 : decode cX0_drop 2 = .ok (.invokevirtual 43, 3) := by decide +kernel
theorem dX0_drop_5 : decode cX0_drop 5 = .ok (.ifCond .ne 5, 3) := by decide +kernel
theorem dX0_drop_8 : decode cX0_drop 8 = .ok (.iconst 0, 1) := by decide +kernel
theorem dX0_drop_9 : decode cX0_drop 9 = .ok (.ireturn, 1) := by decide +kernel
theorem dX0_drop_10 : decode cX0_drop 10 = .ok (.aload_n 0, 1) := by decide +kernel
theorem dX0_drop_11 : decode cX0_drop 11 = .ok (.getfield 9, 3) := by decide +kernel
theorem dX0_drop_14 : decode cX0_drop 14 = .ok (.iload_n 1, 1) := by decide +kernel
theorem dX0_drop_15 : decode cX0_drop 15 = .ok (.iconst 3, 1) := by decide +kernel
theorem dX0_drop_16 : decode cX0_drop 16 = .ok (.iastore, 1) := by decide +kernel
theorem dX0_drop_17 : decode cX0_drop 17 = .ok (.aload_n 0, 1) := by decide +kernel
theorem dX0_drop_18 : decode cX0_drop 18 = .ok (.dup, 1) := by decide +kernel
theorem dX0_drop_19 : decode cX0_drop 19 = .ok (.getfield 39, 3) := by decide +kernel
theorem dX0_drop_22 : decode cX0_drop 22 = .ok (.iconst 1, 1) := by decide +kernel
theorem dX0_drop_23 : decode cX0_drop 23 = .ok (.isub, 1) := by decide +kernel
theorem dX0_drop_24 : decode cX0_drop 24 = .ok (.putfield 39, 3) := by decide +kernel
theorem dX0_drop_27 : decode cX0_drop 27 = .ok (.iconst 1, 1) := by decide +kernel
theorem dX0_drop_28 : decode cX0_drop 28 = .ok (.ireturn, 1) := by decide +kernel
set_option maxRecDepth 20000 in
theorem ggX0_put_X0_firstToEnd : GoodIn wsX0_put wsX0_firstToEnd := goodIn_r _ [11, 1, 5, 20, 21, 22, 23, 24, 25] (by decide +kernel) (by decide +kernel)
set_option maxRecDepth 20000 in
theorem gX0_put_X0_firstToEnd : GoodIn wsX0_put (wsV RX0 47 RX0 yX0_firstToEnd wsX0_firstToEnd) := goodIn_app (goodIn_of _ (by decide +kernel)) ggX0_put_X0_firstToEnd
set_option maxRecDepth 20000 in
theorem ggX0_put_X0_drop : GoodIn wsX0_put wsX0_drop := goodIn_r _ [15, 1, 2, 16, 17, 18, 10, 19, 20, 21, 22, 23, 24, 25] (by decide +kernel) (by decide +kernel)
set_option maxRecDepth 20000 in
theorem gX0_put_X0_drop : GoodIn wsX0_put (wsV RX0 51 RX0 yX0_drop wsX0_drop) := goodIn_app (goodIn_of _ (by decide +kernel)) ggX0_put_X0_drop
theorem dX0_put_0 : decode cX0_put 0 = .ok (.iload_n 1, 1) := by decide +kernel
theorem dX0_put_1 : decode cX0_put 1 = .ok (.ifCond .lt 9, 3) := by decide +kernel
theorem dX0_put_4 : decode cX0_put 4 = .ok (.iload_n 1, 1) := by decide +kernel
theorem dX0_put_5 : decode cX0_put 5 = .ok (.bipush 16, 2) := by decide +kernel
theorem dX0_put_7 : decode cX0_put 7 = .ok (.if_icmp .lt 4, 3) := by decide +kernel
theorem dX0_put_10 : decode cX0_put 10 = .ok (.return_, 1) := by decide +kernel
theorem dX0_put_11 : decode cX0_put 11 = .ok (.aload_n 0, 1) := by decide +kernel
theorem dX0_put_12 : decode cX0_put 12 = .ok (.getfield 9, 3) := by decide +kernel
theorem dX0_put_15 : decode cX0_put 15 = .ok (.iload_n 1, 1) := by decide +kernel
theorem dX0_put_16 : decode cX0_put 16 = .ok (.iaload, 1) := by decide +kernel
theorem dX0_put_17 : decode cX0_put 17 = .ok (.iconst 3, 1) := by decide +kernel
theorem dX0_put_18 : decode cX0_put 18 = .ok (.if_icmp .ne 31, 3) := by decide +kernel
theorem dX0_put_21 : decode cX0_put 21 = .ok (.aload_n 0, 1) := by decide +kernel
theorem dX0_put_22 : decode cX0_put 22 = .ok (.getfield 39, 3) := by decide +kernel
theorem dX0_put_25 : decode cX0_put 25 = .ok (.bipush 6, 2) := by decide +kernel
theorem dX0_put_27 : decode cX0_put 27 = .ok (.if_icmp .lt 12, 3) := by decide +kernel
theorem dX0_put_30 : decode cX0_put 30 = .ok (.aload_n 0, 1) := by decide +kernel
theorem dX0_put_31 : decode cX0_put 31 = .ok (.aload_n 0, 1) := by decide +kernel
theorem dX0_put_32 : decode cX0_put 32 = .ok (.invokevirtual 47, 3) := by decide +kernel
theorem dX0_put_35 : decode cX0_put 35 = .ok (.invokevirtual 51, 3) := by decide +kernel
theorem dX0_put_38 : decode cX0_put 38 = .ok (.pop, 1) := by decide +kernel
theorem dX0_put_39 : decode cX0_put 39 = .ok (.aload_n 0, 1) := by decide +kernel
theorem dX0_put_40 : decode cX0_put 40 = .ok (.dup, 1) := by decide +kernel
theorem dX0_put_41 : decode cX0_put 41 = .ok (.getfield 39, 3) := by decide +kernel
theorem dX0_put_44 : decode cX0_put 44 = .ok (.iconst 1, 1) := by decide +kernel
theorem dX0_put_45 : decode cX0_put 45 = .ok (.iadd, 1) := by decide +kernel
theorem dX0_put_46 : decode cX0_put 46 = .ok (.putfield 39, 3) := by decide +kernel
theorem dX0_put_49 : decode cX0_put 49 = .ok (.aload_n 0, 1) := by decide +kernel
theorem dX0_put_50 : decode cX0_put 50 = .ok (.getfield 9, 3) := by decide +kernel
theorem dX0_put_53 : decode cX0_put 53 = .ok (.iload_n 1, 1) := by decide +kernel
theorem dX0_put_54 : decode cX0_put 54 = .ok (.iload_n 2, 1) := by decide +kernel
theorem dX0_put_55 : decode cX0_put 55 = .ok (.iastore, 1) := by decide +kernel
theorem dX0_put_56 : decode cX0_put 56 = .ok (.aload_n 0, 1) := by decide +kernel
theorem dX0_put_57 : decode cX0_put 57 = .ok (.getfield 15, 3) := by decide +kernel
theorem dX0_put_60 : decode cX0_put 60 = .ok (.iload_n 1, 1) := by decide +kernel
theorem dX0_put_61 : decode cX0_put 61 = .ok (.iload_n 3, 1) := by decide +kernel
theorem dX0_put_62 : decode cX0_put 62 = .ok (.iastore, 1) := by decide +kernel
theorem dX0_put_63 : decode cX0_put 63 = .ok (.aload_n 0, 1) := by decide +kernel
theorem dX0_put_64 : decode cX0_put 64 = .ok (.getfield 18, 3) := by decide +kernel
theorem dX0_put_67 : decode cX0_put 67 = .ok (.iload_n 1, 1) := by decide +kernel
theorem dX0_put_68 : decode cX0_put 68 = .ok (.iload 4, 2) := by decide +kernel
theorem dX0_put_70 : decode cX0_put 70 = .ok (.iastore, 1) := by decide +kernel
theorem dX0_put_71 : decode cX0_put 71 = .ok (.aload_n 0, 1) := by decide +kernel
theorem dX0_put_72 : decode cX0_put 72 = .ok (.getfield 21, 3) := by decide +kernel
theorem dX0_put_75 : decode cX0_put 75 = .ok (.iload_n 1, 1) := by decide +kernel
theorem dX0_put_76 : decode cX0_put 76 = .ok (.iload 5, 2) := by decide +kernel
theorem dX0_put_78 : decode cX0_put 78 = .ok (.iload 4, 2) := by decide +kernel
theorem dX0_put_80 : decode cX0_put 80 = .ok (.iadd, 1) := by decide +kernel
theorem dX0_put_81 : decode cX0_put 81 = .ok (.iastore, 1) := by decide +kernel
theorem dX0_put_82 : decode cX0_put 82 = .ok (.aload_n 0, 1) := by decide +kernel
theorem dX0_put_83 : decode cX0_put 83 = .ok (.getfield 24, 3) := by decide +kernel
theorem dX0_put_86 : decode cX0_put 86 = .ok (.iload_n 1, 1) := by decide +kernel
theorem dX0_put_87 : decode cX0_put 87 = .ok (.iconst 0, 1) := by decide +kernel
theorem dX0_put_88 : decode cX0_put 88 = .ok (.iastore, 1) := by decide +kernel
theorem dX0_put_89 : decode cX0_put 89 = .ok (.return_, 1) := by decide +kernel
theorem dX0_firstToEnd_0 : decode cX0_firstToEnd 0 = .ok (.bipush (-3), 2) := by decide +kernel
theorem dX0_firstToEnd_2 : decode cX0_firstToEnd 2 = .ok (.istore_n 1, 1) := by decide +kernel
theorem dX0_firstToEnd_3 : decode cX0_firstToEnd 3 = .ok (.iconst 0, 1) := by decide +kernel
theorem dX0_firstToEnd_4 : decode cX0_firstToEnd 4 = .ok (.istore_n 2, 1) := by decide +kernel
theorem dX0_firstToEnd_5 : decode cX0_firstToEnd 5 = .ok (.iload_n 2, 1) := by decide +kernel
theorem dX0_firstToEnd_6 : decode cX0_firstToEnd 6 = .ok (.bipush 16, 2) := by decide +kernel
theorem dX0_firstToEnd_8 : decode cX0_firstToEnd 8 = .ok (.if_icmp .ge 40, 3) := by decide +kernel
theorem dX0_firstToEnd_11 : decode cX0_firstToEnd 11 = .ok (.aload_n 0, 1) := by decide +kernel
theorem dX0_firstToEnd_12 : decode cX0_firstToEnd 12 = .ok (.getfield 9, 3) := by decide +kernel
theorem dX0_firstToEnd_15 : decode cX0_firstToEnd 15 = .ok (.iload_n 2, 1) := by decide +kernel
theorem dX0_firstToEnd_16 : decode cX0_firstToEnd 16 = .ok (.iaload, 1) := by decide +kernel
theorem dX0_firstToEnd_17 : decode cX0_firstToEnd 17 = .ok (.iconst 3, 1) := by decide +kernel
theorem dX0_firstToEnd_18 : decode cX0_firstToEnd 18 = .ok (.if_icmp .eq 24, 3) := by decide +kernel
theorem dX0_firstToEnd_21 : decode cX0_firstToEnd 21 = .ok (.iload_n 1, 1) := by decide +kernel
theorem dX0_firstToEnd_22 : decode cX0_firstToEnd 22 = .ok (.ifCond .lt 18, 3) := by decide +kernel
theorem dX0_firstToEnd_25 : decode cX0_firstToEnd 25 = .ok (.aload_n 0, 1) := by decide +kernel
theorem dX0_firstToEnd_26 : decode cX0_firstToEnd 26 = .ok (.getfield 21, 3) := by decide +kernel
theorem dX0_firstToEnd_29 : decode cX0_firstToEnd 29 = .ok (.iload_n 2, 1) := by decide +kernel
theorem dX0_firstToEnd_30 : decode cX0_firstToEnd 30 = .ok (.iaload, 1) := by decide +kernel
theorem dX0_firstToEnd_31 : decode cX0_firstToEnd 31 = .ok (.aload_n 0, 1) := by decide +kernel
theorem dX0_firstToEnd_32 : decode cX0_firstToEnd 32 = .ok (.getfield 21, 3) := by decide +kernel
theorem dX0_firstToEnd_35 : decode cX0_firstToEnd 35 = .ok (.iload_n 1, 1) := by decide +kernel
theorem dX0_firstToEnd_36 : decode cX0_firstToEnd 36 = .ok (.iaload, 1) := by decide +kernel
theorem dX0_firstToEnd_37 : decode cX0_firstToEnd 37 = .ok (.if_icmp .ge 5, 3) := by decide +kernel
theorem dX0_firstToEnd_40 : decode cX0_firstToEnd 40 = .ok (.iload_n 2, 1) := by decide +kernel
theorem dX0_firstToEnd_41 : decode cX0_firstToEnd 41 = .ok (.istore_n 1, 1) := by decide +kernel
theorem dX0_firstToEnd_42 : decode cX0_firstToEnd 42 = .ok (.iinc 2 1, 3) := by decide +kernel
theorem dX0_firstToEnd_45 : decode cX0_firstToEnd 45 = .ok (.goto (-40), 3) := by decide +kernel
theorem dX0_firstToEnd_48 : decode cX0_firstToEnd 48 = .ok (.iload_n 1, 1) := by decide +kernel
theorem dX0_firstToEnd_49 : decode cX0_firstToEnd 49 = .ok (.ireturn, 1) := by decide +kernel
theorem dX1_init_0 : decode cX1_init 0 = .ok (.aload_n 0, 1) := by decide +kernel
theorem dX1_init_1 : decode cX1_init 1 = .ok (.invokespecial 3, 3) := by decide +kernel
theorem dX1_init_4 : decode cX1_init 4 = .ok (.aload_n 0, 1) := by decide +kernel
theorem dX1_init_5 : decode cX1_init 5 = .ok (.iconst 5, 1) := by decide +kernel
theorem dX1_init_6 : decode cX1_init 6 = .ok (.newarray .int, 2) := by decide +kernel
theorem dX1_init_8 : decode cX1_init 8 = .ok (.putfield 9, 3) := by decide +kernel
theorem dX1_init_11 : decode cX1_init 11 = .ok (.return_, 1) := by decide +kernel
theorem dX1_begin_0 : decode cX1_begin 0 = .ok (.aload_n 0, 1) := by decide +kernel
theorem dX1_begin_1 : decode cX1_begin 1 = .ok (.iconst 0, 1) := by decide +kernel
theorem dX1_begin_2 : decode cX1_begin 2 = .ok (.putfield 15, 3) := by decide +kernel
theorem dX1_begin_5 : decode cX1_begin 5 = .ok (.aload_n 0, 1) := by decide +kernel
theorem dX1_begin_6 : decode cX1_begin 6 = .ok (.iconst 0, 1) := by decide +kernel
theorem dX1_begin_7 : decode cX1_begin 7 = .ok (.putfield 19, 3) := by decide +kernel
theorem dX1_begin_10 : decode cX1_begin 10 = .ok (.aload_n 0, 1) := by decide +kernel
theorem dX1_begin_11 : decode cX1_begin 11 = .ok (.iconst 0, 1) := by decide +kernel
theorem dX1_begin_12 : decode cX1_begin 12 = .ok (.putfield 22, 3) := by decide +kernel
theorem dX1_begin_15 : decode cX1_begin 15 = .ok (.aload_n 0, 1) := by decide +kernel
theorem dX1_begin_16 : decode cX1_begin 16 = .ok (.iconst 0, 1) := by decide +kernel
theorem dX1_begin_17 : decode cX1_begin 17 = .ok (.putfield 25, 3) := by decide +kernel
theorem dX1_begin_20 : decode cX1_begin 20 = .ok (.aload_n 0, 1) := by decide +kernel
theorem dX1_begin_21 : decode cX1_begin 21 = .ok (.iconst 0, 1) := by decide +kernel
theorem dX1_begin_22 : decode cX1_begin 22 = .ok (.putfield 28, 3) := by decide +kernel
theorem dX1_begin_25 : decode cX1_begin 25 = .ok (.return_, 1) := by decide +kernel
theorem dX1_noteFresh_0 : decode cX1_noteFresh 0 = .ok (.aload_n 0, 1) := by decide +kernel
theorem dX1_noteFresh_1 : decode cX1_noteFresh 1 = .ok (.getfield 15, 3) := by decide +kernel
theorem dX1_noteFresh_4 : decode cX1_noteFresh 4 = .ok (.aload_n 0, 1) := by decide +kernel
theorem dX1_noteFresh_5 : decode cX1_noteFresh 5 = .ok (.getfield 9, 3) := by decide +kernel
theorem dX1_noteFresh_8 : decode cX1_noteFresh 8 = .ok (.arraylength, 1) := by decide +kernel
theorem dX1_noteFresh_9 : decode cX1_noteFresh 9 = .ok (.if_icmp .ge 23, 3) := by decide +kernel
theorem dX1_noteFresh_12 : decode cX1_noteFresh 12 = .ok (.aload_n 0, 1) := by decide +kernel
theorem dX1_noteFresh_13 : decode cX1_noteFresh 13 = .ok (.getfield 9, 3) := by decide +kernel
theorem dX1_noteFresh_16 : decode cX1_noteFresh 16 = .ok (.aload_n 0, 1) := by decide +kernel
theorem dX1_noteFresh_17 : decode cX1_noteFresh 17 = .ok (.getfield 15, 3) := by decide +kernel
theorem dX1_noteFresh_20 : decode cX1_noteFresh 20 = .ok (.iload_n 1, 1) := by decide +kernel
theorem dX1_noteFresh_21 : decode cX1_noteFresh 21 = .ok (.iastore, 1) := by decide +kernel
theorem dX1_noteFresh_22 : decode cX1_noteFresh 22 = .ok (.aload_n 0, 1) := by decide +kernel
theorem dX1_noteFresh_23 : decode cX1_noteFresh 23 = .ok (.dup, 1) := by decide +kernel
theorem dX1_noteFresh_24 : decode cX1_noteFresh 24 = .ok (.getfield 15, 3) := by decide +kernel
theorem dX1_noteFresh_27 : decode cX1_noteFresh 27 = .ok (.iconst 1, 1) := by decide +kernel
theorem dX1_noteFresh_28 : decode cX1_noteFresh 28 = .ok (.iadd, 1) := by decide +kernel
theorem dX1_noteFresh_29 : decode cX1_noteFresh 29 = .ok (.putfield 15, 3) := by decide +kernel
theorem dX1_noteFresh_32 : decode cX1_noteFresh 32 = .ok (.return_, 1) := by decide +kernel
theorem dX1_freshNameAt_0 : decode cX1_freshNameAt 0 = .ok (.iload_n 1, 1) := by decide +kernel
theorem dX1_freshNameAt_1 : decode cX1_freshNameAt 1 = .ok (.ifCond .lt 20, 3) := by decide +kernel
theorem dX1_freshNameAt_4 : decode cX1_freshNameAt 4 = .ok (.iload_n 1, 1) := by decide +kernel
theorem dX1_freshNameAt_5 : decode cX1_freshNameAt 5 = .ok (.aload_n 0, 1) := by decide +kernel
theorem dX1_freshNameAt_6 : decode cX1_freshNameAt 6 = .ok (.getfield 15, 3) := by decide +kernel
theorem dX1_freshNameAt_9 : decode cX1_freshNameAt 9 = .ok (.if_icmp .ge 12, 3) := by decide +kernel
theorem dX1_freshNameAt_12 : decode cX1_freshNameAt 12 = .ok (.iload_n 1, 1) := by decide +kernel
theorem dX1_freshNameAt_13 : decode cX1_freshNameAt 13 = .ok (.aload_n 0, 1) := by decide +kernel
theorem dX1_freshNameAt_14 : decode cX1_freshNameAt 14 = .ok (.getfield 9, 3) := by decide +kernel
theorem dX1_freshNameAt_17 : decode cX1_freshNameAt 17 = .ok (.arraylength, 1) := by decide +kernel
theorem dX1_freshNameAt_18 : decode cX1_freshNameAt 18 = .ok (.if_icmp .lt 8, 3) := by decide +kernel
theorem dX1_freshNameAt_21 : decode cX1_freshNameAt 21 = .ok (.bipush (-3), 2) := by decide +kernel
theorem dX1_freshNameAt_23 : decode cX1_freshNameAt 23 = .ok (.goto 9, 3) := by decide +kernel
theorem dX1_freshNameAt_26 : decode cX1_freshNameAt 26 = .ok (.aload_n 0, 1) := by decide +kernel
theorem dX1_freshNameAt_27 : decode cX1_freshNameAt 27 = .ok (.getfield 9, 3) := by decide +kernel
theorem dX1_freshNameAt_30 : decode cX1_freshNameAt 30 = .ok (.iload_n 1, 1) := by decide +kernel
theorem dX1_freshNameAt_31 : decode cX1_freshNameAt 31 = .ok (.iaload, 1) := by decide +kernel
theorem dX1_freshNameAt_32 : decode cX1_freshNameAt 32 = .ok (.ireturn, 1) := by decide +kernel
set_option maxRecDepth 20000 in
theorem ggX2_init_X0_init : GoodIn wsX2_init wsX0_init := goodIn_r _ [13, 14, 2, 3, 15, 16, 17, 18, 19, 20, 21, 22, 23, 24, 25, 26, 27, 28, 29, 30] (by decide +kernel) (by decide +kernel)
set_option maxRecDepth 20000 in
theorem gX2_init_X0_init : GoodIn wsX2_init (wsX0_init) := ggX2_init_X0_init
theorem dX2_init_0 : decode cX2_init 0 = .ok (.aload_n 0, 1) := by decide +kernel
theorem dX2_init_1 : decode cX2_init 1 = .ok (.invokespecial 1, 3) := by decide +kernel
theorem dX2_init_4 : decode cX2_init 4 = .ok (.aload_n 0, 1) := by decide +kernel
theorem dX2_init_5 : decode cX2_init 5 = .ok (.new 7, 3) := by decide +kernel
theorem dX2_init_8 : decode cX2_init 8 = .ok (.dup, 1) := by decide +kernel
theorem dX2_init_9 : decode cX2_init 9 = .ok (.invokespecial 9, 3) := by decide +kernel
theorem dX2_init_12 : decode cX2_init 12 = .ok (.putfield 10, 3) := by decide +kernel
theorem dX2_init_15 : decode cX2_init 15 = .ok (.aload_n 0, 1) := by decide +kernel
theorem dX2_init_16 : decode cX2_init 16 = .ok (.iconst 1, 1) := by decide +kernel
theorem dX2_init_17 : decode cX2_init 17 = .ok (.putfield 16, 3) := by decide +kernel
theorem dX2_init_20 : decode cX2_init 20 = .ok (.aload_n 0, 1) := by decide +kernel
theorem dX2_init_21 : decode cX2_init 21 = .ok (.iload_n 1, 1) := by decide +kernel
theorem dX2_init_22 : decode cX2_init 22 = .ok (.putfield 20, 3) := by decide +kernel
theorem dX2_init_25 : decode cX2_init 25 = .ok (.aload_n 0, 1) := by decide +kernel
theorem dX2_init_26 : decode cX2_init 26 = .ok (.iload_n 2, 1) := by decide +kernel
theorem dX2_init_27 : decode cX2_init 27 = .ok (.putfield 24, 3) := by decide +kernel
theorem dX2_init_30 : decode cX2_init 30 = .ok (.return_, 1) := by decide +kernel
theorem dX2_distanceTo_0 : decode cX2_distanceTo 0 = .ok (.iload_n 1, 1) := by decide +kernel
theorem dX2_distanceTo_1 : decode cX2_distanceTo 1 = .ok (.aload_n 0, 1) := by decide +kernel
theorem dX2_distanceTo_2 : decode cX2_distanceTo 2 = .ok (.getfield 24, 3) := by decide +kernel
theorem dX2_distanceTo_5 : decode cX2_distanceTo 5 = .ok (.isub, 1) := by decide +kernel
theorem dX2_distanceTo_6 : decode cX2_distanceTo 6 = .ok (.invokestatic 27, 3) := by decide +kernel
theorem dX2_distanceTo_9 : decode cX2_distanceTo 9 = .ok (.ireturn, 1) := by decide +kernel
set_option maxRecDepth 20000 in
theorem ggX3_init_J7_fill_53178 : GoodIn wsX3_init wsJ7_fill_53178 := goodIn_r _ [13] (by decide +kernel) (by decide +kernel)
set_option maxRecDepth 20000 in
theorem gX3_init_J7_fill_53178 : GoodIn wsX3_init (va_wsS RX3 29 yJ7_fill_53178 wsJ7_fill_53178) := goodIn_app (goodIn_of _ (by decide +kernel)) ggX3_init_J7_fill_53178
theorem dX3_init_0 : decode cX3_init 0 = .ok (.aload_n 0, 1) := by decide +kernel
theorem dX3_init_1 : decode cX3_init 1 = .ok (.invokespecial 3, 3) := by decide +kernel
theorem dX3_init_4 : decode cX3_init 4 = .ok (.aload_n 0, 1) := by decide +kernel
theorem dX3_init_5 : decode cX3_init 5 = .ok (.bipush 16, 2) := by decide +kernel
theorem dX3_init_7 : decode cX3_init 7 = .ok (.newarray .int, 2) := by decide +kernel
theorem dX3_init_9 : decode cX3_init 9 = .ok (.putfield 9, 3) := by decide +kernel
theorem dX3_init_12 : decode cX3_init 12 = .ok (.aload_n 0, 1) := by decide +kernel
theorem dX3_init_13 : decode cX3_init 13 = .ok (.bipush 16, 2) := by decide +kernel
theorem dX3_init_15 : decode cX3_init 15 = .ok (.newarray .int, 2) := by decide +kernel
theorem dX3_init_17 : decode cX3_init 17 = .ok (.putfield 15, 3) := by decide +kernel
theorem dX3_init_20 : decode cX3_init 20 = .ok (.aload_n 0, 1) := by decide +kernel
theorem dX3_init_21 : decode cX3_init 21 = .ok (.bipush 16, 2) := by decide +kernel
theorem dX3_init_23 : decode cX3_init 23 = .ok (.newarray .int, 2) := by decide +kernel
theorem dX3_init_25 : decode cX3_init 25 = .ok (.putfield 18, 3) := by decide +kernel
theorem dX3_init_28 : decode cX3_init 28 = .ok (.aload_n 0, 1) := by decide +kernel
theorem dX3_init_29 : decode cX3_init 29 = .ok (.bipush 30, 2) := by decide +kernel
theorem dX3_init_31 : decode cX3_init 31 = .ok (.putfield 21, 3) := by decide +kernel
theorem dX3_init_34 : decode cX3_init 34 = .ok (.aload_n 0, 1) := by decide +kernel
theorem dX3_init_35 : decode cX3_init 35 = .ok (.iconst 1, 1) := by decide +kernel
theorem dX3_init_36 : decode cX3_init 36 = .ok (.putfield 25, 3) := by decide +kernel
theorem dX3_init_39 : decode cX3_init 39 = .ok (.aload_n 0, 1) := by decide +kernel
theorem dX3_init_40 : decode cX3_init 40 = .ok (.getfield 9, 3) := by decide +kernel
theorem dX3_init_43 : decode cX3_init 43 = .ok (.iconst 2, 1) := by decide +kernel
theorem dX3_init_44 : decode cX3_init 44 = .ok (.invokestatic 29, 3) := by decide +kernel
theorem dX3_init_47 : decode cX3_init 47 = .ok (.aload_n 0, 1) := by decide +kernel
theorem dX3_init_48 : decode cX3_init 48 = .ok (.getfield 15, 3) := by decide +kernel
theorem dX3_init_51 : decode cX3_init 51 = .ok (.bipush (-3), 2) := by decide +kernel
theorem dX3_init_53 : decode cX3_init 53 = .ok (.invokestatic 29, 3) := by decide +kernel
theorem dX3_init_56 : decode cX3_init 56 = .ok (.return_, 1) := by decide +kernel
theorem dX3_put_0 : decode cX3_put 0 = .ok (.iload_n 1, 1) := by decide +kernel
theorem dX3_put_1 : decode cX3_put 1 = .ok (.ifCond .lt 9, 3) := by decide +kernel
theorem dX3_put_4 : decode cX3_put 4 = .ok (.iload_n 1, 1) := by decide +kernel
theorem dX3_put_5 : decode cX3_put 5 = .ok (.bipush 16, 2) := by decide +kernel
theorem dX3_put_7 : decode cX3_put 7 = .ok (.if_icmp .lt 4, 3) := by decide +kernel
theorem dX3_put_10 : decode cX3_put 10 = .ok (.return_, 1) := by decide +kernel
theorem dX3_put_11 : decode cX3_put 11 = .ok (.aload_n 0, 1) := by decide +kernel
theorem dX3_put_12 : decode cX3_put 12 = .ok (.getfield 9, 3) := by decide +kernel
theorem dX3_put_15 : decode cX3_put 15 = .ok (.iload_n 1, 1) := by decide +kernel
theorem dX3_put_16 : decode cX3_put 16 = .ok (.iload_n 2, 1) := by decide +kernel
theorem dX3_put_17 : decode cX3_put 17 = .ok (.iastore, 1) := by decide +kernel
theorem dX3_put_18 : decode cX3_put 18 = .ok (.aload_n 0, 1) := by decide +kernel
theorem dX3_put_19 : decode cX3_put 19 = .ok (.getfield 15, 3) := by decide +kernel
theorem dX3_put_22 : decode cX3_put 22 = .ok (.iload_n 1, 1) := by decide +kernel
theorem dX3_put_23 : decode cX3_put 23 = .ok (.iload_n 3, 1) := by decide +kernel
theorem dX3_put_24 : decode cX3_put 24 = .ok (.iastore, 1) := by decide +kernel
theorem dX3_put_25 : decode cX3_put 25 = .ok (.aload_n 0, 1) := by decide +kernel
theorem dX3_put_26 : decode cX3_put 26 = .ok (.getfield 18, 3) := by decide +kernel
theorem dX3_put_29 : decode cX3_put 29 = .ok (.iload_n 1, 1) := by decide +kernel
theorem dX3_put_30 : decode cX3_put 30 = .ok (.iload 4, 2) := by decide +kernel
theorem dX3_put_32 : decode cX3_put 32 = .ok (.iastore, 1) := by decide +kernel
theorem dX3_put_33 : decode cX3_put 33 = .ok (.return_, 1) := by decide +kernel
theorem dX3_kindOf_0 : decode cX3_kindOf 0 = .ok (.iload_n 1, 1) := by decide +kernel
theorem dX3_kindOf_1 : decode cX3_kindOf 1 = .ok (.ifCond .lt 9, 3) := by decide +kernel
theorem dX3_kindOf_4 : decode cX3_kindOf 4 = .ok (.iload_n 1, 1) := by decide +kernel
theorem dX3_kindOf_5 : decode cX3_kindOf 5 = .ok (.bipush 16, 2) := by decide +kernel
theorem dX3_kindOf_7 : decode cX3_kindOf 7 = .ok (.if_icmp .lt 7, 3) := by decide +kernel
theorem dX3_kindOf_10 : decode cX3_kindOf 10 = .ok (.iconst 2, 1) := by decide +kernel
theorem dX3_kindOf_11 : decode cX3_kindOf 11 = .ok (.goto 9, 3) := by decide +kernel
theorem dX3_kindOf_14 : decode cX3_kindOf 14 = .ok (.aload_n 0, 1) := by decide +kernel
theorem dX3_kindOf_15 : decode cX3_kindOf 15 = .ok (.getfield 9, 3) := by decide +kernel
theorem dX3_kindOf_18 : decode cX3_kindOf 18 = .ok (.iload_n 1, 1) := by decide +kernel
theorem dX3_kindOf_19 : decode cX3_kindOf 19 = .ok (.iaload, 1) := by decide +kernel
theorem dX3_kindOf_20 : decode cX3_kindOf 20 = .ok (.ireturn, 1) := by decide +kernel
theorem dX3_valueOf_0 : decode cX3_valueOf 0 = .ok (.iload_n 1, 1) := by decide +kernel
theorem dX3_valueOf_1 : decode cX3_valueOf 1 = .ok (.ifCond .lt 9, 3) := by decide +kernel
theorem dX3_valueOf_4 : decode cX3_valueOf 4 = .ok (.iload_n 1, 1) := by decide +kernel
theorem dX3_valueOf_5 : decode cX3_valueOf 5 = .ok (.bipush 16, 2) := by decide +kernel
theorem dX3_valueOf_7 : decode cX3_valueOf 7 = .ok (.if_icmp .lt 8, 3) := by decide +kernel
theorem dX3_valueOf_10 : decode cX3_valueOf 10 = .ok (.bipush (-3), 2) := by decide +kernel
theorem dX3_valueOf_12 : decode cX3_valueOf 12 = .ok (.goto 9, 3) := by decide +kernel
theorem dX3_valueOf_15 : decode cX3_valueOf 15 = .ok (.aload_n 0, 1) := by decide +kernel
theorem dX3_valueOf_16 : decode cX3_valueOf 16 = .ok (.getfield 15, 3) := by decide +kernel
theorem dX3_valueOf_19 : decode cX3_valueOf 19 = .ok (.iload_n 1, 1) := by decide +kernel
theorem dX3_valueOf_20 : decode cX3_valueOf 20 = .ok (.iaload, 1) := by decide +kernel
theorem dX3_valueOf_21 : decode cX3_valueOf 21 = .ok (.ireturn, 1) := by decide +kernel
theorem dX3_lifeOf_0 : decode cX3_lifeOf 0 = .ok (.iload_n 1, 1) := by decide +kernel
theorem dX3_lifeOf_1 : decode cX3_lifeOf 1 = .ok (.ifCond .lt 19, 3) := by decide +kernel
theorem dX3_lifeOf_4 : decode cX3_lifeOf 4 = .ok (.iload_n 1, 1) := by decide +kernel
theorem dX3_lifeOf_5 : decode cX3_lifeOf 5 = .ok (.bipush 16, 2) := by decide +kernel
theorem dX3_lifeOf_7 : decode cX3_lifeOf 7 = .ok (.if_icmp .ge 13, 3) := by decide +kernel
theorem dX3_lifeOf_10 : decode cX3_lifeOf 10 = .ok (.aload_n 0, 1) := by decide +kernel
theorem dX3_lifeOf_11 : decode cX3_lifeOf 11 = .ok (.getfield 9, 3) := by decide +kernel
theorem dX3_lifeOf_14 : decode cX3_lifeOf 14 = .ok (.iload_n 1, 1) := by decide +kernel
theorem dX3_lifeOf_15 : decode cX3_lifeOf 15 = .ok (.iaload, 1) := by decide +kernel
theorem dX3_lifeOf_16 : decode cX3_lifeOf 16 = .ok (.iconst 2, 1) := by decide +kernel
theorem dX3_lifeOf_17 : decode cX3_lifeOf 17 = .ok (.if_icmp .ne 10, 3) := by decide +kernel
theorem dX3_lifeOf_20 : decode cX3_lifeOf 20 = .ok (.aload_n 0, 1) := by decide +kernel
theorem dX3_lifeOf_21 : decode cX3_lifeOf 21 = .ok (.getfield 21, 3) := by decide +kernel
theorem dX3_lifeOf_24 : decode cX3_lifeOf 24 = .ok (.goto 9, 3) := by decide +kernel
theorem dX3_lifeOf_27 : decode cX3_lifeOf 27 = .ok (.aload_n 0, 1) := by decide +kernel
theorem dX3_lifeOf_28 : decode cX3_lifeOf 28 = .ok (.getfield 18, 3) := by decide +kernel
theorem dX3_lifeOf_31 : decode cX3_lifeOf 31 = .ok (.iload_n 1, 1) := by decide +kernel
theorem dX3_lifeOf_32 : decode cX3_lifeOf 32 = .ok (.iaload, 1) := by decide +kernel
theorem dX3_lifeOf_33 : decode cX3_lifeOf 33 = .ok (.ireturn, 1) := by decide +kernel
set_option maxRecDepth 20000 in
theorem ggX4_init_X3_init : GoodIn wsX4_init wsX3_init := goodIn_r _ [22, 23, 2, 3, 24, 25, 26, 27, 28, 29, 30, 31, 32, 33, 49, 50, 51, 52, 53] (by decide +kernel) (by decide +kernel)
set_option maxRecDepth 20000 in
theorem gX4_init_X3_init : GoodIn wsX4_init (wsX3_init) := ggX4_init_X3_init
set_option maxRecDepth 20000 in
theorem ggX4_init_X1_init : GoodIn wsX4_init wsX1_init := goodIn_r _ [36, 37, 2, 3, 24, 38, 67, 68, 69, 70, 71, 72] (by decide +kernel) (by decide +kernel)
set_option maxRecDepth 20000 in
theorem gX4_init_X1_init : GoodIn wsX4_init (wsX1_init) := ggX4_init_X1_init
set_option maxRecDepth 20000 in
theorem ggX4_init_X0_init : GoodIn wsX4_init wsX0_init := goodIn_r _ [41, 42, 2, 3, 24, 43, 44, 45, 46, 47, 48, 31, 32, 33, 73, 74, 75, 76, 77, 78] (by decide +kernel) (by decide +kernel)
set_option maxRecDepth 20000 in
theorem gX4_init_X0_init : GoodIn wsX4_init (wsX0_init) := ggX4_init_X0_init
theorem dX4_init_0 : decode cX4_init 0 = .ok (.aload_n 0, 1) := by decide +kernel
theorem dX4_init_1 : decode cX4_init 1 = .ok (.invokespecial 1, 3) := by decide +kernel
theorem dX4_init_4 : decode cX4_init 4 = .ok (.aload_n 0, 1) := by decide +kernel
theorem dX4_init_5 : decode cX4_init 5 = .ok (.new 7, 3) := by decide +kernel
theorem dX4_init_8 : decode cX4_init 8 = .ok (.dup, 1) := by decide +kernel
theorem dX4_init_9 : decode cX4_init 9 = .ok (.invokespecial 9, 3) := by decide +kernel
theorem dX4_init_12 : decode cX4_init 12 = .ok (.putfield 10, 3) := by decide +kernel
theorem dX4_init_15 : decode cX4_init 15 = .ok (.aload_n 0, 1) := by decide +kernel
theorem dX4_init_16 : decode cX4_init 16 = .ok (.iconst 4, 1) := by decide +kernel
theorem dX4_init_17 : decode cX4_init 17 = .ok (.anewarray 16, 3) := by decide +kernel
theorem dX4_init_20 : decode cX4_init 20 = .ok (.putfield 18, 3) := by decide +kernel
theorem dX4_init_23 : decode cX4_init 23 = .ok (.aload_n 0, 1) := by decide +kernel
theorem dX4_init_24 : decode cX4_init 24 = .ok (.new 22, 3) := by decide +kernel
theorem dX4_init_27 : decode cX4_init 27 = .ok (.dup, 1) := by decide +kernel
theorem dX4_init_28 : decode cX4_init 28 = .ok (.invokespecial 24, 3) := by decide +kernel
theorem dX4_init_31 : decode cX4_init 31 = .ok (.putfield 25, 3) := by decide +kernel
theorem dX4_init_34 : decode cX4_init 34 = .ok (.aload_n 0, 1) := by decide +kernel
theorem dX4_init_35 : decode cX4_init 35 = .ok (.bipush (-3), 2) := by decide +kernel
theorem dX4_init_37 : decode cX4_init 37 = .ok (.putfield 29, 3) := by decide +kernel
theorem dX4_init_40 : decode cX4_init 40 = .ok (.aload_n 0, 1) := by decide +kernel
theorem dX4_init_41 : decode cX4_init 41 = .ok (.new 22, 3) := by decide +kernel
theorem dX4_init_44 : decode cX4_init 44 = .ok (.dup, 1) := by decide +kernel
theorem dX4_init_45 : decode cX4_init 45 = .ok (.invokespecial 24, 3) := by decide +kernel
theorem dX4_init_48 : decode cX4_init 48 = .ok (.putfield 33, 3) := by decide +kernel
theorem dX4_init_51 : decode cX4_init 51 = .ok (.aload_n 0, 1) := by decide +kernel
theorem dX4_init_52 : decode cX4_init 52 = .ok (.new 36, 3) := by decide +kernel
theorem dX4_init_55 : decode cX4_init 55 = .ok (.dup, 1) := by decide +kernel
theorem dX4_init_56 : decode cX4_init 56 = .ok (.invokespecial 38, 3) := by decide +kernel
theorem dX4_init_59 : decode cX4_init 59 = .ok (.putfield 39, 3) := by decide +kernel
theorem dX4_init_62 : decode cX4_init 62 = .ok (.return_, 1) := by decide +kernel
set_option maxRecDepth 20000 in
theorem ggX4_setAddress_X4_requireName : GoodIn wsX4_setAddress wsX4_requireName := goodIn_ca (goodIn_r _ [5, 6, 7] (by decide +kernel) (by decide +kernel)) (goodIn_sub (fun _ h => List.mem_cons_of_mem _ (List.mem_append_left _ (List.mem_append_right _ h))) (by decide +kernel))
set_option maxRecDepth 20000 in
theorem gX4_setAddress_X4_requireName : GoodIn wsX4_setAddress (va_wsS RX4 43 yX4_requireName wsX4_requireName) := goodIn_app (goodIn_of _ (by decide +kernel)) ggX4_setAddress_X4_requireName
set_option maxRecDepth 20000 in
theorem ggX4_setAddress_X4_requireWithin : GoodIn wsX4_setAddress wsX4_requireWithin := goodIn_ca (goodIn_r _ [10, 11, 12] (by decide +kernel) (by decide +kernel)) (goodIn_sub (fun _ h => List.mem_cons_of_mem _ (List.mem_append_right _ h)) (by decide +kernel))
set_option maxRecDepth 20000 in
theorem gX4_setAddress_X4_requireWithin : GoodIn wsX4_setAddress (va_wsS RX4 47 yX4_requireWithin wsX4_requireWithin) := goodIn_app (goodIn_of _ (by decide +kernel)) ggX4_setAddress_X4_requireWithin
set_option maxRecDepth 20000 in
theorem ggX4_setAddress_X3_put : GoodIn wsX4_setAddress wsX3_put := goodIn_r _ [17, 18, 19, 20, 34, 35, 36, 37, 38] (by decide +kernel) (by decide +kernel)
set_option maxRecDepth 20000 in
theorem gX4_setAddress_X3_put : GoodIn wsX4_setAddress (wsV RX4 51 RX3 yX3_put wsX3_put) := goodIn_app (goodIn_of _ (by decide +kernel)) ggX4_setAddress_X3_put
theorem dX4_setAddress_0 : decode cX4_setAddress 0 = .ok (.iload_n 1, 1) := by decide +kernel
theorem dX4_setAddress_1 : decode cX4_setAddress 1 = .ok (.invokestatic 43, 3) := by decide +kernel
theorem dX4_setAddress_4 : decode cX4_setAddress 4 = .ok (.iload_n 2, 1) := by decide +kernel
theorem dX4_setAddress_5 : decode cX4_setAddress 5 = .ok (.iconst 1, 1) := by decide +kernel
theorem dX4_setAddress_6 : decode cX4_setAddress 6 = .ok (.sipush 9999, 3) := by decide +kernel
theorem dX4_setAddress_9 : decode cX4_setAddress 9 = .ok (.invokestatic 47, 3) := by decide +kernel
theorem dX4_setAddress_12 : decode cX4_setAddress 12 = .ok (.iload_n 3, 1) := by decide +kernel
theorem dX4_setAddress_13 : decode cX4_setAddress 13 = .ok (.iconst 1, 1) := by decide +kernel
theorem dX4_setAddress_14 : decode cX4_setAddress 14 = .ok (.sipush 1000, 3) := by decide +kernel
theorem dX4_setAddress_17 : decode cX4_setAddress 17 = .ok (.invokestatic 47, 3) := by decide +kernel
theorem dX4_setAddress_20 : decode cX4_setAddress 20 = .ok (.aload_n 0, 1) := by decide +kernel
theorem dX4_setAddress_21 : decode cX4_setAddress 21 = .ok (.getfield 10, 3) := by decide +kernel
theorem dX4_setAddress_24 : decode cX4_setAddress 24 = .ok (.iload_n 1, 1) := by decide +kernel
theorem dX4_setAddress_25 : decode cX4_setAddress 25 = .ok (.iconst 0, 1) := by decide +kernel
theorem dX4_setAddress_26 : decode cX4_setAddress 26 = .ok (.iload_n 2, 1) := by decide +kernel
theorem dX4_setAddress_27 : decode cX4_setAddress 27 = .ok (.iload_n 3, 1) := by decide +kernel
theorem dX4_setAddress_28 : decode cX4_setAddress 28 = .ok (.invokevirtual 51, 3) := by decide +kernel
theorem dX4_setAddress_31 : decode cX4_setAddress 31 = .ok (.return_, 1) := by decide +kernel
set_option maxRecDepth 20000 in
theorem ggX4_setAlias_X4_requireName : GoodIn wsX4_setAlias wsX4_requireName := goodIn_ca (goodIn_r _ [7, 8, 9] (by decide +kernel) (by decide +kernel)) (goodIn_sub (fun _ h => List.mem_cons_of_mem _ (List.mem_append_right _ h)) (by decide +kernel))
set_option maxRecDepth 20000 in
theorem gX4_setAlias_X4_requireName : GoodIn wsX4_setAlias (va_wsS RX4 43 yX4_requireName wsX4_requireName) := goodIn_app (goodIn_of _ (by decide +kernel)) ggX4_setAlias_X4_requireName
set_option maxRecDepth 20000 in
theorem ggX4_setAlias_X4_requireWithin : GoodIn wsX4_setAlias wsX4_requireWithin := goodIn_ca (goodIn_r _ [12, 1, 2] (by decide +kernel) (by decide +kernel)) (goodIn_sub (fun _ h => List.mem_cons_of_mem _ (List.mem_append_left _ (List.mem_append_right _ h))) (by decide +kernel))
set_option maxRecDepth 20000 in
theorem gX4_setAlias_X4_requireWithin : GoodIn wsX4_setAlias (va_wsS RX4 47 yX4_requireWithin wsX4_requireWithin) := goodIn_app (goodIn_of _ (by decide +kernel)) ggX4_setAlias_X4_requireWithin
set_option maxRecDepth 20000 in
theorem ggX4_setAlias_X3_put : GoodIn wsX4_setAlias wsX3_put := goodIn_r _ [17, 18, 19, 20, 34, 35, 36, 37, 38] (by decide +kernel) (by decide +kernel)
set_option maxRecDepth 20000 in
theorem gX4_setAlias_X3_put : GoodIn wsX4_setAlias (wsV RX4 51 RX3 yX3_put wsX3_put) := goodIn_app (goodIn_of _ (by decide +kernel)) ggX4_setAlias_X3_put
theorem dX4_setAlias_0 : decode cX4_setAlias 0 = .ok (.iload_n 1, 1) := by decide +kernel
theorem dX4_setAlias_1 : decode cX4_setAlias 1 = .ok (.invokestatic 43, 3) := by decide +kernel
theorem dX4_setAlias_4 : decode cX4_setAlias 4 = .ok (.iload_n 2, 1) := by decide +kernel
theorem dX4_setAlias_5 : decode cX4_setAlias 5 = .ok (.invokestatic 43, 3) := by decide +kernel
theorem dX4_setAlias_8 : decode cX4_setAlias 8 = .ok (.iload_n 2, 1) := by decide +kernel
theorem dX4_setAlias_9 : decode cX4_setAlias 9 = .ok (.iload_n 1, 1) := by decide +kernel
theorem dX4_setAlias_10 : decode cX4_setAlias 10 = .ok (.if_icmp .ne 13, 3) := by decide +kernel
theorem dX4_setAlias_13 : decode cX4_setAlias 13 = .ok (.new 55, 3) := by decide +kernel
theorem dX4_setAlias_16 : decode cX4_setAlias 16 = .ok (.dup, 1) := by decide +kernel
theorem dX4_setAlias_17 : decode cX4_setAlias 17 = .ok (.ldc 57, 2) := by decide +kernel
theorem dX4_setAlias_19 : decode cX4_setAlias 19 = .ok (.invokespecial 59, 3) := by decide +kernel
theorem dX4_setAlias_22 : decode cX4_setAlias 22 = .ok (.athrow, 1) := by decide +kernel
theorem dX4_setAlias_23 : decode cX4_setAlias 23 = .ok (.iload_n 3, 1) := by decide +kernel
theorem dX4_setAlias_24 : decode cX4_setAlias 24 = .ok (.iconst 1, 1) := by decide +kernel
theorem dX4_setAlias_25 : decode cX4_setAlias 25 = .ok (.sipush 1000, 3) := by decide +kernel
theorem dX4_setAlias_28 : decode cX4_setAlias 28 = .ok (.invokestatic 47, 3) := by decide +kernel
theorem dX4_setAlias_31 : decode cX4_setAlias 31 = .ok (.aload_n 0, 1) := by decide +kernel
theorem dX4_setAlias_32 : decode cX4_setAlias 32 = .ok (.getfield 10, 3) := by decide +kernel
theorem dX4_setAlias_35 : decode cX4_setAlias 35 = .ok (.iload_n 1, 1) := by decide +kernel
theorem dX4_setAlias_36 : decode cX4_setAlias 36 = .ok (.iconst 1, 1) := by decide +kernel
theorem dX4_setAlias_37 : decode cX4_setAlias 37 = .ok (.iload_n 2, 1) := by decide +kernel
theorem dX4_setAlias_38 : decode cX4_setAlias 38 = .ok (.iload_n 3, 1) := by decide +kernel
theorem dX4_setAlias_39 : decode cX4_setAlias 39 = .ok (.invokevirtual 51, 3) := by decide +kernel
theorem dX4_setAlias_42 : decode cX4_setAlias 42 = .ok (.return_, 1) := by decide +kernel
set_option maxRecDepth 20000 in
theorem ggX4_remove_X4_requireName : GoodIn wsX4_remove wsX4_requireName := goodIn_ca (goodIn_r _ [5, 6, 7] (by decide +kernel) (by decide +kernel)) (goodIn_sub (fun _ h => List.mem_cons_of_mem _ (List.mem_append_right _ h)) (by decide +kernel))
set_option maxRecDepth 20000 in
theorem gX4_remove_X4_requireName : GoodIn wsX4_remove (va_wsS RX4 43 yX4_requireName wsX4_requireName) := goodIn_app (goodIn_of _ (by decide +kernel)) ggX4_remove_X4_requireName
set_option maxRecDepth 20000 in
theorem ggX4_remove_X3_kindOf : GoodIn wsX4_remove wsX3_kindOf := goodIn_r _ [12, 13, 33, 34, 35, 36, 37] (by decide +kernel) (by decide +kernel)
set_option maxRecDepth 20000 in
theorem gX4_remove_X3_kindOf : GoodIn wsX4_remove (wsV RX4 62 RX3 yX3_kindOf wsX3_kindOf) := goodIn_app (goodIn_of _ (by decide +kernel)) ggX4_remove_X3_kindOf
set_option maxRecDepth 20000 in
theorem ggX4_remove_X3_put : GoodIn wsX4_remove wsX3_put := goodIn_r _ [17, 13, 18, 19, 33, 34, 35, 36, 37] (by decide +kernel) (by decide +kernel)
set_option maxRecDepth 20000 in
theorem gX4_remove_X3_put : GoodIn wsX4_remove (wsV RX4 51 RX3 yX3_put wsX3_put) := goodIn_app (goodIn_of _ (by decide +kernel)) ggX4_remove_X3_put
theorem dX4_remove_0 : decode cX4_remove 0 = .ok (.iload_n 1, 1) := by decide +kernel
theorem dX4_remove_1 : decode cX4_remove 1 = .ok (.invokestatic 43, 3) := by decide +kernel
theorem dX4_remove_4 : decode cX4_remove 4 = .ok (.aload_n 0, 1) := by decide +kernel
theorem dX4_remove_5 : decode cX4_remove 5 = .ok (.getfield 10, 3) := by decide +kernel
theorem dX4_remove_8 : decode cX4_remove 8 = .ok (.iload_n 1, 1) := by decide +kernel
theorem dX4_remove_9 : decode cX4_remove 9 = .ok (.invokevirtual 62, 3) := by decide +kernel
theorem dX4_remove_12 : decode cX4_remove 12 = .ok (.iconst 2, 1) := by decide +kernel
theorem dX4_remove_13 : decode cX4_remove 13 = .ok (.if_icmp .eq 7, 3) := by decide +kernel
theorem dX4_remove_16 : decode cX4_remove 16 = .ok (.iconst 1, 1) := by decide +kernel
theorem dX4_remove_17 : decode cX4_remove 17 = .ok (.goto 4, 3) := by decide +kernel
theorem dX4_remove_20 : decode cX4_remove 20 = .ok (.iconst 0, 1) := by decide +kernel
theorem dX4_remove_21 : decode cX4_remove 21 = .ok (.istore_n 2, 1) := by decide +kernel
theorem dX4_remove_22 : decode cX4_remove 22 = .ok (.aload_n 0, 1) := by decide +kernel
theorem dX4_remove_23 : decode cX4_remove 23 = .ok (.getfield 10, 3) := by decide +kernel
theorem dX4_remove_26 : decode cX4_remove 26 = .ok (.iload_n 1, 1) := by decide +kernel
theorem dX4_remove_27 : decode cX4_remove 27 = .ok (.iconst 2, 1) := by decide +kernel
theorem dX4_remove_28 : decode cX4_remove 28 = .ok (.bipush (-3), 2) := by decide +kernel
theorem dX4_remove_30 : decode cX4_remove 30 = .ok (.iconst 0, 1) := by decide +kernel
theorem dX4_remove_31 : decode cX4_remove 31 = .ok (.invokevirtual 51, 3) := by decide +kernel
theorem dX4_remove_34 : decode cX4_remove 34 = .ok (.iload_n 2, 1) := by decide +kernel
theorem dX4_remove_35 : decode cX4_remove 35 = .ok (.ireturn, 1) := by decide +kernel
set_option maxRecDepth 20000 in
theorem ggX4_setBound_X4_requireWithin : GoodIn wsX4_setBound wsX4_requireWithin := goodIn_ca (goodIn_r _ [6, 7, 8] (by decide +kernel) (by decide +kernel)) (goodIn_sub (fun _ h => List.mem_cons_of_mem _ (List.mem_append_right _ h)) (by decide +kernel))
set_option maxRecDepth 20000 in
theorem gX4_setBound_X4_requireWithin : GoodIn wsX4_setBound (va_wsS RX4 47 yX4_requireWithin wsX4_requireWithin) := goodIn_app (goodIn_of _ (by decide +kernel)) ggX4_setBound_X4_requireWithin
theorem dX4_setBound_0 : decode cX4_setBound 0 = .ok (.iload_n 1, 1) := by decide +kernel
theorem dX4_setBound_1 : decode cX4_setBound 1 = .ok (.iconst 1, 1) := by decide +kernel
theorem dX4_setBound_2 : decode cX4_setBound 2 = .ok (.sipush 300, 3) := by decide +kernel
theorem dX4_setBound_5 : decode cX4_setBound 5 = .ok (.invokestatic 47, 3) := by decide +kernel
theorem dX4_setBound_8 : decode cX4_setBound 8 = .ok (.aload_n 0, 1) := by decide +kernel
theorem dX4_setBound_9 : decode cX4_setBound 9 = .ok (.getfield 10, 3) := by decide +kernel
theorem dX4_setBound_12 : decode cX4_setBound 12 = .ok (.getfield 66, 3) := by decide +kernel
theorem dX4_setBound_15 : decode cX4_setBound 15 = .ok (.istore_n 2, 1) := by decide +kernel
theorem dX4_setBound_16 : decode cX4_setBound 16 = .ok (.aload_n 0, 1) := by decide +kernel
theorem dX4_setBound_17 : decode cX4_setBound 17 = .ok (.getfield 10, 3) := by decide +kernel
theorem dX4_setBound_20 : decode cX4_setBound 20 = .ok (.iload_n 1, 1) := by decide +kernel
theorem dX4_setBound_21 : decode cX4_setBound 21 = .ok (.putfield 66, 3) := by decide +kernel
theorem dX4_setBound_24 : decode cX4_setBound 24 = .ok (.iload_n 2, 1) := by decide +kernel
theorem dX4_setBound_25 : decode cX4_setBound 25 = .ok (.ireturn, 1) := by decide +kernel
theorem dX4_setAuthority_0 : decode cX4_setAuthority 0 = .ok (.aload_n 0, 1) := by decide +kernel
theorem dX4_setAuthority_1 : decode cX4_setAuthority 1 = .ok (.getfield 10, 3) := by decide +kernel
theorem dX4_setAuthority_4 : decode cX4_setAuthority 4 = .ok (.getfield 69, 3) := by decide +kernel
theorem dX4_setAuthority_7 : decode cX4_setAuthority 7 = .ok (.istore_n 2, 1) := by decide +kernel
theorem dX4_setAuthority_8 : decode cX4_setAuthority 8 = .ok (.aload_n 0, 1) := by decide +kernel
theorem dX4_setAuthority_9 : decode cX4_setAuthority 9 = .ok (.getfield 10, 3) := by decide +kernel
theorem dX4_setAuthority_12 : decode cX4_setAuthority 12 = .ok (.iload_n 1, 1) := by decide +kernel
theorem dX4_setAuthority_13 : decode cX4_setAuthority 13 = .ok (.putfield 69, 3) := by decide +kernel
theorem dX4_setAuthority_16 : decode cX4_setAuthority 16 = .ok (.iload_n 2, 1) := by decide +kernel
theorem dX4_setAuthority_17 : decode cX4_setAuthority 17 = .ok (.ireturn, 1) := by decide +kernel
set_option maxRecDepth 20000 in
theorem ggX4_truth_X4_requireName : GoodIn wsX4_truth wsX4_requireName := goodIn_ca (goodIn_r _ [5, 6, 7] (by decide +kernel) (by decide +kernel)) (goodIn_sub (fun _ h => List.mem_cons_of_mem _ (List.mem_append_right _ h)) (by decide +kernel))
set_option maxRecDepth 20000 in
theorem gX4_truth_X4_requireName : GoodIn wsX4_truth (va_wsS RX4 43 yX4_requireName wsX4_requireName) := goodIn_app (goodIn_of _ (by decide +kernel)) ggX4_truth_X4_requireName
set_option maxRecDepth 20000 in
theorem ggX4_truth_X3_kindOf : GoodIn wsX4_truth wsX3_kindOf := goodIn_r _ [12, 13, 32, 33, 34, 35, 36] (by decide +kernel) (by decide +kernel)
set_option maxRecDepth 20000 in
theorem gX4_truth_X3_kindOf : GoodIn wsX4_truth (wsV RX4 62 RX3 yX3_kindOf wsX3_kindOf) := goodIn_app (goodIn_of _ (by decide +kernel)) ggX4_truth_X3_kindOf
set_option maxRecDepth 20000 in
theorem ggX4_truth_X3_valueOf : GoodIn wsX4_truth wsX3_valueOf := goodIn_r _ [17, 18, 32, 33, 34, 35, 36] (by decide +kernel) (by decide +kernel)
set_option maxRecDepth 20000 in
theorem gX4_truth_X3_valueOf : GoodIn wsX4_truth (wsV RX4 73 RX3 yX3_valueOf wsX3_valueOf) := goodIn_app (goodIn_of _ (by decide +kernel)) ggX4_truth_X3_valueOf
theorem dX4_truth_0 : decode cX4_truth 0 = .ok (.iload_n 1, 1) := by decide +kernel
theorem dX4_truth_1 : decode cX4_truth 1 = .ok (.invokestatic 43, 3) := by decide +kernel
theorem dX4_truth_4 : decode cX4_truth 4 = .ok (.iload_n 1, 1) := by decide +kernel
theorem dX4_truth_5 : decode cX4_truth 5 = .ok (.istore_n 2, 1) := by decide +kernel
theorem dX4_truth_6 : decode cX4_truth 6 = .ok (.iconst 0, 1) := by decide +kernel
theorem dX4_truth_7 : decode cX4_truth 7 = .ok (.istore_n 3, 1) := by decide +kernel
theorem dX4_truth_8 : decode cX4_truth 8 = .ok (.iload_n 3, 1) := by decide +kernel
theorem dX4_truth_9 : decode cX4_truth 9 = .ok (.iconst 4, 1) := by decide +kernel
theorem dX4_truth_10 : decode cX4_truth 10 = .ok (.if_icmp .gt 50, 3) := by decide +kernel
theorem dX4_truth_13 : decode cX4_truth 13 = .ok (.aload_n 0, 1) := by decide +kernel
theorem dX4_truth_14 : decode cX4_truth 14 = .ok (.getfield 10, 3) := by decide +kernel
theorem dX4_truth_17 : decode cX4_truth 17 = .ok (.iload_n 2, 1) := by decide +kernel
theorem dX4_truth_18 : decode cX4_truth 18 = .ok (.invokevirtual 62, 3) := by decide +kernel
theorem dX4_truth_21 : decode cX4_truth 21 = .ok (.istore 4, 2) := by decide +kernel
theorem dX4_truth_23 : decode cX4_truth 23 = .ok (.aload_n 0, 1) := by decide +kernel
theorem dX4_truth_24 : decode cX4_truth 24 = .ok (.getfield 10, 3) := by decide +kernel
theorem dX4_truth_27 : decode cX4_truth 27 = .ok (.iload_n 2, 1) := by decide +kernel
theorem dX4_truth_28 : decode cX4_truth 28 = .ok (.invokevirtual 73, 3) := by decide +kernel
theorem dX4_truth_31 : decode cX4_truth 31 = .ok (.istore 5, 2) := by decide +kernel
theorem dX4_truth_33 : decode cX4_truth 33 = .ok (.iload 4, 2) := by decide +kernel
theorem dX4_truth_35 : decode cX4_truth 35 = .ok (.iconst 1, 1) := by decide +kernel
theorem dX4_truth_36 : decode cX4_truth 36 = .ok (.if_icmp .eq 15, 3) := by decide +kernel
theorem dX4_truth_39 : decode cX4_truth 39 = .ok (.iload 4, 2) := by decide +kernel
theorem dX4_truth_41 : decode cX4_truth 41 = .ok (.ifCond .ne 8, 3) := by decide +kernel
theorem dX4_truth_44 : decode cX4_truth 44 = .ok (.iload 5, 2) := by decide +kernel
theorem dX4_truth_46 : decode cX4_truth 46 = .ok (.goto 4, 3) := by decide +kernel
theorem dX4_truth_49 : decode cX4_truth 49 = .ok (.iconst (-1), 1) := by decide +kernel
theorem dX4_truth_50 : decode cX4_truth 50 = .ok (.ireturn, 1) := by decide +kernel
theorem dX4_truth_51 : decode cX4_truth 51 = .ok (.iload 5, 2) := by decide +kernel
theorem dX4_truth_53 : decode cX4_truth 53 = .ok (.istore_n 2, 1) := by decide +kernel
theorem dX4_truth_54 : decode cX4_truth 54 = .ok (.iinc 3 1, 3) := by decide +kernel
theorem dX4_truth_57 : decode cX4_truth 57 = .ok (.goto (-49), 3) := by decide +kernel
theorem dX4_truth_60 : decode cX4_truth 60 = .ok (.bipush (-2), 2) := by decide +kernel
theorem dX4_truth_62 : decode cX4_truth 62 = .ok (.ireturn, 1) := by decide +kernel
set_option maxRecDepth 20000 in
theorem ggX4_addSite_X4_requireWithin : GoodIn wsX4_addSite wsX4_requireWithin := goodIn_ca (goodIn_r _ [11, 12, 13] (by decide +kernel) (by decide +kernel)) (goodIn_sub (fun _ h => List.mem_cons_of_mem _ (List.mem_append_right _ h)) (by decide +kernel))
set_option maxRecDepth 20000 in
theorem gX4_addSite_X4_requireWithin : GoodIn wsX4_addSite (va_wsS RX4 47 yX4_requireWithin wsX4_requireWithin) := goodIn_app (goodIn_of _ (by decide +kernel)) ggX4_addSite_X4_requireWithin
set_option maxRecDepth 20000 in
theorem ggX4_addSite_X2_init : GoodIn wsX4_addSite wsX2_init := goodIn_r _ [16, 17, 18, 19, 20, 21, 22, 23, 24, 25, 26, 27, 28, 29, 30, 31, 32, 33, 34, 35, 36, 37, 38, 39, 40, 58, 59, 60, 61, 62, 63, 54, 55, 56, 57] (by decide +kernel) (by decide +kernel)
set_option maxRecDepth 20000 in
theorem gX4_addSite_X2_init : GoodIn wsX4_addSite (wsX2_init) := ggX4_addSite_X2_init
theorem dX4_addSite_0 : decode cX4_addSite 0 = .ok (.iload_n 1, 1) := by decide +kernel
theorem dX4_addSite_1 : decode cX4_addSite 1 = .ok (.iconst 0, 1) := by decide +kernel
theorem dX4_addSite_2 : decode cX4_addSite 2 = .ok (.bipush 99, 2) := by decide +kernel
theorem dX4_addSite_4 : decode cX4_addSite 4 = .ok (.invokestatic 47, 3) := by decide +kernel
theorem dX4_addSite_7 : decode cX4_addSite 7 = .ok (.aload_n 0, 1) := by decide +kernel
theorem dX4_addSite_8 : decode cX4_addSite 8 = .ok (.getfield 76, 3) := by decide +kernel
theorem dX4_addSite_11 : decode cX4_addSite 11 = .ok (.aload_n 0, 1) := by decide +kernel
theorem dX4_addSite_12 : decode cX4_addSite 12 = .ok (.getfield 18, 3) := by decide +kernel
theorem dX4_addSite_15 : decode cX4_addSite 15 = .ok (.arraylength, 1) := by decide +kernel
theorem dX4_addSite_16 : decode cX4_addSite 16 = .ok (.if_icmp .lt 13, 3) := by decide +kernel
theorem dX4_addSite_19 : decode cX4_addSite 19 = .ok (.new 79, 3) := by decide +kernel
theorem dX4_addSite_22 : decode cX4_addSite 22 = .ok (.dup, 1) := by decide +kernel
theorem dX4_addSite_23 : decode cX4_addSite 23 = .ok (.ldc 81, 2) := by decide +kernel
theorem dX4_addSite_25 : decode cX4_addSite 25 = .ok (.invokespecial 83, 3) := by decide +kernel
theorem dX4_addSite_28 : decode cX4_addSite 28 = .ok (.athrow, 1) := by decide +kernel
theorem dX4_addSite_29 : decode cX4_addSite 29 = .ok (.aload_n 0, 1) := by decide +kernel
theorem dX4_addSite_30 : decode cX4_addSite 30 = .ok (.getfield 76, 3) := by decide +kernel
theorem dX4_addSite_33 : decode cX4_addSite 33 = .ok (.istore_n 2, 1) := by decide +kernel
theorem dX4_addSite_34 : decode cX4_addSite 34 = .ok (.aload_n 0, 1) := by decide +kernel
theorem dX4_addSite_35 : decode cX4_addSite 35 = .ok (.getfield 18, 3) := by decide +kernel
theorem dX4_addSite_38 : decode cX4_addSite 38 = .ok (.iload_n 2, 1) := by decide +kernel
theorem dX4_addSite_39 : decode cX4_addSite 39 = .ok (.new 16, 3) := by decide +kernel
theorem dX4_addSite_42 : decode cX4_addSite 42 = .ok (.dup, 1) := by decide +kernel
theorem dX4_addSite_43 : decode cX4_addSite 43 = .ok (.iload_n 2, 1) := by decide +kernel
theorem dX4_addSite_44 : decode cX4_addSite 44 = .ok (.iload_n 1, 1) := by decide +kernel
theorem dX4_addSite_45 : decode cX4_addSite 45 = .ok (.invokespecial 84, 3) := by decide +kernel
theorem dX4_addSite_48 : decode cX4_addSite 48 = .ok (.aastore, 1) := by decide +kernel
theorem dX4_addSite_49 : decode cX4_addSite 49 = .ok (.aload_n 0, 1) := by decide +kernel
theorem dX4_addSite_50 : decode cX4_addSite 50 = .ok (.dup, 1) := by decide +kernel
theorem dX4_addSite_51 : decode cX4_addSite 51 = .ok (.getfield 76, 3) := by decide +kernel
theorem dX4_addSite_54 : decode cX4_addSite 54 = .ok (.iconst 1, 1) := by decide +kernel
theorem dX4_addSite_55 : decode cX4_addSite 55 = .ok (.iadd, 1) := by decide +kernel
theorem dX4_addSite_56 : decode cX4_addSite 56 = .ok (.putfield 76, 3) := by decide +kernel
theorem dX4_addSite_59 : decode cX4_addSite 59 = .ok (.iload_n 2, 1) := by decide +kernel
theorem dX4_addSite_60 : decode cX4_addSite 60 = .ok (.ireturn, 1) := by decide +kernel
set_option maxRecDepth 20000 in
theorem ggX4_announce_X4_siteNumbered : GoodIn wsX4_announce wsX4_siteNumbered := goodIn_ca (goodIn_r _ [6, 7, 8, 9, 14, 15, 16, 17, 18, 19, 20, 21, 22, 23, 24, 25, 26] (by decide +kernel) (by decide +kernel)) (goodIn_sub (fun _ h => List.mem_cons_of_mem _ (List.mem_append_right _ h)) (by decide +kernel))
set_option maxRecDepth 20000 in
theorem gX4_announce_X4_siteNumbered : GoodIn wsX4_announce (wsV RX4 87 RX4 yX4_siteNumbered wsX4_siteNumbered) := goodIn_app (goodIn_of _ (by decide +kernel)) ggX4_announce_X4_siteNumbered
theorem dX4_announce_0 : decode cX4_announce 0 = .ok (.aload_n 0, 1) := by decide +kernel
theorem dX4_announce_1 : decode cX4_announce 1 = .ok (.iload_n 1, 1) := by decide +kernel
theorem dX4_announce_2 : decode cX4_announce 2 = .ok (.invokevirtual 87, 3) := by decide +kernel
theorem dX4_announce_5 : decode cX4_announce 5 = .ok (.astore_n 3, 1) := by decide +kernel
theorem dX4_announce_6 : decode cX4_announce 6 = .ok (.aload_n 3, 1) := by decide +kernel
theorem dX4_announce_7 : decode cX4_announce 7 = .ok (.getfield 91, 3) := by decide +kernel
theorem dX4_announce_10 : decode cX4_announce 10 = .ok (.istore 4, 2) := by decide +kernel
theorem dX4_announce_12 : decode cX4_announce 12 = .ok (.aload_n 3, 1) := by decide +kernel
theorem dX4_announce_13 : decode cX4_announce 13 = .ok (.iload_n 2, 1) := by decide +kernel
theorem dX4_announce_14 : decode cX4_announce 14 = .ok (.putfield 91, 3) := by decide +kernel
theorem dX4_announce_17 : decode cX4_announce 17 = .ok (.iload 4, 2) := by decide +kernel
theorem dX4_announce_19 : decode cX4_announce 19 = .ok (.ireturn, 1) := by decide +kernel
set_option maxRecDepth 20000 in
theorem ggX4_siteFor_X4_requireWithin : GoodIn wsX4_siteFor wsX4_requireWithin := goodIn_ca (goodIn_r _ [5, 6, 7] (by decide +kernel) (by decide +kernel)) (goodIn_sub (fun _ h => List.mem_cons_of_mem _ (List.mem_append_right _ h)) (by decide +kernel))
set_option maxRecDepth 20000 in
theorem gX4_siteFor_X4_requireWithin : GoodIn wsX4_siteFor (va_wsS RX4 47 yX4_requireWithin wsX4_requireWithin) := goodIn_app (goodIn_of _ (by decide +kernel)) ggX4_siteFor_X4_requireWithin
set_option maxRecDepth 20000 in
theorem ggX4_siteFor_X4_nearestSite : GoodIn wsX4_siteFor wsX4_nearestSite := goodIn_r _ [11, 12, 13, 14, 15, 16, 17, 18, 19, 20, 21, 22, 23, 28, 29, 30, 31, 32, 33, 34, 35, 36, 37, 38, 39, 40, 24, 25, 26, 27] (by decide +kernel) (by decide +kernel)
set_option maxRecDepth 20000 in
theorem gX4_siteFor_X4_nearestSite : GoodIn wsX4_siteFor (wsV RX4 94 RX4 yX4_nearestSite wsX4_nearestSite) := goodIn_app (goodIn_of _ (by decide +kernel)) ggX4_siteFor_X4_nearestSite
theorem dX4_siteFor_0 : decode cX4_siteFor 0 = .ok (.iload_n 1, 1) := by decide +kernel
theorem dX4_siteFor_1 : decode cX4_siteFor 1 = .ok (.iconst 0, 1) := by decide +kernel
theorem dX4_siteFor_2 : decode cX4_siteFor 2 = .ok (.bipush 99, 2) := by decide +kernel
theorem dX4_siteFor_4 : decode cX4_siteFor 4 = .ok (.invokestatic 47, 3) := by decide +kernel
theorem dX4_siteFor_7 : decode cX4_siteFor 7 = .ok (.aload_n 0, 1) := by decide +kernel
theorem dX4_siteFor_8 : decode cX4_siteFor 8 = .ok (.iload_n 1, 1) := by decide +kernel
theorem dX4_siteFor_9 : decode cX4_siteFor 9 = .ok (.invokevirtual 94, 3) := by decide +kernel
theorem dX4_siteFor_12 : decode cX4_siteFor 12 = .ok (.astore_n 2, 1) := by decide +kernel
theorem dX4_siteFor_13 : decode cX4_siteFor 13 = .ok (.aload_n 2, 1) := by decide +kernel
theorem dX4_siteFor_14 : decode cX4_siteFor 14 = .ok (.ifnonnull 8, 3) := by decide +kernel
theorem dX4_siteFor_17 : decode cX4_siteFor 17 = .ok (.bipush (-3), 2) := by decide +kernel
theorem dX4_siteFor_19 : decode cX4_siteFor 19 = .ok (.goto 7, 3) := by decide +kernel
theorem dX4_siteFor_22 : decode cX4_siteFor 22 = .ok (.aload_n 2, 1) := by decide +kernel
theorem dX4_siteFor_23 : decode cX4_siteFor 23 = .ok (.getfield 97, 3) := by decide +kernel
theorem dX4_siteFor_26 : decode cX4_siteFor 26 = .ok (.ireturn, 1) := by decide +kernel
set_option maxRecDepth 20000 in
theorem ggX4_flush_X4_cacheAsked : GoodIn wsX4_flush wsX4_cacheAsked := goodIn_ca (goodIn_r _ [5, 6, 7, 8, 9, 4, 10, 11, 12, 13, 14, 15, 16, 28, 29, 30, 31, 32, 33, 34, 35, 36, 37, 38, 39, 40, 41, 42, 43, 44] (by decide +kernel) (by decide +kernel)) (goodIn_sub (fun _ h => List.mem_cons_of_mem _ (List.mem_append_right _ h)) (by decide +kernel))
set_option maxRecDepth 20000 in
theorem gX4_flush_X4_cacheAsked : GoodIn wsX4_flush (wsV RX4 100 RX4 yX4_cacheAsked wsX4_cacheAsked) := goodIn_app (goodIn_of _ (by decide +kernel)) ggX4_flush_X4_cacheAsked
set_option maxRecDepth 20000 in
theorem ggX4_flush_X0_drop : GoodIn wsX4_flush wsX0_drop := goodIn_r _ [21, 22, 23, 24, 25, 26, 20, 27, 45, 46, 47, 48, 49, 50] (by decide +kernel) (by decide +kernel)
set_option maxRecDepth 20000 in
theorem gX4_flush_X0_drop : GoodIn wsX4_flush (wsV RX4 104 RX0 yX0_drop wsX0_drop) := goodIn_app (goodIn_of _ (by decide +kernel)) ggX4_flush_X0_drop
theorem dX4_flush_0 : decode cX4_flush 0 = .ok (.aload_n 0, 1) := by decide +kernel
theorem dX4_flush_1 : decode cX4_flush 1 = .ok (.iload_n 1, 1) := by decide +kernel
theorem dX4_flush_2 : decode cX4_flush 2 = .ok (.iload_n 2, 1) := by decide +kernel
theorem dX4_flush_3 : decode cX4_flush 3 = .ok (.invokevirtual 100, 3) := by decide +kernel
theorem dX4_flush_6 : decode cX4_flush 6 = .ok (.iload_n 2, 1) := by decide +kernel
theorem dX4_flush_7 : decode cX4_flush 7 = .ok (.invokevirtual 104, 3) := by decide +kernel
theorem dX4_flush_10 : decode cX4_flush 10 = .ok (.ireturn, 1) := by decide +kernel
set_option maxRecDepth 20000 in
theorem ggX4_pass_X4_requireWithin : GoodIn wsX4_pass wsX4_requireWithin := goodIn_ca (goodIn_r _ [5, 6, 7] (by decide +kernel) (by decide +kernel)) (goodIn_sub (fun _ h => List.mem_cons_of_mem _ (List.mem_append_right _ h)) (by decide +kernel))
set_option maxRecDepth 20000 in
theorem gX4_pass_X4_requireWithin : GoodIn wsX4_pass (va_wsS RX4 47 yX4_requireWithin wsX4_requireWithin) := goodIn_app (goodIn_of _ (by decide +kernel)) ggX4_pass_X4_requireWithin
theorem dX4_pass_0 : decode cX4_pass 0 = .ok (.iload_n 1, 1) := by decide +kernel
theorem dX4_pass_1 : decode cX4_pass 1 = .ok (.iconst 1, 1) := by decide +kernel
theorem dX4_pass_2 : decode cX4_pass 2 = .ok (.sipush 1000, 3) := by decide +kernel
theorem dX4_pass_5 : decode cX4_pass 5 = .ok (.invokestatic 47, 3) := by decide +kernel
theorem dX4_pass_8 : decode cX4_pass 8 = .ok (.aload_n 0, 1) := by decide +kernel
theorem dX4_pass_9 : decode cX4_pass 9 = .ok (.dup, 1) := by decide +kernel
theorem dX4_pass_10 : decode cX4_pass 10 = .ok (.getfield 108, 3) := by decide +kernel
theorem dX4_pass_13 : decode cX4_pass 13 = .ok (.iload_n 1, 1) := by decide +kernel
theorem dX4_pass_14 : decode cX4_pass 14 = .ok (.iadd, 1) := by decide +kernel
theorem dX4_pass_15 : decode cX4_pass 15 = .ok (.putfield 108, 3) := by decide +kernel
theorem dX4_pass_18 : decode cX4_pass 18 = .ok (.aload_n 0, 1) := by decide +kernel
theorem dX4_pass_19 : decode cX4_pass 19 = .ok (.getfield 108, 3) := by decide +kernel
theorem dX4_pass_22 : decode cX4_pass 22 = .ok (.ireturn, 1) := by decide +kernel
theorem dX4_time_0 : decode cX4_time 0 = .ok (.aload_n 0, 1) := by decide +kernel
theorem dX4_time_1 : decode cX4_time 1 = .ok (.getfield 108, 3) := by decide +kernel
theorem dX4_time_4 : decode cX4_time 4 = .ok (.ireturn, 1) := by decide +kernel
set_option maxRecDepth 20000 in
theorem ggX4_query_X4_siteAsked : GoodIn wsX4_query wsX4_siteAsked := goodIn_ca (goodIn_ca (goodIn_ca (goodIn_r _ [9, 10, 11, 12, 13, 8, 14, 15, 16, 17, 18, 19, 20, 21, 22, 23, 24, 25, 26, 27, 28, 29, 30, 31, 32, 33, 34, 35, 36, 37, 158, 159, 160, 161, 162, 163, 164, 165, 166, 167, 168, 169, 170, 154, 155, 156, 157] (by decide +kernel) (by decide +kernel)) (goodIn_sub (fun _ h => List.mem_cons_of_mem _ (List.mem_append_left _ (List.mem_append_left _ (List.mem_append_right _ h)))) (by decide +kernel))) (goodIn_sub (fun _ h => List.mem_cons_of_mem _ (List.mem_append_left _ (List.mem_append_right _ h))) (by decide +kernel))) (goodIn_sub (fun _ h => List.mem_cons_of_mem _ (List.mem_append_right _ h)) (by decide +kernel))
set_option maxRecDepth 20000 in
theorem gX4_query_X4_siteAsked : GoodIn wsX4_query (wsV RX4 111 RX4 yX4_siteAsked wsX4_siteAsked) := goodIn_app (goodIn_of _ (by decide +kernel)) ggX4_query_X4_siteAsked
set_option maxRecDepth 20000 in
theorem ggX4_query_X4_resolve : GoodIn wsX4_query wsX4_resolve := goodIn_r _ [41, 42, 43, 44, 45, 46, 47, 48, 49, 50, 51, 52, 53, 54, 8, 55, 56, 57, 58, 59, 60, 61, 62, 63, 64, 65, 66, 67, 68, 69, 70, 71, 72, 73, 74, 75, 76, 77, 78, 79, 80, 81, 82, 83, 84, 85, 86, 87, 88, 89, 90, 91, 92, 93, 94, 95, 96, 97, 98, 99, 100, 101, 102, 103, 104, 105, 106, 107, 108, 109, 110, 111, 112, 113, 114, 115, 116, 117, 118, 119, 120, 121, 122, 123, 124, 125, 126, 127, 128, 129, 130, 171, 172, 173, 174, 175, 176, 158, 159, 160, 161, 162, 163, 164, 165, 166, 167, 168, 169, 170, 177, 178, 179, 180, 181, 182, 183, 184, 185, 186, 187] (by decide +kernel) (by decide +kernel)
set_option maxRecDepth 20000 in
theorem gX4_query_X4_resolve : GoodIn wsX4_query (wsV RX4 118 RX4 yX4_resolve wsX4_resolve) := goodIn_app (goodIn_of _ (by decide +kernel)) ggX4_query_X4_resolve
set_option maxRecDepth 20000 in
theorem ggX4_query_X4_fetchHotAnew : GoodIn wsX4_query wsX4_fetchHotAnew := goodIn_r _ [134, 58, 59, 135, 57, 136, 137, 138, 139, 45, 140, 47, 81, 141, 142, 143, 64, 144, 76, 66, 110, 67, 68, 69, 70, 71, 82, 83, 84, 8, 85, 86, 87, 88, 89, 90, 91, 92, 93, 94, 95, 96, 97, 98, 99, 100, 101, 102, 103, 104, 105, 106, 107, 108, 109, 111, 112, 113, 114, 115, 116, 117, 118, 158, 159, 160, 161, 162, 163, 164, 165, 166, 167, 168, 169, 170, 177, 178, 179, 180, 181, 171, 172, 173, 174, 175, 176, 182, 183, 184, 185, 186, 187] (by decide +kernel) (by decide +kernel)
set_option maxRecDepth 20000 in
theorem gX4_query_X4_fetchHotAnew : GoodIn wsX4_query (wsV RX4 122 RX4 yX4_fetchHotAnew wsX4_fetchHotAnew) := goodIn_app (goodIn_of _ (by decide +kernel)) ggX4_query_X4_fetchHotAnew
set_option maxRecDepth 20000 in
theorem ggX4_query_X4_countQuery : GoodIn wsX4_query wsX4_countQuery := goodIn_r _ [148, 149, 150, 2, 86, 151, 136, 60, 152, 153, 158, 159, 160, 161, 162, 163, 164, 165, 166, 167, 168, 169, 170, 171, 172, 173, 174, 175, 176] (by decide +kernel) (by decide +kernel)
set_option maxRecDepth 20000 in
theorem gX4_query_X4_countQuery : GoodIn wsX4_query (wsV RX4 126 RX4 yX4_countQuery wsX4_countQuery) := goodIn_app (goodIn_of _ (by decide +kernel)) ggX4_query_X4_countQuery
theorem dX4_query_0 : decode cX4_query 0 = .ok (.aload_n 0, 1) := by decide +kernel
theorem dX4_query_1 : decode cX4_query 1 = .ok (.iload_n 1, 1) := by decide +kernel
theorem dX4_query_2 : decode cX4_query 2 = .ok (.iload_n 2, 1) := by decide +kernel
theorem dX4_query_3 : decode cX4_query 3 = .ok (.invokevirtual 111, 3) := by decide +kernel
theorem dX4_query_6 : decode cX4_query 6 = .ok (.astore_n 3, 1) := by decide +kernel
theorem dX4_query_7 : decode cX4_query 7 = .ok (.aload_n 0, 1) := by decide +kernel
theorem dX4_query_8 : decode cX4_query 8 = .ok (.aload_n 3, 1) := by decide +kernel
theorem dX4_query_9 : decode cX4_query 9 = .ok (.getfield 115, 3) := by decide +kernel
theorem dX4_query_12 : decode cX4_query 12 = .ok (.iload_n 2, 1) := by decide +kernel
theorem dX4_query_13 : decode cX4_query 13 = .ok (.aload_n 0, 1) := by decide +kernel
theorem dX4_query_14 : decode cX4_query 14 = .ok (.getfield 25, 3) := by decide +kernel
theorem dX4_query_17 : decode cX4_query 17 = .ok (.invokevirtual 118, 3) := by decide +kernel
theorem dX4_query_20 : decode cX4_query 20 = .ok (.istore 4, 2) := by decide +kernel
theorem dX4_query_22 : decode cX4_query 22 = .ok (.aload_n 0, 1) := by decide +kernel
theorem dX4_query_23 : decode cX4_query 23 = .ok (.aload_n 3, 1) := by decide +kernel
theorem dX4_query_24 : decode cX4_query 24 = .ok (.getfield 115, 3) := by decide +kernel
theorem dX4_query_27 : decode cX4_query 27 = .ok (.aload_n 0, 1) := by decide +kernel
theorem dX4_query_28 : decode cX4_query 28 = .ok (.getfield 25, 3) := by decide +kernel
theorem dX4_query_31 : decode cX4_query 31 = .ok (.invokevirtual 122, 3) := by decide +kernel
theorem dX4_query_34 : decode cX4_query 34 = .ok (.aload_n 0, 1) := by decide +kernel
theorem dX4_query_35 : decode cX4_query 35 = .ok (.aload_n 3, 1) := by decide +kernel
theorem dX4_query_36 : decode cX4_query 36 = .ok (.getfield 97, 3) := by decide +kernel
theorem dX4_query_39 : decode cX4_query 39 = .ok (.putfield 29, 3) := by decide +kernel
theorem dX4_query_42 : decode cX4_query 42 = .ok (.aload_n 0, 1) := by decide +kernel
theorem dX4_query_43 : decode cX4_query 43 = .ok (.iload 4, 2) := by decide +kernel
theorem dX4_query_45 : decode cX4_query 45 = .ok (.invokevirtual 126, 3) := by decide +kernel
theorem dX4_query_48 : decode cX4_query 48 = .ok (.iload 4, 2) := by decide +kernel
theorem dX4_query_50 : decode cX4_query 50 = .ok (.ireturn, 1) := by decide +kernel
set_option maxRecDepth 20000 in
theorem ggX4_wouldAnswer_X4_siteAsked : GoodIn wsX4_wouldAnswer wsX4_siteAsked := goodIn_ca (goodIn_ca (goodIn_ca (goodIn_r _ [8, 9, 10, 11, 12, 7, 13, 14, 15, 16, 17, 18, 19, 20, 21, 22, 23, 24, 25, 26, 27, 28, 29, 30, 31, 32, 33, 34, 35, 36, 138, 139, 140, 141, 142, 143, 144, 145, 146, 147, 148, 149, 150, 151, 152, 153, 154] (by decide +kernel) (by decide +kernel)) (goodIn_sub (fun _ h => List.mem_cons_of_mem _ (List.mem_append_left _ (List.mem_append_left _ (List.mem_append_right _ h)))) (by decide +kernel))) (goodIn_sub (fun _ h => List.mem_cons_of_mem _ (List.mem_append_left _ (List.mem_append_right _ h))) (by decide +kernel))) (goodIn_sub (fun _ h => List.mem_cons_of_mem _ (List.mem_append_right _ h)) (by decide +kernel))
set_option maxRecDepth 20000 in
theorem gX4_wouldAnswer_X4_siteAsked : GoodIn wsX4_wouldAnswer (wsV RX4 111 RX4 yX4_siteAsked wsX4_siteAsked) := goodIn_app (goodIn_of _ (by decide +kernel)) ggX4_wouldAnswer_X4_siteAsked
set_option maxRecDepth 20000 in
theorem ggX4_wouldAnswer_X0_copyFrom : GoodIn wsX4_wouldAnswer wsX0_copyFrom := goodIn_r _ [41, 42, 43, 44, 45, 46, 47, 48, 49, 50, 51, 155, 156, 157, 158, 159, 160] (by decide +kernel) (by decide +kernel)
set_option maxRecDepth 20000 in
theorem gX4_wouldAnswer_X0_copyFrom : GoodIn wsX4_wouldAnswer (wsV RX4 129 RX0 yX0_copyFrom wsX0_copyFrom) := goodIn_app (goodIn_of _ (by decide +kernel)) ggX4_wouldAnswer_X0_copyFrom
set_option maxRecDepth 20000 in
theorem ggX4_wouldAnswer_X4_resolve : GoodIn wsX4_wouldAnswer wsX4_resolve := goodIn_r _ [55, 56, 57, 58, 59, 60, 61, 62, 63, 64, 65, 66, 67, 68, 7, 69, 70, 71, 72, 73, 74, 75, 76, 77, 40, 78, 49, 79, 80, 81, 82, 42, 83, 84, 85, 86, 50, 87, 88, 89, 90, 91, 92, 93, 94, 95, 96, 97, 98, 99, 100, 101, 102, 103, 104, 105, 106, 107, 108, 109, 110, 111, 112, 113, 114, 115, 116, 117, 51, 47, 48, 118, 119, 120, 121, 122, 123, 124, 125, 126, 127, 128, 129, 130, 131, 132, 133, 134, 135, 136, 137, 161, 162, 163, 164, 165, 166, 138, 139, 140, 141, 142, 143, 144, 145, 146, 147, 148, 149, 150, 167, 168, 169, 170, 171, 155, 156, 157, 158, 159, 160] (by decide +kernel) (by decide +kernel)
set_option maxRecDepth 20000 in
theorem gX4_wouldAnswer_X4_resolve : GoodIn wsX4_wouldAnswer (wsV RX4 118 RX4 yX4_resolve wsX4_resolve) := goodIn_app (goodIn_of _ (by decide +kernel)) ggX4_wouldAnswer_X4_resolve
theorem dX4_wouldAnswer_0 : decode cX4_wouldAnswer 0 = .ok (.aload_n 0, 1) := by decide +kernel
theorem dX4_wouldAnswer_1 : decode cX4_wouldAnswer 1 = .ok (.iload_n 1, 1) := by decide +kernel
theorem dX4_wouldAnswer_2 : decode cX4_wouldAnswer 2 = .ok (.iload_n 2, 1) := by decide +kernel
theorem dX4_wouldAnswer_3 : decode cX4_wouldAnswer 3 = .ok (.invokevirtual 111, 3) := by decide +kernel
theorem dX4_wouldAnswer_6 : decode cX4_wouldAnswer 6 = .ok (.astore_n 3, 1) := by decide +kernel
theorem dX4_wouldAnswer_7 : decode cX4_wouldAnswer 7 = .ok (.aload_n 0, 1) := by decide +kernel
theorem dX4_wouldAnswer_8 : decode cX4_wouldAnswer 8 = .ok (.getfield 39, 3) := by decide +kernel
theorem dX4_wouldAnswer_11 : decode cX4_wouldAnswer 11 = .ok (.aload_n 3, 1) := by decide +kernel
theorem dX4_wouldAnswer_12 : decode cX4_wouldAnswer 12 = .ok (.getfield 115, 3) := by decide +kernel
theorem dX4_wouldAnswer_15 : decode cX4_wouldAnswer 15 = .ok (.invokevirtual 129, 3) := by decide +kernel
theorem dX4_wouldAnswer_18 : decode cX4_wouldAnswer 18 = .ok (.aload_n 0, 1) := by decide +kernel
theorem dX4_wouldAnswer_19 : decode cX4_wouldAnswer 19 = .ok (.aload_n 0, 1) := by decide +kernel
theorem dX4_wouldAnswer_20 : decode cX4_wouldAnswer 20 = .ok (.getfield 39, 3) := by decide +kernel
theorem dX4_wouldAnswer_23 : decode cX4_wouldAnswer 23 = .ok (.iload_n 2, 1) := by decide +kernel
theorem dX4_wouldAnswer_24 : decode cX4_wouldAnswer 24 = .ok (.aload_n 0, 1) := by decide +kernel
theorem dX4_wouldAnswer_25 : decode cX4_wouldAnswer 25 = .ok (.getfield 33, 3) := by decide +kernel
theorem dX4_wouldAnswer_28 : decode cX4_wouldAnswer 28 = .ok (.invokevirtual 118, 3) := by decide +kernel
theorem dX4_wouldAnswer_31 : decode cX4_wouldAnswer 31 = .ok (.ireturn, 1) := by decide +kernel
theorem dX4_lastSite_0 : decode cX4_lastSite 0 = .ok (.aload_n 0, 1) := by decide +kernel
theorem dX4_lastSite_1 : decode cX4_lastSite 1 = .ok (.getfield 29, 3) := by decide +kernel
theorem dX4_lastSite_4 : decode cX4_lastSite 4 = .ok (.ireturn, 1) := by decide +kernel
theorem dX4_lastWasStale_0 : decode cX4_lastWasStale 0 = .ok (.aload_n 0, 1) := by decide +kernel
theorem dX4_lastWasStale_1 : decode cX4_lastWasStale 1 = .ok (.getfield 25, 3) := by decide +kernel
theorem dX4_lastWasStale_4 : decode cX4_lastWasStale 4 = .ok (.getfield 133, 3) := by decide +kernel
theorem dX4_lastWasStale_7 : decode cX4_lastWasStale 7 = .ok (.ireturn, 1) := by decide +kernel
theorem dX4_lastLookUps_0 : decode cX4_lastLookUps 0 = .ok (.aload_n 0, 1) := by decide +kernel
theorem dX4_lastLookUps_1 : decode cX4_lastLookUps 1 = .ok (.getfield 25, 3) := by decide +kernel
theorem dX4_lastLookUps_4 : decode cX4_lastLookUps 4 = .ok (.getfield 136, 3) := by decide +kernel
theorem dX4_lastLookUps_7 : decode cX4_lastLookUps 7 = .ok (.ireturn, 1) := by decide +kernel
theorem dX4_lastFetches_0 : decode cX4_lastFetches 0 = .ok (.aload_n 0, 1) := by decide +kernel
theorem dX4_lastFetches_1 : decode cX4_lastFetches 1 = .ok (.getfield 25, 3) := by decide +kernel
theorem dX4_lastFetches_4 : decode cX4_lastFetches 4 = .ok (.getfield 139, 3) := by decide +kernel
theorem dX4_lastFetches_7 : decode cX4_lastFetches 7 = .ok (.ireturn, 1) := by decide +kernel
set_option maxRecDepth 20000 in
theorem ggX4_entries_X4_siteNumbered : GoodIn wsX4_entries wsX4_siteNumbered := goodIn_ca (goodIn_r _ [7, 8, 9, 10, 21, 22, 23, 24, 25, 26, 27, 28, 29, 30, 31, 32, 33] (by decide +kernel) (by decide +kernel)) (goodIn_sub (fun _ h => List.mem_cons_of_mem _ (List.mem_append_right _ h)) (by decide +kernel))
set_option maxRecDepth 20000 in
theorem gX4_entries_X4_siteNumbered : GoodIn wsX4_entries (wsV RX4 87 RX4 yX4_siteNumbered wsX4_siteNumbered) := goodIn_app (goodIn_of _ (by decide +kernel)) ggX4_entries_X4_siteNumbered
theorem dX4_entries_0 : decode cX4_entries 0 = .ok (.aload_n 0, 1) := by decide +kernel
theorem dX4_entries_1 : decode cX4_entries 1 = .ok (.iload_n 1, 1) := by decide +kernel
theorem dX4_entries_2 : decode cX4_entries 2 = .ok (.invokevirtual 87, 3) := by decide +kernel
theorem dX4_entries_5 : decode cX4_entries 5 = .ok (.getfield 115, 3) := by decide +kernel
theorem dX4_entries_8 : decode cX4_entries 8 = .ok (.getfield 142, 3) := by decide +kernel
theorem dX4_entries_11 : decode cX4_entries 11 = .ok (.ireturn, 1) := by decide +kernel
set_option maxRecDepth 20000 in
theorem ggX4_cachedKind_X4_cacheAsked : GoodIn wsX4_cachedKind wsX4_cacheAsked := goodIn_ca (goodIn_r _ [5, 6, 7, 8, 9, 4, 10, 11, 12, 13, 14, 15, 16, 27, 28, 29, 30, 31, 32, 33, 34, 35, 36, 37, 38, 39, 40, 41, 42, 43] (by decide +kernel) (by decide +kernel)) (goodIn_sub (fun _ h => List.mem_cons_of_mem _ (List.mem_append_right _ h)) (by decide +kernel))
set_option maxRecDepth 20000 in
theorem gX4_cachedKind_X4_cacheAsked : GoodIn wsX4_cachedKind (wsV RX4 100 RX4 yX4_cacheAsked wsX4_cacheAsked) := goodIn_app (goodIn_of _ (by decide +kernel)) ggX4_cachedKind_X4_cacheAsked
set_option maxRecDepth 20000 in
theorem ggX4_cachedKind_X0_kindOf : GoodIn wsX4_cachedKind wsX0_kindOf := goodIn_r _ [21, 22, 23, 24, 25, 20, 26, 44, 45, 46, 47, 48, 49] (by decide +kernel) (by decide +kernel)
set_option maxRecDepth 20000 in
theorem gX4_cachedKind_X0_kindOf : GoodIn wsX4_cachedKind (wsV RX4 145 RX0 yX0_kindOf wsX0_kindOf) := goodIn_app (goodIn_of _ (by decide +kernel)) ggX4_cachedKind_X0_kindOf
theorem dX4_cachedKind_0 : decode cX4_cachedKind 0 = .ok (.aload_n 0, 1) := by decide +kernel
theorem dX4_cachedKind_1 : decode cX4_cachedKind 1 = .ok (.iload_n 1, 1) := by decide +kernel
theorem dX4_cachedKind_2 : decode cX4_cachedKind 2 = .ok (.iload_n 2, 1) := by decide +kernel
theorem dX4_cachedKind_3 : decode cX4_cachedKind 3 = .ok (.invokevirtual 100, 3) := by decide +kernel
theorem dX4_cachedKind_6 : decode cX4_cachedKind 6 = .ok (.iload_n 2, 1) := by decide +kernel
theorem dX4_cachedKind_7 : decode cX4_cachedKind 7 = .ok (.invokevirtual 145, 3) := by decide +kernel
theorem dX4_cachedKind_10 : decode cX4_cachedKind 10 = .ok (.ireturn, 1) := by decide +kernel
set_option maxRecDepth 20000 in
theorem ggX4_cachedValue_X4_cacheAsked : GoodIn wsX4_cachedValue wsX4_cacheAsked := goodIn_ca (goodIn_r _ [5, 6, 7, 8, 9, 4, 10, 11, 12, 13, 14, 15, 16, 28, 29, 30, 31, 32, 33, 34, 35, 36, 37, 38, 39, 40, 41, 42, 43, 44] (by decide +kernel) (by decide +kernel)) (goodIn_sub (fun _ h => List.mem_cons_of_mem _ (List.mem_append_right _ h)) (by decide +kernel))
set_option maxRecDepth 20000 in
theorem gX4_cachedValue_X4_cacheAsked : GoodIn wsX4_cachedValue (wsV RX4 100 RX4 yX4_cacheAsked wsX4_cacheAsked) := goodIn_app (goodIn_of _ (by decide +kernel)) ggX4_cachedValue_X4_cacheAsked
set_option maxRecDepth 20000 in
theorem ggX4_cachedValue_X0_valueOf : GoodIn wsX4_cachedValue wsX0_valueOf := goodIn_r _ [21, 22, 23, 24, 25, 20, 26, 27, 45, 46, 47, 48, 49, 50] (by decide +kernel) (by decide +kernel)
set_option maxRecDepth 20000 in
theorem gX4_cachedValue_X0_valueOf : GoodIn wsX4_cachedValue (wsV RX4 146 RX0 yX0_valueOf wsX0_valueOf) := goodIn_app (goodIn_of _ (by decide +kernel)) ggX4_cachedValue_X0_valueOf
theorem dX4_cachedValue_0 : decode cX4_cachedValue 0 = .ok (.aload_n 0, 1) := by decide +kernel
theorem dX4_cachedValue_1 : decode cX4_cachedValue 1 = .ok (.iload_n 1, 1) := by decide +kernel
theorem dX4_cachedValue_2 : decode cX4_cachedValue 2 = .ok (.iload_n 2, 1) := by decide +kernel
theorem dX4_cachedValue_3 : decode cX4_cachedValue 3 = .ok (.invokevirtual 100, 3) := by decide +kernel
theorem dX4_cachedValue_6 : decode cX4_cachedValue 6 = .ok (.iload_n 2, 1) := by decide +kernel
theorem dX4_cachedValue_7 : decode cX4_cachedValue 7 = .ok (.invokevirtual 146, 3) := by decide +kernel
theorem dX4_cachedValue_10 : decode cX4_cachedValue 10 = .ok (.ireturn, 1) := by decide +kernel
set_option maxRecDepth 20000 in
theorem ggX4_left_X4_cacheAsked : GoodIn wsX4_left wsX4_cacheAsked := goodIn_ca (goodIn_r _ [8, 9, 10, 11, 12, 7, 13, 14, 15, 16, 17, 18, 19, 45, 46, 47, 48, 32, 33, 34, 35, 36, 37, 38, 39, 40, 41, 42, 43, 44] (by decide +kernel) (by decide +kernel)) (goodIn_sub (fun _ h => List.mem_cons_of_mem _ (List.mem_append_right _ h)) (by decide +kernel))
set_option maxRecDepth 20000 in
theorem gX4_left_X4_cacheAsked : GoodIn wsX4_left (wsV RX4 100 RX4 yX4_cacheAsked wsX4_cacheAsked) := goodIn_app (goodIn_of _ (by decide +kernel)) ggX4_left_X4_cacheAsked
set_option maxRecDepth 20000 in
theorem ggX4_left_X0_has : GoodIn wsX4_left wsX0_has := goodIn_r _ [24, 25, 49, 50, 51, 52, 53, 54] (by decide +kernel) (by decide +kernel)
set_option maxRecDepth 20000 in
theorem gX4_left_X0_has : GoodIn wsX4_left (wsV RX4 147 RX0 yX0_has wsX0_has) := goodIn_app (goodIn_of _ (by decide +kernel)) ggX4_left_X0_has
set_option maxRecDepth 20000 in
theorem ggX4_left_X0_endOf : GoodIn wsX4_left wsX0_endOf := goodIn_r _ [29, 30, 31, 21, 22, 23, 24, 25, 49, 50, 51, 52, 53, 54] (by decide +kernel) (by decide +kernel)
set_option maxRecDepth 20000 in
theorem gX4_left_X0_endOf : GoodIn wsX4_left (wsV RX4 152 RX0 yX0_endOf wsX0_endOf) := goodIn_app (goodIn_of _ (by decide +kernel)) ggX4_left_X0_endOf
theorem dX4_left_0 : decode cX4_left 0 = .ok (.aload_n 0, 1) := by decide +kernel
theorem dX4_left_1 : decode cX4_left 1 = .ok (.iload_n 1, 1) := by decide +kernel
theorem dX4_left_2 : decode cX4_left 2 = .ok (.iload_n 2, 1) := by decide +kernel
theorem dX4_left_3 : decode cX4_left 3 = .ok (.invokevirtual 100, 3) := by decide +kernel
theorem dX4_left_6 : decode cX4_left 6 = .ok (.astore_n 3, 1) := by decide +kernel
theorem dX4_left_7 : decode cX4_left 7 = .ok (.aload_n 3, 1) := by decide +kernel
theorem dX4_left_8 : decode cX4_left 8 = .ok (.iload_n 2, 1) := by decide +kernel
theorem dX4_left_9 : decode cX4_left 9 = .ok (.invokevirtual 147, 3) := by decide +kernel
theorem dX4_left_12 : decode cX4_left 12 = .ok (.ifCond .ne 13, 3) := by decide +kernel
theorem dX4_left_15 : decode cX4_left 15 = .ok (.new 79, 3) := by decide +kernel
theorem dX4_left_18 : decode cX4_left 18 = .ok (.dup, 1) := by decide +kernel
theorem dX4_left_19 : decode cX4_left 19 = .ok (.ldc 150, 2) := by decide +kernel
theorem dX4_left_21 : decode cX4_left 21 = .ok (.invokespecial 83, 3) := by decide +kernel
theorem dX4_left_24 : decode cX4_left 24 = .ok (.athrow, 1) := by decide +kernel
theorem dX4_left_25 : decode cX4_left 25 = .ok (.aload_n 3, 1) := by decide +kernel
theorem dX4_left_26 : decode cX4_left 26 = .ok (.iload_n 2, 1) := by decide +kernel
theorem dX4_left_27 : decode cX4_left 27 = .ok (.invokevirtual 152, 3) := by decide +kernel
theorem dX4_left_30 : decode cX4_left 30 = .ok (.aload_n 0, 1) := by decide +kernel
theorem dX4_left_31 : decode cX4_left 31 = .ok (.getfield 108, 3) := by decide +kernel
theorem dX4_left_34 : decode cX4_left 34 = .ok (.isub, 1) := by decide +kernel
theorem dX4_left_35 : decode cX4_left 35 = .ok (.ireturn, 1) := by decide +kernel
set_option maxRecDepth 20000 in
theorem ggX4_hitsOf_X4_cacheAsked : GoodIn wsX4_hitsOf wsX4_cacheAsked := goodIn_ca (goodIn_r _ [5, 6, 7, 8, 9, 4, 10, 11, 12, 13, 14, 15, 16, 28, 29, 30, 31, 32, 33, 34, 35, 36, 37, 38, 39, 40, 41, 42, 43, 44] (by decide +kernel) (by decide +kernel)) (goodIn_sub (fun _ h => List.mem_cons_of_mem _ (List.mem_append_right _ h)) (by decide +kernel))
set_option maxRecDepth 20000 in
theorem gX4_hitsOf_X4_cacheAsked : GoodIn wsX4_hitsOf (wsV RX4 100 RX4 yX4_cacheAsked wsX4_cacheAsked) := goodIn_app (goodIn_of _ (by decide +kernel)) ggX4_hitsOf_X4_cacheAsked
set_option maxRecDepth 20000 in
theorem ggX4_hitsOf_X0_hitsFor : GoodIn wsX4_hitsOf wsX0_hitsFor := goodIn_r _ [21, 22, 23, 24, 25, 20, 26, 27, 45, 46, 47, 48, 49, 50] (by decide +kernel) (by decide +kernel)
set_option maxRecDepth 20000 in
theorem gX4_hitsOf_X0_hitsFor : GoodIn wsX4_hitsOf (wsV RX4 155 RX0 yX0_hitsFor wsX0_hitsFor) := goodIn_app (goodIn_of _ (by decide +kernel)) ggX4_hitsOf_X0_hitsFor
theorem dX4_hitsOf_0 : decode cX4_hitsOf 0 = .ok (.aload_n 0, 1) := by decide +kernel
theorem dX4_hitsOf_1 : decode cX4_hitsOf 1 = .ok (.iload_n 1, 1) := by decide +kernel
theorem dX4_hitsOf_2 : decode cX4_hitsOf 2 = .ok (.iload_n 2, 1) := by decide +kernel
theorem dX4_hitsOf_3 : decode cX4_hitsOf 3 = .ok (.invokevirtual 100, 3) := by decide +kernel
theorem dX4_hitsOf_6 : decode cX4_hitsOf 6 = .ok (.iload_n 2, 1) := by decide +kernel
theorem dX4_hitsOf_7 : decode cX4_hitsOf 7 = .ok (.invokevirtual 155, 3) := by decide +kernel
theorem dX4_hitsOf_10 : decode cX4_hitsOf 10 = .ok (.ireturn, 1) := by decide +kernel
theorem dX4_queries_0 : decode cX4_queries 0 = .ok (.aload_n 0, 1) := by decide +kernel
theorem dX4_queries_1 : decode cX4_queries 1 = .ok (.getfield 158, 3) := by decide +kernel
theorem dX4_queries_4 : decode cX4_queries 4 = .ok (.ireturn, 1) := by decide +kernel
theorem dX4_fetches_0 : decode cX4_fetches 0 = .ok (.aload_n 0, 1) := by decide +kernel
theorem dX4_fetches_1 : decode cX4_fetches 1 = .ok (.getfield 161, 3) := by decide +kernel
theorem dX4_fetches_4 : decode cX4_fetches 4 = .ok (.ireturn, 1) := by decide +kernel
theorem dX4_prefetches_0 : decode cX4_prefetches 0 = .ok (.aload_n 0, 1) := by decide +kernel
theorem dX4_prefetches_1 : decode cX4_prefetches 1 = .ok (.getfield 164, 3) := by decide +kernel
theorem dX4_prefetches_4 : decode cX4_prefetches 4 = .ok (.ireturn, 1) := by decide +kernel
theorem dX4_staleAnswers_0 : decode cX4_staleAnswers 0 = .ok (.aload_n 0, 1) := by decide +kernel
theorem dX4_staleAnswers_1 : decode cX4_staleAnswers 1 = .ok (.getfield 167, 3) := by decide +kernel
theorem dX4_staleAnswers_4 : decode cX4_staleAnswers 4 = .ok (.ireturn, 1) := by decide +kernel
theorem dX4_failures_0 : decode cX4_failures 0 = .ok (.aload_n 0, 1) := by decide +kernel
theorem dX4_failures_1 : decode cX4_failures 1 = .ok (.getfield 170, 3) := by decide +kernel
theorem dX4_failures_4 : decode cX4_failures 4 = .ok (.ireturn, 1) := by decide +kernel
set_option maxRecDepth 20000 in
theorem ggX4_resolve_X1_begin : GoodIn wsX4_resolve wsX1_begin := goodIn_r _ [5, 6, 7, 8, 9, 10, 91, 92, 93, 94, 95, 96] (by decide +kernel) (by decide +kernel)
set_option maxRecDepth 20000 in
theorem gX4_resolve_X1_begin : GoodIn wsX4_resolve (wsV RX4 173 RX1 yX1_begin wsX1_begin) := goodIn_app (goodIn_of _ (by decide +kernel)) ggX4_resolve_X1_begin
set_option maxRecDepth 20000 in
theorem ggX4_resolve_X4_lookUp : GoodIn wsX4_resolve wsX4_lookUp := goodIn_r _ [15, 16, 17, 18, 19, 20, 21, 22, 23, 24, 25, 26, 27, 28, 29, 30, 31, 32, 33, 34, 35, 36, 37, 38, 39, 4, 40, 6, 41, 42, 43, 44, 14, 45, 46, 47, 48, 49, 50, 51, 52, 53, 54, 55, 56, 57, 58, 59, 60, 61, 62, 63, 64, 65, 66, 67, 68, 69, 70, 71, 72, 73, 74, 75, 76, 77, 78, 79, 80, 81, 82, 91, 92, 93, 94, 95, 96, 97, 98, 99, 100, 101, 102, 103, 104, 105, 106, 107, 108, 109, 110, 111, 112, 113, 114, 115, 116, 117, 118, 119, 120] (by decide +kernel) (by decide +kernel)
set_option maxRecDepth 20000 in
theorem gX4_resolve_X4_lookUp : GoodIn wsX4_resolve (wsV RX4 176 RX4 yX4_lookUp wsX4_lookUp) := goodIn_app (goodIn_of _ (by decide +kernel)) ggX4_resolve_X4_lookUp
set_option maxRecDepth 20000 in
theorem ggX4_resolve_X0_kindOf : GoodIn wsX4_resolve wsX0_kindOf := goodIn_r _ [86, 31, 27, 28, 29, 24, 30, 115, 116, 117, 118, 119, 120] (by decide +kernel) (by decide +kernel)
set_option maxRecDepth 20000 in
theorem gX4_resolve_X0_kindOf : GoodIn wsX4_resolve (wsV RX4 145 RX0 yX0_kindOf wsX0_kindOf) := goodIn_app (goodIn_of _ (by decide +kernel)) ggX4_resolve_X0_kindOf
set_option maxRecDepth 20000 in
theorem ggX4_resolve_X0_valueOf : GoodIn wsX4_resolve wsX0_valueOf := goodIn_r _ [90, 69, 27, 28, 29, 24, 30, 31, 115, 116, 117, 118, 119, 120] (by decide +kernel) (by decide +kernel)
set_option maxRecDepth 20000 in
theorem gX4_resolve_X0_valueOf : GoodIn wsX4_resolve (wsV RX4 146 RX0 yX0_valueOf wsX0_valueOf) := goodIn_app (goodIn_of _ (by decide +kernel)) ggX4_resolve_X0_valueOf
theorem dX4_resolve_0 : decode cX4_resolve 0 = .ok (.aload_n 3, 1) := by decide +kernel
theorem dX4_resolve_1 : decode cX4_resolve 1 = .ok (.invokevirtual 173, 3) := by decide +kernel
theorem dX4_resolve_4 : decode cX4_resolve 4 = .ok (.iload_n 2, 1) := by decide +kernel
theorem dX4_resolve_5 : decode cX4_resolve 5 = .ok (.istore 4, 2) := by decide +kernel
theorem dX4_resolve_7 : decode cX4_resolve 7 = .ok (.iconst 0, 1) := by decide +kernel
theorem dX4_resolve_8 : decode cX4_resolve 8 = .ok (.istore 5, 2) := by decide +kernel
theorem dX4_resolve_10 : decode cX4_resolve 10 = .ok (.iload 5, 2) := by decide +kernel
theorem dX4_resolve_12 : decode cX4_resolve 12 = .ok (.iconst 4, 1) := by decide +kernel
theorem dX4_resolve_13 : decode cX4_resolve 13 = .ok (.if_icmp .gt 61, 3) := by decide +kernel
theorem dX4_resolve_16 : decode cX4_resolve 16 = .ok (.aload_n 0, 1) := by decide +kernel
theorem dX4_resolve_17 : decode cX4_resolve 17 = .ok (.aload_n 1, 1) := by decide +kernel
theorem dX4_resolve_18 : decode cX4_resolve 18 = .ok (.iload 4, 2) := by decide +kernel
theorem dX4_resolve_20 : decode cX4_resolve 20 = .ok (.aload_n 3, 1) := by decide +kernel
theorem dX4_resolve_21 : decode cX4_resolve 21 = .ok (.invokevirtual 176, 3) := by decide +kernel
theorem dX4_resolve_24 : decode cX4_resolve 24 = .ok (.ifCond .ne 6, 3) := by decide +kernel
theorem dX4_resolve_27 : decode cX4_resolve 27 = .ok (.bipush (-2), 2) := by decide +kernel
theorem dX4_resolve_29 : decode cX4_resolve 29 = .ok (.ireturn, 1) := by decide +kernel
theorem dX4_resolve_30 : decode cX4_resolve 30 = .ok (.aload_n 1, 1) := by decide +kernel
theorem dX4_resolve_31 : decode cX4_resolve 31 = .ok (.iload 4, 2) := by decide +kernel
theorem dX4_resolve_33 : decode cX4_resolve 33 = .ok (.invokevirtual 145, 3) := by decide +kernel
theorem dX4_resolve_36 : decode cX4_resolve 36 = .ok (.istore 6, 2) := by decide +kernel
theorem dX4_resolve_38 : decode cX4_resolve 38 = .ok (.aload_n 1, 1) := by decide +kernel
theorem dX4_resolve_39 : decode cX4_resolve 39 = .ok (.iload 4, 2) := by decide +kernel
theorem dX4_resolve_41 : decode cX4_resolve 41 = .ok (.invokevirtual 146, 3) := by decide +kernel
theorem dX4_resolve_44 : decode cX4_resolve 44 = .ok (.istore 7, 2) := by decide +kernel
theorem dX4_resolve_46 : decode cX4_resolve 46 = .ok (.iload 6, 2) := by decide +kernel
theorem dX4_resolve_48 : decode cX4_resolve 48 = .ok (.iconst 1, 1) := by decide +kernel
theorem dX4_resolve_49 : decode cX4_resolve 49 = .ok (.if_icmp .eq 15, 3) := by decide +kernel
theorem dX4_resolve_52 : decode cX4_resolve 52 = .ok (.iload 6, 2) := by decide +kernel
theorem dX4_resolve_54 : decode cX4_resolve 54 = .ok (.ifCond .ne 8, 3) := by decide +kernel
theorem dX4_resolve_57 : decode cX4_resolve 57 = .ok (.iload 7, 2) := by decide +kernel
theorem dX4_resolve_59 : decode cX4_resolve 59 = .ok (.goto 4, 3) := by decide +kernel
theorem dX4_resolve_62 : decode cX4_resolve 62 = .ok (.iconst (-1), 1) := by decide +kernel
theorem dX4_resolve_63 : decode cX4_resolve 63 = .ok (.ireturn, 1) := by decide +kernel
theorem dX4_resolve_64 : decode cX4_resolve 64 = .ok (.iload 7, 2) := by decide +kernel
theorem dX4_resolve_66 : decode cX4_resolve 66 = .ok (.istore 4, 2) := by decide +kernel
theorem dX4_resolve_68 : decode cX4_resolve 68 = .ok (.iinc 5 1, 3) := by decide +kernel
theorem dX4_resolve_71 : decode cX4_resolve 71 = .ok (.goto (-61), 3) := by decide +kernel
theorem dX4_resolve_74 : decode cX4_resolve 74 = .ok (.bipush (-2), 2) := by decide +kernel
theorem dX4_resolve_76 : decode cX4_resolve 76 = .ok (.ireturn, 1) := by decide +kernel
set_option maxRecDepth 20000 in
theorem ggX4_lookUp_X0_isFresh : GoodIn wsX4_lookUp wsX0_isFresh := goodIn_r _ [10, 11, 12, 13, 14, 9, 15, 16, 95, 96, 97, 98, 99, 100] (by decide +kernel) (by decide +kernel)
set_option maxRecDepth 20000 in
theorem gX4_lookUp_X0_isFresh : GoodIn wsX4_lookUp (wsV RX4 180 RX0 yX0_isFresh wsX0_isFresh) := goodIn_app (goodIn_of _ (by decide +kernel)) ggX4_lookUp_X0_isFresh
set_option maxRecDepth 20000 in
theorem ggX4_lookUp_X0_countHit : GoodIn wsX4_lookUp wsX0_countHit := goodIn_r _ [20, 21, 12, 13, 14, 9, 15, 16, 95, 96, 97, 98, 99, 100] (by decide +kernel) (by decide +kernel)
set_option maxRecDepth 20000 in
theorem gX4_lookUp_X0_countHit : GoodIn wsX4_lookUp (wsV RX4 184 RX0 yX0_countHit wsX0_countHit) := goodIn_app (goodIn_of _ (by decide +kernel)) ggX4_lookUp_X0_countHit
set_option maxRecDepth 20000 in
theorem ggX4_lookUp_X1_noteFresh : GoodIn wsX4_lookUp wsX1_noteFresh := goodIn_r _ [26, 27, 28, 71, 72, 73, 74, 75, 76] (by decide +kernel) (by decide +kernel)
set_option maxRecDepth 20000 in
theorem gX4_lookUp_X1_noteFresh : GoodIn wsX4_lookUp (wsV RX4 187 RX1 yX1_noteFresh wsX1_noteFresh) := goodIn_app (goodIn_of _ (by decide +kernel)) ggX4_lookUp_X1_noteFresh
set_option maxRecDepth 20000 in
theorem ggX4_lookUp_X4_fetch : GoodIn wsX4_lookUp wsX4_fetch := goodIn_r _ [33, 3, 2, 34, 35, 36, 37, 38, 39, 40, 41, 42, 43, 44, 45, 46, 47, 48, 49, 50, 51, 52, 53, 54, 9, 55, 16, 56, 57, 58, 11, 21, 59, 60, 61, 62, 63, 64, 65, 66, 12, 13, 14, 15, 77, 78, 79, 80, 81, 82, 83, 84, 85, 86, 87, 88, 89, 71, 72, 73, 74, 75, 76, 90, 91, 92, 93, 94, 95, 96, 97, 98, 99, 100] (by decide +kernel) (by decide +kernel)
set_option maxRecDepth 20000 in
theorem gX4_lookUp_X4_fetch : GoodIn wsX4_lookUp (wsV RX4 190 RX4 yX4_fetch wsX4_fetch) := goodIn_app (goodIn_of _ (by decide +kernel)) ggX4_lookUp_X4_fetch
set_option maxRecDepth 20000 in
theorem ggX4_lookUp_X0_servesStale : GoodIn wsX4_lookUp wsX0_servesStale := goodIn_r _ [70, 11, 12, 13, 14, 9, 15, 16, 95, 96, 97, 98, 99, 100] (by decide +kernel) (by decide +kernel)
set_option maxRecDepth 20000 in
theorem gX4_lookUp_X0_servesStale : GoodIn wsX4_lookUp (wsV RX4 194 RX0 yX0_servesStale wsX0_servesStale) := goodIn_app (goodIn_of _ (by decide +kernel)) ggX4_lookUp_X0_servesStale
theorem dX4_lookUp_0 : decode cX4_lookUp 0 = .ok (.aload_n 3, 1) := by decide +kernel
theorem dX4_lookUp_1 : decode cX4_lookUp 1 = .ok (.dup, 1) := by decide +kernel
theorem dX4_lookUp_2 : decode cX4_lookUp 2 = .ok (.getfield 136, 3) := by decide +kernel
theorem dX4_lookUp_5 : decode cX4_lookUp 5 = .ok (.iconst 1, 1) := by decide +kernel
theorem dX4_lookUp_6 : decode cX4_lookUp 6 = .ok (.iadd, 1) := by decide +kernel
theorem dX4_lookUp_7 : decode cX4_lookUp 7 = .ok (.putfield 136, 3) := by decide +kernel
theorem dX4_lookUp_10 : decode cX4_lookUp 10 = .ok (.aload_n 1, 1) := by decide +kernel
theorem dX4_lookUp_11 : decode cX4_lookUp 11 = .ok (.iload_n 2, 1) := by decide +kernel
theorem dX4_lookUp_12 : decode cX4_lookUp 12 = .ok (.aload_n 0, 1) := by decide +kernel
theorem dX4_lookUp_13 : decode cX4_lookUp 13 = .ok (.getfield 108, 3) := by decide +kernel
theorem dX4_lookUp_16 : decode cX4_lookUp 16 = .ok (.invokevirtual 180, 3) := by decide +kernel
theorem dX4_lookUp_19 : decode cX4_lookUp 19 = .ok (.ifCond .eq 15, 3) := by decide +kernel
theorem dX4_lookUp_22 : decode cX4_lookUp 22 = .ok (.aload_n 1, 1) := by decide +kernel
theorem dX4_lookUp_23 : decode cX4_lookUp 23 = .ok (.iload_n 2, 1) := by decide +kernel
theorem dX4_lookUp_24 : decode cX4_lookUp 24 = .ok (.invokevirtual 184, 3) := by decide +kernel
theorem dX4_lookUp_27 : decode cX4_lookUp 27 = .ok (.aload_n 3, 1) := by decide +kernel
theorem dX4_lookUp_28 : decode cX4_lookUp 28 = .ok (.iload_n 2, 1) := by decide +kernel
theorem dX4_lookUp_29 : decode cX4_lookUp 29 = .ok (.invokevirtual 187, 3) := by decide +kernel
theorem dX4_lookUp_32 : decode cX4_lookUp 32 = .ok (.iconst 1, 1) := by decide +kernel
theorem dX4_lookUp_33 : decode cX4_lookUp 33 = .ok (.ireturn, 1) := by decide +kernel
theorem dX4_lookUp_34 : decode cX4_lookUp 34 = .ok (.aload_n 0, 1) := by decide +kernel
theorem dX4_lookUp_35 : decode cX4_lookUp 35 = .ok (.getfield 10, 3) := by decide +kernel
theorem dX4_lookUp_38 : decode cX4_lookUp 38 = .ok (.getfield 69, 3) := by decide +kernel
theorem dX4_lookUp_41 : decode cX4_lookUp 41 = .ok (.ifCond .eq 12, 3) := by decide +kernel
theorem dX4_lookUp_44 : decode cX4_lookUp 44 = .ok (.aload_n 0, 1) := by decide +kernel
theorem dX4_lookUp_45 : decode cX4_lookUp 45 = .ok (.aload_n 1, 1) := by decide +kernel
theorem dX4_lookUp_46 : decode cX4_lookUp 46 = .ok (.iload_n 2, 1) := by decide +kernel
theorem dX4_lookUp_47 : decode cX4_lookUp 47 = .ok (.aload_n 3, 1) := by decide +kernel
theorem dX4_lookUp_48 : decode cX4_lookUp 48 = .ok (.invokevirtual 190, 3) := by decide +kernel
theorem dX4_lookUp_51 : decode cX4_lookUp 51 = .ok (.iconst 1, 1) := by decide +kernel
theorem dX4_lookUp_52 : decode cX4_lookUp 52 = .ok (.ireturn, 1) := by decide +kernel
theorem dX4_lookUp_53 : decode cX4_lookUp 53 = .ok (.aload_n 1, 1) := by decide +kernel
theorem dX4_lookUp_54 : decode cX4_lookUp 54 = .ok (.iload_n 2, 1) := by decide +kernel
theorem dX4_lookUp_55 : decode cX4_lookUp 55 = .ok (.aload_n 0, 1) := by decide +kernel
theorem dX4_lookUp_56 : decode cX4_lookUp 56 = .ok (.getfield 108, 3) := by decide +kernel
theorem dX4_lookUp_59 : decode cX4_lookUp 59 = .ok (.invokevirtual 194, 3) := by decide +kernel
theorem dX4_lookUp_62 : decode cX4_lookUp 62 = .ok (.ifCond .eq 10, 3) := by decide +kernel
theorem dX4_lookUp_65 : decode cX4_lookUp 65 = .ok (.aload_n 3, 1) := by decide +kernel
theorem dX4_lookUp_66 : decode cX4_lookUp 66 = .ok (.iconst 1, 1) := by decide +kernel
theorem dX4_lookUp_67 : decode cX4_lookUp 67 = .ok (.putfield 133, 3) := by decide +kernel
theorem dX4_lookUp_70 : decode cX4_lookUp 70 = .ok (.iconst 1, 1) := by decide +kernel
theorem dX4_lookUp_71 : decode cX4_lookUp 71 = .ok (.ireturn, 1) := by decide +kernel
theorem dX4_lookUp_72 : decode cX4_lookUp 72 = .ok (.iconst 0, 1) := by decide +kernel
theorem dX4_lookUp_73 : decode cX4_lookUp 73 = .ok (.ireturn, 1) := by decide +kernel
set_option maxRecDepth 20000 in
theorem ggX4_fetch_X3_kindOf : GoodIn wsX4_fetch wsX3_kindOf := goodIn_r _ [8, 9, 63, 64, 65, 66, 67] (by decide +kernel) (by decide +kernel)
set_option maxRecDepth 20000 in
theorem gX4_fetch_X3_kindOf : GoodIn wsX4_fetch (wsV RX4 62 RX3 yX3_kindOf wsX3_kindOf) := goodIn_app (goodIn_of _ (by decide +kernel)) ggX4_fetch_X3_kindOf
set_option maxRecDepth 20000 in
theorem ggX4_fetch_X3_valueOf : GoodIn wsX4_fetch wsX3_valueOf := goodIn_r _ [13, 14, 63, 64, 65, 66, 67] (by decide +kernel) (by decide +kernel)
set_option maxRecDepth 20000 in
theorem gX4_fetch_X3_valueOf : GoodIn wsX4_fetch (wsV RX4 73 RX3 yX3_valueOf wsX3_valueOf) := goodIn_app (goodIn_of _ (by decide +kernel)) ggX4_fetch_X3_valueOf
set_option maxRecDepth 20000 in
theorem ggX4_fetch_X3_lifeOf : GoodIn wsX4_fetch wsX3_lifeOf := goodIn_r _ [18, 9, 19, 20, 63, 64, 65, 66, 67] (by decide +kernel) (by decide +kernel)
set_option maxRecDepth 20000 in
theorem gX4_fetch_X3_lifeOf : GoodIn wsX4_fetch (wsV RX4 197 RX3 yX3_lifeOf wsX3_lifeOf) := goodIn_app (goodIn_of _ (by decide +kernel)) ggX4_fetch_X3_lifeOf
set_option maxRecDepth 20000 in
theorem ggX4_fetch_X0_put : GoodIn wsX4_fetch wsX0_put := goodIn_r _ [25, 26, 27, 28, 29, 30, 31, 32, 33, 34, 24, 35, 36, 37, 38, 39, 40, 41, 42, 43, 68, 69, 70, 71, 72, 73] (by decide +kernel) (by decide +kernel)
set_option maxRecDepth 20000 in
theorem gX4_fetch_X0_put : GoodIn wsX4_fetch (wsV RX4 200 RX0 yX0_put wsX0_put) := goodIn_app (goodIn_of _ (by decide +kernel)) ggX4_fetch_X0_put
theorem dX4_fetch_0 : decode cX4_fetch 0 = .ok (.aload_n 1, 1) := by decide +kernel
theorem dX4_fetch_1 : decode cX4_fetch 1 = .ok (.iload_n 2, 1) := by decide +kernel
theorem dX4_fetch_2 : decode cX4_fetch 2 = .ok (.aload_n 0, 1) := by decide +kernel
theorem dX4_fetch_3 : decode cX4_fetch 3 = .ok (.getfield 10, 3) := by decide +kernel
theorem dX4_fetch_6 : decode cX4_fetch 6 = .ok (.iload_n 2, 1) := by decide +kernel
theorem dX4_fetch_7 : decode cX4_fetch 7 = .ok (.invokevirtual 62, 3) := by decide +kernel
theorem dX4_fetch_10 : decode cX4_fetch 10 = .ok (.aload_n 0, 1) := by decide +kernel
theorem dX4_fetch_11 : decode cX4_fetch 11 = .ok (.getfield 10, 3) := by decide +kernel
theorem dX4_fetch_14 : decode cX4_fetch 14 = .ok (.iload_n 2, 1) := by decide +kernel
theorem dX4_fetch_15 : decode cX4_fetch 15 = .ok (.invokevirtual 73, 3) := by decide +kernel
theorem dX4_fetch_18 : decode cX4_fetch 18 = .ok (.aload_n 0, 1) := by decide +kernel
theorem dX4_fetch_19 : decode cX4_fetch 19 = .ok (.getfield 10, 3) := by decide +kernel
theorem dX4_fetch_22 : decode cX4_fetch 22 = .ok (.iload_n 2, 1) := by decide +kernel
theorem dX4_fetch_23 : decode cX4_fetch 23 = .ok (.invokevirtual 197, 3) := by decide +kernel
theorem dX4_fetch_26 : decode cX4_fetch 26 = .ok (.aload_n 0, 1) := by decide +kernel
theorem dX4_fetch_27 : decode cX4_fetch 27 = .ok (.getfield 108, 3) := by decide +kernel
theorem dX4_fetch_30 : decode cX4_fetch 30 = .ok (.invokevirtual 200, 3) := by decide +kernel
theorem dX4_fetch_33 : decode cX4_fetch 33 = .ok (.aload_n 3, 1) := by decide +kernel
theorem dX4_fetch_34 : decode cX4_fetch 34 = .ok (.dup, 1) := by decide +kernel
theorem dX4_fetch_35 : decode cX4_fetch 35 = .ok (.getfield 139, 3) := by decide +kernel
theorem dX4_fetch_38 : decode cX4_fetch 38 = .ok (.iconst 1, 1) := by decide +kernel
theorem dX4_fetch_39 : decode cX4_fetch 39 = .ok (.iadd, 1) := by decide +kernel
theorem dX4_fetch_40 : decode cX4_fetch 40 = .ok (.putfield 139, 3) := by decide +kernel
theorem dX4_fetch_43 : decode cX4_fetch 43 = .ok (.return_, 1) := by decide +kernel
set_option maxRecDepth 20000 in
theorem ggX4_fetchHotAnew_X1_freshNameAt : GoodIn wsX4_fetchHotAnew wsX1_freshNameAt := goodIn_r _ [10, 11, 12, 81, 82, 83, 84, 85, 86] (by decide +kernel) (by decide +kernel)
set_option maxRecDepth 20000 in
theorem gX4_fetchHotAnew_X1_freshNameAt : GoodIn wsX4_fetchHotAnew (wsV RX4 206 RX1 yX1_freshNameAt wsX1_freshNameAt) := goodIn_app (goodIn_of _ (by decide +kernel)) ggX4_fetchHotAnew_X1_freshNameAt
set_option maxRecDepth 20000 in
theorem ggX4_fetchHotAnew_X0_isHot : GoodIn wsX4_fetchHotAnew wsX0_isHot := goodIn_r _ [17, 18, 19, 20, 21, 22, 23, 16, 24, 25, 87, 88, 89, 90, 91, 92] (by decide +kernel) (by decide +kernel)
set_option maxRecDepth 20000 in
theorem gX4_fetchHotAnew_X0_isHot : GoodIn wsX4_fetchHotAnew (wsV RX4 209 RX0 yX0_isHot wsX0_isHot) := goodIn_app (goodIn_of _ (by decide +kernel)) ggX4_fetchHotAnew_X0_isHot
set_option maxRecDepth 20000 in
theorem ggX4_fetchHotAnew_X4_fetch : GoodIn wsX4_fetchHotAnew wsX4_fetch := goodIn_r _ [30, 1, 4, 31, 32, 33, 34, 35, 36, 37, 38, 39, 40, 41, 42, 43, 44, 45, 46, 47, 48, 49, 50, 51, 16, 52, 25, 53, 54, 20, 19, 18, 55, 56, 57, 58, 59, 60, 61, 62, 21, 22, 23, 24, 63, 64, 65, 66, 67, 68, 69, 70, 71, 72, 73, 74, 75, 81, 82, 83, 84, 85, 86, 76, 77, 78, 79, 80, 87, 88, 89, 90, 91, 92] (by decide +kernel) (by decide +kernel)
set_option maxRecDepth 20000 in
theorem gX4_fetchHotAnew_X4_fetch : GoodIn wsX4_fetchHotAnew (wsV RX4 190 RX4 yX4_fetch wsX4_fetch) := goodIn_app (goodIn_of _ (by decide +kernel)) ggX4_fetchHotAnew_X4_fetch
theorem dX4_fetchHotAnew_0 : decode cX4_fetchHotAnew 0 = .ok (.aload_n 0, 1) := by decide +kernel
theorem dX4_fetchHotAnew_1 : decode cX4_fetchHotAnew 1 = .ok (.getfield 10, 3) := by decide +kernel
theorem dX4_fetchHotAnew_4 : decode cX4_fetchHotAnew 4 = .ok (.getfield 69, 3) := by decide +kernel
theorem dX4_fetchHotAnew_7 : decode cX4_fetchHotAnew 7 = .ok (.ifCond .ne 4, 3) := by decide +kernel
theorem dX4_fetchHotAnew_10 : decode cX4_fetchHotAnew 10 = .ok (.return_, 1) := by decide +kernel
theorem dX4_fetchHotAnew_11 : decode cX4_fetchHotAnew 11 = .ok (.aload_n 2, 1) := by decide +kernel
theorem dX4_fetchHotAnew_12 : decode cX4_fetchHotAnew 12 = .ok (.getfield 203, 3) := by decide +kernel
theorem dX4_fetchHotAnew_15 : decode cX4_fetchHotAnew 15 = .ok (.istore_n 3, 1) := by decide +kernel
theorem dX4_fetchHotAnew_16 : decode cX4_fetchHotAnew 16 = .ok (.iconst 0, 1) := by decide +kernel
theorem dX4_fetchHotAnew_17 : decode cX4_fetchHotAnew 17 = .ok (.istore 4, 2) := by decide +kernel
theorem dX4_fetchHotAnew_19 : decode cX4_fetchHotAnew 19 = .ok (.iload 4, 2) := by decide +kernel
theorem dX4_fetchHotAnew_21 : decode cX4_fetchHotAnew 21 = .ok (.iload_n 3, 1) := by decide +kernel
theorem dX4_fetchHotAnew_22 : decode cX4_fetchHotAnew 22 = .ok (.if_icmp .ge 48, 3) := by decide +kernel
theorem dX4_fetchHotAnew_25 : decode cX4_fetchHotAnew 25 = .ok (.aload_n 2, 1) := by decide +kernel
theorem dX4_fetchHotAnew_26 : decode cX4_fetchHotAnew 26 = .ok (.iload 4, 2) := by decide +kernel
theorem dX4_fetchHotAnew_28 : decode cX4_fetchHotAnew 28 = .ok (.invokevirtual 206, 3) := by decide +kernel
theorem dX4_fetchHotAnew_31 : decode cX4_fetchHotAnew 31 = .ok (.istore 5, 2) := by decide +kernel
theorem dX4_fetchHotAnew_33 : decode cX4_fetchHotAnew 33 = .ok (.aload_n 1, 1) := by decide +kernel
theorem dX4_fetchHotAnew_34 : decode cX4_fetchHotAnew 34 = .ok (.iload 5, 2) := by decide +kernel
theorem dX4_fetchHotAnew_36 : decode cX4_fetchHotAnew 36 = .ok (.aload_n 0, 1) := by decide +kernel
theorem dX4_fetchHotAnew_37 : decode cX4_fetchHotAnew 37 = .ok (.getfield 108, 3) := by decide +kernel
theorem dX4_fetchHotAnew_40 : decode cX4_fetchHotAnew 40 = .ok (.invokevirtual 209, 3) := by decide +kernel
theorem dX4_fetchHotAnew_43 : decode cX4_fetchHotAnew 43 = .ok (.ifCond .eq 21, 3) := by decide +kernel
theorem dX4_fetchHotAnew_46 : decode cX4_fetchHotAnew 46 = .ok (.aload_n 0, 1) := by decide +kernel
theorem dX4_fetchHotAnew_47 : decode cX4_fetchHotAnew 47 = .ok (.aload_n 1, 1) := by decide +kernel
theorem dX4_fetchHotAnew_48 : decode cX4_fetchHotAnew 48 = .ok (.iload 5, 2) := by decide +kernel
theorem dX4_fetchHotAnew_50 : decode cX4_fetchHotAnew 50 = .ok (.aload_n 2, 1) := by decide +kernel
theorem dX4_fetchHotAnew_51 : decode cX4_fetchHotAnew 51 = .ok (.invokevirtual 190, 3) := by decide +kernel
theorem dX4_fetchHotAnew_54 : decode cX4_fetchHotAnew 54 = .ok (.aload_n 2, 1) := by decide +kernel
theorem dX4_fetchHotAnew_55 : decode cX4_fetchHotAnew 55 = .ok (.dup, 1) := by decide +kernel
theorem dX4_fetchHotAnew_56 : decode cX4_fetchHotAnew 56 = .ok (.getfield 212, 3) := by decide +kernel
theorem dX4_fetchHotAnew_59 : decode cX4_fetchHotAnew 59 = .ok (.iconst 1, 1) := by decide +kernel
theorem dX4_fetchHotAnew_60 : decode cX4_fetchHotAnew 60 = .ok (.iadd, 1) := by decide +kernel
theorem dX4_fetchHotAnew_61 : decode cX4_fetchHotAnew 61 = .ok (.putfield 212, 3) := by decide +kernel
theorem dX4_fetchHotAnew_64 : decode cX4_fetchHotAnew 64 = .ok (.iinc 4 1, 3) := by decide +kernel
theorem dX4_fetchHotAnew_67 : decode cX4_fetchHotAnew 67 = .ok (.goto (-48), 3) := by decide +kernel
theorem dX4_fetchHotAnew_70 : decode cX4_fetchHotAnew 70 = .ok (.return_, 1) := by decide +kernel
theorem dX4_countQuery_0 : decode cX4_countQuery 0 = .ok (.aload_n 0, 1) := by decide +kernel
theorem dX4_countQuery_1 : decode cX4_countQuery 1 = .ok (.dup, 1) := by decide +kernel
theorem dX4_countQuery_2 : decode cX4_countQuery 2 = .ok (.getfield 158, 3) := by decide +kernel
theorem dX4_countQuery_5 : decode cX4_countQuery 5 = .ok (.iconst 1, 1) := by decide +kernel
theorem dX4_countQuery_6 : decode cX4_countQuery 6 = .ok (.iadd, 1) := by decide +kernel
theorem dX4_countQuery_7 : decode cX4_countQuery 7 = .ok (.putfield 158, 3) := by decide +kernel
theorem dX4_countQuery_10 : decode cX4_countQuery 10 = .ok (.aload_n 0, 1) := by decide +kernel
theorem dX4_countQuery_11 : decode cX4_countQuery 11 = .ok (.dup, 1) := by decide +kernel
theorem dX4_countQuery_12 : decode cX4_countQuery 12 = .ok (.getfield 161, 3) := by decide +kernel
theorem dX4_countQuery_15 : decode cX4_countQuery 15 = .ok (.aload_n 0, 1) := by decide +kernel
theorem dX4_countQuery_16 : decode cX4_countQuery 16 = .ok (.getfield 25, 3) := by decide +kernel
theorem dX4_countQuery_19 : decode cX4_countQuery 19 = .ok (.getfield 139, 3) := by decide +kernel
theorem dX4_countQuery_22 : decode cX4_countQuery 22 = .ok (.iadd, 1) := by decide +kernel
theorem dX4_countQuery_23 : decode cX4_countQuery 23 = .ok (.putfield 161, 3) := by decide +kernel
theorem dX4_countQuery_26 : decode cX4_countQuery 26 = .ok (.aload_n 0, 1) := by decide +kernel
theorem dX4_countQuery_27 : decode cX4_countQuery 27 = .ok (.dup, 1) := by decide +kernel
theorem dX4_countQuery_28 : decode cX4_countQuery 28 = .ok (.getfield 164, 3) := by decide +kernel
theorem dX4_countQuery_31 : decode cX4_countQuery 31 = .ok (.aload_n 0, 1) := by decide +kernel
theorem dX4_countQuery_32 : decode cX4_countQuery 32 = .ok (.getfield 25, 3) := by decide +kernel
theorem dX4_countQuery_35 : decode cX4_countQuery 35 = .ok (.getfield 212, 3) := by decide +kernel
theorem dX4_countQuery_38 : decode cX4_countQuery 38 = .ok (.iadd, 1) := by decide +kernel
theorem dX4_countQuery_39 : decode cX4_countQuery 39 = .ok (.putfield 164, 3) := by decide +kernel
theorem dX4_countQuery_42 : decode cX4_countQuery 42 = .ok (.aload_n 0, 1) := by decide +kernel
theorem dX4_countQuery_43 : decode cX4_countQuery 43 = .ok (.getfield 25, 3) := by decide +kernel
theorem dX4_countQuery_46 : decode cX4_countQuery 46 = .ok (.getfield 133, 3) := by decide +kernel
theorem dX4_countQuery_49 : decode cX4_countQuery 49 = .ok (.ifCond .eq 13, 3) := by decide +kernel
theorem dX4_countQuery_52 : decode cX4_countQuery 52 = .ok (.aload_n 0, 1) := by decide +kernel
theorem dX4_countQuery_53 : decode cX4_countQuery 53 = .ok (.dup, 1) := by decide +kernel
theorem dX4_countQuery_54 : decode cX4_countQuery 54 = .ok (.getfield 167, 3) := by decide +kernel
theorem dX4_countQuery_57 : decode cX4_countQuery 57 = .ok (.iconst 1, 1) := by decide +kernel
theorem dX4_countQuery_58 : decode cX4_countQuery 58 = .ok (.iadd, 1) := by decide +kernel
theorem dX4_countQuery_59 : decode cX4_countQuery 59 = .ok (.putfield 167, 3) := by decide +kernel
theorem dX4_countQuery_62 : decode cX4_countQuery 62 = .ok (.iload_n 1, 1) := by decide +kernel
theorem dX4_countQuery_63 : decode cX4_countQuery 63 = .ok (.bipush (-2), 2) := by decide +kernel
theorem dX4_countQuery_65 : decode cX4_countQuery 65 = .ok (.if_icmp .ne 13, 3) := by decide +kernel
theorem dX4_countQuery_68 : decode cX4_countQuery 68 = .ok (.aload_n 0, 1) := by decide +kernel
theorem dX4_countQuery_69 : decode cX4_countQuery 69 = .ok (.dup, 1) := by decide +kernel
theorem dX4_countQuery_70 : decode cX4_countQuery 70 = .ok (.getfield 170, 3) := by decide +kernel
theorem dX4_countQuery_73 : decode cX4_countQuery 73 = .ok (.iconst 1, 1) := by decide +kernel
theorem dX4_countQuery_74 : decode cX4_countQuery 74 = .ok (.iadd, 1) := by decide +kernel
theorem dX4_countQuery_75 : decode cX4_countQuery 75 = .ok (.putfield 170, 3) := by decide +kernel
theorem dX4_countQuery_78 : decode cX4_countQuery 78 = .ok (.return_, 1) := by decide +kernel
theorem dX4_requireName_0 : decode cX4_requireName 0 = .ok (.iload_n 0, 1) := by decide +kernel
theorem dX4_requireName_1 : decode cX4_requireName 1 = .ok (.ifCond .lt 9, 3) := by decide +kernel
theorem dX4_requireName_4 : decode cX4_requireName 4 = .ok (.iload_n 0, 1) := by decide +kernel
theorem dX4_requireName_5 : decode cX4_requireName 5 = .ok (.bipush 16, 2) := by decide +kernel
theorem dX4_requireName_7 : decode cX4_requireName 7 = .ok (.if_icmp .lt 13, 3) := by decide +kernel
theorem dX4_requireName_10 : decode cX4_requireName 10 = .ok (.new 215, 3) := by decide +kernel
theorem dX4_requireName_13 : decode cX4_requireName 13 = .ok (.dup, 1) := by decide +kernel
theorem dX4_requireName_14 : decode cX4_requireName 14 = .ok (.ldc 217, 2) := by decide +kernel
theorem dX4_requireName_16 : decode cX4_requireName 16 = .ok (.invokespecial 219, 3) := by decide +kernel
theorem dX4_requireName_19 : decode cX4_requireName 19 = .ok (.athrow, 1) := by decide +kernel
theorem dX4_requireName_20 : decode cX4_requireName 20 = .ok (.return_, 1) := by decide +kernel
theorem dX4_requireWithin_0 : decode cX4_requireWithin 0 = .ok (.iload_n 0, 1) := by decide +kernel
theorem dX4_requireWithin_1 : decode cX4_requireWithin 1 = .ok (.iload_n 1, 1) := by decide +kernel
theorem dX4_requireWithin_2 : decode cX4_requireWithin 2 = .ok (.if_icmp .lt 8, 3) := by decide +kernel
theorem dX4_requireWithin_5 : decode cX4_requireWithin 5 = .ok (.iload_n 0, 1) := by decide +kernel
theorem dX4_requireWithin_6 : decode cX4_requireWithin 6 = .ok (.iload_n 2, 1) := by decide +kernel
theorem dX4_requireWithin_7 : decode cX4_requireWithin 7 = .ok (.if_icmp .le 13, 3) := by decide +kernel
theorem dX4_requireWithin_10 : decode cX4_requireWithin 10 = .ok (.new 55, 3) := by decide +kernel
theorem dX4_requireWithin_13 : decode cX4_requireWithin 13 = .ok (.dup, 1) := by decide +kernel
theorem dX4_requireWithin_14 : decode cX4_requireWithin 14 = .ok (.ldc 220, 2) := by decide +kernel
theorem dX4_requireWithin_16 : decode cX4_requireWithin 16 = .ok (.invokespecial 59, 3) := by decide +kernel
theorem dX4_requireWithin_19 : decode cX4_requireWithin 19 = .ok (.athrow, 1) := by decide +kernel
theorem dX4_requireWithin_20 : decode cX4_requireWithin 20 = .ok (.return_, 1) := by decide +kernel
theorem dX4_siteNumbered_0 : decode cX4_siteNumbered 0 = .ok (.iload_n 1, 1) := by decide +kernel
theorem dX4_siteNumbered_1 : decode cX4_siteNumbered 1 = .ok (.ifCond .lt 12, 3) := by decide +kernel
theorem dX4_siteNumbered_4 : decode cX4_siteNumbered 4 = .ok (.iload_n 1, 1) := by decide +kernel
theorem dX4_siteNumbered_5 : decode cX4_siteNumbered 5 = .ok (.aload_n 0, 1) := by decide +kernel
theorem dX4_siteNumbered_6 : decode cX4_siteNumbered 6 = .ok (.getfield 18, 3) := by decide +kernel
theorem dX4_siteNumbered_9 : decode cX4_siteNumbered 9 = .ok (.arraylength, 1) := by decide +kernel
theorem dX4_siteNumbered_10 : decode cX4_siteNumbered 10 = .ok (.if_icmp .lt 7, 3) := by decide +kernel
theorem dX4_siteNumbered_13 : decode cX4_siteNumbered 13 = .ok (.aconst_null, 1) := by decide +kernel
theorem dX4_siteNumbered_14 : decode cX4_siteNumbered 14 = .ok (.goto 9, 3) := by decide +kernel
theorem dX4_siteNumbered_17 : decode cX4_siteNumbered 17 = .ok (.aload_n 0, 1) := by decide +kernel
theorem dX4_siteNumbered_18 : decode cX4_siteNumbered 18 = .ok (.getfield 18, 3) := by decide +kernel
theorem dX4_siteNumbered_21 : decode cX4_siteNumbered 21 = .ok (.iload_n 1, 1) := by decide +kernel
theorem dX4_siteNumbered_22 : decode cX4_siteNumbered 22 = .ok (.aaload, 1) := by decide +kernel
theorem dX4_siteNumbered_23 : decode cX4_siteNumbered 23 = .ok (.astore_n 2, 1) := by decide +kernel
theorem dX4_siteNumbered_24 : decode cX4_siteNumbered 24 = .ok (.aload_n 2, 1) := by decide +kernel
theorem dX4_siteNumbered_25 : decode cX4_siteNumbered 25 = .ok (.ifnonnull 13, 3) := by decide +kernel
theorem dX4_siteNumbered_28 : decode cX4_siteNumbered 28 = .ok (.new 215, 3) := by decide +kernel
theorem dX4_siteNumbered_31 : decode cX4_siteNumbered 31 = .ok (.dup, 1) := by decide +kernel
theorem dX4_siteNumbered_32 : decode cX4_siteNumbered 32 = .ok (.ldc 222, 2) := by decide +kernel
theorem dX4_siteNumbered_34 : decode cX4_siteNumbered 34 = .ok (.invokespecial 219, 3) := by decide +kernel
theorem dX4_siteNumbered_37 : decode cX4_siteNumbered 37 = .ok (.athrow, 1) := by decide +kernel
theorem dX4_siteNumbered_38 : decode cX4_siteNumbered 38 = .ok (.aload_n 2, 1) := by decide +kernel
theorem dX4_siteNumbered_39 : decode cX4_siteNumbered 39 = .ok (.areturn, 1) := by decide +kernel
set_option maxRecDepth 20000 in
theorem ggX4_cacheAsked_X4_siteNumbered : GoodIn wsX4_cacheAsked wsX4_siteNumbered := goodIn_ca (goodIn_r _ [6, 7, 8, 9, 17, 18, 19, 20, 21, 22, 23, 24, 25, 26, 27, 28, 29] (by decide +kernel) (by decide +kernel)) (goodIn_sub (fun _ h => List.mem_cons_of_mem _ (List.mem_append_right _ h)) (by decide +kernel))
set_option maxRecDepth 20000 in
theorem gX4_cacheAsked_X4_siteNumbered : GoodIn wsX4_cacheAsked (wsV RX4 87 RX4 yX4_siteNumbered wsX4_siteNumbered) := goodIn_app (goodIn_of _ (by decide +kernel)) ggX4_cacheAsked_X4_siteNumbered
set_option maxRecDepth 20000 in
theorem ggX4_cacheAsked_X4_requireName : GoodIn wsX4_cacheAsked wsX4_requireName := goodIn_ca (goodIn_r _ [12, 7, 8] (by decide +kernel) (by decide +kernel)) (goodIn_sub (fun _ h => List.mem_cons_of_mem _ (List.mem_append_right _ h)) (by decide +kernel))
set_option maxRecDepth 20000 in
theorem gX4_cacheAsked_X4_requireName : GoodIn wsX4_cacheAsked (va_wsS RX4 43 yX4_requireName wsX4_requireName) := goodIn_app (goodIn_of _ (by decide +kernel)) ggX4_cacheAsked_X4_requireName
theorem dX4_cacheAsked_0 : decode cX4_cacheAsked 0 = .ok (.aload_n 0, 1) := by decide +kernel
theorem dX4_cacheAsked_1 : decode cX4_cacheAsked 1 = .ok (.iload_n 1, 1) := by decide +kernel
theorem dX4_cacheAsked_2 : decode cX4_cacheAsked 2 = .ok (.invokevirtual 87, 3) := by decide +kernel
theorem dX4_cacheAsked_5 : decode cX4_cacheAsked 5 = .ok (.astore_n 3, 1) := by decide +kernel
theorem dX4_cacheAsked_6 : decode cX4_cacheAsked 6 = .ok (.iload_n 2, 1) := by decide +kernel
theorem dX4_cacheAsked_7 : decode cX4_cacheAsked 7 = .ok (.invokestatic 43, 3) := by decide +kernel
theorem dX4_cacheAsked_10 : decode cX4_cacheAsked 10 = .ok (.aload_n 3, 1) := by decide +kernel
theorem dX4_cacheAsked_11 : decode cX4_cacheAsked 11 = .ok (.getfield 115, 3) := by decide +kernel
theorem dX4_cacheAsked_14 : decode cX4_cacheAsked 14 = .ok (.areturn, 1) := by decide +kernel
set_option maxRecDepth 20000 in
theorem ggX4_siteAsked_X4_requireName : GoodIn wsX4_siteAsked wsX4_requireName := goodIn_ca (goodIn_r _ [6, 7, 8] (by decide +kernel) (by decide +kernel)) (goodIn_sub (fun _ h => List.mem_cons_of_mem _ (List.mem_append_left _ (List.mem_append_right _ h))) (by decide +kernel))
set_option maxRecDepth 20000 in
theorem gX4_siteAsked_X4_requireName : GoodIn wsX4_siteAsked (va_wsS RX4 43 yX4_requireName wsX4_requireName) := goodIn_app (goodIn_of _ (by decide +kernel)) ggX4_siteAsked_X4_requireName
set_option maxRecDepth 20000 in
theorem ggX4_siteAsked_X4_requireWithin : GoodIn wsX4_siteAsked wsX4_requireWithin := goodIn_ca (goodIn_r _ [11, 12, 13] (by decide +kernel) (by decide +kernel)) (goodIn_sub (fun _ h => List.mem_cons_of_mem _ (List.mem_append_right _ h)) (by decide +kernel))
set_option maxRecDepth 20000 in
theorem gX4_siteAsked_X4_requireWithin : GoodIn wsX4_siteAsked (va_wsS RX4 47 yX4_requireWithin wsX4_requireWithin) := goodIn_app (goodIn_of _ (by decide +kernel)) ggX4_siteAsked_X4_requireWithin
set_option maxRecDepth 20000 in
theorem ggX4_siteAsked_X4_nearestSite : GoodIn wsX4_siteAsked wsX4_nearestSite := goodIn_r _ [17, 18, 19, 20, 21, 22, 23, 24, 25, 26, 27, 28, 29, 30, 31, 32, 33, 34, 35, 36, 37, 38, 39, 40, 41, 42, 43, 44, 45, 46] (by decide +kernel) (by decide +kernel)
set_option maxRecDepth 20000 in
theorem gX4_siteAsked_X4_nearestSite : GoodIn wsX4_siteAsked (wsV RX4 94 RX4 yX4_nearestSite wsX4_nearestSite) := goodIn_app (goodIn_of _ (by decide +kernel)) ggX4_siteAsked_X4_nearestSite
theorem dX4_siteAsked_0 : decode cX4_siteAsked 0 = .ok (.iload_n 2, 1) := by decide +kernel
theorem dX4_siteAsked_1 : decode cX4_siteAsked 1 = .ok (.invokestatic 43, 3) := by decide +kernel
theorem dX4_siteAsked_4 : decode cX4_siteAsked 4 = .ok (.iload_n 1, 1) := by decide +kernel
theorem dX4_siteAsked_5 : decode cX4_siteAsked 5 = .ok (.iconst 0, 1) := by decide +kernel
theorem dX4_siteAsked_6 : decode cX4_siteAsked 6 = .ok (.bipush 99, 2) := by decide +kernel
theorem dX4_siteAsked_8 : decode cX4_siteAsked 8 = .ok (.invokestatic 47, 3) := by decide +kernel
theorem dX4_siteAsked_11 : decode cX4_siteAsked 11 = .ok (.aload_n 0, 1) := by decide +kernel
theorem dX4_siteAsked_12 : decode cX4_siteAsked 12 = .ok (.iload_n 1, 1) := by decide +kernel
theorem dX4_siteAsked_13 : decode cX4_siteAsked 13 = .ok (.invokevirtual 94, 3) := by decide +kernel
theorem dX4_siteAsked_16 : decode cX4_siteAsked 16 = .ok (.astore_n 3, 1) := by decide +kernel
theorem dX4_siteAsked_17 : decode cX4_siteAsked 17 = .ok (.aload_n 3, 1) := by decide +kernel
theorem dX4_siteAsked_18 : decode cX4_siteAsked 18 = .ok (.ifnonnull 13, 3) := by decide +kernel
theorem dX4_siteAsked_21 : decode cX4_siteAsked 21 = .ok (.new 79, 3) := by decide +kernel
theorem dX4_siteAsked_24 : decode cX4_siteAsked 24 = .ok (.dup, 1) := by decide +kernel
theorem dX4_siteAsked_25 : decode cX4_siteAsked 25 = .ok (.ldc 224, 2) := by decide +kernel
theorem dX4_siteAsked_27 : decode cX4_siteAsked 27 = .ok (.invokespecial 83, 3) := by decide +kernel
theorem dX4_siteAsked_30 : decode cX4_siteAsked 30 = .ok (.athrow, 1) := by decide +kernel
theorem dX4_siteAsked_31 : decode cX4_siteAsked 31 = .ok (.aload_n 3, 1) := by decide +kernel
theorem dX4_siteAsked_32 : decode cX4_siteAsked 32 = .ok (.areturn, 1) := by decide +kernel
set_option maxRecDepth 20000 in
theorem ggX4_nearestSite_X2_distanceTo : GoodIn wsX4_nearestSite wsX2_distanceTo := goodIn_r _ [7, 8, 9, 10, 11, 12, 26, 27, 28, 29] (by decide +kernel) (by decide +kernel)
set_option maxRecDepth 20000 in
theorem gX4_nearestSite_X2_distanceTo : GoodIn wsX4_nearestSite (wsV RX4 226 RX2 yX2_distanceTo wsX2_distanceTo) := goodIn_app (goodIn_of _ (by decide +kernel)) ggX4_nearestSite_X2_distanceTo
theorem dX4_nearestSite_0 : decode cX4_nearestSite 0 = .ok (.aconst_null, 1) := by decide +kernel
theorem dX4_nearestSite_1 : decode cX4_nearestSite 1 = .ok (.astore_n 2, 1) := by decide +kernel
theorem dX4_nearestSite_2 : decode cX4_nearestSite 2 = .ok (.aload_n 0, 1) := by decide +kernel
theorem dX4_nearestSite_3 : decode cX4_nearestSite 3 = .ok (.getfield 18, 3) := by decide +kernel
theorem dX4_nearestSite_6 : decode cX4_nearestSite 6 = .ok (.astore_n 3, 1) := by decide +kernel
theorem dX4_nearestSite_7 : decode cX4_nearestSite 7 = .ok (.aload_n 3, 1) := by decide +kernel
theorem dX4_nearestSite_8 : decode cX4_nearestSite 8 = .ok (.arraylength, 1) := by decide +kernel
theorem dX4_nearestSite_9 : decode cX4_nearestSite 9 = .ok (.istore 4, 2) := by decide +kernel
theorem dX4_nearestSite_11 : decode cX4_nearestSite 11 = .ok (.iconst 0, 1) := by decide +kernel
theorem dX4_nearestSite_12 : decode cX4_nearestSite 12 = .ok (.istore 5, 2) := by decide +kernel
theorem dX4_nearestSite_14 : decode cX4_nearestSite 14 = .ok (.iload 5, 2) := by decide +kernel
theorem dX4_nearestSite_16 : decode cX4_nearestSite 16 = .ok (.iload 4, 2) := by decide +kernel
theorem dX4_nearestSite_18 : decode cX4_nearestSite 18 = .ok (.if_icmp .ge 52, 3) := by decide +kernel
theorem dX4_nearestSite_21 : decode cX4_nearestSite 21 = .ok (.aload_n 3, 1) := by decide +kernel
theorem dX4_nearestSite_22 : decode cX4_nearestSite 22 = .ok (.iload 5, 2) := by decide +kernel
theorem dX4_nearestSite_24 : decode cX4_nearestSite 24 = .ok (.aaload, 1) := by decide +kernel
theorem dX4_nearestSite_25 : decode cX4_nearestSite 25 = .ok (.astore 6, 2) := by decide +kernel
theorem dX4_nearestSite_27 : decode cX4_nearestSite 27 = .ok (.aload 6, 2) := by decide +kernel
theorem dX4_nearestSite_29 : decode cX4_nearestSite 29 = .ok (.ifnull 35, 3) := by decide +kernel
theorem dX4_nearestSite_32 : decode cX4_nearestSite 32 = .ok (.aload 6, 2) := by decide +kernel
theorem dX4_nearestSite_34 : decode cX4_nearestSite 34 = .ok (.getfield 91, 3) := by decide +kernel
theorem dX4_nearestSite_37 : decode cX4_nearestSite 37 = .ok (.ifCond .ne 6, 3) := by decide +kernel
theorem dX4_nearestSite_40 : decode cX4_nearestSite 40 = .ok (.goto 24, 3) := by decide +kernel
theorem dX4_nearestSite_43 : decode cX4_nearestSite 43 = .ok (.aload_n 2, 1) := by decide +kernel
theorem dX4_nearestSite_44 : decode cX4_nearestSite 44 = .ok (.ifnull 17, 3) := by decide +kernel
theorem dX4_nearestSite_47 : decode cX4_nearestSite 47 = .ok (.aload 6, 2) := by decide +kernel
theorem dX4_nearestSite_49 : decode cX4_nearestSite 49 = .ok (.iload_n 1, 1) := by decide +kernel
theorem dX4_nearestSite_50 : decode cX4_nearestSite 50 = .ok (.invokevirtual 226, 3) := by decide +kernel
theorem dX4_nearestSite_53 : decode cX4_nearestSite 53 = .ok (.aload_n 2, 1) := by decide +kernel
theorem dX4_nearestSite_54 : decode cX4_nearestSite 54 = .ok (.iload_n 1, 1) := by decide +kernel
theorem dX4_nearestSite_55 : decode cX4_nearestSite 55 = .ok (.invokevirtual 226, 3) := by decide +kernel
theorem dX4_nearestSite_58 : decode cX4_nearestSite 58 = .ok (.if_icmp .ge 6, 3) := by decide +kernel
theorem dX4_nearestSite_61 : decode cX4_nearestSite 61 = .ok (.aload 6, 2) := by decide +kernel
theorem dX4_nearestSite_63 : decode cX4_nearestSite 63 = .ok (.astore_n 2, 1) := by decide +kernel
theorem dX4_nearestSite_64 : decode cX4_nearestSite 64 = .ok (.iinc 5 1, 3) := by decide +kernel
theorem dX4_nearestSite_67 : decode cX4_nearestSite 67 = .ok (.goto (-53), 3) := by decide +kernel
theorem dX4_nearestSite_70 : decode cX4_nearestSite 70 = .ok (.aload_n 2, 1) := by decide +kernel
theorem dX4_nearestSite_71 : decode cX4_nearestSite 71 = .ok (.areturn, 1) := by decide +kernel
theorem dJ9_abs_0f7a4_0 : decode cJ9_abs_0f7a4 0 = .ok (.iload_n 0, 1) := by decide +kernel
theorem dJ9_abs_0f7a4_1 : decode cJ9_abs_0f7a4 1 = .ok (.ifCond .ge 8, 3) := by decide +kernel
theorem dJ9_abs_0f7a4_4 : decode cJ9_abs_0f7a4 4 = .ok (.iload_n 0, 1) := by decide +kernel
theorem dJ9_abs_0f7a4_5 : decode cJ9_abs_0f7a4 5 = .ok (.ineg, 1) := by decide +kernel
theorem dJ9_abs_0f7a4_6 : decode cJ9_abs_0f7a4 6 = .ok (.goto 4, 3) := by decide +kernel
theorem dJ9_abs_0f7a4_9 : decode cJ9_abs_0f7a4 9 = .ok (.iload_n 0, 1) := by decide +kernel
theorem dJ9_abs_0f7a4_10 : decode cJ9_abs_0f7a4 10 = .ok (.ireturn, 1) := by decide +kernel
theorem dJ7_fill_53178_0 : decode cJ7_fill_53178 0 = .ok (.iconst 0, 1) := by decide +kernel
theorem dJ7_fill_53178_1 : decode cJ7_fill_53178 1 = .ok (.istore_n 2, 1) := by decide +kernel
theorem dJ7_fill_53178_2 : decode cJ7_fill_53178 2 = .ok (.aload_n 0, 1) := by decide +kernel
theorem dJ7_fill_53178_3 : decode cJ7_fill_53178 3 = .ok (.arraylength, 1) := by decide +kernel
theorem dJ7_fill_53178_4 : decode cJ7_fill_53178 4 = .ok (.istore_n 3, 1) := by decide +kernel
theorem dJ7_fill_53178_5 : decode cJ7_fill_53178 5 = .ok (.iload_n 2, 1) := by decide +kernel
theorem dJ7_fill_53178_6 : decode cJ7_fill_53178 6 = .ok (.iload_n 3, 1) := by decide +kernel
theorem dJ7_fill_53178_7 : decode cJ7_fill_53178 7 = .ok (.if_icmp .ge 13, 3) := by decide +kernel
theorem dJ7_fill_53178_10 : decode cJ7_fill_53178 10 = .ok (.aload_n 0, 1) := by decide +kernel
theorem dJ7_fill_53178_11 : decode cJ7_fill_53178 11 = .ok (.iload_n 2, 1) := by decide +kernel
theorem dJ7_fill_53178_12 : decode cJ7_fill_53178 12 = .ok (.iload_n 1, 1) := by decide +kernel
theorem dJ7_fill_53178_13 : decode cJ7_fill_53178 13 = .ok (.iastore, 1) := by decide +kernel
theorem dJ7_fill_53178_14 : decode cJ7_fill_53178 14 = .ok (.iinc 2 1, 3) := by decide +kernel
theorem dJ7_fill_53178_17 : decode cJ7_fill_53178 17 = .ok (.goto (-12), 3) := by decide +kernel
theorem dJ7_fill_53178_20 : decode cJ7_fill_53178 20 = .ok (.return_, 1) := by decide +kernel
end
section
/-! THE LAYER: one judgement 'zW' over a world that is a list of blocks of cells; rows a kind of instruction; contracts 'zMet' (returns or throws, the blocks in the same order before and behind). -/
abbrev zK : Type := va_G × (ClassId × ClassId × ClassId × ClassId)
abbrev zI (K : zK) : ClassId := K.2.1
abbrev zZ (K : zK) : ClassId := K.2.2.1
abbrev zS (K : zK) : ClassId := K.2.2.2.1
abbrev zJ (K : zK) : ClassId := K.2.2.2.2
abbrev zty (K : zK) : List (ClassId × FieldType) := [(zI K, .int), (zI K, .int), (zS K, .object "ResolverFleet$Site"), (zI K, .int)]
abbrev zB : Type := List va_W
-- worlds as sets of cells
theorem z_P {D : va_G} {cl : List vw_C} {ws : va_W} {H : Heap} : va_P D cl ws H ↔ ∀ q ∈ ws, va_at D cl q H :=
  ⟨fun h q hq => by obtain ⟨i, hi⟩ := List.mem_iff_getElem?.mp hq; exact h i q hi, fun h k q hk => h q (List.mem_of_getElem? hk)⟩
theorem z_D {A : Nat → Prop} {ws : va_W} : va_D A ws ↔ (ws.map Prod.fst).Nodup ∧ ∀ q ∈ ws, A q.1 := by
  constructor
  · intro h
    refine ⟨?_, fun q hq => by obtain ⟨i, hi⟩ := List.mem_iff_getElem?.mp hq; exact h.2 i q hi⟩
    rw [List.nodup_iff_pairwise_ne, List.pairwise_iff_getElem]
    intro i j hi hj hij he
    rw [List.getElem_map, List.getElem_map] at he
    have := h.1 i j _ _ (List.getElem?_eq_getElem (by simpa using hi)) (List.getElem?_eq_getElem (by simpa using hj)) he
    omega
  · intro h
    refine ⟨fun i j p q hi hj hpq => ?_, fun k q hk => h.2 q (List.mem_of_getElem? hk)⟩
    have hl : i < (ws.map Prod.fst).length := by
      rw [List.length_map]; exact (List.getElem?_eq_some_iff.mp hi).1
    refine (List.getElem?_inj hl h.1).mp ?_
    rw [List.getElem?_map, List.getElem?_map, hi, hj]
    exact congrArg some hpq
theorem z_Pp {D : va_G} {cl : List vw_C} {ws ws' : va_W} {H : Heap} (hp : ws.Perm ws') (h : va_P D cl ws H) : va_P D cl ws' H := z_P.mpr fun q hq => z_P.mp h q (hp.mem_iff.mpr hq)
theorem z_Dp {A : Nat → Prop} {ws ws' : va_W} (hp : ws.Perm ws') (h : va_D A ws) : va_D A ws' := by
  have h1 := z_D.mp h
  exact z_D.mpr ⟨(hp.map Prod.fst).nodup_iff.mp h1.1, fun q hq => h1.2 q (hp.mem_iff.mpr hq)⟩
theorem z_A {ws : va_W} {sz q : Nat} : va_A ws sz q ↔ (∃ e : va_E, (q, e) ∈ ws) ∨ sz ≤ q := by
  constructor
  · rintro (⟨k, e, h⟩ | h)
    · exact Or.inl ⟨e, List.mem_of_getElem? h⟩
    · exact Or.inr h
  · rintro (⟨e, h⟩ | h)
    · obtain ⟨k, hk⟩ := List.mem_iff_getElem?.mp h
      exact Or.inl ⟨k, e, hk⟩
    · exact Or.inr h
theorem z_take {α : Type} (l : List α) : ∀ n, (List.range n).filterMap (fun i => l[i]?) = l.take n
  | 0 => rfl
  | n + 1 => by
    rw [List.range_succ, List.filterMap_append, z_take l n, List.take_succ]
    congr 1
theorem z_pm {bs bs' : zB} (is : List Nat) (hp : is.isPerm (List.range bs.length) = true) (hs : is.filterMap (fun i => bs[i]?) = bs') : bs.flatten.Perm bs'.flatten := by
  have h1 : is.Perm (List.range bs.length) := List.isPerm_iff.mp hp
  have h2 := h1.filterMap (fun i => bs[i]?)
  rw [z_take, List.take_length, hs] at h2
  exact h2.symm.flatten
theorem z_fl : ∀ (bs : zB) (q j : Nat) (b : va_W) (x y : Nat × va_E), bs[q]? = some b → b[j]? = some x → ∃ P : Nat, bs.flatten[P]? = some x ∧ (bs.set q (b.set j y)).flatten = bs.flatten.set P y
  | [], q, j, b, x, y, h, _ => by simp at h
  | c :: t, 0, j, b, x, y, h, hj => by
    rw [List.getElem?_cons_zero] at h
    cases h
    have hl := (List.getElem?_eq_some_iff.mp hj).1
    refine ⟨j, ?_, ?_⟩
    · rw [List.flatten_cons, List.getElem?_append_left hl]; exact hj
    · rw [List.set_cons_zero, List.flatten_cons, List.flatten_cons, List.set_append_left _ _ hl]
  | c :: t, q + 1, j, b, x, y, h, hj => by
    rw [List.getElem?_cons_succ] at h
    obtain ⟨P, h1, h2⟩ := z_fl t q j b x y h hj
    refine ⟨c.length + P, ?_, ?_⟩
    · rw [List.flatten_cons, List.getElem?_append_right (Nat.le_add_right _ _), Nat.add_sub_cancel_left]; exact h1
    · rw [List.set_cons_succ, List.flatten_cons, List.flatten_cons, List.set_append_right _ _ (Nat.le_add_right _ _), Nat.add_sub_cancel_left, h2]
theorem z_at {bs : zB} {q j : Nat} {b : va_W} {x : Nat × va_E} (h : bs[q]? = some b) (hj : b[j]? = some x) : ∃ P : Nat, bs.flatten[P]? = some x := by
  obtain ⟨P, h1, -⟩ := z_fl bs q j b x x h hj
  exact ⟨P, h1⟩
-- what throwing needs of the start: the two statics of Throwable, the texts, which exceptions are no others
def zE1 : String := "java/lang/IndexOutOfBoundsException"
def zE2 : String := "java/lang/IllegalArgumentException"
def zE3 : String := "java/lang/IllegalStateException"
def zTx : List (Nat × String) := [(217, "there is no such name"), (220, "an argument is out of its range"), (57, "a name is no alias for itself"), (81, "there is no room for another site"), (222, "there is no such site"), (224, "no site is announced"), (150, "there is no entry for this name")]
def zNw : List Cond := [.castable zE1 zE1, .castable zE2 zE2, .castable zE3 zE3, .declares (Bundle.initS "java/lang/RuntimeException"), .declares (Bundle.initS "java/lang/Exception"), .declares (Bundle.initS Bundle.tN)]
theorem zNw_warm {w : Cond} {s U : State} (hw : w ∈ zNw) (hW : s.WarmedH U.vm) (h : va_Nw w s) : va_Nw w U := by
  simp only [zNw, List.mem_cons, List.not_mem_nil, or_false] at hw
  rcases hw with rfl | rfl | rfl | rfl | rfl | rfl
  · exact va_Nw.warmC hW h
  · exact va_Nw.warmC hW h
  · exact va_Nw.warmC hW h
  · exact va_Nw.warmD hW h
  · exact va_Nw.warmD hW h
  · exact va_Nw.warmD hW h
theorem zNw_tab {w : Cond} (hw : w ∈ zNw) : w.onTables = true := by
  simp only [zNw, List.mem_cons, List.not_mem_nil, or_false] at hw
  rcases hw with rfl | rfl | rfl | rfl | rfl | rfl <;> rfl
def zT (A : Nat → Prop) (U : State) (H : Heap) : Prop := vx_Zq Bundle.tN "UNASSIGNED_STACK" Bundle.steD A U H ∧ vx_Zq Bundle.tN "SUPPRESSED_SENTINEL" Bundle.listD A U H ∧ (∀ t ∈ zTx, ∃ sa : Nat, vk_R RX4 t.1 t.2 sa U) ∧ va_Nc zE2 zE1 U ∧ va_Nc zE3 zE1 U ∧ va_Nc zE3 zE2 U ∧ va_AO RX2 U ∧ ∀ w ∈ zNw, va_Nw w U
theorem zT.to {A B : Nat → Prop} {s U : State} {H : Heap} {locs : List Loc} (h : zT A s s.heap) (hS : va_S A s.heap H locs) (hU : U.heap = H) (hW : s.WarmedH U.vm) (hAB : ∀ q, B q → A q) : zT B U U.heap := by
  obtain ⟨h1, h2, h3, h4, h5, h6, h7, h8⟩ := h
  subst hU
  exact ⟨vx_Zq.moved hW.alike ((h1.kept hS.2.1).narrow hAB), vx_Zq.moved hW.alike ((h2.kept hS.2.1).narrow hAB), fun t ht => by obtain ⟨sa, hsa⟩ := h3 t ht; exact ⟨sa, vk_R.warm hW hsa⟩, va_Nc.moved hW.alike h4, va_Nc.moved hW.alike h5, va_Nc.moved hW.alike h6, va_AO.moved hW.alike h7, fun w hw => zNw_warm hw hW (h8 w hw)⟩
theorem zT.same {A : Nat → Prop} {u U : State} {H : Heap} (hv : U.vm = u.vm) (h : zT A u H) : zT A U H := by
  obtain ⟨h1, h2, h3, h4, h5, h6, h7, h8⟩ := h
  have ha : u.vm.Alike U.vm := by rw [hv]; exact Vm.Alike.refl _
  exact ⟨vx_Zq.moved ha h1, vx_Zq.moved ha h2, fun t ht => by obtain ⟨sa, hsa⟩ := h3 t ht; exact ⟨sa, vk_R.same hv hsa⟩, va_Nc.moved ha h4, va_Nc.moved ha h5, va_Nc.moved ha h6, va_AO.moved ha h7, fun w hw => va_tabs (zNw_tab hw) hv.symm (h8 w hw)⟩
-- contracts
def zPre (K : zK) (as : List Value) (bs : zB) (sz : Nat) : Array Value → State → Prop := va_Pc as (fun U => U.heap.size = sz ∧ va_P K.1 vwCl bs.flatten U.heap ∧ va_K K.1 vwCl (zty K) U ∧ va_D (fun _ => True) bs.flatten ∧ zT (va_A bs.flatten sz) U U.heap)
def zQ (K : zK) (A : Nat → Prop) {S : Type} (f : S → Option Value × zB) (post : S → Prop) : Array Value → State → Outcome → State → Prop := fun _ st oc t => (∃ u : S, oc = .returned (f u).1 ∧ post u ∧ va_P K.1 vwCl (f u).2.flatten t.heap ∧ va_D A (f u).2.flatten) ∧ va_F A st t
def zX (K : zK) (A : Nat → Prop) (bs : zB) (xc : String → Prop) : String → State → State → Prop := fun E st t => xc E ∧ va_P K.1 vwCl bs.flatten t.heap ∧ va_D A bs.flatten ∧ va_F A st t
/-- the method returns, with some u, or throws an E with xc E and changes nothing -/
def zMeN (l : Launch) (K : zK) (y : MethodName) (Ts : List Cond) (rm : Room) (as : List Value) (bs : zB) {S : Type} (f : S → Option Value × zB) (post : S → Prop) (xc : String → Prop) : Prop :=
  ∀ sz : Nat, vx_Met l y Ts rm (zPre K as bs sz) (zQ K (va_A bs.flatten sz) f post) (zX K (va_A bs.flatten sz) bs xc) rm.cells rm.slots (va_A bs.flatten sz)
/-- with one end: the answer r, the blocks w, if cond -/
def zMet (l : Launch) (K : zK) (y : MethodName) (Ts : List Cond) (rm : Room) (as : List Value) (bs : zB) (r : Option Value) (w : zB) (cond : Prop) (xc : String → Prop) : Prop :=
  zMeN l K y Ts rm as bs (fun _ : Unit => (r, w)) (fun _ => cond) xc
def zNo : String → Prop := fun _ => False
theorem zPre.blind {K : zK} {as : List Value} {bs : zB} {sz : Nat} : FrameBlind (zPre K as bs sz) := by
  intro a U g mk h
  obtain ⟨h1, h2, h3, h4, h5, h6⟩ := h
  exact ⟨h1, h2, h3, va_K.moved (u := U) (U := U.calling g mk a) (Vm.Alike.refl U.vm) h4, h5, zT.same (u := U) (U := U.calling g mk a) rfl h6⟩
/-- what a walk knows of its method -/
def zF (K : zK) (p : Program) (l : Launch) (s : State) (m : MethodId) (args : Array Value) (meth : Method) (c : Code) (A : Nat → Prop) (cc : ByteArray) (nL : Nat) (own nm : String) (Ts : List Cond) (ret : Option FieldType) (tb : List ExceptionTableEntry) : Prop :=
  CallFix p m c cc nL s args Ts own ∧ va_K K.1 vwCl (zty K) s ∧ (∀ q, s.heap.size ≤ q → A q) ∧ meth.locks = false ∧ meth.sig.returnType = ret ∧ meth.name = nm ∧ c.exceptionTable.toList = tb ∧ l.stackTraces = false ∧ zT A s s.heap
def zW (K : zK) (p : Program) (l : Launch) (e : Env) (R : Room) (s : State) (m : MethodId) (args : Array Value) (below : List Frame) (meth : Method) (c : Code) (A : Nat → Prop) (Q : State → Prop) (k n : Nat) (bs : zB) (lv : List (Nat × Value)) (st : List Value) (pc : Nat) : Prop :=
  ∀ (H : Heap) (locs : List Loc) (ls : Array Slot), va_P K.1 vwCl bs.flatten H → va_D A bs.flatten → va_S A s.heap H locs → lv_has ls c.maxLocals lv → W p l e R s m args below meth c H locs k n Q (F0 m pc ls st)
/-- the same with an E thrown there -/
def zXW (K : zK) (p : Program) (l : Launch) (e : Env) (R : Room) (s : State) (m : MethodId) (args : Array Value) (below : List Frame) (meth : Method) (c : Code) (A : Nat → Prop) (Q : State → Prop) (k n : Nat) (bs : zB) (lv : List (Nat × Value)) (st : List Value) (pc : Nat) (E : String) : Prop :=
  ∀ (H : Heap) (locs : List Loc) (ls : Array Slot) (q : Addr) (ce : Cell), va_P K.1 vwCl bs.flatten H → va_D A bs.flatten → va_S A s.heap H locs → lv_has ls c.maxLocals lv → H[q]? = some ce → ce.vm = .none → s.vm.findClass E = some ce.cls → vx_W p l e R s m args below meth c H locs k n Q (F0 m pc ls st) q
theorem zMeN.of {l : Launch} {K : zK} {y : MethodName} {Ts ws' : List Cond} {rm : Room} {as : List Value} {bs : zB} {S : Type} {f : S → Option Value × zB} {post : S → Prop} {xc : String → Prop} {cc : ByteArray} {maxL : Nat} {ret : Option FieldType} {own nm : String} {lv : List (Nat × Value)} (hl : l.stackTraces = false)
    (hy : plainName y.cls = true) (hw : Ts = Cond.code y cc maxL ret :: ws') (ho : y.cls = own) (hn : y.name = nm) (hnl : (lg_sl as).length ≤ maxL) (hlv : lv_args 0 as = lv)
    (body : ∀ (p : Program) (e : Env) (s : State) (m : MethodId) (args : Array Value) (below : List Frame) (meth : Method) (c : Code) (A : Nat → Prop), zF K p l s m args meth c A cc maxL own nm Ts ret [] →
      zW K p l e rm s m args below meth c A (vx_MQ below (zQ K A f post) (zX K A bs xc) args s rm.cells rm.slots A) 0 0 bs lv [] 0) : zMeN l K y Ts rm as bs f post xc := by
  intro sz
  refine vx_ofW (cc := cc) (maxL := maxL) (ret := ret) hy hw ?_
  intro p e s m args below meth c s₁ B hml htb hv
  obtain ⟨rfl, rfl, hP, hK, hD, hT⟩ := hv
  subst ho hn hlv
  have hown : s.vm.findClass y.cls = some m.cls := findClass_of_methodNamed B.named
  have htb' : c.exceptionTable.toList = [] := List.eq_nil_iff_forall_not_mem.mpr fun x hx => htb x hx
  have hl9 := lv_entry as (n := maxL) hnl
  rw [lg_entry_eq]
  exact body p e s m as.toArray below meth c (va_A bs.flatten s.heap.size) ⟨⟨B.exec, B.bytes, hml, hown, atoms_spec (ws := Ts) B.pre⟩, hK, fun q h => Or.inr h, B.notSynchronized, B.returns, (name_of_methodNamed B.named B.method).1, htb', hl, hT⟩ s.heap [] _ hP hD.self va_S.rf (by rw [hml]; exact hl9)
theorem zMeN.ofH {l : Launch} {K : zK} {y : MethodName} {Ts ws' : List Cond} {rm : Room} {as : List Value} {bs : zB} {S : Type} {f : S → Option Value × zB} {post : S → Prop} {xc : String → Prop} {cc : ByteArray} {maxL : Nat} {ret : Option FieldType} {own nm : String} {lv : List (Nat × Value)} {hh : List (Nat × Nat × Nat × Nat)} (hl : l.stackTraces = false)
    (hy : plainName y.cls = true) (hw : Ts = Cond.codeWith y cc maxL ret hh :: ws') (ho : y.cls = own) (hn : y.name = nm) (hnl : (lg_sl as).length ≤ maxL) (hlv : lv_args 0 as = lv)
    (body : ∀ (p : Program) (e : Env) (s : State) (m : MethodId) (args : Array Value) (below : List Frame) (meth : Method) (c : Code) (A : Nat → Prop), zF K p l s m args meth c A cc maxL own nm Ts ret (tableOf hh) →
      zW K p l e rm s m args below meth c A (vx_MQ below (zQ K A f post) (zX K A bs xc) args s rm.cells rm.slots A) 0 0 bs lv [] 0) : zMeN l K y Ts rm as bs f post xc := by
  intro sz
  refine vx_ofWH (cc := cc) (maxL := maxL) (ret := ret) (hh := hh) hy hw ?_
  intro p e s m args below meth c s₁ B hml hv
  obtain ⟨rfl, rfl, hP, hK, hD, hT⟩ := hv
  subst ho hn hlv
  have hown : s.vm.findClass y.cls = some m.cls := findClass_of_methodNamed B.named
  have hts := atoms_spec (ws := Ts) B.pre
  have htb' : c.exceptionTable.toList = tableOf hh := vx_table (x := y) B (hts _ (by rw [hw]; exact List.mem_cons_self))
  have hl9 := lv_entry as (n := maxL) hnl
  rw [lg_entry_eq]
  exact body p e s m as.toArray below meth c (va_A bs.flatten s.heap.size) ⟨⟨B.exec, B.bytes, hml, hown, hts⟩, hK, fun q h => Or.inr h, B.notSynchronized, B.returns, (name_of_methodNamed B.named B.method).1, htb', hl, hT⟩ s.heap [] _ hP hD.self va_S.rf (by rw [hml]; exact hl9)
section ZR
variable {K : zK} {p : Program} {l : Launch} {e : Env} {R : Room} {s : State} {m : MethodId} {args : Array Value} {below : List Frame} {meth : Method} {c : Code} {A : Nat → Prop} {Q : State → Prop} {k n : Nat} {bs : zB} {lv : List (Nat × Value)} {st : List Value} {pc : Nat}
variable {cc : ByteArray} {nL : Nat} {own nm : String} {Ts : List Cond} {ret : Option FieldType} {tb : List ExceptionTableEntry}
theorem z_iconst (B : zF K p l s m args meth c A cc nL own nm Ts ret tb) {i : Int} {v : Int32} (d : decode cc pc = .ok (.iconst i, 1)) (hv : Int32.ofInt i = v) (kk : zW K p l e R s m args below meth c A Q k n bs lv (.int v :: st) (pc + 1)) : zW K p l e R s m args below meth c A Q k n bs lv st pc :=
  fun H locs ls hP hD hS h => lv_iconst B.1.1 B.1.2.1 d hv (kk H locs ls hP hD hS h)
theorem z_bipush (B : zF K p l s m args meth c A cc nL own nm Ts ret tb) {i : Int} {v : Int32} (d : decode cc pc = .ok (.bipush i, 2)) (hv : (Int8.ofInt i).toInt32 = v) (kk : zW K p l e R s m args below meth c A Q k n bs lv (.int v :: st) (pc + 2)) : zW K p l e R s m args below meth c A Q k n bs lv st pc :=
  fun H locs ls hP hD hS h => lv_bipush B.1.1 B.1.2.1 d hv (kk H locs ls hP hD hS h)
theorem z_sipush (B : zF K p l s m args meth c A cc nL own nm Ts ret tb) {i : Int} {v : Int32} (d : decode cc pc = .ok (.sipush i, 3)) (hv : (Int16.ofInt i).toInt32 = v) (kk : zW K p l e R s m args below meth c A Q k n bs lv (.int v :: st) (pc + 3)) : zW K p l e R s m args below meth c A Q k n bs lv st pc :=
  fun H locs ls hP hD hS h => lv_sipush B.1.1 B.1.2.1 d hv (kk H locs ls hP hD hS h)
theorem z_lconst (B : zF K p l s m args meth c A cc nL own nm Ts ret tb) {i : Fin 2} {v : Int64} (d : decode cc pc = .ok (.lconst i, 1)) (hv : Int64.ofNat (i : Nat) = v) (kk : zW K p l e R s m args below meth c A Q k n bs lv (.long v :: st) (pc + 1)) : zW K p l e R s m args below meth c A Q k n bs lv st pc :=
  fun H locs ls hP hD hS h => lv_lconst B.1.1 B.1.2.1 d hv (kk H locs ls hP hD hS h)
theorem z_null (B : zF K p l s m args meth c A cc nL own nm Ts ret tb) (d : decode cc pc = .ok (.aconst_null, 1)) (kk : zW K p l e R s m args below meth c A Q k n bs lv (.null :: st) (pc + 1)) : zW K p l e R s m args below meth c A Q k n bs lv st pc :=
  fun H locs ls hP hD hS h => lv_null B.1.1 B.1.2.1 d (kk H locs ls hP hD hS h)
theorem z_iload_n (B : zF K p l s m args meth c A cc nL own nm Ts ret tb) {i : Fin 4} {x : Int32} (d : decode cc pc = .ok (.iload_n i, 1)) (j : Nat) (hj : lv[j]? = some ((i : Nat), .int x)) (kk : zW K p l e R s m args below meth c A Q k n bs lv (.int x :: st) (pc + 1)) : zW K p l e R s m args below meth c A Q k n bs lv st pc :=
  fun H locs ls hP hD hS h => lv_iload_n B.1.1 B.1.2.1 d rfl (lv_at h j hj) (kk H locs ls hP hD hS h)
theorem z_iload (B : zF K p l s m args meth c A cc nL own nm Ts ret tb) {i : Nat} {x : Int32} (d : decode cc pc = .ok (.iload i, 2)) (j : Nat) (hj : lv[j]? = some (i, .int x)) (kk : zW K p l e R s m args below meth c A Q k n bs lv (.int x :: st) (pc + 2)) : zW K p l e R s m args below meth c A Q k n bs lv st pc :=
  fun H locs ls hP hD hS h => lv_iload B.1.1 B.1.2.1 d (lv_at h j hj) (kk H locs ls hP hD hS h)
theorem z_aload_n (B : zF K p l s m args meth c A cc nL own nm Ts ret tb) {i : Fin 4} {x : Nat} (d : decode cc pc = .ok (.aload_n i, 1)) (j : Nat) (hj : lv[j]? = some ((i : Nat), .ref x)) (kk : zW K p l e R s m args below meth c A Q k n bs lv (.ref x :: st) (pc + 1)) : zW K p l e R s m args below meth c A Q k n bs lv st pc :=
  fun H locs ls hP hD hS h => lv_aload_n B.1.1 B.1.2.1 d rfl (lv_at h j hj) (kk H locs ls hP hD hS h)
theorem z_aload (B : zF K p l s m args meth c A cc nL own nm Ts ret tb) {i : Nat} {x : Nat} (d : decode cc pc = .ok (.aload i, 2)) (j : Nat) (hj : lv[j]? = some (i, .ref x)) (kk : zW K p l e R s m args below meth c A Q k n bs lv (.ref x :: st) (pc + 2)) : zW K p l e R s m args below meth c A Q k n bs lv st pc :=
  fun H locs ls hP hD hS h => lv_aload B.1.1 B.1.2.1 d (lv_at h j hj) (kk H locs ls hP hD hS h)
theorem z_aload_nN (B : zF K p l s m args meth c A cc nL own nm Ts ret tb) {i : Fin 4} (d : decode cc pc = .ok (.aload_n i, 1)) (j : Nat) (hj : lv[j]? = some ((i : Nat), .null)) (kk : zW K p l e R s m args below meth c A Q k n bs lv (.null :: st) (pc + 1)) : zW K p l e R s m args below meth c A Q k n bs lv st pc :=
  fun H locs ls hP hD hS h => lv_aload_nN B.1.1 B.1.2.1 d rfl (lv_at h j hj) (kk H locs ls hP hD hS h)
theorem z_aloadN (B : zF K p l s m args meth c A cc nL own nm Ts ret tb) {i : Nat} (d : decode cc pc = .ok (.aload i, 2)) (j : Nat) (hj : lv[j]? = some (i, .null)) (kk : zW K p l e R s m args below meth c A Q k n bs lv (.null :: st) (pc + 2)) : zW K p l e R s m args below meth c A Q k n bs lv st pc :=
  fun H locs ls hP hD hS h => lv_aloadN B.1.1 B.1.2.1 d (lv_at h j hj) (kk H locs ls hP hD hS h)
theorem z_istore_n (B : zF K p l s m args meth c A cc nL own nm Ts ret tb) {i : Fin 4} {x : Int32} {lv' : List (Nat × Value)} (d : decode cc pc = .ok (.istore_n i, 1)) (hn : (i : Nat) < nL) (hl : ((i : Nat), Value.int x) :: lv.filter (fun q => !(q.1 == (i : Nat)) && !(q.1 + 1 == (i : Nat) && q.2.category == 2)) = lv') (kk : zW K p l e R s m args below meth c A Q k n bs lv' st (pc + 1)) : zW K p l e R s m args below meth c A Q k n bs lv (.int x :: st) pc :=
  fun H locs ls hP hD hS h => lv_istore_n B.1.1 B.1.2.1 d rfl h (by rw [B.1.2.2.1]; exact hn) hl (fun ls' h' => kk H locs ls' hP hD hS h')
theorem z_istore (B : zF K p l s m args meth c A cc nL own nm Ts ret tb) {i : Nat} {x : Int32} {lv' : List (Nat × Value)} (d : decode cc pc = .ok (.istore i, 2)) (hn : i < nL) (hl : (i, Value.int x) :: lv.filter (fun q => !(q.1 == i) && !(q.1 + 1 == i && q.2.category == 2)) = lv') (kk : zW K p l e R s m args below meth c A Q k n bs lv' st (pc + 2)) : zW K p l e R s m args below meth c A Q k n bs lv (.int x :: st) pc :=
  fun H locs ls hP hD hS h => lv_istore B.1.1 B.1.2.1 d h (by rw [B.1.2.2.1]; exact hn) hl (fun ls' h' => kk H locs ls' hP hD hS h')
theorem z_astore_n (B : zF K p l s m args meth c A cc nL own nm Ts ret tb) {i : Fin 4} {x : Nat} {lv' : List (Nat × Value)} (d : decode cc pc = .ok (.astore_n i, 1)) (hn : (i : Nat) < nL) (hl : ((i : Nat), Value.ref x) :: lv.filter (fun q => !(q.1 == (i : Nat)) && !(q.1 + 1 == (i : Nat) && q.2.category == 2)) = lv') (kk : zW K p l e R s m args below meth c A Q k n bs lv' st (pc + 1)) : zW K p l e R s m args below meth c A Q k n bs lv (.ref x :: st) pc :=
  fun H locs ls hP hD hS h => lv_astore_n B.1.1 B.1.2.1 d rfl h (by rw [B.1.2.2.1]; exact hn) hl (fun ls' h' => kk H locs ls' hP hD hS h')
theorem z_astore (B : zF K p l s m args meth c A cc nL own nm Ts ret tb) {i : Nat} {x : Nat} {lv' : List (Nat × Value)} (d : decode cc pc = .ok (.astore i, 2)) (hn : i < nL) (hl : (i, Value.ref x) :: lv.filter (fun q => !(q.1 == i) && !(q.1 + 1 == i && q.2.category == 2)) = lv') (kk : zW K p l e R s m args below meth c A Q k n bs lv' st (pc + 2)) : zW K p l e R s m args below meth c A Q k n bs lv (.ref x :: st) pc :=
  fun H locs ls hP hD hS h => lv_astore B.1.1 B.1.2.1 d h (by rw [B.1.2.2.1]; exact hn) hl (fun ls' h' => kk H locs ls' hP hD hS h')
theorem z_astore_nN (B : zF K p l s m args meth c A cc nL own nm Ts ret tb) {i : Fin 4} {lv' : List (Nat × Value)} (d : decode cc pc = .ok (.astore_n i, 1)) (hn : (i : Nat) < nL) (hl : ((i : Nat), Value.null) :: lv.filter (fun q => !(q.1 == (i : Nat)) && !(q.1 + 1 == (i : Nat) && q.2.category == 2)) = lv') (kk : zW K p l e R s m args below meth c A Q k n bs lv' st (pc + 1)) : zW K p l e R s m args below meth c A Q k n bs lv (.null :: st) pc :=
  fun H locs ls hP hD hS h => lv_astore_nN B.1.1 B.1.2.1 d rfl h (by rw [B.1.2.2.1]; exact hn) hl (fun ls' h' => kk H locs ls' hP hD hS h')
theorem z_astoreN (B : zF K p l s m args meth c A cc nL own nm Ts ret tb) {i : Nat} {lv' : List (Nat × Value)} (d : decode cc pc = .ok (.astore i, 2)) (hn : i < nL) (hl : (i, Value.null) :: lv.filter (fun q => !(q.1 == i) && !(q.1 + 1 == i && q.2.category == 2)) = lv') (kk : zW K p l e R s m args below meth c A Q k n bs lv' st (pc + 2)) : zW K p l e R s m args below meth c A Q k n bs lv (.null :: st) pc :=
  fun H locs ls hP hD hS h => lv_astoreN B.1.1 B.1.2.1 d h (by rw [B.1.2.2.1]; exact hn) hl (fun ls' h' => kk H locs ls' hP hD hS h')
theorem z_iinc (B : zF K p l s m args meth c A cc nL own nm Ts ret tb) {i : Nat} {z : Int} {x v : Int32} {lv' : List (Nat × Value)} (d : decode cc pc = .ok (.iinc i z, 3)) (j : Nat) (hj : lv[j]? = some (i, .int x)) (hv : x + Int32.ofInt z = v) (hn : i < nL) (hl : (i, Value.int v) :: lv.filter (fun q => !(q.1 == i) && !(q.1 + 1 == i && q.2.category == 2)) = lv') (kk : zW K p l e R s m args below meth c A Q k n bs lv' st (pc + 3)) : zW K p l e R s m args below meth c A Q k n bs lv st pc :=
  fun H locs ls hP hD hS h => lv_iinc B.1.1 B.1.2.1 d h (k := j) hj hv (by rw [B.1.2.2.1]; exact hn) hl (fun ls' h' => kk H locs ls' hP hD hS h')
theorem z_iadd (B : zF K p l s m args meth c A cc nL own nm Ts ret tb) {x y : Int32} (d : decode cc pc = .ok (.iadd, 1)) (kk : zW K p l e R s m args below meth c A Q k n bs lv (.int (x + y) :: st) (pc + 1)) : zW K p l e R s m args below meth c A Q k n bs lv (.int y :: .int x :: st) pc :=
  fun H locs ls hP hD hS h => lv_iadd B.1.1 B.1.2.1 d (kk H locs ls hP hD hS h)
theorem z_isub (B : zF K p l s m args meth c A cc nL own nm Ts ret tb) {x y : Int32} (d : decode cc pc = .ok (.isub, 1)) (kk : zW K p l e R s m args below meth c A Q k n bs lv (.int (x - y) :: st) (pc + 1)) : zW K p l e R s m args below meth c A Q k n bs lv (.int y :: .int x :: st) pc :=
  fun H locs ls hP hD hS h => lv_isub B.1.1 B.1.2.1 d (kk H locs ls hP hD hS h)
theorem z_imul (B : zF K p l s m args meth c A cc nL own nm Ts ret tb) {x y : Int32} (d : decode cc pc = .ok (.imul, 1)) (kk : zW K p l e R s m args below meth c A Q k n bs lv (.int (x * y) :: st) (pc + 1)) : zW K p l e R s m args below meth c A Q k n bs lv (.int y :: .int x :: st) pc :=
  fun H locs ls hP hD hS h => lv_imul B.1.1 B.1.2.1 d (kk H locs ls hP hD hS h)
theorem z_iand (B : zF K p l s m args meth c A cc nL own nm Ts ret tb) {x y : Int32} (d : decode cc pc = .ok (.iand, 1)) (kk : zW K p l e R s m args below meth c A Q k n bs lv (.int (x &&& y) :: st) (pc + 1)) : zW K p l e R s m args below meth c A Q k n bs lv (.int y :: .int x :: st) pc :=
  fun H locs ls hP hD hS h => lv_iand B.1.1 B.1.2.1 d (kk H locs ls hP hD hS h)
theorem z_i2l (B : zF K p l s m args meth c A cc nL own nm Ts ret tb) {x : Int32} (d : decode cc pc = .ok (.i2l, 1)) (kk : zW K p l e R s m args below meth c A Q k n bs lv (.long x.toInt64 :: st) (pc + 1)) : zW K p l e R s m args below meth c A Q k n bs lv (.int x :: st) pc :=
  fun H locs ls hP hD hS h => lv_i2l B.1.1 B.1.2.1 d rfl (kk H locs ls hP hD hS h)
theorem z_lcmp (B : zF K p l s m args meth c A cc nL own nm Ts ret tb) {x y : Int64} (d : decode cc pc = .ok (.lcmp, 1)) (kk : zW K p l e R s m args below meth c A Q k n bs lv (.int (lg_cmp x y) :: st) (pc + 1)) : zW K p l e R s m args below meth c A Q k n bs lv (.long y :: .long x :: st) pc :=
  fun H locs ls hP hD hS h => W.lcmp B.1.1 B.1.2.1 d (kk H locs ls hP hD hS h)
theorem z_dup (B : zF K p l s m args meth c A cc nL own nm Ts ret tb) {v : Value} (d : decode cc pc = .ok (.dup, 1)) (hv : v.category = 1) (kk : zW K p l e R s m args below meth c A Q k n bs lv (v :: v :: st) (pc + 1)) : zW K p l e R s m args below meth c A Q k n bs lv (v :: st) pc :=
  fun H locs ls hP hD hS h => lv_dup B.1.1 B.1.2.1 d hv (kk H locs ls hP hD hS h)
theorem z_dup2 (B : zF K p l s m args meth c A cc nL own nm Ts ret tb) {v w : Value} (d : decode cc pc = .ok (.dup2, 1)) (hv : v.category = 1) (hw : w.category = 1) (kk : zW K p l e R s m args below meth c A Q k n bs lv (v :: w :: v :: w :: st) (pc + 1)) : zW K p l e R s m args below meth c A Q k n bs lv (v :: w :: st) pc :=
  fun H locs ls hP hD hS h => lv_dup2_11 B.1.1 B.1.2.1 d hv hw (kk H locs ls hP hD hS h)
theorem z_pop (B : zF K p l s m args meth c A cc nL own nm Ts ret tb) {v : Value} (d : decode cc pc = .ok (.pop, 1)) (hv : v.category = 1) (kk : zW K p l e R s m args below meth c A Q k n bs lv st (pc + 1)) : zW K p l e R s m args below meth c A Q k n bs lv (v :: st) pc :=
  fun H locs ls hP hD hS h => lv_pop B.1.1 B.1.2.1 d hv (kk H locs ls hP hD hS h)
theorem z_goto (B : zF K p l s m args meth c A cc nL own nm Ts ret tb) {off : Int} {tgt : Nat} (d : decode cc pc = .ok (.goto off, 3)) (ht : (pc : Int) + off = (tgt : Int)) (kk : zW K p l e R s m args below meth c A Q k n bs lv st tgt) : zW K p l e R s m args below meth c A Q k n bs lv st pc :=
  fun H locs ls hP hD hS h => lv_goto B.1.1 B.1.2.1 d ht (kk H locs ls hP hD hS h)
theorem z_ifeq (B : zF K p l s m args meth c A cc nL own nm Ts ret tb) {x : Int32} {off : Int} (tgt : Nat) (d : decode cc pc = .ok (.ifCond .eq off, 3)) (ht : (pc : Int) + off = (tgt : Int)) (kt : x = 0 → zW K p l e R s m args below meth c A Q k n bs lv st tgt) (kf : ¬ x = 0 → zW K p l e R s m args below meth c A Q k n bs lv st (pc + 3)) : zW K p l e R s m args below meth c A Q k n bs lv (.int x :: st) pc :=
  fun H locs ls hP hD hS h => lv_if_eq B.1.1 B.1.2.1 d ht (fun q => kt q H locs ls hP hD hS h) (fun q => kf q H locs ls hP hD hS h)
theorem z_ifne (B : zF K p l s m args meth c A cc nL own nm Ts ret tb) {x : Int32} {off : Int} (tgt : Nat) (d : decode cc pc = .ok (.ifCond .ne off, 3)) (ht : (pc : Int) + off = (tgt : Int)) (kf : x = 0 → zW K p l e R s m args below meth c A Q k n bs lv st (pc + 3)) (kt : ¬ x = 0 → zW K p l e R s m args below meth c A Q k n bs lv st tgt) : zW K p l e R s m args below meth c A Q k n bs lv (.int x :: st) pc :=
  fun H locs ls hP hD hS h => lv_if_ne B.1.1 B.1.2.1 d ht (fun q => kt q H locs ls hP hD hS h) (fun q => kf q H locs ls hP hD hS h)
theorem z_iflt (B : zF K p l s m args meth c A cc nL own nm Ts ret tb) {x : Int32} {off : Int} (tgt : Nat) (d : decode cc pc = .ok (.ifCond .lt off, 3)) (ht : (pc : Int) + off = (tgt : Int)) (kt : x < 0 → zW K p l e R s m args below meth c A Q k n bs lv st tgt) (kf : ¬ x < 0 → zW K p l e R s m args below meth c A Q k n bs lv st (pc + 3)) : zW K p l e R s m args below meth c A Q k n bs lv (.int x :: st) pc :=
  fun H locs ls hP hD hS h => lv_if_lt B.1.1 B.1.2.1 d ht (fun q => kt q H locs ls hP hD hS h) (fun q => kf q H locs ls hP hD hS h)
theorem z_ifge (B : zF K p l s m args meth c A cc nL own nm Ts ret tb) {x : Int32} {off : Int} (tgt : Nat) (d : decode cc pc = .ok (.ifCond .ge off, 3)) (ht : (pc : Int) + off = (tgt : Int)) (kt : 0 ≤ x → zW K p l e R s m args below meth c A Q k n bs lv st tgt) (kf : ¬ 0 ≤ x → zW K p l e R s m args below meth c A Q k n bs lv st (pc + 3)) : zW K p l e R s m args below meth c A Q k n bs lv (.int x :: st) pc :=
  fun H locs ls hP hD hS h => lv_if_ge B.1.1 B.1.2.1 d ht (fun q => kt q H locs ls hP hD hS h) (fun q => kf q H locs ls hP hD hS h)
theorem z_ifle (B : zF K p l s m args meth c A cc nL own nm Ts ret tb) {x : Int32} {off : Int} (tgt : Nat) (d : decode cc pc = .ok (.ifCond .le off, 3)) (ht : (pc : Int) + off = (tgt : Int)) (kt : x ≤ 0 → zW K p l e R s m args below meth c A Q k n bs lv st tgt) (kf : ¬ x ≤ 0 → zW K p l e R s m args below meth c A Q k n bs lv st (pc + 3)) : zW K p l e R s m args below meth c A Q k n bs lv (.int x :: st) pc :=
  fun H locs ls hP hD hS h => lv_if_le B.1.1 B.1.2.1 d ht (fun q => kt q H locs ls hP hD hS h) (fun q => kf q H locs ls hP hD hS h)
theorem z_iceq (B : zF K p l s m args meth c A cc nL own nm Ts ret tb) {x y : Int32} {off : Int} (tgt : Nat) (d : decode cc pc = .ok (.if_icmp .eq off, 3)) (ht : (pc : Int) + off = (tgt : Int)) (kt : x = y → zW K p l e R s m args below meth c A Q k n bs lv st tgt) (kf : ¬ x = y → zW K p l e R s m args below meth c A Q k n bs lv st (pc + 3)) : zW K p l e R s m args below meth c A Q k n bs lv (.int y :: .int x :: st) pc :=
  fun H locs ls hP hD hS h => lv_icmp_eq B.1.1 B.1.2.1 d ht (fun q => kt q H locs ls hP hD hS h) (fun q => kf q H locs ls hP hD hS h)
theorem z_icne (B : zF K p l s m args meth c A cc nL own nm Ts ret tb) {x y : Int32} {off : Int} (tgt : Nat) (d : decode cc pc = .ok (.if_icmp .ne off, 3)) (ht : (pc : Int) + off = (tgt : Int)) (kf : x = y → zW K p l e R s m args below meth c A Q k n bs lv st (pc + 3)) (kt : ¬ x = y → zW K p l e R s m args below meth c A Q k n bs lv st tgt) : zW K p l e R s m args below meth c A Q k n bs lv (.int y :: .int x :: st) pc :=
  fun H locs ls hP hD hS h => lv_icmp_ne B.1.1 B.1.2.1 d ht (fun q => kt q H locs ls hP hD hS h) (fun q => kf q H locs ls hP hD hS h)
theorem z_iclt (B : zF K p l s m args meth c A cc nL own nm Ts ret tb) {x y : Int32} {off : Int} (tgt : Nat) (d : decode cc pc = .ok (.if_icmp .lt off, 3)) (ht : (pc : Int) + off = (tgt : Int)) (kt : x < y → zW K p l e R s m args below meth c A Q k n bs lv st tgt) (kf : ¬ x < y → zW K p l e R s m args below meth c A Q k n bs lv st (pc + 3)) : zW K p l e R s m args below meth c A Q k n bs lv (.int y :: .int x :: st) pc :=
  fun H locs ls hP hD hS h => lv_icmp_lt B.1.1 B.1.2.1 d ht (fun q => kt q H locs ls hP hD hS h) (fun q => kf q H locs ls hP hD hS h)
theorem z_icge (B : zF K p l s m args meth c A cc nL own nm Ts ret tb) {x y : Int32} {off : Int} (tgt : Nat) (d : decode cc pc = .ok (.if_icmp .ge off, 3)) (ht : (pc : Int) + off = (tgt : Int)) (kt : y ≤ x → zW K p l e R s m args below meth c A Q k n bs lv st tgt) (kf : ¬ y ≤ x → zW K p l e R s m args below meth c A Q k n bs lv st (pc + 3)) : zW K p l e R s m args below meth c A Q k n bs lv (.int y :: .int x :: st) pc :=
  fun H locs ls hP hD hS h => lv_icmp_ge B.1.1 B.1.2.1 d ht (fun q => kt q H locs ls hP hD hS h) (fun q => kf q H locs ls hP hD hS h)
theorem z_icgt (B : zF K p l s m args meth c A cc nL own nm Ts ret tb) {x y : Int32} {off : Int} (tgt : Nat) (d : decode cc pc = .ok (.if_icmp .gt off, 3)) (ht : (pc : Int) + off = (tgt : Int)) (kt : y < x → zW K p l e R s m args below meth c A Q k n bs lv st tgt) (kf : ¬ y < x → zW K p l e R s m args below meth c A Q k n bs lv st (pc + 3)) : zW K p l e R s m args below meth c A Q k n bs lv (.int y :: .int x :: st) pc :=
  fun H locs ls hP hD hS h => lv_icmp_gt B.1.1 B.1.2.1 d ht (fun q => kt q H locs ls hP hD hS h) (fun q => kf q H locs ls hP hD hS h)
theorem z_icle (B : zF K p l s m args meth c A cc nL own nm Ts ret tb) {x y : Int32} {off : Int} (tgt : Nat) (d : decode cc pc = .ok (.if_icmp .le off, 3)) (ht : (pc : Int) + off = (tgt : Int)) (kt : x ≤ y → zW K p l e R s m args below meth c A Q k n bs lv st tgt) (kf : ¬ x ≤ y → zW K p l e R s m args below meth c A Q k n bs lv st (pc + 3)) : zW K p l e R s m args below meth c A Q k n bs lv (.int y :: .int x :: st) pc :=
  fun H locs ls hP hD hS h => lv_icmp_le B.1.1 B.1.2.1 d ht (fun q => kt q H locs ls hP hD hS h) (fun q => kf q H locs ls hP hD hS h)
theorem z_ifnonnull (B : zF K p l s m args meth c A cc nL own nm Ts ret tb) {a : Nat} {off : Int} (tgt : Nat) (d : decode cc pc = .ok (.ifnonnull off, 3)) (ht : (pc : Int) + off = (tgt : Int)) (kk : zW K p l e R s m args below meth c A Q k n bs lv st tgt) : zW K p l e R s m args below meth c A Q k n bs lv (.ref a :: st) pc :=
  fun H locs ls hP hD hS h => lv_ifnonnull B.1.1 B.1.2.1 d ht (kk H locs ls hP hD hS h)
theorem z_ifnonnullN (B : zF K p l s m args meth c A cc nL own nm Ts ret tb) {off : Int} (d : decode cc pc = .ok (.ifnonnull off, 3)) (kk : zW K p l e R s m args below meth c A Q k n bs lv st (pc + 3)) : zW K p l e R s m args below meth c A Q k n bs lv (.null :: st) pc :=
  fun H locs ls hP hD hS h => lv_ifnonnullN B.1.1 B.1.2.1 d (kk H locs ls hP hD hS h)
theorem z_ifnull (B : zF K p l s m args meth c A cc nL own nm Ts ret tb) {a : Nat} {off : Int} (d : decode cc pc = .ok (.ifnull off, 3)) (kk : zW K p l e R s m args below meth c A Q k n bs lv st (pc + 3)) : zW K p l e R s m args below meth c A Q k n bs lv (.ref a :: st) pc :=
  fun H locs ls hP hD hS h => lv_ifnull B.1.1 B.1.2.1 d (kk H locs ls hP hD hS h)
theorem z_ifnullN (B : zF K p l s m args meth c A cc nL own nm Ts ret tb) {off : Int} (tgt : Nat) (d : decode cc pc = .ok (.ifnull off, 3)) (ht : (pc : Int) + off = (tgt : Int)) (kk : zW K p l e R s m args below meth c A Q k n bs lv st tgt) : zW K p l e R s m args below meth c A Q k n bs lv (.null :: st) pc :=
  fun H locs ls hP hD hS h => lv_ifnullN B.1.1 B.1.2.1 d ht (kk H locs ls hP hD hS h)
-- fields
theorem z_get (B : zF K p l s m args meth c A cc nL own nm Ts ret tb) {a : Nat} {ref C fn fd : String} {T : u_T} {N ci index : Nat} {fs : List Value} {b : va_W} {v : Value} (q j i : Nat) (hin : ∀ w ∈ u_ws C T N, w ∈ Ts) (hlink : Cond.fieldLink own index ref fn fd ∈ Ts) (hb : bs[q]? = some b) (he : b[j]? = some (a, .inr (ci, fs))) (hc : vwCl[ci]? = some (C, T, N)) (hi : i < N) (hT1 : (T i).1 = ref) (hT2 : (T i).2.1 = fn) (hT3 : (T i).2.2.1 = fd) (hv : fs[i]? = some v) (d : decode cc pc = .ok (.getfield index, 3))
    (kk : zW K p l e R s m args below meth c A Q k n bs lv (v :: st) (pc + 3)) : zW K p l e R s m args below meth c A Q k n bs lv (.ref a :: st) pc := by
  subst hT1 hT2 hT3
  intro H locs ls hP hD hS h
  obtain ⟨P, hq⟩ := z_at hb he
  exact va_get (D := K.1) B.1.1 B.1.2.1 B.1.2.2.2.2 hin B.1.2.2.2.1 B.2.1 hP P hq hc i hi (B.1.2.2.2.2 _ hlink) (fun _ h9 => h9) hv d (kk H locs ls hP hD hS h)
theorem z_put (B : zF K p l s m args meth c A cc nL own nm Ts ret tb) {a : Nat} {ref C fn fd : String} {T : u_T} {N ci index : Nat} {fs : List Value} {b : va_W} {v : Value} {ty : FieldType} {ty0 : Nat → FieldType} (q j i : Nat) (hin : ∀ w ∈ u_ws C T N, w ∈ Ts) (hlink : Cond.fieldLink own index ref fn fd ∈ Ts) (hty : ∀ k, k < N → parseFieldDescriptor (T k).2.2.1 = some (ty0 k)) (hnm : ∀ a, a < N → ∀ b, b < N → a ≠ b → (T a).2.1 ≠ (T b).2.1) (hb : bs[q]? = some b) (he : b[j]? = some (a, .inr (ci, fs))) (hc : vwCl[ci]? = some (C, T, N)) (hi : i < N) (hT1 : (T i).1 = ref) (hT2 : (T i).2.1 = fn) (hT3 : (T i).2.2.1 = fd) (hfin : (T i).2.2.2 = false) (hd : ty0 i = ty) (hn : narrow ty v = v) (hfit : fits ty v = true) (hl : i < fs.length) {bs' : zB} (hbs : bs.set q (b.set j (a, .inr (ci, fs.set i v))) = bs') (d : decode cc pc = .ok (.putfield index, 3))
    (kk : zW K p l e R s m args below meth c A Q k n bs' lv st (pc + 3)) : zW K p l e R s m args below meth c A Q k n bs lv (v :: .ref a :: st) pc := by
  subst hT1 hT2 hT3 hbs
  intro H locs ls hP hD hS h
  obtain ⟨P, hq, hset⟩ := z_fl bs q j b _ (a, .inr (ci, fs.set i v)) hb he
  refine va_put (D := K.1) (ty := ty) B.1.1 B.1.2.1 B.1.2.2.2.2 hin ty0 hty hnm B.1.2.2.2.1 B.2.1 hP hD hS P hq hc i hi (B.1.2.2.2.2 _ hlink) (fun _ h9 => h9) hfin (by rw [hty i hi, hd]) hn hfit hl d (fun H1 locs1 hP1 hD1 hS1 => ?_)
  rw [← hset] at hP1 hD1
  exact kk H1 locs1 ls hP1 hD1 hS1 h
theorem z_putF (B : zF K p l s m args meth c A cc nL own nm Ts ret tb) {a : Nat} {ref C fn fd : String} {T : u_T} {N ci index : Nat} {fs : List Value} {b : va_W} {v : Value} {ty : FieldType} {ty0 : Nat → FieldType} (q j i : Nat) (hin : ∀ w ∈ u_ws C T N, w ∈ Ts) (hlink : Cond.fieldLink own index ref fn fd ∈ Ts) (hty : ∀ k, k < N → parseFieldDescriptor (T k).2.2.1 = some (ty0 k)) (hnm : ∀ a, a < N → ∀ b, b < N → a ≠ b → (T a).2.1 ≠ (T b).2.1) (hb : bs[q]? = some b) (he : b[j]? = some (a, .inr (ci, fs))) (hc : vwCl[ci]? = some (C, T, N)) (hi : i < N) (hT1 : (T i).1 = ref) (hT2 : (T i).2.1 = fn) (hT3 : (T i).2.2.1 = fd) (hfin : (T i).2.2.2 = true) (hinit : nm = "<init>") (hdecl : ref = own) (hd : ty0 i = ty) (hn : narrow ty v = v) (hfit : fits ty v = true) (hl : i < fs.length) {bs' : zB} (hbs : bs.set q (b.set j (a, .inr (ci, fs.set i v))) = bs') (d : decode cc pc = .ok (.putfield index, 3))
    (kk : zW K p l e R s m args below meth c A Q k n bs' lv st (pc + 3)) : zW K p l e R s m args below meth c A Q k n bs lv (v :: .ref a :: st) pc := by
  subst hT1 hT2 hT3 hbs
  intro H locs ls hP hD hS h
  obtain ⟨P, hq, hset⟩ := z_fl bs q j b _ (a, .inr (ci, fs.set i v)) hb he
  refine va_putF (D := K.1) (ty := ty) B.1.1 B.1.2.1 B.1.2.2.2.2 hin ty0 hty hnm B.1.2.2.2.1 B.2.1 hP hD hS P hq hc i hi (B.1.2.2.2.2 _ hlink) (fun _ h9 => h9) hfin (B.2.2.2.2.2.1.trans hinit) hdecl (by rw [hty i hi, hd]) hn hfit hl d (fun H1 locs1 hP1 hD1 hS1 => ?_)
  rw [← hset] at hP1 hD1
  exact kk H1 locs1 ls hP1 hD1 hS1 h
-- arrays
theorem z_iald (B : zF K p l s m args meth c A cc nL own nm Ts ret tb) {a N : Nat} {f : Nat → Int32} {b : va_W} (q j : Nat) (hb : bs[q]? = some b) (he : b[j]? = some (a, .inl (zI K, N, .inl f))) {i : Int32} (hin : vp_in i N) (d : decode cc pc = .ok (.iaload, 1))
    (kk : zW K p l e R s m args below meth c A Q k n bs lv (.int (f i.toNatClampNeg) :: st) (pc + 1)) : zW K p l e R s m args below meth c A Q k n bs lv (.int i :: .ref a :: st) pc := by
  intro H locs ls hP hD hS h
  obtain ⟨P, hq⟩ := z_at hb he
  exact va_iald (D := K.1) B.1.1 B.1.2.1 B.2.1 hP P 0 hq rfl hin d (kk H locs ls hP hD hS h)
theorem z_aald (B : zF K p l s m args meth c A cc nL own nm Ts ret tb) {a N : Nat} {f : Nat → Option Nat} {b : va_W} (q j : Nat) (hb : bs[q]? = some b) (he : b[j]? = some (a, .inl (zS K, N, .inr (.inr (.inr (.inr f)))))) {i : Int32} (hin : vp_in i N) (d : decode cc pc = .ok (.aaload, 1))
    (kk : zW K p l e R s m args below meth c A Q k n bs lv (va_rf (f i.toNatClampNeg) :: st) (pc + 1)) : zW K p l e R s m args below meth c A Q k n bs lv (.int i :: .ref a :: st) pc := by
  intro H locs ls hP hD hS h
  obtain ⟨P, hq⟩ := z_at hb he
  exact va_aldq (D := K.1) B.1.1 B.1.2.1 B.2.1 hP P 2 hq rfl hin d (kk H locs ls hP hD hS h)
theorem z_iast (B : zF K p l s m args meth c A cc nL own nm Ts ret tb) {a N : Nat} {f : Nat → Int32} {b : va_W} (q j : Nat) (hb : bs[q]? = some b) (he : b[j]? = some (a, .inl (zI K, N, .inl f))) {i x : Int32} (hin : vp_in i N) {bs' : zB} (hbs : bs.set q (b.set j (a, .inl (zI K, N, .inl (upd f i.toNatClampNeg x)))) = bs') (d : decode cc pc = .ok (.iastore, 1))
    (kk : zW K p l e R s m args below meth c A Q k n bs' lv st (pc + 1)) : zW K p l e R s m args below meth c A Q k n bs lv (.int x :: .int i :: .ref a :: st) pc := by
  subst hbs
  intro H locs ls hP hD hS h
  obtain ⟨P, hq, hset⟩ := z_fl bs q j b _ (a, .inl (zI K, N, .inl (upd f i.toNatClampNeg x))) hb he
  refine va_iast (D := K.1) B.1.1 B.1.2.1 B.2.1 hP hD hS P 0 hq rfl hin d (fun H1 locs1 hP1 hD1 hS1 => ?_)
  rw [← hset] at hP1 hD1
  exact kk H1 locs1 ls hP1 hD1 hS1 h
theorem z_aast (B : zF K p l s m args meth c A cc nL own nm Ts ret tb) {a N v : Nat} {f : Nat → Option Nat} {b b2 : va_W} {vs : List Value} (q j q2 j2 : Nat) (hb : bs[q]? = some b) (he : b[j]? = some (a, .inl (zS K, N, .inr (.inr (.inr (.inr f)))))) (hb2 : bs[q2]? = some b2) (he2 : b2[j2]? = some (v, .inr (2, vs))) {i : Int32} (hin : vp_in i N) {bs' : zB} (hbs : bs.set q (b.set j (a, .inl (zS K, N, .inr (.inr (.inr (.inr (va_up f i.toNatClampNeg (some v)))))))) = bs') (d : decode cc pc = .ok (.aastore, 1))
    (kk : zW K p l e R s m args below meth c A Q k n bs' lv st (pc + 1)) : zW K p l e R s m args below meth c A Q k n bs lv (.ref v :: .int i :: .ref a :: st) pc := by
  subst hbs
  intro H locs ls hP hD hS h
  obtain ⟨P, hq, hset⟩ := z_fl bs q j b _ (a, .inl (zS K, N, .inr (.inr (.inr (.inr (va_up f i.toNatClampNeg (some v))))))) hb he
  obtain ⟨P2, hq2⟩ := z_at hb2 he2
  refine va_astq (D := K.1) (r := (RX2, TX2, 4)) B.1.1 B.1.2.1 B.2.1 hP hD hS P 2 P2 2 hq rfl hq2 rfl hin d (fun H1 locs1 hP1 hD1 hS1 => ?_)
  rw [← hset] at hP1 hD1
  exact kk H1 locs1 ls hP1 hD1 hS1 h
theorem z_alen (B : zF K p l s m args meth c A cc nL own nm Ts ret tb) {a : Nat} {cA : ClassId} {x : vp_A} {ty : FieldType} {b : va_W} {v : Int32} (q j t0 : Nat) (hb : bs[q]? = some b) (he : b[j]? = some (a, .inl (cA, x))) (ht : (zty K)[t0]? = some (cA, ty)) (hv : Int32.ofNat x.1 = v) (d : decode cc pc = .ok (.arraylength, 1))
    (kk : zW K p l e R s m args below meth c A Q k n bs lv (.int v :: st) (pc + 1)) : zW K p l e R s m args below meth c A Q k n bs lv (.ref a :: st) pc := by
  intro H locs ls hP hD hS h
  obtain ⟨P, hq⟩ := z_at hb he
  exact va_alen (D := K.1) B.1.1 B.1.2.1 B.2.1 hP P t0 hq ht hv d (kk H locs ls hP hD hS h)
-- the same world, the same locals in another order; more room
theorem z_perm {bs' : zB} (hp : bs.flatten.Perm bs'.flatten) (kk : zW K p l e R s m args below meth c A Q k n bs' lv st pc) : zW K p l e R s m args below meth c A Q k n bs lv st pc :=
  fun H locs ls hP hD hS h => kk H locs ls (z_Pp hp hP) (z_Dp hp hD) hS h
theorem z_lsub {lv' : List (Nat × Value)} (ks : List Nat) (hl : lv_pick lv ks = lv') (kk : zW K p l e R s m args below meth c A Q k n bs lv' st pc) : zW K p l e R s m args below meth c A Q k n bs lv st pc :=
  fun H locs ls hP hD hS h => kk H locs ls hP hD hS (lv_sub h ks hl)
theorem z_widen {k' n' : Nat} (h1 : k ≤ k') (h2 : n ≤ n') (kk : zW K p l e R s m args below meth c A Q k' n' bs lv st pc) : zW K p l e R s m args below meth c A Q k n bs lv st pc :=
  fun H locs ls hP hD hS h => W.widen h1 h2 (kk H locs ls hP hD hS h)
-- ends
theorem z_ret1 {S : Type} {f : S → Option Value × zB} {post : S → Prop} {XC : String → State → State → Prop} {mc ms : Nat} {ty : FieldType} {v : Int32} (B : zF K p l s m args meth c A cc nL own nm Ts (some ty) tb) (hn : narrow ty (.int v) = .int v) (d : decode cc pc = .ok (.ireturn, 1)) (u : S) (hp : post u) (hk : k ≤ mc) (hm : n ≤ ms) (hv : (f u).1 = some (.int v)) (hw : (f u).2 = bs) : zW K p l e R s m args below meth c A (vx_MQ below (zQ K A f post) XC args s mc ms A) k n bs lv [.int v] pc := by
  intro H locs ls hP hD hS h
  refine W.widen hk hm (vx_ret (W.zret B.1.1 B.1.2.1 B.2.2.2.2.1 hn (fun t ht hW => ⟨⟨u, by rw [hv], hp, by rw [hw, ht]; exact hP, by rw [hw]; exact hD⟩, hS.F ht⟩) hS.2.2 d B.2.2.2.1))
theorem z_reta {S : Type} {f : S → Option Value × zB} {post : S → Prop} {XC : String → State → State → Prop} {mc ms : Nat} {cn : String} {v : Value} (B : zF K p l s m args meth c A cc nL own nm Ts (some (.object cn)) tb) (hvr : v = .null ∨ ∃ a, v = .ref a) (d : decode cc pc = .ok (.areturn, 1)) (u : S) (hp : post u) (hk : k ≤ mc) (hm : n ≤ ms) (hv : (f u).1 = some v) (hw : (f u).2 = bs) : zW K p l e R s m args below meth c A (vx_MQ below (zQ K A f post) XC args s mc ms A) k n bs lv [v] pc := by
  intro H locs ls hP hD hS h
  refine W.widen hk hm (vx_ret (W.aret B.1.1 B.1.2.1 B.2.2.2.2.1 (Or.inl ⟨cn, rfl⟩) hvr (fun t ht hW => ⟨⟨u, by rw [hv], hp, by rw [hw, ht]; exact hP, by rw [hw]; exact hD⟩, hS.F ht⟩) hS.2.2 d B.2.2.2.1))
theorem z_ret0 {S : Type} {f : S → Option Value × zB} {post : S → Prop} {XC : String → State → State → Prop} {mc ms : Nat} (B : zF K p l s m args meth c A cc nL own nm Ts none tb) (d : decode cc pc = .ok (.return_, 1)) (u : S) (hp : post u) (hk : k ≤ mc) (hm : n ≤ ms) (hv : (f u).1 = none) (hw : (f u).2.flatten = bs.flatten) : zW K p l e R s m args below meth c A (vx_MQ below (zQ K A f post) XC args s mc ms A) k n bs lv [] pc := by
  intro H locs ls hP hD hS h
  refine W.widen hk hm (vx_ret (W.vret B.1.1 B.1.2.1 B.2.2.2.2.1 (fun t ht hW => ⟨⟨u, by rw [hv], hp, by rw [hw, ht]; exact hP, by rw [hw]; exact hD⟩, hS.F ht⟩) hS.2.2 d B.2.2.2.1))
/-- an exception of a callee goes on to the caller (no table) -/
theorem z_out {Qc : Array Value → State → Outcome → State → Prop} {xc : String → Prop} {mc ms : Nat} {E : String} (B : zF K p l s m args meth c A cc nL own nm Ts ret []) (hx : xc E) (hk : k ≤ mc) (hm : n ≤ ms) : zXW K p l e R s m args below meth c A (vx_MQ below Qc (zX K A bs xc) args s mc ms A) k n bs lv st pc E := by
  intro H locs ls q ce hP hD hS h hce hcv hcl
  refine vx_out (fun x hx' => by rw [B.2.2.2.2.2.2.1] at hx'; cases hx') B.2.2.2.1 hce hcv hcl (fun t ht hal => ⟨hx, by rw [ht]; exact hP, hD, hS.F ht⟩) hS.2.2 hk hm
-- calls
theorem z_after {D : va_G} {cl : List vw_C} {bc br w1 bs' : zB} {H H1 : Heap} (hpm : bs.flatten.Perm (bc ++ br).flatten) (hpm' : (w1 ++ br).flatten.Perm bs'.flatten) (hP : va_P D cl bs.flatten H) (hD : va_D A bs.flatten) (hF : ∀ q, va_A bc.flatten H.size q → A q) (hk : ∀ q : Nat, q < H.size → ¬ va_A bc.flatten H.size q → H1[q]? = H[q]?) (h1 : va_P D cl w1.flatten H1) (h2 : va_D (va_A bc.flatten H.size) w1.flatten) : va_P D cl bs'.flatten H1 ∧ va_D A bs'.flatten := by
  have hP' := z_Pp hpm hP
  have hD' := z_Dp hpm hD
  rw [List.flatten_append] at hP' hD'
  have hd := z_D.mp hD'
  have hnd := hd.1
  rw [List.map_append, List.nodup_append] at hnd
  have hd2 := z_D.mp h2
  have apart : ∀ q ∈ br.flatten, q.1 < H.size ∧ ¬ va_A bc.flatten H.size q.1 := by
    intro q hq
    have hl : q.1 < H.size := (z_P.mp hP' q (List.mem_append_right _ hq)).lt
    refine ⟨hl, fun h => ?_⟩
    rcases z_A.mp h with ⟨e, he⟩ | h
    · exact hnd.2.2 q.1 (List.mem_map.mpr ⟨_, he, rfl⟩) q.1 (List.mem_map.mpr ⟨_, hq, rfl⟩) rfl
    · omega
  refine ⟨z_Pp hpm' ?_, z_Dp hpm' ?_⟩
  · rw [List.flatten_append]
    exact h1.app (z_P.mpr fun q hq => (z_P.mp hP' q (List.mem_append_right _ hq)).kept (hk q.1 (apart q hq).1 (apart q hq).2))
  · rw [List.flatten_append]
    refine z_D.mpr ⟨?_, fun q hq => ?_⟩
    · rw [List.map_append, List.nodup_append]
      refine ⟨hd2.1, hnd.2.1, fun a ha b hb hab => ?_⟩
      obtain ⟨x, hx, rfl⟩ := List.mem_map.mp ha
      obtain ⟨y, hy, rfl⟩ := List.mem_map.mp hb
      exact (apart y hy).2 (hab ▸ hd2.2 x hx)
    · rcases List.mem_append.mp hq with h | h
      · exact hF q.1 (hd2.2 q h)
      · exact hd.2 q (List.mem_append_right _ h)
theorem z_sub {bc br : zB} {H : Heap} {locs : List Loc} (hpm : bs.flatten.Perm (bc ++ br).flatten) (hD : va_D A bs.flatten) (hS : va_S A s.heap H locs) (hA : ∀ q, s.heap.size ≤ q → A q) : ∀ q, va_A bc.flatten H.size q → A q := by
  intro q h
  rcases z_A.mp h with ⟨e, he⟩ | h
  · refine (z_D.mp hD).2 (q, e) (hpm.mem_iff.mpr ?_)
    rw [List.flatten_append]
    exact List.mem_append_left _ he
  · exact hA q (Nat.le_trans hS.1 h)
theorem z_cut {D : va_G} {cl : List vw_C} {bc br : zB} {H : Heap} (hpm : bs.flatten.Perm (bc ++ br).flatten) (hP : va_P D cl bs.flatten H) (hD : va_D A bs.flatten) : va_P D cl bc.flatten H ∧ va_D (fun _ => True) bc.flatten := by
  have hP' := z_Pp hpm hP
  have hD' := z_D.mp (z_Dp hpm hD)
  rw [List.flatten_append] at hP' hD'
  refine ⟨z_P.mpr fun q hq => z_P.mp hP' q (List.mem_append_left _ hq), z_D.mpr ⟨?_, fun _ _ => trivial⟩⟩
  have := hD'.1
  rw [List.map_append, List.nodup_append] at this
  exact this.1
theorem z_run (B : zF K p l s m args meth c A cc nL own nm Ts ret tb) {S : Type} {f : S → Option Value × zB} {post : S → Prop} {xc : String → Prop} {a : Array Value} {mc ms : Nat} {bc br : zB} {bs' : S → zB} {st0 : List Value} (hpm : bs.flatten.Perm (bc ++ br).flatten) (hpm' : ∀ u, ((f u).2 ++ br).flatten.Perm (bs' u).flatten)
    (hr : ∀ (H : Heap) (locs : List Loc) (ls : Array Slot), va_P K.1 vwCl bs.flatten H → va_D A bs.flatten → va_S A s.heap H locs → lv_has ls c.maxLocals lv → vx_Run p l e R s m args below meth c H locs k n mc ms (F0 m pc ls st0) st (zQ K (va_A bc.flatten H.size) f post a) (zX K (va_A bc.flatten H.size) bc xc) (va_A bc.flatten H.size))
    (kx : ∀ E : String, xc E → zXW K p l e R s m args below meth c A Q (k + mc) (n + ms) bs lv st pc E)
    (kk : ∀ u : S, post u → zW K p l e R s m args below meth c A Q (k + mc) (n + ms) (bs' u) lv ((f u).1.toList ++ st) (pc + 3)) : zW K p l e R s m args below meth c A Q k n bs lv st0 pc := by
  intro H locs ls hP hD hS h T hT X
  have hF := z_sub hpm hD hS B.2.2.1
  rcases hr H locs ls hP hD hS h T hT X with ⟨v, st₀, t, T', L, h0, X', hL, e1, e2, ⟨⟨u, hv, hp, hb1, hb2⟩, hFr⟩, sg⟩ | ⟨q, st₀, t, T', L, E, ce, h0, X', hL, e1, e2, ⟨hp, hb1, hb2, hFr⟩, hce, hcv, hcl, sg⟩
  · cases hv
    obtain ⟨k1, k2, k3⟩ := vx_keep h0 e1 hS (fun q _ h => hF q h) (fun q h => hF q h) hL hFr
    rw [← e1] at hb1
    obtain ⟨g1, g2⟩ := z_after hpm (hpm' u) hP hD hF k2 hb1 hb2
    obtain ⟨t2, a1, b1⟩ := kk u hp T'.heap (locs ++ L) ls g1 g2 k3 h T' rfl X'
    exact ⟨t2, sg t2 a1, b1⟩
  · obtain ⟨k1, k2, k3⟩ := vx_keep h0 e1 hS (fun q _ h => hF q h) (fun q h => hF q h) hL hFr
    rw [← e1] at hb1
    obtain ⟨g1, g2⟩ := z_after hpm hpm.symm hP hD hF k2 hb1 hb2
    obtain ⟨t2, a1, b1⟩ := kx E hp T'.heap (locs ++ L) ls q ce g1 g2 k3 h (by rw [e1]; exact hce) hcv hcl T' rfl X'
    exact ⟨t2, sg.trans a1, b1⟩
theorem zMeN.met {y : MethodName} {ws' : List Cond} {rm : Room} {as : List Value} {S : Type} {f : S → Option Value × zB} {post : S → Prop} (h : zMeN l K y ws' rm as bs f post zNo) (sz : Nat) : Met l y ws' rm (zPre K as bs sz) (zQ K (va_A bs.flatten sz) f post) rm.cells rm.slots (va_A bs.flatten sz) := by
  intro p e h1 h2 h3 s m args below h4 h5 h6 h7
  obtain ⟨n, o, a1, a2, a3, a4⟩ := h sz p e h1 h2 h3 s m args below h4 h5 h6 h7
  rcases a4 with a4 | ⟨q, -, E, ce, L, hx, -⟩
  · exact ⟨n, o, a1, a2, a3, a4⟩
  · exact absurd hx.1 id
/-- how the blocks of a call lie among the caller's: isC the callee's, isR the rest -/
def zSp (bs bc br : zB) (isC isR : List Nat) : Prop := isC.filterMap (fun i => bs[i]?) = bc ∧ isR.filterMap (fun i => bs[i]?) = br ∧ (isC ++ isR).isPerm (List.range bs.length) = true
theorem zSp.pm {bs bc br : zB} {isC isR : List Nat} (h : zSp bs bc br isC isR) : bs.flatten.Perm (bc ++ br).flatten := by
  obtain ⟨h1, h2, h5⟩ := h
  refine z_pm (isC ++ isR) h5 ?_
  rw [List.filterMap_append, h1, h2]
section ZC
variable {y : MethodName} {C : String} {index maxL nA : Nat} {bytes : ByteArray} {ret' : Option FieldType} {ws' ws'' : List Cond} {rm : Room} {bc br : zB} {xc : String → Prop} {As st0 : List Value}
theorem z_callV (B : zF K p l s m args meth c A cc nL own nm Ts ret tb) {S : Type} {f : S → Option Value × zB} {post : S → Prop} {b : Nat} {bs' : S → zB} (hM : zMeN l K y ws' rm (.ref b :: As) bc f post xc) (isC isR : List Nat) (hs : zSp bs bc br isC isR) (hs' : ∀ u, zSp (bs' u) (f u).2 br isC isR) (q j : Nat) {ci : Nat} {fs : List Value} {bb : va_W} {vc : vw_C} (hb : bs[q]? = some bb) (he : bb[j]? = some (b, .inr (ci, fs))) (hc : vwCl[ci]? = some vc) (hC : vc.1 = C)
    (hG : GoodIn Ts (wsV own index C y ws')) (hw : ws' = Cond.code y bytes maxL ret' :: ws'') (hd : y.cls = C ∧ y.cls ≠ "java/lang/invoke/MethodHandle" ∧ y.cls ≠ "java/lang/invoke/VarHandle" ∧ (parseMethodDescriptor y.desc).map (fun d => d.parameters.length) = some nA) (hR : rm.frames + 1 ≤ R.frames ∧ 8 + (maxL + 11) + rm.locals ≤ R.locals) (hn : As.length = nA) (hst : st0 = As.reverse ++ .ref b :: st) (hW : (st.map fun v => v.category).sum ≤ 8) (hm : k + rm.cells ≤ R.cells ∧ n + rm.slots ≤ R.slots) (d : decode cc pc = .ok (.invokevirtual index, 3))
    (kx : ∀ E : String, xc E → zXW K p l e R s m args below meth c A Q (k + rm.cells) (n + rm.slots) bs lv st pc E)
    (kk : ∀ u : S, post u → zW K p l e R s m args below meth c A Q (k + rm.cells) (n + rm.slots) (bs' u) lv ((f u).1.toList ++ st) (pc + 3)) : zW K p l e R s m args below meth c A Q k n bs lv st0 pc := by
  refine z_run (a := (Value.ref b :: As).toArray) (bs' := bs') B hs.pm (fun u => (hs' u).pm.symm) (fun H locs ls hP hD hS h => ?_) kx kk
  obtain ⟨g1, g2⟩ := z_cut hs.pm hP hD
  obtain ⟨P, hq⟩ := z_at hb he
  subst hC
  exact vx_runV (As := As) (rest := st) B.1 (hM H.size) (cwV nA B.1.2.2.2.2 hG hw rfl rfl hd hR) ⟨zPre.blind, va_recv B.2.1 hP hc hq, fun U hU hW => ⟨rfl, by rw [hU], by rw [hU]; exact g1, va_K.moved hW.alike B.2.1, g2, zT.to B.2.2.2.2.2.2.2.2 hS hU hW (z_sub hs.pm hD hS B.2.2.1)⟩⟩ rfl hn (h.1.trans B.1.2.2.1) hst (lv_room hW) d hm
theorem z_callS (B : zF K p l s m args meth c A cc nL own nm Ts ret tb) {S : Type} {f : S → Option Value × zB} {post : S → Prop} {bs' : S → zB} (hM : zMeN l K y ws' rm As bc f post xc) (isC isR : List Nat) (hs : zSp bs bc br isC isR) (hs' : ∀ u, zSp (bs' u) (f u).2 br isC isR)
    (hG : GoodIn Ts (va_wsS own index y ws')) (hw : ws' = Cond.code y bytes maxL ret' :: ws'') (hd : y.cls ≠ "java/lang/invoke/MethodHandle" ∧ y.cls ≠ "java/lang/invoke/VarHandle" ∧ (parseMethodDescriptor y.desc).map (fun d => d.parameters.length) = some nA) (hR : rm.frames + 1 ≤ R.frames ∧ 8 + (maxL + 11) + rm.locals ≤ R.locals) (hn : As.length = nA) (hst : st0 = As.reverse ++ st) (hW : (st.map fun v => v.category).sum ≤ 8) (hm : k + rm.cells ≤ R.cells ∧ n + rm.slots ≤ R.slots) (d : decode cc pc = .ok (.invokestatic index, 3))
    (kx : ∀ E : String, xc E → zXW K p l e R s m args below meth c A Q (k + rm.cells) (n + rm.slots) bs lv st pc E)
    (kk : ∀ u : S, post u → zW K p l e R s m args below meth c A Q (k + rm.cells) (n + rm.slots) (bs' u) lv ((f u).1.toList ++ st) (pc + 3)) : zW K p l e R s m args below meth c A Q k n bs lv st0 pc := by
  refine z_run (a := As.toArray) (bs' := bs') B hs.pm (fun u => (hs' u).pm.symm) (fun H locs ls hP hD hS h => ?_) kx kk
  obtain ⟨g1, g2⟩ := z_cut hs.pm hP hD
  exact vx_runS (As := As) (rest := st) B.1 (hM H.size) (va_cwS nA B.1.2.2.2.2 hG hw rfl rfl hd hR) ⟨zPre.blind, fun U hU hW => ⟨rfl, by rw [hU], by rw [hU]; exact g1, va_K.moved hW.alike B.2.1, g2, zT.to B.2.2.2.2.2.2.2.2 hS hU hW (z_sub hs.pm hD hS B.2.2.1)⟩⟩ rfl hn (h.1.trans B.1.2.2.1) hst (lv_room hW) d hm
/-- a static method with a table (the law's own) -/
theorem z_callH (B : zF K p l s m args meth c A cc nL own nm Ts ret tb) {S : Type} {f : S → Option Value × zB} {post : S → Prop} {bs' : S → zB} {hh : List (Nat × Nat × Nat × Nat)} (hM : zMeN l K y ws' rm As bc f post xc) (isC isR : List Nat) (hs : zSp bs bc br isC isR) (hs' : ∀ u, zSp (bs' u) (f u).2 br isC isR)
    (hG : GoodIn Ts (va_wsS own index y ws')) (hw : ws' = Cond.codeWith y bytes maxL ret' hh :: ws'') (hd : y.cls ≠ "java/lang/invoke/MethodHandle" ∧ y.cls ≠ "java/lang/invoke/VarHandle" ∧ (parseMethodDescriptor y.desc).map (fun d => d.parameters.length) = some nA) (hR : rm.frames + 1 ≤ R.frames ∧ 8 + (maxL + 11) + rm.locals ≤ R.locals) (hn : As.length = nA) (hst : st0 = As.reverse ++ st) (hW : (st.map fun v => v.category).sum ≤ 8) (hm : k + rm.cells ≤ R.cells ∧ n + rm.slots ≤ R.slots) (d : decode cc pc = .ok (.invokestatic index, 3))
    (kx : ∀ E : String, xc E → zXW K p l e R s m args below meth c A Q (k + rm.cells) (n + rm.slots) bs lv st pc E)
    (kk : ∀ u : S, post u → zW K p l e R s m args below meth c A Q (k + rm.cells) (n + rm.slots) (bs' u) lv ((f u).1.toList ++ st) (pc + 3)) : zW K p l e R s m args below meth c A Q k n bs lv st0 pc := by
  refine z_run (a := As.toArray) (bs' := bs') B hs.pm (fun u => (hs' u).pm.symm) (fun H locs ls hP hD hS h => ?_) kx kk
  obtain ⟨g1, g2⟩ := z_cut hs.pm hP hD
  exact vx_runSX (As := As) (rest := st) B.1 (hM H.size) (vx_cwSW (hh := hh) nA B.1.2.2.2.2 hG hw rfl rfl hd hR) ⟨zPre.blind, fun U hU hW => ⟨rfl, by rw [hU], by rw [hU]; exact g1, va_K.moved hW.alike B.2.1, g2, zT.to B.2.2.2.2.2.2.2.2 hS hU hW (z_sub hs.pm hD hS B.2.2.1)⟩⟩ rfl hn (h.1.trans B.1.2.2.1) hst (lv_room hW) d hm
/-- a constructor -/
theorem z_callI (B : zF K p l s m args meth c A cc nL own nm Ts ret tb) {S : Type} {f : S → Option Value × zB} {post : S → Prop} {b : Nat} {bs' : S → zB} (hM : zMeN l K y ws' rm (.ref b :: As) bc f post zNo) (isC isR : List Nat) (hs : zSp bs bc br isC isR) (hs' : ∀ u, zSp (bs' u) (f u).2 br isC isR)
    (hG : GoodIn Ts ws') (hl : Cond.methodLink own index y ∈ Ts) (hin : Cond.instanceMethod y ∈ Ts) (hini : Cond.initialized y.cls ∈ Ts) (hw : ws' = Cond.code y bytes maxL none :: ws'') (hy1 : y.name = "<init>") (hd : y.cls ≠ "java/lang/invoke/MethodHandle" ∧ y.cls ≠ "java/lang/invoke/VarHandle" ∧ (parseMethodDescriptor y.desc).map (fun d => d.parameters.length) = some nA) (hR : rm.frames + 1 ≤ R.frames ∧ 8 + (maxL + 11) + rm.locals ≤ R.locals) (hn : As.length = nA) (hst : st0 = As.reverse ++ .ref b :: st) (hW : (st.map fun v => v.category).sum ≤ 8) (hm : k + rm.cells ≤ R.cells ∧ n + rm.slots ≤ R.slots) (d : decode cc pc = .ok (.invokespecial index, 3))
    (kk : ∀ u : S, post u → zW K p l e R s m args below meth c A Q (k + rm.cells) (n + rm.slots) (bs' u) lv ((f u).1.toList ++ st) (pc + 3)) : zW K p l e R s m args below meth c A Q k n bs lv st0 pc := by
  refine z_run (a := (Value.ref b :: As).toArray) (xc := zNo) (bs' := bs') B hs.pm (fun u => (hs' u).pm.symm) (fun H locs ls hP hD hS h => ?_) (fun E h => absurd h id) kk
  obtain ⟨g1, g2⟩ := z_cut hs.pm hP hD
  intro T hT X
  exact Or.inl (va_runI (As := As) (rest := st) B.1 (hM.met H.size) (cwI nA B.1.2.2.2.2 hG hw rfl rfl (B.1.2.2.2.2 _ hini) (B.1.2.2.2.2 _ hl) (B.1.2.2.2.2 _ hin) hy1 hd hR) ⟨zPre.blind, fun U hU hW => ⟨rfl, by rw [hU], by rw [hU]; exact g1, va_K.moved hW.alike B.2.1, g2, zT.to B.2.2.2.2.2.2.2.2 hS hU hW (z_sub hs.pm hD hS B.2.2.1)⟩⟩ rfl hn (h.1.trans B.1.2.2.1) hst (lv_room hW) d hm T hT X)
-- the same with one end
theorem z_V1 (B : zF K p l s m args meth c A cc nL own nm Ts ret tb) {v : Value} {w bs' : zB} {cond : Prop} {b : Nat} (hM : zMet l K y ws' rm (.ref b :: As) bc (some v) w cond xc) (isC isR : List Nat) (hs : zSp bs bc br isC isR) (hs' : zSp bs' w br isC isR) (q j : Nat) {ci : Nat} {fs : List Value} {bb : va_W} {vc : vw_C} (hb : bs[q]? = some bb) (he : bb[j]? = some (b, .inr (ci, fs))) (hc : vwCl[ci]? = some vc) (hC : vc.1 = C)
    (hG : GoodIn Ts (wsV own index C y ws')) (hw : ws' = Cond.code y bytes maxL ret' :: ws'') (hd : y.cls = C ∧ y.cls ≠ "java/lang/invoke/MethodHandle" ∧ y.cls ≠ "java/lang/invoke/VarHandle" ∧ (parseMethodDescriptor y.desc).map (fun d => d.parameters.length) = some nA) (hR : rm.frames + 1 ≤ R.frames ∧ 8 + (maxL + 11) + rm.locals ≤ R.locals) (hn : As.length = nA) (hst : st0 = As.reverse ++ .ref b :: st) (hW : (st.map fun v => v.category).sum ≤ 8) (hm : k + rm.cells ≤ R.cells ∧ n + rm.slots ≤ R.slots) (d : decode cc pc = .ok (.invokevirtual index, 3))
    (kx : ∀ E : String, xc E → zXW K p l e R s m args below meth c A Q (k + rm.cells) (n + rm.slots) bs lv st pc E)
    (kk : cond → zW K p l e R s m args below meth c A Q (k + rm.cells) (n + rm.slots) bs' lv (v :: st) (pc + 3)) : zW K p l e R s m args below meth c A Q k n bs lv st0 pc :=
  z_callV (bs' := fun _ => bs') B hM isC isR hs (fun _ => hs') q j hb he hc hC hG hw hd hR hn hst hW hm d kx (fun _ h => kk h)
theorem z_V0 (B : zF K p l s m args meth c A cc nL own nm Ts ret tb) {w bs' : zB} {cond : Prop} {b : Nat} (hM : zMet l K y ws' rm (.ref b :: As) bc none w cond xc) (isC isR : List Nat) (hs : zSp bs bc br isC isR) (hs' : zSp bs' w br isC isR) (q j : Nat) {ci : Nat} {fs : List Value} {bb : va_W} {vc : vw_C} (hb : bs[q]? = some bb) (he : bb[j]? = some (b, .inr (ci, fs))) (hc : vwCl[ci]? = some vc) (hC : vc.1 = C)
    (hG : GoodIn Ts (wsV own index C y ws')) (hw : ws' = Cond.code y bytes maxL ret' :: ws'') (hd : y.cls = C ∧ y.cls ≠ "java/lang/invoke/MethodHandle" ∧ y.cls ≠ "java/lang/invoke/VarHandle" ∧ (parseMethodDescriptor y.desc).map (fun d => d.parameters.length) = some nA) (hR : rm.frames + 1 ≤ R.frames ∧ 8 + (maxL + 11) + rm.locals ≤ R.locals) (hn : As.length = nA) (hst : st0 = As.reverse ++ .ref b :: st) (hW : (st.map fun v => v.category).sum ≤ 8) (hm : k + rm.cells ≤ R.cells ∧ n + rm.slots ≤ R.slots) (d : decode cc pc = .ok (.invokevirtual index, 3))
    (kx : ∀ E : String, xc E → zXW K p l e R s m args below meth c A Q (k + rm.cells) (n + rm.slots) bs lv st pc E)
    (kk : cond → zW K p l e R s m args below meth c A Q (k + rm.cells) (n + rm.slots) bs' lv st (pc + 3)) : zW K p l e R s m args below meth c A Q k n bs lv st0 pc :=
  z_callV (bs' := fun _ => bs') B hM isC isR hs (fun _ => hs') q j hb he hc hC hG hw hd hR hn hst hW hm d kx (fun _ h => kk h)
theorem z_S1 (B : zF K p l s m args meth c A cc nL own nm Ts ret tb) {v : Value} {w bs' : zB} {cond : Prop} (hM : zMet l K y ws' rm As bc (some v) w cond xc) (isC isR : List Nat) (hs : zSp bs bc br isC isR) (hs' : zSp bs' w br isC isR)
    (hG : GoodIn Ts (va_wsS own index y ws')) (hw : ws' = Cond.code y bytes maxL ret' :: ws'') (hd : y.cls ≠ "java/lang/invoke/MethodHandle" ∧ y.cls ≠ "java/lang/invoke/VarHandle" ∧ (parseMethodDescriptor y.desc).map (fun d => d.parameters.length) = some nA) (hR : rm.frames + 1 ≤ R.frames ∧ 8 + (maxL + 11) + rm.locals ≤ R.locals) (hn : As.length = nA) (hst : st0 = As.reverse ++ st) (hW : (st.map fun v => v.category).sum ≤ 8) (hm : k + rm.cells ≤ R.cells ∧ n + rm.slots ≤ R.slots) (d : decode cc pc = .ok (.invokestatic index, 3))
    (kx : ∀ E : String, xc E → zXW K p l e R s m args below meth c A Q (k + rm.cells) (n + rm.slots) bs lv st pc E)
    (kk : cond → zW K p l e R s m args below meth c A Q (k + rm.cells) (n + rm.slots) bs' lv (v :: st) (pc + 3)) : zW K p l e R s m args below meth c A Q k n bs lv st0 pc :=
  z_callS (bs' := fun _ => bs') B hM isC isR hs (fun _ => hs') hG hw hd hR hn hst hW hm d kx (fun _ h => kk h)
theorem z_S0 (B : zF K p l s m args meth c A cc nL own nm Ts ret tb) {w bs' : zB} {cond : Prop} (hM : zMet l K y ws' rm As bc none w cond xc) (isC isR : List Nat) (hs : zSp bs bc br isC isR) (hs' : zSp bs' w br isC isR)
    (hG : GoodIn Ts (va_wsS own index y ws')) (hw : ws' = Cond.code y bytes maxL ret' :: ws'') (hd : y.cls ≠ "java/lang/invoke/MethodHandle" ∧ y.cls ≠ "java/lang/invoke/VarHandle" ∧ (parseMethodDescriptor y.desc).map (fun d => d.parameters.length) = some nA) (hR : rm.frames + 1 ≤ R.frames ∧ 8 + (maxL + 11) + rm.locals ≤ R.locals) (hn : As.length = nA) (hst : st0 = As.reverse ++ st) (hW : (st.map fun v => v.category).sum ≤ 8) (hm : k + rm.cells ≤ R.cells ∧ n + rm.slots ≤ R.slots) (d : decode cc pc = .ok (.invokestatic index, 3))
    (kx : ∀ E : String, xc E → zXW K p l e R s m args below meth c A Q (k + rm.cells) (n + rm.slots) bs lv st pc E)
    (kk : cond → zW K p l e R s m args below meth c A Q (k + rm.cells) (n + rm.slots) bs' lv st (pc + 3)) : zW K p l e R s m args below meth c A Q k n bs lv st0 pc :=
  z_callS (bs' := fun _ => bs') B hM isC isR hs (fun _ => hs') hG hw hd hR hn hst hW hm d kx (fun _ h => kk h)
end ZC
theorem z_noX {lv' : List (Nat × Value)} {st' : List Value} {pc' k' n' : Nat} {bs' : zB} : ∀ E : String, zNo E → zXW K p l e R s m args below meth c A Q k' n' bs' lv' st' pc' E := fun _ h => absurd h id
-- making things
theorem z_new (B : zF K p l s m args meth c A cc nL own nm Ts ret tb) {C : String} {T : u_T} {N ci index : Nat} {ty : Nat → FieldType} {fs : List Value} (hin : ∀ w ∈ u_ws C T N, w ∈ Ts) (hty : ∀ k, k < N → parseFieldDescriptor (T k).2.2.1 = some (ty k)) (hcl : Cond.classLink own index C ∈ Ts) (hinst : Cond.instantiable C N ∈ Ts) (hini : Cond.initialized C ∈ Ts) (hc : vwCl[ci]? = some (C, T, N)) (hfs : ∀ j, j < N → defaultValue (ty j) = vp_V fs j) (hk : k + 1 ≤ R.cells) (hm : n + N ≤ R.slots) (d : decode cc pc = .ok (.new index, 3))
    (kk : ∀ q : Nat, zW K p l e R s m args below meth c A Q (k + 1) (n + N) (bs ++ [[(q, .inr (ci, fs))]]) lv (.ref q :: st) (pc + 3)) : zW K p l e R s m args below meth c A Q k n bs lv st pc := by
  intro H locs ls hP hD hS h
  refine va_new (D := K.1) B.1.1 B.1.2.1 B.1.2.2.2.2 hin ty hty B.1.2.2.2.1 (B.1.2.2.2.2 _ hcl) (B.1.2.2.2.2 _ hinst) (B.1.2.2.2.2 _ hini) B.2.1 hP hD hS B.2.2.1 hc hfs hk hm d (fun q H1 hP1 hD1 hS1 => ?_)
  have e9 : (bs ++ [[(q, Sum.inr (ci, fs))]] : zB).flatten = bs.flatten ++ [(q, Sum.inr (ci, fs))] := by rw [List.flatten_append]; rfl
  exact kk q H1 locs ls (by rw [e9]; exact hP1) (by rw [e9]; exact hD1) hS1 h
theorem z_newI (B : zF K p l s m args meth c A cc nL own nm Ts ret tb) (harr : Cond.arrayClass .int ∈ Ts) {x : Int32} {N : Nat} (hx : ¬ x < 0) (hN : x.toNatClampNeg = N) (hb4 : N * 4 ≤ 536870912) (hk : k + 1 ≤ R.cells) (hm : n + N ≤ R.slots) (d : decode cc pc = .ok (.newarray .int, 2))
    (kk : ∀ q : Nat, zW K p l e R s m args below meth c A Q (k + 1) (n + N) (bs ++ [[(q, .inl (zI K, N, .inl (fun _ => 0)))]]) lv (.ref q :: st) (pc + 2)) : zW K p l e R s m args below meth c A Q k n bs lv (.int x :: st) pc := by
  intro H locs ls hP hD hS h
  refine va_newa (atype := .int) (ty := .int) (a0 := (N, .inl (fun _ => 0))) B.1.1 B.1.2.1 (B.1.2.2.2.2 _ harr) rfl B.2.1 hP hD hS B.2.2.1 (fun _ => rfl) hx hN hb4 hk hm d (fun q cA H1 hK1 hP1 hD1 hS1 => ?_)
  have e1 : cA = zI K := Option.some.inj (((hK1.2 4 (cA, .int) rfl).2 : s.vm.findClass _ = some cA).symm.trans (B.2.1.2 0 (zI K, .int) rfl).2)
  subst e1
  have e9 : (bs ++ [[(q, Sum.inl (zI K, N, Sum.inl (fun _ => 0)))]] : zB).flatten = bs.flatten ++ [(q, Sum.inl (zI K, N, Sum.inl (fun _ => 0)))] := by rw [List.flatten_append]; rfl
  exact kk q H1 locs ls (by rw [e9]; exact hP1) (by rw [e9]; exact hD1) hS1 h
theorem z_newA (B : zF K p l s m args meth c A cc nL own nm Ts ret tb) {index : Nat} (hcl : Cond.classLink own index RX2 ∈ Ts) {x : Int32} {N : Nat} (hx : ¬ x < 0) (hN : x.toNatClampNeg = N) (hb4 : N * 4 ≤ 536870912) (hk : k + 1 ≤ R.cells) (hm : n + N ≤ R.slots) (d : decode cc pc = .ok (.anewarray index, 3))
    (kk : ∀ q : Nat, zW K p l e R s m args below meth c A Q (k + 1) (n + N) (bs ++ [[(q, .inl (zS K, N, .inr (.inr (.inr (.inr (fun _ => none))))))]]) lv (.ref q :: st) (pc + 3)) : zW K p l e R s m args below meth c A Q k n bs lv (.int x :: st) pc := by
  intro H locs ls hP hD hS h
  refine va_newq B.1.1 B.1.2.1 B.1.2.2.2.1 (B.1.2.2.2.2 _ hcl) B.2.2.2.2.2.2.2.2.2.2.2.2.2.2.1 B.2.1 hP hD hS B.2.2.1 hx hN hb4 hk hm d (fun q cA H1 hK1 hP1 hD1 hS1 => ?_)
  have e1 : cA = zS K := by
    obtain ⟨_, _, _, _, _, h4⟩ := (hK1.2 4 (cA, .object RX2) rfl).2
    obtain ⟨_, _, _, _, _, h5⟩ := (B.2.1.2 2 (zS K, .object "ResolverFleet$Site") rfl).2
    exact Option.some.inj (h4.symm.trans h5)
  subst e1
  have e9 : (bs ++ [[(q, Sum.inl (zS K, N, Sum.inr (Sum.inr (Sum.inr (Sum.inr (fun _ => none))))))]] : zB).flatten = bs.flatten ++ [(q, Sum.inl (zS K, N, Sum.inr (Sum.inr (Sum.inr (Sum.inr (fun _ => none))))))] := by rw [List.flatten_append]; rfl
  exact kk q H1 locs ls (by rw [e9]; exact hP1) (by rw [e9]; exact hD1) hS1 h
theorem z_objInit (B : zF K p l s m args meth c A cc nL own nm Ts ret tb) {a idx : Nat} (hlink : Cond.methodLink own idx objectInit ∈ Ts) (hinst : Cond.instanceMethod objectInit ∈ Ts) (hcode : Cond.code objectInit ⟨#[0xb1]⟩ 1 none ∈ Ts) (hf : 1 ≤ R.frames) (hlo : (st.map fun v => v.category).sum + 12 ≤ R.locals) (d : decode cc pc = .ok (.invokespecial idx, 3))
    (kk : zW K p l e R s m args below meth c A Q k n bs lv st (pc + 3)) : zW K p l e R s m args below meth c A Q k n bs lv (.ref a :: st) pc := by
  intro H locs ls hP hD hS h
  refine W.objInit B.1.1 B.1.2.1 B.1.2.2.2.1 (B.1.2.2.2.2 _ hlink) (B.1.2.2.2.2 _ hinst) (B.1.2.2.2.2 _ hcode) rfl h.1 rfl d hf (by show 2 * 0 + _ + 12 ≤ _; omega) ?_
  exact W.eq (g2 := F0 m (pc + 3) ls st) rfl (kk H locs ls hP hD hS h)
-- throwing and catching
theorem z_throw {Qc : Array Value → State → Outcome → State → Prop} {xc : String → Prop} {mc ms : Nat} {cls text : String} {ik is ic : Nat} (B : zF K p l s m args meth c A cc nL own nm Ts ret []) (ho : own = RX4) (names : List String) (hcls : Bundle.fit cls = true) (hnames : ∀ n ∈ names, Bundle.fit n = true) (hk : Cond.classLink own ik cls ∈ Ts) (hini : Cond.initialized cls ∈ Ts) (hstr : (is, text) ∈ zTx) (hat : ∀ w ∈ (vx_atS own ic cls names).filter goodWord, w ∈ Ts) (hng : ∀ w ∈ (vx_atS own ic cls names).filter (fun w => !goodWord w), w ∈ zNw) (hgood : ∀ w ∈ Cond.classLink own ik cls :: Cond.initialized cls :: vx_atS own ic cls names, vx_ot w = true)
    (d0 : decode cc pc = .ok (.new ik, 3)) (d3 : decode cc (pc + 3) = .ok (.dup, 1)) (d4 : decode cc (pc + 4) = .ok (.ldc is, 2)) (d6 : decode cc (pc + 6) = .ok (.invokespecial ic, 3)) (d9 : decode cc (pc + 9) = .ok (.athrow, 1))
    (hRf : names.length + 3 < R.frames) (hRl : (st.map fun v => v.category).sum + (13 * (names.length + 1) + 43) ≤ R.locals) (hRc : k + 1 ≤ R.cells) (hRs : n + 6 ≤ R.slots) (hx : xc cls) (hc : k + 1 ≤ mc) (hm : n + 6 ≤ ms) :
    zW K p l e R s m args below meth c A (vx_MQ below Qc (zX K A bs xc) args s mc ms A) k n bs lv st pc := by
  subst ho
  intro H locs ls hP hD hS h
  obtain ⟨sa, hsa⟩ := B.2.2.2.2.2.2.2.2.2.2.1 _ hstr
  refine vx_throwS B.1.1 B.1.2.1 B.2.2.2.2.2.2.2.1 B.1.2.2.2.1 hcls hnames (B.1.2.2.2.2 _ hk) (B.1.2.2.2.2 _ hini) hsa (vx_hat (B := zNw) (fun w hw => B.1.2.2.2.2 _ (hat w hw)) hng (fun w hw => va_tabs (zNw_tab hw) rfl (B.2.2.2.2.2.2.2.2.2.2.2.2.2.2.2 w hw))) hgood B.2.2.2.2.2.2.2.2.1 B.2.2.2.2.2.2.2.2.2.1 hS h.1 d0 d3 d4 d6 d9 (fun x hx' => by rw [B.2.2.2.2.2.2.1] at hx'; cases hx') hRf hRl hRc hRs B.2.2.2.1 (fun t hal hz hq => ⟨hx, hP.kept (fun k q hk => hq q.1 (hP k q hk).lt), hD, ⟨Nat.le_trans hS.1 hz, fun q h1 h2 => (hq q (Nat.lt_of_lt_of_le h1 hS.1)).trans (hS.2.1 q h1 h2)⟩⟩) hS.2.2 hc hm
/-- caught: the rows ahead name other exceptions -/
theorem z_catch {E name : String} (B : zF K p l s m args meth c A cc nL own nm Ts ret tb) (pre : List ExceptionTableEntry) (x : ExceptionTableEntry) (suf : List ExceptionTableEntry) (hsplit : tb = pre ++ x :: suf)
    (hpass : ∀ z ∈ pre, covers z pc = false ∨ (z.catchType ≠ 0 ∧ ∃ nm : String, Cond.classLink own z.catchType nm ∈ Ts ∧ va_Nc E nm s)) (hx : covers x pc = true) (h0 : x.catchType ≠ 0) (hlink : Cond.classLink own x.catchType name ∈ Ts) (hcast : Cond.castable E name ∈ zNw)
    (kk : ∀ q : Nat, zW K p l e R s m args below meth c A Q k n bs lv [.ref q] x.handlerPc) : zXW K p l e R s m args below meth c A Q k n bs lv st pc E := by
  intro H locs ls q ce hP hD hS h hce hcv hcl
  exact vx_catch B.1.2.2.2.1 pre x suf (B.2.2.2.2.2.2.1.trans hsplit) (fun z hz => (hpass z hz).imp id (fun ⟨h1, nm, h2, h3⟩ => ⟨h1, nm, B.1.2.2.2.2 _ h2, h3⟩)) hx h0 (B.1.2.2.2.2 _ hlink) (va_tabs (zNw_tab hcast) rfl (B.2.2.2.2.2.2.2.2.2.2.2.2.2.2.2 _ hcast)) hce hcv hcl (kk q H locs ls hP hD hS h)
end ZR
end
section
/-! THE STATE: blocks of cells and the functions that they are read off. A row of ints is a function of Nat; an object's int fields are a function of the field's place. -/
/-- a cache: rows 0 kinds, 1 values, 2 lives, 3 ends, 4 hits; row 5 at 0: its size -/
def zCa (K : zK) (a : Nat → Nat) (C : Nat → Nat → Int32) : va_W := [(a 0, .inr (0, [.ref (a 1), .ref (a 2), .ref (a 3), .ref (a 4), .ref (a 5), .int (C 5 0)])), (a 1, .inl (zI K, 16, .inl (C 0))), (a 2, .inl (zI K, 16, .inl (C 1))), (a 3, .inl (zI K, 16, .inl (C 2))), (a 4, .inl (zI K, 16, .inl (C 3))), (a 5, .inl (zI K, 16, .inl (C 4)))]
/-- a course: F the fresh names; O 1 freshCount, 2 lookUps, 3 fetches, 4 prefetches, 5 isStale -/
def zCo (K : zK) (a : Nat → Nat) (F : Nat → Int32) (O : Nat → Int32) : va_W := [(a 0, .inr (1, [.ref (a 1), .int (O 1), .int (O 2), .int (O 3), .int (O 4), .int (O 5)])), (a 1, .inl (zI K, 5, .inl F))]
/-- the zone: rows 0 kinds, 1 values, 2 lives; O 3 bound, 4 isUp -/
def zZo (K : zK) (a : Nat → Nat) (Z : Nat → Nat → Int32) (O : Nat → Int32) : va_W := [(a 0, .inr (3, [.ref (a 1), .ref (a 2), .ref (a 3), .int (O 3), .int (O 4)])), (a 1, .inl (zI K, 16, .inl (Z 0))), (a 2, .inl (zI K, 16, .inl (Z 1))), (a 3, .inl (zI K, 16, .inl (Z 2)))]
/-- the fleet's own object: X 2 siteCount, 3 now, 5 lastSiteNumber, 8 queries, 9 fetches, 10 prefetches, 11 stale, 12 failures -/
def zXo (a z sa la tr tc : Nat) (X : Nat → Int32) : va_W := [(a, .inr (4, [.ref z, .ref sa, .int (X 2), .int (X 3), .ref la, .int (X 5), .ref tr, .ref tc, .int (X 8), .int (X 9), .int (X 10), .int (X 11), .int (X 12)]))]
def zSa (K : zK) (a : Nat) (f : Nat → Option Nat) : va_W := [(a, .inl (zS K, 4, .inr (.inr (.inr (.inr f)))))]
/-- the sites' own objects, n of them, at so i, their caches at sc i 0: D 0 number, 1 position, 3 isAnnounced -/
def zSi (a ca : Nat) (d : Nat → Int32) : Nat × va_E := (a, .inr (2, [.int (d 0), .int (d 1), .ref ca, .int (d 3)]))
def zSO (n : Nat) (so : Nat → Nat) (sc : Nat → Nat → Nat) (D : Nat → Nat → Int32) : va_W := (List.range n).map (fun i => zSi (so i) (sc i 0) (D i))
/-- their caches -/
def zSC (K : zK) (n : Nat) (sc : Nat → Nat → Nat) (Cs : Nat → Nat → Nat → Int32) : va_W := ((List.range n).map (fun i => zCa K (sc i) (Cs i))).flatten
theorem z_vp {x M : Int32} {N : Nat} (hM : M.toInt = N) (h1 : ¬ x < 0) (h2 : ¬ M ≤ x) : vp_in x N := by
  rw [vp_in_iff]
  rw [Int32.lt_iff_toInt_lt] at h1
  rw [Int32.le_iff_toInt_le, hM] at h2
  have e : (0 : Int32).toInt = 0 := rfl
  rw [e] at h1
  exact ⟨by omega, by omega⟩
theorem z_vpc {x : Int32} {N k : Nat} (hx : x.toInt = k) (h : k < N) : vp_in x N := by
  rw [vp_in_iff, hx]
  exact ⟨by omega, by omega⟩
theorem z_nz {x : Int32} (h : x = 0 ∨ x = 1) : narrow .boolean (.int x) = .int x := by rcases h with rfl | rfl <;> rfl
theorem z_fz {x : Int32} (h : x = 0 ∨ x = 1) : fits .boolean (.int x) = true := by rcases h with rfl | rfl <;> rfl
theorem zSO_get {n i : Nat} {so : Nat → Nat} {sc : Nat → Nat → Nat} {D : Nat → Nat → Int32} (h : i < n) : (zSO n so sc D)[i]? = some (zSi (so i) (sc i 0) (D i)) := by
  unfold zSO
  rw [List.getElem?_map, List.getElem?_range h]
  rfl
theorem z_vp2 {x M : Int32} {N : Nat} (hM : M.toInt = N) (h1 : ¬ x < 0) (h2 : x < M) : vp_in x N := by
  rw [Int32.lt_iff_toInt_lt] at h1 h2
  rw [hM] at h2
  have e : (0 : Int32).toInt = 0 := rfl
  rw [e] at h1
  exact vp_in_iff.mpr ⟨by omega, by omega⟩
theorem z_vn {x : Int32} (h : x = 0 ∨ x = 1) : vp_nar .boolean x = x := by rcases h with rfl | rfl <;> rfl
theorem zsp {bs bc br : zB} {isC isR : List Nat} (h1 : isC.filterMap (fun i => bs[i]?) = bc) (h2 : isR.filterMap (fun i => bs[i]?) = br) (h3 : (isC ++ isR).isPerm (List.range bs.length) = true) : zSp bs bc br isC isR := ⟨h1, h2, h3⟩
section ZR2
variable {K : zK} {p : Program} {l : Launch} {e : Env} {R : Room} {s : State} {m : MethodId} {args : Array Value} {below : List Frame} {meth : Method} {c : Code} {A : Nat → Prop} {Q : State → Prop} {k n : Nat} {bs : zB} {lv : List (Nat × Value)} {st : List Value} {pc : Nat}
variable {cc : ByteArray} {nL : Nat} {own nm : String} {Ts : List Cond} {ret : Option FieldType} {tb : List ExceptionTableEntry}
theorem z_abs (B : zF K p l s m args meth c A cc nL own nm Ts ret tb) {index : Nat} {x : Int32} (hl : Cond.methodLink own index Lib.Math.abs.name ∈ Ts) (hst : Cond.static Lib.Math.abs.name ∈ Ts) (hi : Cond.initialized "java/lang/Math" ∈ Ts) (hc : Cond.code Lib.Math.abs.name Lib.Math.abs.code 1 (some .int) ∈ Ts) (hf : 1 ≤ R.frames) (hlo : (st.map fun v => v.category).sum + 13 ≤ R.locals) (hk : k ≤ R.cells) (hn : n ≤ R.slots) (d : decode cc pc = .ok (.invokestatic index, 3))
    (kk : zW K p l e R s m args below meth c A Q k n bs lv (.int (if 0 ≤ x then x else 0 - x) :: st) (pc + 3)) : zW K p l e R s m args below meth c A Q k n bs lv (.int x :: st) pc :=
  fun H locs ls hP hD hS h => va_mabs B.1.1 B.1.2.1 h.1.symm B.1.2.2.2.1 (B.1.2.2.2.2 _ hl) (B.1.2.2.2.2 _ hst) (B.1.2.2.2.2 _ hi) (B.1.2.2.2.2 _ hc) hf hlo hk hn d (kk H locs ls hP hD hS h)
theorem z_copyI (B : zF K p l s m args meth c A cc nL own nm Ts ret tb) {index a0 a1 : Nat} {f g : Nat → Int32} {b0 b1 : va_W} (hl : Cond.methodLink own index arraycopyName ∈ Ts) (hna : Cond.native arraycopyName ∈ Ts) (hst : Cond.static arraycopyName ∈ Ts) (hi : Cond.initialized "java/lang/System" ∈ Ts) (q0 j0 q1 j1 : Nat) (hb0 : bs[q0]? = some b0) (he0 : b0[j0]? = some (a0, .inl (zI K, 16, .inl f))) (hb1 : bs[q1]? = some b1) (he1 : b1[j1]? = some (a1, .inl (zI K, 16, .inl g))) {bs' : zB} (hbs : bs.set q1 (b1.set j1 (a1, .inl (zI K, 16, .inl (va_cpy f g 0 0 16)))) = bs')
    (hf : 1 ≤ R.frames) (hlo : (st.map fun v => v.category).sum + (nativeFrameWords "java/lang/System" "arraycopy" 5 + 11) ≤ R.locals) (d : decode cc pc = .ok (.invokestatic index, 3))
    (kk : zW K p l e R s m args below meth c A Q k n bs' lv st (pc + 3)) : zW K p l e R s m args below meth c A Q k n bs lv (.int 16 :: .int 0 :: .ref a1 :: .int 0 :: .ref a0 :: st) pc := by
  subst hbs
  intro H locs ls hP hD hS h
  obtain ⟨P0, hq0⟩ := z_at hb0 he0
  obtain ⟨P1, hq1, hset⟩ := z_fl bs q1 j1 b1 _ (a1, .inl (zI K, 16, .inl (va_cpy f g 0 0 16))) hb1 he1
  refine va_copyi (D := K.1) B.1.1 B.1.2.1 h.1.symm B.1.2.2.2.1 (B.1.2.2.2.2 _ hl) (B.1.2.2.2.2 _ hna) (B.1.2.2.2.2 _ hst) (B.1.2.2.2.2 _ hi) B.2.1 hP hD hS P0 P1 0 0 hq0 hq1 rfl rfl rfl (by decide) (by decide) (by decide) (by decide) (by decide) (fun _ _ => rfl) hf hlo d (fun H1 locs1 hP1 hD1 hS1 => ?_)
  rw [show Int32.toNatClampNeg 0 = 0 from rfl, show Int32.toNatClampNeg 16 = 16 from rfl, ← hset] at hP1 hD1
  exact kk H1 locs1 ls hP1 hD1 hS1 h
end ZR2
theorem z_lge0 {a N : Nat} (h : a + 0 = N) (hN : N < 2 ^ 31) : nI N ≤ nI a := nI_le (by omega) (by omega)
theorem z_lgeS {a n N : Nat} (h : a + (n + 1) = N) (hN : N < 2 ^ 31) : ¬ nI N ≤ nI a := nI_ge (by omega) hN
theorem z_lgt0 {a N : Nat} (h : a + 0 = N + 1) (hN : N + 1 < 2 ^ 31) : nI N < nI a := nI_lt (by omega) (by omega)
theorem z_lgtS {a n N : Nat} (h : a + (n + 1) = N + 1) (hN : N + 1 < 2 ^ 31) : ¬ nI N < nI a := nI_nlt (by omega) (by omega)
theorem z_nIr {a N : Nat} (h : a < N) (hN : N < 2 ^ 31) : vp_in (nI a) N := vp_in_nI h hN
theorem z_of {x : Int32} {N : Nat} (h : x < 0 ∨ vp_in x N) (h0 : ¬ x < 0) : vp_in x N := h.resolve_left h0
end
section
def fX3_put (Z : Nat → Nat → Int32) (O : Nat → Int32) (x1 : Int32) (x2 : Int32) (x3 : Int32) (x4 : Int32) : (Nat → Nat → Int32) :=
  if x1 < 0 then
    Z
  else
    if x1 < 16 then
      (va_up (va_up (va_up Z 0 (upd (Z 0) x1.toNatClampNeg x2)) 1 (upd (Z 1) x1.toNatClampNeg x3)) 2 (upd (Z 2) x1.toNatClampNeg x4))
    else
      Z
theorem hiX3_put_3 : ∀ w ∈ wsX30, w ∈ wsX3_put := by decide +kernel
theorem hfX3_put_9 : Cond.fieldLink RX3 9 "ResolverFleet$Zone" "kinds" "[I" ∈ wsX3_put := by decide +kernel
theorem hfX3_put_15 : Cond.fieldLink RX3 15 "ResolverFleet$Zone" "values" "[I" ∈ wsX3_put := by decide +kernel
theorem hfX3_put_18 : Cond.fieldLink RX3 18 "ResolverFleet$Zone" "lives" "[I" ∈ wsX3_put := by decide +kernel
set_option maxHeartbeats 4000000 in
set_option maxRecDepth 100000 in
theorem kX3_put (l : Launch) (hl : l.stackTraces = false) (K : zK) (az : Nat → Nat) (Z : Nat → Nat → Int32) (O : Nat → Int32) (x1 : Int32) (x2 : Int32) (x3 : Int32) (x4 : Int32) : zMet l K yX3_put wsX3_put { frames := 0, cells := 0, slots := 0, locals := 0 } [.ref (az 0), .int x1, .int x2, .int x3, .int x4] [zZo K az Z O] none [zZo K az (fX3_put Z O x1 x2 x3 x4) O] True zNo := by
  refine zMeN.of (cc := cX3_put) (maxL := 5) (ret := none) (own := RX3) (nm := "put") hl (by decide +kernel) rfl rfl rfl (Nat.le_of_ble_eq_true rfl) (lv := [(0, .ref (az 0)), (1, .int x1), (2, .int x2), (3, .int x3), (4, .int x4)]) rfl ?_
  intro p e s m args below meth c A B
  refine z_iload_n B dX3_put_0 1 rfl ?_
  refine z_iflt B 10 dX3_put_1 (by decide) (fun c1 => ?_) (fun c1 => ?_)
  · have hF : fX3_put Z O x1 x2 x3 x4 = Z := if_pos c1
    exact z_ret0 B dX3_put_10 () (trivial) (Nat.le_of_ble_eq_true rfl) (Nat.le_of_ble_eq_true rfl) rfl (by rw [hF])
  · refine z_iload_n B dX3_put_4 1 rfl ?_
    refine z_bipush B (v := 16) dX3_put_5 rfl ?_
    refine z_iclt B 11 dX3_put_7 (by decide) (fun c2 => ?_) (fun c2 => ?_)
    · refine z_aload_n B dX3_put_11 0 rfl ?_
      refine z_get B (v := .ref (az 1)) 0 0 0 hiX3_put_3 hfX3_put_9 rfl rfl rfl (by decide) rfl rfl rfl rfl dX3_put_12 ?_
      refine z_iload_n B dX3_put_15 1 rfl ?_
      refine z_iload_n B dX3_put_16 2 rfl ?_
      refine z_iast B (N := 16) (f := (Z 0)) 0 1 rfl rfl (z_vp2 (M := 16) rfl c1 c2) (bs' := [zZo K az (va_up Z 0 (upd (Z 0) x1.toNatClampNeg x2)) O]) rfl dX3_put_17 ?_
      refine z_aload_n B dX3_put_18 0 rfl ?_
      refine z_get B (v := .ref (az 2)) 0 0 1 hiX3_put_3 hfX3_put_15 rfl rfl rfl (by decide) rfl rfl rfl rfl dX3_put_19 ?_
      refine z_iload_n B dX3_put_22 1 rfl ?_
      refine z_iload_n B dX3_put_23 3 rfl ?_
      refine z_iast B (N := 16) (f := (Z 1)) 0 2 rfl rfl (z_vp2 (M := 16) rfl c1 c2) (bs' := [zZo K az (va_up (va_up Z 0 (upd (Z 0) x1.toNatClampNeg x2)) 1 (upd (Z 1) x1.toNatClampNeg x3)) O]) rfl dX3_put_24 ?_
      refine z_aload_n B dX3_put_25 0 rfl ?_
      refine z_get B (v := .ref (az 3)) 0 0 2 hiX3_put_3 hfX3_put_18 rfl rfl rfl (by decide) rfl rfl rfl rfl dX3_put_26 ?_
      refine z_iload_n B dX3_put_29 1 rfl ?_
      refine z_iload B dX3_put_30 4 rfl ?_
      refine z_iast B (N := 16) (f := (Z 2)) 0 3 rfl rfl (z_vp2 (M := 16) rfl c1 c2) (bs' := [zZo K az (va_up (va_up (va_up Z 0 (upd (Z 0) x1.toNatClampNeg x2)) 1 (upd (Z 1) x1.toNatClampNeg x3)) 2 (upd (Z 2) x1.toNatClampNeg x4)) O]) rfl dX3_put_32 ?_
      have hF : fX3_put Z O x1 x2 x3 x4 = (va_up (va_up (va_up Z 0 (upd (Z 0) x1.toNatClampNeg x2)) 1 (upd (Z 1) x1.toNatClampNeg x3)) 2 (upd (Z 2) x1.toNatClampNeg x4)) := (if_neg c1).trans (if_pos c2)
      exact z_ret0 B dX3_put_33 () (trivial) (Nat.le_of_ble_eq_true rfl) (Nat.le_of_ble_eq_true rfl) rfl (by rw [hF])
    · have hF : fX3_put Z O x1 x2 x3 x4 = Z := (if_neg c1).trans (if_neg c2)
      exact z_ret0 B dX3_put_10 () (trivial) (Nat.le_of_ble_eq_true rfl) (Nat.le_of_ble_eq_true rfl) rfl (by rw [hF])
def fX3_kindOf (Z : Nat → Nat → Int32) (O : Nat → Int32) (x1 : Int32) : Int32 :=
  if x1 < 0 then
    2
  else
    if x1 < 16 then
      ((Z 0) x1.toNatClampNeg)
    else
      2
theorem hiX3_kindOf_3 : ∀ w ∈ wsX30, w ∈ wsX3_kindOf := by decide +kernel
theorem hfX3_kindOf_9 : Cond.fieldLink RX3 9 "ResolverFleet$Zone" "kinds" "[I" ∈ wsX3_kindOf := by decide +kernel
set_option maxHeartbeats 4000000 in
set_option maxRecDepth 100000 in
theorem kX3_kindOf (l : Launch) (hl : l.stackTraces = false) (K : zK) (az : Nat → Nat) (Z : Nat → Nat → Int32) (O : Nat → Int32) (x1 : Int32) : zMet l K yX3_kindOf wsX3_kindOf { frames := 0, cells := 0, slots := 0, locals := 0 } [.ref (az 0), .int x1] [zZo K az Z O] (some (.int (fX3_kindOf Z O x1))) [zZo K az Z O] True zNo := by
  refine zMeN.of (cc := cX3_kindOf) (maxL := 2) (ret := (some .int)) (own := RX3) (nm := "kindOf") hl (by decide +kernel) rfl rfl rfl (Nat.le_of_ble_eq_true rfl) (lv := [(0, .ref (az 0)), (1, .int x1)]) rfl ?_
  intro p e s m args below meth c A B
  refine z_iload_n B dX3_kindOf_0 1 rfl ?_
  refine z_iflt B 10 dX3_kindOf_1 (by decide) (fun c1 => ?_) (fun c1 => ?_)
  · refine z_iconst B (v := 2) dX3_kindOf_10 rfl ?_
    refine z_goto B (tgt := 20) dX3_kindOf_11 (by decide) ?_
    have hF : fX3_kindOf Z O x1 = 2 := if_pos c1
    exact z_ret1 B rfl dX3_kindOf_20 () (trivial) (Nat.le_of_ble_eq_true rfl) (Nat.le_of_ble_eq_true rfl) (by rw [hF]) (by rw [hF])
  · refine z_iload_n B dX3_kindOf_4 1 rfl ?_
    refine z_bipush B (v := 16) dX3_kindOf_5 rfl ?_
    refine z_iclt B 14 dX3_kindOf_7 (by decide) (fun c2 => ?_) (fun c2 => ?_)
    · refine z_aload_n B dX3_kindOf_14 0 rfl ?_
      refine z_get B (v := .ref (az 1)) 0 0 0 hiX3_kindOf_3 hfX3_kindOf_9 rfl rfl rfl (by decide) rfl rfl rfl rfl dX3_kindOf_15 ?_
      refine z_iload_n B dX3_kindOf_18 1 rfl ?_
      refine z_iald B (N := 16) (f := (Z 0)) 0 1 rfl rfl (z_vp2 (M := 16) rfl c1 c2) dX3_kindOf_19 ?_
      have hF : fX3_kindOf Z O x1 = ((Z 0) x1.toNatClampNeg) := (if_neg c1).trans (if_pos c2)
      exact z_ret1 B rfl dX3_kindOf_20 () (trivial) (Nat.le_of_ble_eq_true rfl) (Nat.le_of_ble_eq_true rfl) (by rw [hF]) (by rw [hF])
    · refine z_iconst B (v := 2) dX3_kindOf_10 rfl ?_
      refine z_goto B (tgt := 20) dX3_kindOf_11 (by decide) ?_
      have hF : fX3_kindOf Z O x1 = 2 := (if_neg c1).trans (if_neg c2)
      exact z_ret1 B rfl dX3_kindOf_20 () (trivial) (Nat.le_of_ble_eq_true rfl) (Nat.le_of_ble_eq_true rfl) (by rw [hF]) (by rw [hF])
def fX3_valueOf (Z : Nat → Nat → Int32) (O : Nat → Int32) (x1 : Int32) : Int32 :=
  if x1 < 0 then
    (-3)
  else
    if x1 < 16 then
      ((Z 1) x1.toNatClampNeg)
    else
      (-3)
theorem hiX3_valueOf_3 : ∀ w ∈ wsX30, w ∈ wsX3_valueOf := by decide +kernel
theorem hfX3_valueOf_15 : Cond.fieldLink RX3 15 "ResolverFleet$Zone" "values" "[I" ∈ wsX3_valueOf := by decide +kernel
set_option maxHeartbeats 4000000 in
set_option maxRecDepth 100000 in
theorem kX3_valueOf (l : Launch) (hl : l.stackTraces = false) (K : zK) (az : Nat → Nat) (Z : Nat → Nat → Int32) (O : Nat → Int32) (x1 : Int32) : zMet l K yX3_valueOf wsX3_valueOf { frames := 0, cells := 0, slots := 0, locals := 0 } [.ref (az 0), .int x1] [zZo K az Z O] (some (.int (fX3_valueOf Z O x1))) [zZo K az Z O] True zNo := by
  refine zMeN.of (cc := cX3_valueOf) (maxL := 2) (ret := (some .int)) (own := RX3) (nm := "valueOf") hl (by decide +kernel) rfl rfl rfl (Nat.le_of_ble_eq_true rfl) (lv := [(0, .ref (az 0)), (1, .int x1)]) rfl ?_
  intro p e s m args below meth c A B
  refine z_iload_n B dX3_valueOf_0 1 rfl ?_
  refine z_iflt B 10 dX3_valueOf_1 (by decide) (fun c1 => ?_) (fun c1 => ?_)
  · refine z_bipush B (v := (-3)) dX3_valueOf_10 rfl ?_
    refine z_goto B (tgt := 21) dX3_valueOf_12 (by decide) ?_
    have hF : fX3_valueOf Z O x1 = (-3) := if_pos c1
    exact z_ret1 B rfl dX3_valueOf_21 () (trivial) (Nat.le_of_ble_eq_true rfl) (Nat.le_of_ble_eq_true rfl) (by rw [hF]) (by rw [hF])
  · refine z_iload_n B dX3_valueOf_4 1 rfl ?_
    refine z_bipush B (v := 16) dX3_valueOf_5 rfl ?_
    refine z_iclt B 15 dX3_valueOf_7 (by decide) (fun c2 => ?_) (fun c2 => ?_)
    · refine z_aload_n B dX3_valueOf_15 0 rfl ?_
      refine z_get B (v := .ref (az 2)) 0 0 1 hiX3_valueOf_3 hfX3_valueOf_15 rfl rfl rfl (by decide) rfl rfl rfl rfl dX3_valueOf_16 ?_
      refine z_iload_n B dX3_valueOf_19 1 rfl ?_
      refine z_iald B (N := 16) (f := (Z 1)) 0 2 rfl rfl (z_vp2 (M := 16) rfl c1 c2) dX3_valueOf_20 ?_
      have hF : fX3_valueOf Z O x1 = ((Z 1) x1.toNatClampNeg) := (if_neg c1).trans (if_pos c2)
      exact z_ret1 B rfl dX3_valueOf_21 () (trivial) (Nat.le_of_ble_eq_true rfl) (Nat.le_of_ble_eq_true rfl) (by rw [hF]) (by rw [hF])
    · refine z_bipush B (v := (-3)) dX3_valueOf_10 rfl ?_
      refine z_goto B (tgt := 21) dX3_valueOf_12 (by decide) ?_
      have hF : fX3_valueOf Z O x1 = (-3) := (if_neg c1).trans (if_neg c2)
      exact z_ret1 B rfl dX3_valueOf_21 () (trivial) (Nat.le_of_ble_eq_true rfl) (Nat.le_of_ble_eq_true rfl) (by rw [hF]) (by rw [hF])
def fX3_lifeOf (Z : Nat → Nat → Int32) (O : Nat → Int32) (x1 : Int32) : Int32 :=
  if x1 < 0 then
    (O 3)
  else
    if 16 ≤ x1 then
      (O 3)
    else
      if ((Z 0) x1.toNatClampNeg) = 2 then
        (O 3)
      else
        ((Z 2) x1.toNatClampNeg)
theorem hiX3_lifeOf_3 : ∀ w ∈ wsX30, w ∈ wsX3_lifeOf := by decide +kernel
theorem hfX3_lifeOf_21 : Cond.fieldLink RX3 21 "ResolverFleet$Zone" "bound" "I" ∈ wsX3_lifeOf := by decide +kernel
theorem hfX3_lifeOf_9 : Cond.fieldLink RX3 9 "ResolverFleet$Zone" "kinds" "[I" ∈ wsX3_lifeOf := by decide +kernel
theorem hfX3_lifeOf_18 : Cond.fieldLink RX3 18 "ResolverFleet$Zone" "lives" "[I" ∈ wsX3_lifeOf := by decide +kernel
set_option maxHeartbeats 4000000 in
set_option maxRecDepth 100000 in
theorem kX3_lifeOf (l : Launch) (hl : l.stackTraces = false) (K : zK) (az : Nat → Nat) (Z : Nat → Nat → Int32) (O : Nat → Int32) (x1 : Int32) : zMet l K yX3_lifeOf wsX3_lifeOf { frames := 0, cells := 0, slots := 0, locals := 0 } [.ref (az 0), .int x1] [zZo K az Z O] (some (.int (fX3_lifeOf Z O x1))) [zZo K az Z O] True zNo := by
  refine zMeN.of (cc := cX3_lifeOf) (maxL := 2) (ret := (some .int)) (own := RX3) (nm := "lifeOf") hl (by decide +kernel) rfl rfl rfl (Nat.le_of_ble_eq_true rfl) (lv := [(0, .ref (az 0)), (1, .int x1)]) rfl ?_
  intro p e s m args below meth c A B
  refine z_iload_n B dX3_lifeOf_0 1 rfl ?_
  refine z_iflt B 20 dX3_lifeOf_1 (by decide) (fun c1 => ?_) (fun c1 => ?_)
  · refine z_aload_n B dX3_lifeOf_20 0 rfl ?_
    refine z_get B (v := .int (O 3)) 0 0 3 hiX3_lifeOf_3 hfX3_lifeOf_21 rfl rfl rfl (by decide) rfl rfl rfl rfl dX3_lifeOf_21 ?_
    refine z_goto B (tgt := 33) dX3_lifeOf_24 (by decide) ?_
    have hF : fX3_lifeOf Z O x1 = (O 3) := if_pos c1
    exact z_ret1 B rfl dX3_lifeOf_33 () (trivial) (Nat.le_of_ble_eq_true rfl) (Nat.le_of_ble_eq_true rfl) (by rw [hF]) (by rw [hF])
  · refine z_iload_n B dX3_lifeOf_4 1 rfl ?_
    refine z_bipush B (v := 16) dX3_lifeOf_5 rfl ?_
    refine z_icge B 20 dX3_lifeOf_7 (by decide) (fun c2 => ?_) (fun c2 => ?_)
    · refine z_aload_n B dX3_lifeOf_20 0 rfl ?_
      refine z_get B (v := .int (O 3)) 0 0 3 hiX3_lifeOf_3 hfX3_lifeOf_21 rfl rfl rfl (by decide) rfl rfl rfl rfl dX3_lifeOf_21 ?_
      refine z_goto B (tgt := 33) dX3_lifeOf_24 (by decide) ?_
      have hF : fX3_lifeOf Z O x1 = (O 3) := (if_neg c1).trans (if_pos c2)
      exact z_ret1 B rfl dX3_lifeOf_33 () (trivial) (Nat.le_of_ble_eq_true rfl) (Nat.le_of_ble_eq_true rfl) (by rw [hF]) (by rw [hF])
    · refine z_aload_n B dX3_lifeOf_10 0 rfl ?_
      refine z_get B (v := .ref (az 1)) 0 0 0 hiX3_lifeOf_3 hfX3_lifeOf_9 rfl rfl rfl (by decide) rfl rfl rfl rfl dX3_lifeOf_11 ?_
      refine z_iload_n B dX3_lifeOf_14 1 rfl ?_
      refine z_iald B (N := 16) (f := (Z 0)) 0 1 rfl rfl (z_vp (M := 16) rfl c1 c2) dX3_lifeOf_15 ?_
      refine z_iconst B (v := 2) dX3_lifeOf_16 rfl ?_
      refine z_icne B 27 dX3_lifeOf_17 (by decide) (fun c3 => ?_) (fun c3 => ?_)
      · refine z_aload_n B dX3_lifeOf_20 0 rfl ?_
        refine z_get B (v := .int (O 3)) 0 0 3 hiX3_lifeOf_3 hfX3_lifeOf_21 rfl rfl rfl (by decide) rfl rfl rfl rfl dX3_lifeOf_21 ?_
        refine z_goto B (tgt := 33) dX3_lifeOf_24 (by decide) ?_
        have hF : fX3_lifeOf Z O x1 = (O 3) := (if_neg c1).trans ((if_neg c2).trans (if_pos c3))
        exact z_ret1 B rfl dX3_lifeOf_33 () (trivial) (Nat.le_of_ble_eq_true rfl) (Nat.le_of_ble_eq_true rfl) (by rw [hF]) (by rw [hF])
      · refine z_aload_n B dX3_lifeOf_27 0 rfl ?_
        refine z_get B (v := .ref (az 3)) 0 0 2 hiX3_lifeOf_3 hfX3_lifeOf_18 rfl rfl rfl (by decide) rfl rfl rfl rfl dX3_lifeOf_28 ?_
        refine z_iload_n B dX3_lifeOf_31 1 rfl ?_
        refine z_iald B (N := 16) (f := (Z 2)) 0 3 rfl rfl (z_vp (M := 16) rfl c1 c2) dX3_lifeOf_32 ?_
        have hF : fX3_lifeOf Z O x1 = ((Z 2) x1.toNatClampNeg) := (if_neg c1).trans ((if_neg c2).trans (if_neg c3))
        exact z_ret1 B rfl dX3_lifeOf_33 () (trivial) (Nat.le_of_ble_eq_true rfl) (Nat.le_of_ble_eq_true rfl) (by rw [hF]) (by rw [hF])
end
section
def fJ7_fill_53178_L5 (F : Nat → Int32) (x1 : Int32) : Nat → Nat → (Nat → Int32) → (Nat → Int32)
  | 0, a, G =>
    G
  | n + 1, a, G =>
    fJ7_fill_53178_L5 F x1 n (a + 1) (upd G (nI a).toNatClampNeg x1)
def fJ7_fill_53178 (F : Nat → Int32) (x1 : Int32) : (Nat → Int32) :=
  fJ7_fill_53178_L5 F x1 16 0 F
set_option maxHeartbeats 4000000 in
set_option maxRecDepth 100000 in
theorem kJ7_fill_53178_L5 (l : Launch) (hl : l.stackTraces = false) (K : zK) (a0 : Nat) (F : Nat → Int32) (x1 : Int32) {p : Program} {e : Env} {s : State} {m : MethodId} {args : Array Value} {below : List Frame} {meth : Method} {c : Code} {A : Nat → Prop} (B : zF K p l s m args meth c A cJ7_fill_53178 4 RJ7 "fill" wsJ7_fill_53178 none []) : ∀ (n a : Nat) (G : Nat → Int32), a + n = 16 → fJ7_fill_53178 F x1 = fJ7_fill_53178_L5 F x1 n a G → zW K p l e { frames := 0, cells := 0, slots := 0, locals := 0 } s m args below meth c A (vx_MQ below (zQ K A (fun _ : Unit => (none, [[(a0, .inl (zI K, 16, .inl (fJ7_fill_53178 F x1)))]])) (fun _ => True)) (zX K A [[(a0, .inl (zI K, 16, .inl F))]] zNo) args s 0 0 A) 0 0 [[(a0, .inl (zI K, 16, .inl G))]] [(0, .ref a0), (1, .int x1), (2, .int (nI a)), (3, .int 16)] [] 5 := by
  intro n
  induction n with
  | zero =>
    intro a G ha  hF0
    refine z_iload_n B dJ7_fill_53178_5 2 rfl ?_
    refine z_iload_n B dJ7_fill_53178_6 3 rfl ?_
    refine z_icge B 20 dJ7_fill_53178_7 (by decide) (fun _ => ?_) (fun h => absurd (z_lge0 ha (by decide)) h)
    have hF : fJ7_fill_53178 F x1 = G := hF0
    exact z_ret0 B dJ7_fill_53178_20 () (trivial) (Nat.le_of_ble_eq_true rfl) (Nat.le_of_ble_eq_true rfl) rfl (by rw [hF])
  | succ n ih =>
    intro a G ha  hF0
    refine z_iload_n B dJ7_fill_53178_5 2 rfl ?_
    refine z_iload_n B dJ7_fill_53178_6 3 rfl ?_
    refine z_icge B 20 dJ7_fill_53178_7 (by decide) (fun h => absurd h (z_lgeS ha (by decide))) (fun _ => ?_)
    refine z_aload_n B dJ7_fill_53178_10 0 rfl ?_
    refine z_iload_n B dJ7_fill_53178_11 2 rfl ?_
    refine z_iload_n B dJ7_fill_53178_12 1 rfl ?_
    refine z_iast B (N := 16) (f := G) 0 0 rfl rfl (z_nIr (by omega) (by decide)) (bs' := [[(a0, .inl (zI K, 16, .inl (upd G (nI a).toNatClampNeg x1)))]]) rfl dJ7_fill_53178_13 ?_
    refine z_iinc B (v := nI (a + 1)) (lv' := [(2, .int (nI (a + 1))), (0, .ref a0), (1, .int x1), (3, .int 16)]) dJ7_fill_53178_14 2 rfl (nI_1 a) (by decide) rfl ?_
    refine z_goto B (tgt := 5) dJ7_fill_53178_17 (by decide) ?_
    refine z_lsub [1, 2, 0, 3] rfl ?_
    have hF : fJ7_fill_53178 F x1 = fJ7_fill_53178_L5 F x1 n (a + 1) (upd G (nI a).toNatClampNeg x1) := hF0
    exact ih (a + 1) (upd G (nI a).toNatClampNeg x1) (by omega)  hF
set_option maxHeartbeats 4000000 in
set_option maxRecDepth 100000 in
theorem kJ7_fill_53178 (l : Launch) (hl : l.stackTraces = false) (K : zK) (a0 : Nat) (F : Nat → Int32) (x1 : Int32) : zMet l K yJ7_fill_53178 wsJ7_fill_53178 { frames := 0, cells := 0, slots := 0, locals := 0 } [.ref a0, .int x1] [[(a0, .inl (zI K, 16, .inl F))]] none [[(a0, .inl (zI K, 16, .inl (fJ7_fill_53178 F x1)))]] True zNo := by
  refine zMeN.of (cc := cJ7_fill_53178) (maxL := 4) (ret := none) (own := RJ7) (nm := "fill") hl (by decide +kernel) rfl rfl rfl (Nat.le_of_ble_eq_true rfl) (lv := [(0, .ref a0), (1, .int x1)]) rfl ?_
  intro p e s m args below meth c A B
  refine z_iconst B (v := 0) dJ7_fill_53178_0 rfl ?_
  refine z_istore_n B (lv' := [(2, .int 0), (0, .ref a0), (1, .int x1)]) dJ7_fill_53178_1 (by decide) rfl ?_
  refine z_aload_n B dJ7_fill_53178_2 1 rfl ?_
  refine z_alen B (v := 16) 0 0 0 rfl rfl rfl rfl dJ7_fill_53178_3 ?_
  refine z_istore_n B (lv' := [(3, .int 16), (2, .int 0), (0, .ref a0), (1, .int x1)]) dJ7_fill_53178_4 (by decide) rfl ?_
  refine z_lsub [2, 3, 1, 0] rfl ?_
  have hF : fJ7_fill_53178 F x1 = fJ7_fill_53178_L5 F x1 16 0 F := rfl
  exact kJ7_fill_53178_L5 l hl K a0 F x1 B 16 0 F (by omega)  hF
def fX1_begin (F : Nat → Int32) (O : Nat → Int32) : (Nat → Int32) :=
  (va_up (va_up (va_up (va_up (va_up O 1 0) 2 0) 3 0) 4 0) 5 0)
theorem hiX1_begin_1 : ∀ w ∈ wsX10, w ∈ wsX1_begin := by decide +kernel
theorem hfX1_begin_15 : Cond.fieldLink RX1 15 "ResolverFleet$Course" "freshCount" "I" ∈ wsX1_begin := by decide +kernel
theorem hfX1_begin_19 : Cond.fieldLink RX1 19 "ResolverFleet$Course" "lookUps" "I" ∈ wsX1_begin := by decide +kernel
theorem hfX1_begin_22 : Cond.fieldLink RX1 22 "ResolverFleet$Course" "fetches" "I" ∈ wsX1_begin := by decide +kernel
theorem hfX1_begin_25 : Cond.fieldLink RX1 25 "ResolverFleet$Course" "prefetches" "I" ∈ wsX1_begin := by decide +kernel
theorem hfX1_begin_28 : Cond.fieldLink RX1 28 "ResolverFleet$Course" "isStale" "Z" ∈ wsX1_begin := by decide +kernel
set_option maxHeartbeats 4000000 in
set_option maxRecDepth 100000 in
theorem kX1_begin (l : Launch) (hl : l.stackTraces = false) (K : zK) (al : Nat → Nat) (F : Nat → Int32) (O : Nat → Int32) : zMet l K yX1_begin wsX1_begin { frames := 0, cells := 0, slots := 0, locals := 0 } [.ref (al 0)] [zCo K al F O] none [zCo K al F (fX1_begin F O)] True zNo := by
  refine zMeN.of (cc := cX1_begin) (maxL := 1) (ret := none) (own := RX1) (nm := "begin") hl (by decide +kernel) rfl rfl rfl (Nat.le_of_ble_eq_true rfl) (lv := [(0, .ref (al 0))]) rfl ?_
  intro p e s m args below meth c A B
  refine z_aload_n B dX1_begin_0 0 rfl ?_
  refine z_iconst B (v := 0) dX1_begin_1 rfl ?_
  refine z_put B 0 0 1 hiX1_begin_1 hfX1_begin_15 tyX1_ok nmX1 rfl rfl rfl (by decide) rfl rfl rfl rfl rfl rfl rfl (Nat.le_of_ble_eq_true rfl) (bs' := [zCo K al F (va_up O 1 0)]) rfl dX1_begin_2 ?_
  refine z_aload_n B dX1_begin_5 0 rfl ?_
  refine z_iconst B (v := 0) dX1_begin_6 rfl ?_
  refine z_put B 0 0 2 hiX1_begin_1 hfX1_begin_19 tyX1_ok nmX1 rfl rfl rfl (by decide) rfl rfl rfl rfl rfl rfl rfl (Nat.le_of_ble_eq_true rfl) (bs' := [zCo K al F (va_up (va_up O 1 0) 2 0)]) rfl dX1_begin_7 ?_
  refine z_aload_n B dX1_begin_10 0 rfl ?_
  refine z_iconst B (v := 0) dX1_begin_11 rfl ?_
  refine z_put B 0 0 3 hiX1_begin_1 hfX1_begin_22 tyX1_ok nmX1 rfl rfl rfl (by decide) rfl rfl rfl rfl rfl rfl rfl (Nat.le_of_ble_eq_true rfl) (bs' := [zCo K al F (va_up (va_up (va_up O 1 0) 2 0) 3 0)]) rfl dX1_begin_12 ?_
  refine z_aload_n B dX1_begin_15 0 rfl ?_
  refine z_iconst B (v := 0) dX1_begin_16 rfl ?_
  refine z_put B 0 0 4 hiX1_begin_1 hfX1_begin_25 tyX1_ok nmX1 rfl rfl rfl (by decide) rfl rfl rfl rfl rfl rfl rfl (Nat.le_of_ble_eq_true rfl) (bs' := [zCo K al F (va_up (va_up (va_up (va_up O 1 0) 2 0) 3 0) 4 0)]) rfl dX1_begin_17 ?_
  refine z_aload_n B dX1_begin_20 0 rfl ?_
  refine z_iconst B (v := 0) dX1_begin_21 rfl ?_
  refine z_put B 0 0 5 hiX1_begin_1 hfX1_begin_28 tyX1_ok nmX1 rfl rfl rfl (by decide) rfl rfl rfl rfl rfl rfl rfl (Nat.le_of_ble_eq_true rfl) (bs' := [zCo K al F (va_up (va_up (va_up (va_up (va_up O 1 0) 2 0) 3 0) 4 0) 5 0)]) rfl dX1_begin_22 ?_
  have hF : fX1_begin F O = (va_up (va_up (va_up (va_up (va_up O 1 0) 2 0) 3 0) 4 0) 5 0) := rfl
  exact z_ret0 B dX1_begin_25 () (trivial) (Nat.le_of_ble_eq_true rfl) (Nat.le_of_ble_eq_true rfl) rfl (by rw [hF])
def fX1_noteFresh (F : Nat → Int32) (O : Nat → Int32) (x1 : Int32) : (Nat → Int32) × (Nat → Int32) :=
  if 5 ≤ (O 1) then
    (F, O)
  else
    ((upd F (O 1).toNatClampNeg x1), (va_up O 1 ((O 1) + 1)))
theorem hiX1_noteFresh_1 : ∀ w ∈ wsX10, w ∈ wsX1_noteFresh := by decide +kernel
theorem hfX1_noteFresh_15 : Cond.fieldLink RX1 15 "ResolverFleet$Course" "freshCount" "I" ∈ wsX1_noteFresh := by decide +kernel
theorem hfX1_noteFresh_9 : Cond.fieldLink RX1 9 "ResolverFleet$Course" "freshNames" "[I" ∈ wsX1_noteFresh := by decide +kernel
set_option maxHeartbeats 4000000 in
set_option maxRecDepth 100000 in
theorem kX1_noteFresh (l : Launch) (hl : l.stackTraces = false) (K : zK) (al : Nat → Nat) (F : Nat → Int32) (O : Nat → Int32) (x1 : Int32) (hO1 : ¬ (O 1) < 0) : zMet l K yX1_noteFresh wsX1_noteFresh { frames := 0, cells := 0, slots := 0, locals := 0 } [.ref (al 0), .int x1] [zCo K al F O] none [zCo K al ((fX1_noteFresh F O x1).1) ((fX1_noteFresh F O x1).2)] True zNo := by
  refine zMeN.of (cc := cX1_noteFresh) (maxL := 2) (ret := none) (own := RX1) (nm := "noteFresh") hl (by decide +kernel) rfl rfl rfl (Nat.le_of_ble_eq_true rfl) (lv := [(0, .ref (al 0)), (1, .int x1)]) rfl ?_
  intro p e s m args below meth c A B
  refine z_aload_n B dX1_noteFresh_0 0 rfl ?_
  refine z_get B (v := .int (O 1)) 0 0 1 hiX1_noteFresh_1 hfX1_noteFresh_15 rfl rfl rfl (by decide) rfl rfl rfl rfl dX1_noteFresh_1 ?_
  refine z_aload_n B dX1_noteFresh_4 0 rfl ?_
  refine z_get B (v := .ref (al 1)) 0 0 0 hiX1_noteFresh_1 hfX1_noteFresh_9 rfl rfl rfl (by decide) rfl rfl rfl rfl dX1_noteFresh_5 ?_
  refine z_alen B (v := 5) 0 1 0 rfl rfl rfl rfl dX1_noteFresh_8 ?_
  refine z_icge B 32 dX1_noteFresh_9 (by decide) (fun c1 => ?_) (fun c1 => ?_)
  · have hF : fX1_noteFresh F O x1 = (F, O) := if_pos c1
    exact z_ret0 B dX1_noteFresh_32 () (trivial) (Nat.le_of_ble_eq_true rfl) (Nat.le_of_ble_eq_true rfl) rfl (by rw [hF])
  · refine z_aload_n B dX1_noteFresh_12 0 rfl ?_
    refine z_get B (v := .ref (al 1)) 0 0 0 hiX1_noteFresh_1 hfX1_noteFresh_9 rfl rfl rfl (by decide) rfl rfl rfl rfl dX1_noteFresh_13 ?_
    refine z_aload_n B dX1_noteFresh_16 0 rfl ?_
    refine z_get B (v := .int (O 1)) 0 0 1 hiX1_noteFresh_1 hfX1_noteFresh_15 rfl rfl rfl (by decide) rfl rfl rfl rfl dX1_noteFresh_17 ?_
    refine z_iload_n B dX1_noteFresh_20 1 rfl ?_
    refine z_iast B (N := 5) (f := F) 0 1 rfl rfl (z_vp (M := 5) rfl hO1 c1) (bs' := [zCo K al (upd F (O 1).toNatClampNeg x1) O]) rfl dX1_noteFresh_21 ?_
    refine z_aload_n B dX1_noteFresh_22 0 rfl ?_
    refine z_dup B dX1_noteFresh_23 rfl ?_
    refine z_get B (v := .int (O 1)) 0 0 1 hiX1_noteFresh_1 hfX1_noteFresh_15 rfl rfl rfl (by decide) rfl rfl rfl rfl dX1_noteFresh_24 ?_
    refine z_iconst B (v := 1) dX1_noteFresh_27 rfl ?_
    refine z_iadd B dX1_noteFresh_28 ?_
    refine z_put B 0 0 1 hiX1_noteFresh_1 hfX1_noteFresh_15 tyX1_ok nmX1 rfl rfl rfl (by decide) rfl rfl rfl rfl rfl rfl rfl (Nat.le_of_ble_eq_true rfl) (bs' := [zCo K al (upd F (O 1).toNatClampNeg x1) (va_up O 1 ((O 1) + 1))]) rfl dX1_noteFresh_29 ?_
    have hF : fX1_noteFresh F O x1 = ((upd F (O 1).toNatClampNeg x1), (va_up O 1 ((O 1) + 1))) := if_neg c1
    exact z_ret0 B dX1_noteFresh_32 () (trivial) (Nat.le_of_ble_eq_true rfl) (Nat.le_of_ble_eq_true rfl) rfl (by rw [hF])
def fX1_freshNameAt (F : Nat → Int32) (O : Nat → Int32) (x1 : Int32) : Int32 :=
  if x1 < 0 then
    (-3)
  else
    if (O 1) ≤ x1 then
      (-3)
    else
      if x1 < 5 then
        (F x1.toNatClampNeg)
      else
        (-3)
theorem hiX1_freshNameAt_1 : ∀ w ∈ wsX10, w ∈ wsX1_freshNameAt := by decide +kernel
theorem hfX1_freshNameAt_15 : Cond.fieldLink RX1 15 "ResolverFleet$Course" "freshCount" "I" ∈ wsX1_freshNameAt := by decide +kernel
theorem hfX1_freshNameAt_9 : Cond.fieldLink RX1 9 "ResolverFleet$Course" "freshNames" "[I" ∈ wsX1_freshNameAt := by decide +kernel
set_option maxHeartbeats 4000000 in
set_option maxRecDepth 100000 in
theorem kX1_freshNameAt (l : Launch) (hl : l.stackTraces = false) (K : zK) (al : Nat → Nat) (F : Nat → Int32) (O : Nat → Int32) (x1 : Int32) : zMet l K yX1_freshNameAt wsX1_freshNameAt { frames := 0, cells := 0, slots := 0, locals := 0 } [.ref (al 0), .int x1] [zCo K al F O] (some (.int (fX1_freshNameAt F O x1))) [zCo K al F O] True zNo := by
  refine zMeN.of (cc := cX1_freshNameAt) (maxL := 2) (ret := (some .int)) (own := RX1) (nm := "freshNameAt") hl (by decide +kernel) rfl rfl rfl (Nat.le_of_ble_eq_true rfl) (lv := [(0, .ref (al 0)), (1, .int x1)]) rfl ?_
  intro p e s m args below meth c A B
  refine z_iload_n B dX1_freshNameAt_0 1 rfl ?_
  refine z_iflt B 21 dX1_freshNameAt_1 (by decide) (fun c1 => ?_) (fun c1 => ?_)
  · refine z_bipush B (v := (-3)) dX1_freshNameAt_21 rfl ?_
    refine z_goto B (tgt := 32) dX1_freshNameAt_23 (by decide) ?_
    have hF : fX1_freshNameAt F O x1 = (-3) := if_pos c1
    exact z_ret1 B rfl dX1_freshNameAt_32 () (trivial) (Nat.le_of_ble_eq_true rfl) (Nat.le_of_ble_eq_true rfl) (by rw [hF]) (by rw [hF])
  · refine z_iload_n B dX1_freshNameAt_4 1 rfl ?_
    refine z_aload_n B dX1_freshNameAt_5 0 rfl ?_
    refine z_get B (v := .int (O 1)) 0 0 1 hiX1_freshNameAt_1 hfX1_freshNameAt_15 rfl rfl rfl (by decide) rfl rfl rfl rfl dX1_freshNameAt_6 ?_
    refine z_icge B 21 dX1_freshNameAt_9 (by decide) (fun c2 => ?_) (fun c2 => ?_)
    · refine z_bipush B (v := (-3)) dX1_freshNameAt_21 rfl ?_
      refine z_goto B (tgt := 32) dX1_freshNameAt_23 (by decide) ?_
      have hF : fX1_freshNameAt F O x1 = (-3) := (if_neg c1).trans (if_pos c2)
      exact z_ret1 B rfl dX1_freshNameAt_32 () (trivial) (Nat.le_of_ble_eq_true rfl) (Nat.le_of_ble_eq_true rfl) (by rw [hF]) (by rw [hF])
    · refine z_iload_n B dX1_freshNameAt_12 1 rfl ?_
      refine z_aload_n B dX1_freshNameAt_13 0 rfl ?_
      refine z_get B (v := .ref (al 1)) 0 0 0 hiX1_freshNameAt_1 hfX1_freshNameAt_9 rfl rfl rfl (by decide) rfl rfl rfl rfl dX1_freshNameAt_14 ?_
      refine z_alen B (v := 5) 0 1 0 rfl rfl rfl rfl dX1_freshNameAt_17 ?_
      refine z_iclt B 26 dX1_freshNameAt_18 (by decide) (fun c3 => ?_) (fun c3 => ?_)
      · refine z_aload_n B dX1_freshNameAt_26 0 rfl ?_
        refine z_get B (v := .ref (al 1)) 0 0 0 hiX1_freshNameAt_1 hfX1_freshNameAt_9 rfl rfl rfl (by decide) rfl rfl rfl rfl dX1_freshNameAt_27 ?_
        refine z_iload_n B dX1_freshNameAt_30 1 rfl ?_
        refine z_iald B (N := 5) (f := F) 0 1 rfl rfl (z_vp2 (M := 5) rfl c1 c3) dX1_freshNameAt_31 ?_
        have hF : fX1_freshNameAt F O x1 = (F x1.toNatClampNeg) := (if_neg c1).trans ((if_neg c2).trans (if_pos c3))
        exact z_ret1 B rfl dX1_freshNameAt_32 () (trivial) (Nat.le_of_ble_eq_true rfl) (Nat.le_of_ble_eq_true rfl) (by rw [hF]) (by rw [hF])
      · refine z_bipush B (v := (-3)) dX1_freshNameAt_21 rfl ?_
        refine z_goto B (tgt := 32) dX1_freshNameAt_23 (by decide) ?_
        have hF : fX1_freshNameAt F O x1 = (-3) := (if_neg c1).trans ((if_neg c2).trans (if_neg c3))
        exact z_ret1 B rfl dX1_freshNameAt_32 () (trivial) (Nat.le_of_ble_eq_true rfl) (Nat.le_of_ble_eq_true rfl) (by rw [hF]) (by rw [hF])
def fX0_has (C : Nat → Nat → Int32) (x1 : Int32) : Int32 :=
  if x1 < 0 then
    0
  else
    if 16 ≤ x1 then
      0
    else
      if ((C 0) x1.toNatClampNeg) = 3 then
        0
      else
        1
theorem hiX0_has_0 : ∀ w ∈ wsX00, w ∈ wsX0_has := by decide +kernel
theorem hfX0_has_9 : Cond.fieldLink RX0 9 "ResolverFleet$Cache" "kinds" "[I" ∈ wsX0_has := by decide +kernel
set_option maxHeartbeats 4000000 in
set_option maxRecDepth 100000 in
theorem kX0_has (l : Launch) (hl : l.stackTraces = false) (K : zK) (ac : Nat → Nat) (C : Nat → Nat → Int32) (x1 : Int32) : zMet l K yX0_has wsX0_has { frames := 0, cells := 0, slots := 0, locals := 0 } [.ref (ac 0), .int x1] [zCa K ac C] (some (.int (fX0_has C x1))) [zCa K ac C] True zNo := by
  refine zMeN.of (cc := cX0_has) (maxL := 2) (ret := (some .boolean)) (own := RX0) (nm := "has") hl (by decide +kernel) rfl rfl rfl (Nat.le_of_ble_eq_true rfl) (lv := [(0, .ref (ac 0)), (1, .int x1)]) rfl ?_
  intro p e s m args below meth c A B
  refine z_iload_n B dX0_has_0 1 rfl ?_
  refine z_iflt B 24 dX0_has_1 (by decide) (fun c1 => ?_) (fun c1 => ?_)
  · refine z_iconst B (v := 0) dX0_has_24 rfl ?_
    have hF : fX0_has C x1 = 0 := if_pos c1
    exact z_ret1 B rfl dX0_has_25 () (trivial) (Nat.le_of_ble_eq_true rfl) (Nat.le_of_ble_eq_true rfl) (by rw [hF]) (by rw [hF])
  · refine z_iload_n B dX0_has_4 1 rfl ?_
    refine z_bipush B (v := 16) dX0_has_5 rfl ?_
    refine z_icge B 24 dX0_has_7 (by decide) (fun c2 => ?_) (fun c2 => ?_)
    · refine z_iconst B (v := 0) dX0_has_24 rfl ?_
      have hF : fX0_has C x1 = 0 := (if_neg c1).trans (if_pos c2)
      exact z_ret1 B rfl dX0_has_25 () (trivial) (Nat.le_of_ble_eq_true rfl) (Nat.le_of_ble_eq_true rfl) (by rw [hF]) (by rw [hF])
    · refine z_aload_n B dX0_has_10 0 rfl ?_
      refine z_get B (v := .ref (ac 1)) 0 0 0 hiX0_has_0 hfX0_has_9 rfl rfl rfl (by decide) rfl rfl rfl rfl dX0_has_11 ?_
      refine z_iload_n B dX0_has_14 1 rfl ?_
      refine z_iald B (N := 16) (f := (C 0)) 0 1 rfl rfl (z_vp (M := 16) rfl c1 c2) dX0_has_15 ?_
      refine z_iconst B (v := 3) dX0_has_16 rfl ?_
      refine z_iceq B 24 dX0_has_17 (by decide) (fun c3 => ?_) (fun c3 => ?_)
      · refine z_iconst B (v := 0) dX0_has_24 rfl ?_
        have hF : fX0_has C x1 = 0 := (if_neg c1).trans ((if_neg c2).trans (if_pos c3))
        exact z_ret1 B rfl dX0_has_25 () (trivial) (Nat.le_of_ble_eq_true rfl) (Nat.le_of_ble_eq_true rfl) (by rw [hF]) (by rw [hF])
      · refine z_iconst B (v := 1) dX0_has_20 rfl ?_
        refine z_goto B (tgt := 25) dX0_has_21 (by decide) ?_
        have hF : fX0_has C x1 = 1 := (if_neg c1).trans ((if_neg c2).trans (if_neg c3))
        exact z_ret1 B rfl dX0_has_25 () (trivial) (Nat.le_of_ble_eq_true rfl) (Nat.le_of_ble_eq_true rfl) (by rw [hF]) (by rw [hF])
theorem z_has {C : Nat → Nat → Int32} {x : Int32} (h : ¬ fX0_has C x = 0) : vp_in x 16 := by
  by_cases h1 : x < 0
  · exact absurd (if_pos h1) h
  by_cases h2 : (16 : Int32) ≤ x
  · exact absurd ((if_neg h1).trans (if_pos h2)) h
  exact z_vp (M := 16) rfl h1 h2
def fX0_kindOf (C : Nat → Nat → Int32) (x1 : Int32) : Int32 :=
  if (fX0_has C x1) = 0 then
    3
  else
    ((C 0) x1.toNatClampNeg)
theorem hiX0_kindOf_0 : ∀ w ∈ wsX00, w ∈ wsX0_kindOf := by decide +kernel
theorem hfX0_kindOf_9 : Cond.fieldLink RX0 9 "ResolverFleet$Cache" "kinds" "[I" ∈ wsX0_kindOf := by decide +kernel
set_option maxHeartbeats 4000000 in
set_option maxRecDepth 100000 in
theorem kX0_kindOf (l : Launch) (hl : l.stackTraces = false) (K : zK) (ac : Nat → Nat) (C : Nat → Nat → Int32) (x1 : Int32) : zMet l K yX0_kindOf wsX0_kindOf { frames := 1, cells := 0, slots := 0, locals := 21 } [.ref (ac 0), .int x1] [zCa K ac C] (some (.int (fX0_kindOf C x1))) [zCa K ac C] True zNo := by
  refine zMeN.of (cc := cX0_kindOf) (maxL := 2) (ret := (some .int)) (own := RX0) (nm := "kindOf") hl (by decide +kernel) rfl rfl rfl (Nat.le_of_ble_eq_true rfl) (lv := [(0, .ref (ac 0)), (1, .int x1)]) rfl ?_
  intro p e s m args below meth c A B
  refine z_aload_n B dX0_kindOf_0 0 rfl ?_
  refine z_iload_n B dX0_kindOf_1 1 rfl ?_
  refine z_V1 B (kX0_has l hl K ac C x1) [0] [] (br := []) (bs' := [zCa K ac C]) (st := []) (nA := 1) (zsp rfl rfl rfl) (zsp rfl rfl rfl) 0 0 rfl rfl rfl rfl gX0_kindOf_X0_has rfl (by decide +kernel) ⟨Nat.le_of_ble_eq_true rfl, Nat.le_of_ble_eq_true rfl⟩ rfl rfl (Nat.le_of_ble_eq_true rfl) ⟨Nat.le_of_ble_eq_true rfl, Nat.le_of_ble_eq_true rfl⟩ dX0_kindOf_2 z_noX (fun _ => ?_)
  refine z_ifeq B 17 dX0_kindOf_5 (by decide) (fun c1 => ?_) (fun c1 => ?_)
  · refine z_iconst B (v := 3) dX0_kindOf_17 rfl ?_
    have hF : fX0_kindOf C x1 = 3 := if_pos c1
    exact z_ret1 B rfl dX0_kindOf_18 () (trivial) (Nat.le_of_ble_eq_true rfl) (Nat.le_of_ble_eq_true rfl) (by rw [hF]) (by rw [hF])
  · refine z_aload_n B dX0_kindOf_8 0 rfl ?_
    refine z_get B (v := .ref (ac 1)) 0 0 0 hiX0_kindOf_0 hfX0_kindOf_9 rfl rfl rfl (by decide) rfl rfl rfl rfl dX0_kindOf_9 ?_
    refine z_iload_n B dX0_kindOf_12 1 rfl ?_
    refine z_iald B (N := 16) (f := (C 0)) 0 1 rfl rfl (z_has c1) dX0_kindOf_13 ?_
    refine z_goto B (tgt := 18) dX0_kindOf_14 (by decide) ?_
    have hF : fX0_kindOf C x1 = ((C 0) x1.toNatClampNeg) := if_neg c1
    exact z_ret1 B rfl dX0_kindOf_18 () (trivial) (Nat.le_of_ble_eq_true rfl) (Nat.le_of_ble_eq_true rfl) (by rw [hF]) (by rw [hF])
def fX0_valueOf (C : Nat → Nat → Int32) (x1 : Int32) : Int32 :=
  if (fX0_has C x1) = 0 then
    (-3)
  else
    ((C 1) x1.toNatClampNeg)
theorem hiX0_valueOf_0 : ∀ w ∈ wsX00, w ∈ wsX0_valueOf := by decide +kernel
theorem hfX0_valueOf_15 : Cond.fieldLink RX0 15 "ResolverFleet$Cache" "values" "[I" ∈ wsX0_valueOf := by decide +kernel
set_option maxHeartbeats 4000000 in
set_option maxRecDepth 100000 in
theorem kX0_valueOf (l : Launch) (hl : l.stackTraces = false) (K : zK) (ac : Nat → Nat) (C : Nat → Nat → Int32) (x1 : Int32) : zMet l K yX0_valueOf wsX0_valueOf { frames := 1, cells := 0, slots := 0, locals := 21 } [.ref (ac 0), .int x1] [zCa K ac C] (some (.int (fX0_valueOf C x1))) [zCa K ac C] True zNo := by
  refine zMeN.of (cc := cX0_valueOf) (maxL := 2) (ret := (some .int)) (own := RX0) (nm := "valueOf") hl (by decide +kernel) rfl rfl rfl (Nat.le_of_ble_eq_true rfl) (lv := [(0, .ref (ac 0)), (1, .int x1)]) rfl ?_
  intro p e s m args below meth c A B
  refine z_aload_n B dX0_valueOf_0 0 rfl ?_
  refine z_iload_n B dX0_valueOf_1 1 rfl ?_
  refine z_V1 B (kX0_has l hl K ac C x1) [0] [] (br := []) (bs' := [zCa K ac C]) (st := []) (nA := 1) (zsp rfl rfl rfl) (zsp rfl rfl rfl) 0 0 rfl rfl rfl rfl gX0_valueOf_X0_has rfl (by decide +kernel) ⟨Nat.le_of_ble_eq_true rfl, Nat.le_of_ble_eq_true rfl⟩ rfl rfl (Nat.le_of_ble_eq_true rfl) ⟨Nat.le_of_ble_eq_true rfl, Nat.le_of_ble_eq_true rfl⟩ dX0_valueOf_2 z_noX (fun _ => ?_)
  refine z_ifeq B 17 dX0_valueOf_5 (by decide) (fun c1 => ?_) (fun c1 => ?_)
  · refine z_bipush B (v := (-3)) dX0_valueOf_17 rfl ?_
    have hF : fX0_valueOf C x1 = (-3) := if_pos c1
    exact z_ret1 B rfl dX0_valueOf_19 () (trivial) (Nat.le_of_ble_eq_true rfl) (Nat.le_of_ble_eq_true rfl) (by rw [hF]) (by rw [hF])
  · refine z_aload_n B dX0_valueOf_8 0 rfl ?_
    refine z_get B (v := .ref (ac 2)) 0 0 1 hiX0_valueOf_0 hfX0_valueOf_15 rfl rfl rfl (by decide) rfl rfl rfl rfl dX0_valueOf_9 ?_
    refine z_iload_n B dX0_valueOf_12 1 rfl ?_
    refine z_iald B (N := 16) (f := (C 1)) 0 2 rfl rfl (z_has c1) dX0_valueOf_13 ?_
    refine z_goto B (tgt := 19) dX0_valueOf_14 (by decide) ?_
    have hF : fX0_valueOf C x1 = ((C 1) x1.toNatClampNeg) := if_neg c1
    exact z_ret1 B rfl dX0_valueOf_19 () (trivial) (Nat.le_of_ble_eq_true rfl) (Nat.le_of_ble_eq_true rfl) (by rw [hF]) (by rw [hF])
def fX0_endOf (C : Nat → Nat → Int32) (x1 : Int32) : Int32 :=
  if (fX0_has C x1) = 0 then
    0
  else
    ((C 3) x1.toNatClampNeg)
theorem hiX0_endOf_0 : ∀ w ∈ wsX00, w ∈ wsX0_endOf := by decide +kernel
theorem hfX0_endOf_21 : Cond.fieldLink RX0 21 "ResolverFleet$Cache" "ends" "[I" ∈ wsX0_endOf := by decide +kernel
set_option maxHeartbeats 4000000 in
set_option maxRecDepth 100000 in
theorem kX0_endOf (l : Launch) (hl : l.stackTraces = false) (K : zK) (ac : Nat → Nat) (C : Nat → Nat → Int32) (x1 : Int32) : zMet l K yX0_endOf wsX0_endOf { frames := 1, cells := 0, slots := 0, locals := 21 } [.ref (ac 0), .int x1] [zCa K ac C] (some (.int (fX0_endOf C x1))) [zCa K ac C] True zNo := by
  refine zMeN.of (cc := cX0_endOf) (maxL := 2) (ret := (some .int)) (own := RX0) (nm := "endOf") hl (by decide +kernel) rfl rfl rfl (Nat.le_of_ble_eq_true rfl) (lv := [(0, .ref (ac 0)), (1, .int x1)]) rfl ?_
  intro p e s m args below meth c A B
  refine z_aload_n B dX0_endOf_0 0 rfl ?_
  refine z_iload_n B dX0_endOf_1 1 rfl ?_
  refine z_V1 B (kX0_has l hl K ac C x1) [0] [] (br := []) (bs' := [zCa K ac C]) (st := []) (nA := 1) (zsp rfl rfl rfl) (zsp rfl rfl rfl) 0 0 rfl rfl rfl rfl gX0_endOf_X0_has rfl (by decide +kernel) ⟨Nat.le_of_ble_eq_true rfl, Nat.le_of_ble_eq_true rfl⟩ rfl rfl (Nat.le_of_ble_eq_true rfl) ⟨Nat.le_of_ble_eq_true rfl, Nat.le_of_ble_eq_true rfl⟩ dX0_endOf_2 z_noX (fun _ => ?_)
  refine z_ifeq B 17 dX0_endOf_5 (by decide) (fun c1 => ?_) (fun c1 => ?_)
  · refine z_iconst B (v := 0) dX0_endOf_17 rfl ?_
    have hF : fX0_endOf C x1 = 0 := if_pos c1
    exact z_ret1 B rfl dX0_endOf_18 () (trivial) (Nat.le_of_ble_eq_true rfl) (Nat.le_of_ble_eq_true rfl) (by rw [hF]) (by rw [hF])
  · refine z_aload_n B dX0_endOf_8 0 rfl ?_
    refine z_get B (v := .ref (ac 4)) 0 0 3 hiX0_endOf_0 hfX0_endOf_21 rfl rfl rfl (by decide) rfl rfl rfl rfl dX0_endOf_9 ?_
    refine z_iload_n B dX0_endOf_12 1 rfl ?_
    refine z_iald B (N := 16) (f := (C 3)) 0 4 rfl rfl (z_has c1) dX0_endOf_13 ?_
    refine z_goto B (tgt := 18) dX0_endOf_14 (by decide) ?_
    have hF : fX0_endOf C x1 = ((C 3) x1.toNatClampNeg) := if_neg c1
    exact z_ret1 B rfl dX0_endOf_18 () (trivial) (Nat.le_of_ble_eq_true rfl) (Nat.le_of_ble_eq_true rfl) (by rw [hF]) (by rw [hF])
def fX0_hitsFor (C : Nat → Nat → Int32) (x1 : Int32) : Int32 :=
  if (fX0_has C x1) = 0 then
    0
  else
    ((C 4) x1.toNatClampNeg)
theorem hiX0_hitsFor_0 : ∀ w ∈ wsX00, w ∈ wsX0_hitsFor := by decide +kernel
theorem hfX0_hitsFor_24 : Cond.fieldLink RX0 24 "ResolverFleet$Cache" "hits" "[I" ∈ wsX0_hitsFor := by decide +kernel
set_option maxHeartbeats 4000000 in
set_option maxRecDepth 100000 in
theorem kX0_hitsFor (l : Launch) (hl : l.stackTraces = false) (K : zK) (ac : Nat → Nat) (C : Nat → Nat → Int32) (x1 : Int32) : zMet l K yX0_hitsFor wsX0_hitsFor { frames := 1, cells := 0, slots := 0, locals := 21 } [.ref (ac 0), .int x1] [zCa K ac C] (some (.int (fX0_hitsFor C x1))) [zCa K ac C] True zNo := by
  refine zMeN.of (cc := cX0_hitsFor) (maxL := 2) (ret := (some .int)) (own := RX0) (nm := "hitsFor") hl (by decide +kernel) rfl rfl rfl (Nat.le_of_ble_eq_true rfl) (lv := [(0, .ref (ac 0)), (1, .int x1)]) rfl ?_
  intro p e s m args below meth c A B
  refine z_aload_n B dX0_hitsFor_0 0 rfl ?_
  refine z_iload_n B dX0_hitsFor_1 1 rfl ?_
  refine z_V1 B (kX0_has l hl K ac C x1) [0] [] (br := []) (bs' := [zCa K ac C]) (st := []) (nA := 1) (zsp rfl rfl rfl) (zsp rfl rfl rfl) 0 0 rfl rfl rfl rfl gX0_hitsFor_X0_has rfl (by decide +kernel) ⟨Nat.le_of_ble_eq_true rfl, Nat.le_of_ble_eq_true rfl⟩ rfl rfl (Nat.le_of_ble_eq_true rfl) ⟨Nat.le_of_ble_eq_true rfl, Nat.le_of_ble_eq_true rfl⟩ dX0_hitsFor_2 z_noX (fun _ => ?_)
  refine z_ifeq B 17 dX0_hitsFor_5 (by decide) (fun c1 => ?_) (fun c1 => ?_)
  · refine z_iconst B (v := 0) dX0_hitsFor_17 rfl ?_
    have hF : fX0_hitsFor C x1 = 0 := if_pos c1
    exact z_ret1 B rfl dX0_hitsFor_18 () (trivial) (Nat.le_of_ble_eq_true rfl) (Nat.le_of_ble_eq_true rfl) (by rw [hF]) (by rw [hF])
  · refine z_aload_n B dX0_hitsFor_8 0 rfl ?_
    refine z_get B (v := .ref (ac 5)) 0 0 4 hiX0_hitsFor_0 hfX0_hitsFor_24 rfl rfl rfl (by decide) rfl rfl rfl rfl dX0_hitsFor_9 ?_
    refine z_iload_n B dX0_hitsFor_12 1 rfl ?_
    refine z_iald B (N := 16) (f := (C 4)) 0 5 rfl rfl (z_has c1) dX0_hitsFor_13 ?_
    refine z_goto B (tgt := 18) dX0_hitsFor_14 (by decide) ?_
    have hF : fX0_hitsFor C x1 = ((C 4) x1.toNatClampNeg) := if_neg c1
    exact z_ret1 B rfl dX0_hitsFor_18 () (trivial) (Nat.le_of_ble_eq_true rfl) (Nat.le_of_ble_eq_true rfl) (by rw [hF]) (by rw [hF])
def fX0_isFresh (C : Nat → Nat → Int32) (x1 : Int32) (x2 : Int32) : Int32 :=
  if (fX0_has C x1) = 0 then
    0
  else
    if ((C 3) x1.toNatClampNeg) ≤ x2 then
      0
    else
      1
theorem hiX0_isFresh_0 : ∀ w ∈ wsX00, w ∈ wsX0_isFresh := by decide +kernel
theorem hfX0_isFresh_21 : Cond.fieldLink RX0 21 "ResolverFleet$Cache" "ends" "[I" ∈ wsX0_isFresh := by decide +kernel
set_option maxHeartbeats 4000000 in
set_option maxRecDepth 100000 in
theorem kX0_isFresh (l : Launch) (hl : l.stackTraces = false) (K : zK) (ac : Nat → Nat) (C : Nat → Nat → Int32) (x1 : Int32) (x2 : Int32) : zMet l K yX0_isFresh wsX0_isFresh { frames := 1, cells := 0, slots := 0, locals := 21 } [.ref (ac 0), .int x1, .int x2] [zCa K ac C] (some (.int (fX0_isFresh C x1 x2))) [zCa K ac C] True zNo := by
  refine zMeN.of (cc := cX0_isFresh) (maxL := 3) (ret := (some .boolean)) (own := RX0) (nm := "isFresh") hl (by decide +kernel) rfl rfl rfl (Nat.le_of_ble_eq_true rfl) (lv := [(0, .ref (ac 0)), (1, .int x1), (2, .int x2)]) rfl ?_
  intro p e s m args below meth c A B
  refine z_aload_n B dX0_isFresh_0 0 rfl ?_
  refine z_iload_n B dX0_isFresh_1 1 rfl ?_
  refine z_V1 B (kX0_has l hl K ac C x1) [0] [] (br := []) (bs' := [zCa K ac C]) (st := []) (nA := 1) (zsp rfl rfl rfl) (zsp rfl rfl rfl) 0 0 rfl rfl rfl rfl gX0_isFresh_X0_has rfl (by decide +kernel) ⟨Nat.le_of_ble_eq_true rfl, Nat.le_of_ble_eq_true rfl⟩ rfl rfl (Nat.le_of_ble_eq_true rfl) ⟨Nat.le_of_ble_eq_true rfl, Nat.le_of_ble_eq_true rfl⟩ dX0_isFresh_2 z_noX (fun _ => ?_)
  refine z_ifeq B 22 dX0_isFresh_5 (by decide) (fun c1 => ?_) (fun c1 => ?_)
  · refine z_iconst B (v := 0) dX0_isFresh_22 rfl ?_
    have hF : fX0_isFresh C x1 x2 = 0 := if_pos c1
    exact z_ret1 B rfl dX0_isFresh_23 () (trivial) (Nat.le_of_ble_eq_true rfl) (Nat.le_of_ble_eq_true rfl) (by rw [hF]) (by rw [hF])
  · refine z_iload_n B dX0_isFresh_8 2 rfl ?_
    refine z_aload_n B dX0_isFresh_9 0 rfl ?_
    refine z_get B (v := .ref (ac 4)) 0 0 3 hiX0_isFresh_0 hfX0_isFresh_21 rfl rfl rfl (by decide) rfl rfl rfl rfl dX0_isFresh_10 ?_
    refine z_iload_n B dX0_isFresh_13 1 rfl ?_
    refine z_iald B (N := 16) (f := (C 3)) 0 4 rfl rfl (z_has c1) dX0_isFresh_14 ?_
    refine z_icge B 22 dX0_isFresh_15 (by decide) (fun c2 => ?_) (fun c2 => ?_)
    · refine z_iconst B (v := 0) dX0_isFresh_22 rfl ?_
      have hF : fX0_isFresh C x1 x2 = 0 := (if_neg c1).trans (if_pos c2)
      exact z_ret1 B rfl dX0_isFresh_23 () (trivial) (Nat.le_of_ble_eq_true rfl) (Nat.le_of_ble_eq_true rfl) (by rw [hF]) (by rw [hF])
    · refine z_iconst B (v := 1) dX0_isFresh_18 rfl ?_
      refine z_goto B (tgt := 23) dX0_isFresh_19 (by decide) ?_
      have hF : fX0_isFresh C x1 x2 = 1 := (if_neg c1).trans (if_neg c2)
      exact z_ret1 B rfl dX0_isFresh_23 () (trivial) (Nat.le_of_ble_eq_true rfl) (Nat.le_of_ble_eq_true rfl) (by rw [hF]) (by rw [hF])
def fX0_servesStale (C : Nat → Nat → Int32) (x1 : Int32) (x2 : Int32) : Int32 :=
  if (fX0_has C x1) = 0 then
    0
  else
    if 100 ≤ (x2 - ((C 3) x1.toNatClampNeg)) then
      0
    else
      1
theorem hiX0_servesStale_0 : ∀ w ∈ wsX00, w ∈ wsX0_servesStale := by decide +kernel
theorem hfX0_servesStale_21 : Cond.fieldLink RX0 21 "ResolverFleet$Cache" "ends" "[I" ∈ wsX0_servesStale := by decide +kernel
set_option maxHeartbeats 4000000 in
set_option maxRecDepth 100000 in
theorem kX0_servesStale (l : Launch) (hl : l.stackTraces = false) (K : zK) (ac : Nat → Nat) (C : Nat → Nat → Int32) (x1 : Int32) (x2 : Int32) : zMet l K yX0_servesStale wsX0_servesStale { frames := 1, cells := 0, slots := 0, locals := 21 } [.ref (ac 0), .int x1, .int x2] [zCa K ac C] (some (.int (fX0_servesStale C x1 x2))) [zCa K ac C] True zNo := by
  refine zMeN.of (cc := cX0_servesStale) (maxL := 3) (ret := (some .boolean)) (own := RX0) (nm := "servesStale") hl (by decide +kernel) rfl rfl rfl (Nat.le_of_ble_eq_true rfl) (lv := [(0, .ref (ac 0)), (1, .int x1), (2, .int x2)]) rfl ?_
  intro p e s m args below meth c A B
  refine z_aload_n B dX0_servesStale_0 0 rfl ?_
  refine z_iload_n B dX0_servesStale_1 1 rfl ?_
  refine z_V1 B (kX0_has l hl K ac C x1) [0] [] (br := []) (bs' := [zCa K ac C]) (st := []) (nA := 1) (zsp rfl rfl rfl) (zsp rfl rfl rfl) 0 0 rfl rfl rfl rfl gX0_servesStale_X0_has rfl (by decide +kernel) ⟨Nat.le_of_ble_eq_true rfl, Nat.le_of_ble_eq_true rfl⟩ rfl rfl (Nat.le_of_ble_eq_true rfl) ⟨Nat.le_of_ble_eq_true rfl, Nat.le_of_ble_eq_true rfl⟩ dX0_servesStale_2 z_noX (fun _ => ?_)
  refine z_ifeq B 25 dX0_servesStale_5 (by decide) (fun c1 => ?_) (fun c1 => ?_)
  · refine z_iconst B (v := 0) dX0_servesStale_25 rfl ?_
    have hF : fX0_servesStale C x1 x2 = 0 := if_pos c1
    exact z_ret1 B rfl dX0_servesStale_26 () (trivial) (Nat.le_of_ble_eq_true rfl) (Nat.le_of_ble_eq_true rfl) (by rw [hF]) (by rw [hF])
  · refine z_iload_n B dX0_servesStale_8 2 rfl ?_
    refine z_aload_n B dX0_servesStale_9 0 rfl ?_
    refine z_get B (v := .ref (ac 4)) 0 0 3 hiX0_servesStale_0 hfX0_servesStale_21 rfl rfl rfl (by decide) rfl rfl rfl rfl dX0_servesStale_10 ?_
    refine z_iload_n B dX0_servesStale_13 1 rfl ?_
    refine z_iald B (N := 16) (f := (C 3)) 0 4 rfl rfl (z_has c1) dX0_servesStale_14 ?_
    refine z_isub B dX0_servesStale_15 ?_
    refine z_bipush B (v := 100) dX0_servesStale_16 rfl ?_
    refine z_icge B 25 dX0_servesStale_18 (by decide) (fun c2 => ?_) (fun c2 => ?_)
    · refine z_iconst B (v := 0) dX0_servesStale_25 rfl ?_
      have hF : fX0_servesStale C x1 x2 = 0 := (if_neg c1).trans (if_pos c2)
      exact z_ret1 B rfl dX0_servesStale_26 () (trivial) (Nat.le_of_ble_eq_true rfl) (Nat.le_of_ble_eq_true rfl) (by rw [hF]) (by rw [hF])
    · refine z_iconst B (v := 1) dX0_servesStale_21 rfl ?_
      refine z_goto B (tgt := 26) dX0_servesStale_22 (by decide) ?_
      have hF : fX0_servesStale C x1 x2 = 1 := (if_neg c1).trans (if_neg c2)
      exact z_ret1 B rfl dX0_servesStale_26 () (trivial) (Nat.le_of_ble_eq_true rfl) (Nat.le_of_ble_eq_true rfl) (by rw [hF]) (by rw [hF])
def fX0_isHot (C : Nat → Nat → Int32) (x1 : Int32) (x2 : Int32) : Int32 :=
  if (fX0_has C x1) = 0 then
    0
  else
    if ((C 4) x1.toNatClampNeg) < 3 then
      0
    else
      if ((C 2) x1.toNatClampNeg) < (4 * (((C 3) x1.toNatClampNeg) - x2)) then
        0
      else
        1
theorem hiX0_isHot_0 : ∀ w ∈ wsX00, w ∈ wsX0_isHot := by decide +kernel
theorem hfX0_isHot_24 : Cond.fieldLink RX0 24 "ResolverFleet$Cache" "hits" "[I" ∈ wsX0_isHot := by decide +kernel
theorem hfX0_isHot_21 : Cond.fieldLink RX0 21 "ResolverFleet$Cache" "ends" "[I" ∈ wsX0_isHot := by decide +kernel
theorem hfX0_isHot_18 : Cond.fieldLink RX0 18 "ResolverFleet$Cache" "lives" "[I" ∈ wsX0_isHot := by decide +kernel
set_option maxHeartbeats 4000000 in
set_option maxRecDepth 100000 in
theorem kX0_isHot (l : Launch) (hl : l.stackTraces = false) (K : zK) (ac : Nat → Nat) (C : Nat → Nat → Int32) (x1 : Int32) (x2 : Int32) : zMet l K yX0_isHot wsX0_isHot { frames := 1, cells := 0, slots := 0, locals := 21 } [.ref (ac 0), .int x1, .int x2] [zCa K ac C] (some (.int (fX0_isHot C x1 x2))) [zCa K ac C] True zNo := by
  refine zMeN.of (cc := cX0_isHot) (maxL := 3) (ret := (some .boolean)) (own := RX0) (nm := "isHot") hl (by decide +kernel) rfl rfl rfl (Nat.le_of_ble_eq_true rfl) (lv := [(0, .ref (ac 0)), (1, .int x1), (2, .int x2)]) rfl ?_
  intro p e s m args below meth c A B
  refine z_aload_n B dX0_isHot_0 0 rfl ?_
  refine z_iload_n B dX0_isHot_1 1 rfl ?_
  refine z_V1 B (kX0_has l hl K ac C x1) [0] [] (br := []) (bs' := [zCa K ac C]) (st := []) (nA := 1) (zsp rfl rfl rfl) (zsp rfl rfl rfl) 0 0 rfl rfl rfl rfl gX0_isHot_X0_has rfl (by decide +kernel) ⟨Nat.le_of_ble_eq_true rfl, Nat.le_of_ble_eq_true rfl⟩ rfl rfl (Nat.le_of_ble_eq_true rfl) ⟨Nat.le_of_ble_eq_true rfl, Nat.le_of_ble_eq_true rfl⟩ dX0_isHot_2 z_noX (fun _ => ?_)
  refine z_ifeq B 41 dX0_isHot_5 (by decide) (fun c1 => ?_) (fun c1 => ?_)
  · refine z_iconst B (v := 0) dX0_isHot_41 rfl ?_
    have hF : fX0_isHot C x1 x2 = 0 := if_pos c1
    exact z_ret1 B rfl dX0_isHot_42 () (trivial) (Nat.le_of_ble_eq_true rfl) (Nat.le_of_ble_eq_true rfl) (by rw [hF]) (by rw [hF])
  · refine z_aload_n B dX0_isHot_8 0 rfl ?_
    refine z_get B (v := .ref (ac 5)) 0 0 4 hiX0_isHot_0 hfX0_isHot_24 rfl rfl rfl (by decide) rfl rfl rfl rfl dX0_isHot_9 ?_
    refine z_iload_n B dX0_isHot_12 1 rfl ?_
    refine z_iald B (N := 16) (f := (C 4)) 0 5 rfl rfl (z_has c1) dX0_isHot_13 ?_
    refine z_iconst B (v := 3) dX0_isHot_14 rfl ?_
    refine z_iclt B 41 dX0_isHot_15 (by decide) (fun c2 => ?_) (fun c2 => ?_)
    · refine z_iconst B (v := 0) dX0_isHot_41 rfl ?_
      have hF : fX0_isHot C x1 x2 = 0 := (if_neg c1).trans (if_pos c2)
      exact z_ret1 B rfl dX0_isHot_42 () (trivial) (Nat.le_of_ble_eq_true rfl) (Nat.le_of_ble_eq_true rfl) (by rw [hF]) (by rw [hF])
    · refine z_iconst B (v := 4) dX0_isHot_18 rfl ?_
      refine z_aload_n B dX0_isHot_19 0 rfl ?_
      refine z_get B (v := .ref (ac 4)) 0 0 3 hiX0_isHot_0 hfX0_isHot_21 rfl rfl rfl (by decide) rfl rfl rfl rfl dX0_isHot_20 ?_
      refine z_iload_n B dX0_isHot_23 1 rfl ?_
      refine z_iald B (N := 16) (f := (C 3)) 0 4 rfl rfl (z_has c1) dX0_isHot_24 ?_
      refine z_iload_n B dX0_isHot_25 2 rfl ?_
      refine z_isub B dX0_isHot_26 ?_
      refine z_imul B dX0_isHot_27 ?_
      refine z_aload_n B dX0_isHot_28 0 rfl ?_
      refine z_get B (v := .ref (ac 3)) 0 0 2 hiX0_isHot_0 hfX0_isHot_18 rfl rfl rfl (by decide) rfl rfl rfl rfl dX0_isHot_29 ?_
      refine z_iload_n B dX0_isHot_32 1 rfl ?_
      refine z_iald B (N := 16) (f := (C 2)) 0 3 rfl rfl (z_has c1) dX0_isHot_33 ?_
      refine z_icgt B 41 dX0_isHot_34 (by decide) (fun c3 => ?_) (fun c3 => ?_)
      · refine z_iconst B (v := 0) dX0_isHot_41 rfl ?_
        have hF : fX0_isHot C x1 x2 = 0 := (if_neg c1).trans ((if_neg c2).trans (if_pos c3))
        exact z_ret1 B rfl dX0_isHot_42 () (trivial) (Nat.le_of_ble_eq_true rfl) (Nat.le_of_ble_eq_true rfl) (by rw [hF]) (by rw [hF])
      · refine z_iconst B (v := 1) dX0_isHot_37 rfl ?_
        refine z_goto B (tgt := 42) dX0_isHot_38 (by decide) ?_
        have hF : fX0_isHot C x1 x2 = 1 := (if_neg c1).trans ((if_neg c2).trans (if_neg c3))
        exact z_ret1 B rfl dX0_isHot_42 () (trivial) (Nat.le_of_ble_eq_true rfl) (Nat.le_of_ble_eq_true rfl) (by rw [hF]) (by rw [hF])
def fX0_countHit (C : Nat → Nat → Int32) (x1 : Int32) : (Nat → Nat → Int32) :=
  if (fX0_has C x1) = 0 then
    C
  else
    (va_up C 4 (upd (C 4) x1.toNatClampNeg (((C 4) x1.toNatClampNeg) + 1)))
theorem hiX0_countHit_0 : ∀ w ∈ wsX00, w ∈ wsX0_countHit := by decide +kernel
theorem hfX0_countHit_24 : Cond.fieldLink RX0 24 "ResolverFleet$Cache" "hits" "[I" ∈ wsX0_countHit := by decide +kernel
set_option maxHeartbeats 4000000 in
set_option maxRecDepth 100000 in
theorem kX0_countHit (l : Launch) (hl : l.stackTraces = false) (K : zK) (ac : Nat → Nat) (C : Nat → Nat → Int32) (x1 : Int32) : zMet l K yX0_countHit wsX0_countHit { frames := 1, cells := 0, slots := 0, locals := 21 } [.ref (ac 0), .int x1] [zCa K ac C] none [zCa K ac (fX0_countHit C x1)] True zNo := by
  refine zMeN.of (cc := cX0_countHit) (maxL := 2) (ret := none) (own := RX0) (nm := "countHit") hl (by decide +kernel) rfl rfl rfl (Nat.le_of_ble_eq_true rfl) (lv := [(0, .ref (ac 0)), (1, .int x1)]) rfl ?_
  intro p e s m args below meth c A B
  refine z_aload_n B dX0_countHit_0 0 rfl ?_
  refine z_iload_n B dX0_countHit_1 1 rfl ?_
  refine z_V1 B (kX0_has l hl K ac C x1) [0] [] (br := []) (bs' := [zCa K ac C]) (st := []) (nA := 1) (zsp rfl rfl rfl) (zsp rfl rfl rfl) 0 0 rfl rfl rfl rfl gX0_countHit_X0_has rfl (by decide +kernel) ⟨Nat.le_of_ble_eq_true rfl, Nat.le_of_ble_eq_true rfl⟩ rfl rfl (Nat.le_of_ble_eq_true rfl) ⟨Nat.le_of_ble_eq_true rfl, Nat.le_of_ble_eq_true rfl⟩ dX0_countHit_2 z_noX (fun _ => ?_)
  refine z_ifeq B 18 dX0_countHit_5 (by decide) (fun c1 => ?_) (fun c1 => ?_)
  · have hF : fX0_countHit C x1 = C := if_pos c1
    exact z_ret0 B dX0_countHit_18 () (trivial) (Nat.le_of_ble_eq_true rfl) (Nat.le_of_ble_eq_true rfl) rfl (by rw [hF])
  · refine z_aload_n B dX0_countHit_8 0 rfl ?_
    refine z_get B (v := .ref (ac 5)) 0 0 4 hiX0_countHit_0 hfX0_countHit_24 rfl rfl rfl (by decide) rfl rfl rfl rfl dX0_countHit_9 ?_
    refine z_iload_n B dX0_countHit_12 1 rfl ?_
    refine z_dup2 B dX0_countHit_13 rfl rfl ?_
    refine z_iald B (N := 16) (f := (C 4)) 0 5 rfl rfl (z_has c1) dX0_countHit_14 ?_
    refine z_iconst B (v := 1) dX0_countHit_15 rfl ?_
    refine z_iadd B dX0_countHit_16 ?_
    refine z_iast B (N := 16) (f := (C 4)) 0 5 rfl rfl (z_has c1) (bs' := [zCa K ac (va_up C 4 (upd (C 4) x1.toNatClampNeg (((C 4) x1.toNatClampNeg) + 1)))]) rfl dX0_countHit_17 ?_
    have hF : fX0_countHit C x1 = (va_up C 4 (upd (C 4) x1.toNatClampNeg (((C 4) x1.toNatClampNeg) + 1))) := if_neg c1
    exact z_ret0 B dX0_countHit_18 () (trivial) (Nat.le_of_ble_eq_true rfl) (Nat.le_of_ble_eq_true rfl) rfl (by rw [hF])
def fX0_drop (C : Nat → Nat → Int32) (x1 : Int32) : Int32 × (Nat → Nat → Int32) :=
  if (fX0_has C x1) = 0 then
    (0, C)
  else
    (1, (va_up (va_up C 0 (upd (C 0) x1.toNatClampNeg 3)) 5 (fun _ => ((C 5 0) - 1))))
theorem hiX0_drop_0 : ∀ w ∈ wsX00, w ∈ wsX0_drop := by decide +kernel
theorem hfX0_drop_9 : Cond.fieldLink RX0 9 "ResolverFleet$Cache" "kinds" "[I" ∈ wsX0_drop := by decide +kernel
theorem hfX0_drop_39 : Cond.fieldLink RX0 39 "ResolverFleet$Cache" "size" "I" ∈ wsX0_drop := by decide +kernel
set_option maxHeartbeats 4000000 in
set_option maxRecDepth 100000 in
theorem kX0_drop (l : Launch) (hl : l.stackTraces = false) (K : zK) (ac : Nat → Nat) (C : Nat → Nat → Int32) (x1 : Int32) : zMet l K yX0_drop wsX0_drop { frames := 1, cells := 0, slots := 0, locals := 21 } [.ref (ac 0), .int x1] [zCa K ac C] (some (.int ((fX0_drop C x1).1))) [zCa K ac ((fX0_drop C x1).2)] True zNo := by
  refine zMeN.of (cc := cX0_drop) (maxL := 2) (ret := (some .boolean)) (own := RX0) (nm := "drop") hl (by decide +kernel) rfl rfl rfl (Nat.le_of_ble_eq_true rfl) (lv := [(0, .ref (ac 0)), (1, .int x1)]) rfl ?_
  intro p e s m args below meth c A B
  refine z_aload_n B dX0_drop_0 0 rfl ?_
  refine z_iload_n B dX0_drop_1 1 rfl ?_
  refine z_V1 B (kX0_has l hl K ac C x1) [0] [] (br := []) (bs' := [zCa K ac C]) (st := []) (nA := 1) (zsp rfl rfl rfl) (zsp rfl rfl rfl) 0 0 rfl rfl rfl rfl gX0_drop_X0_has rfl (by decide +kernel) ⟨Nat.le_of_ble_eq_true rfl, Nat.le_of_ble_eq_true rfl⟩ rfl rfl (Nat.le_of_ble_eq_true rfl) ⟨Nat.le_of_ble_eq_true rfl, Nat.le_of_ble_eq_true rfl⟩ dX0_drop_2 z_noX (fun _ => ?_)
  refine z_ifne B 10 dX0_drop_5 (by decide) (fun c1 => ?_) (fun c1 => ?_)
  · refine z_iconst B (v := 0) dX0_drop_8 rfl ?_
    have hF : fX0_drop C x1 = (0, C) := if_pos c1
    exact z_ret1 B rfl dX0_drop_9 () (trivial) (Nat.le_of_ble_eq_true rfl) (Nat.le_of_ble_eq_true rfl) (by rw [hF]) (by rw [hF])
  · refine z_aload_n B dX0_drop_10 0 rfl ?_
    refine z_get B (v := .ref (ac 1)) 0 0 0 hiX0_drop_0 hfX0_drop_9 rfl rfl rfl (by decide) rfl rfl rfl rfl dX0_drop_11 ?_
    refine z_iload_n B dX0_drop_14 1 rfl ?_
    refine z_iconst B (v := 3) dX0_drop_15 rfl ?_
    refine z_iast B (N := 16) (f := (C 0)) 0 1 rfl rfl (z_has c1) (bs' := [zCa K ac (va_up C 0 (upd (C 0) x1.toNatClampNeg 3))]) rfl dX0_drop_16 ?_
    refine z_aload_n B dX0_drop_17 0 rfl ?_
    refine z_dup B dX0_drop_18 rfl ?_
    refine z_get B (v := .int (C 5 0)) 0 0 5 hiX0_drop_0 hfX0_drop_39 rfl rfl rfl (by decide) rfl rfl rfl rfl dX0_drop_19 ?_
    refine z_iconst B (v := 1) dX0_drop_22 rfl ?_
    refine z_isub B dX0_drop_23 ?_
    refine z_put B 0 0 5 hiX0_drop_0 hfX0_drop_39 tyX0_ok nmX0 rfl rfl rfl (by decide) rfl rfl rfl rfl rfl rfl rfl (Nat.le_of_ble_eq_true rfl) (bs' := [zCa K ac (va_up (va_up C 0 (upd (C 0) x1.toNatClampNeg 3)) 5 (fun _ => ((C 5 0) - 1)))]) rfl dX0_drop_24 ?_
    refine z_iconst B (v := 1) dX0_drop_27 rfl ?_
    have hF : fX0_drop C x1 = (1, (va_up (va_up C 0 (upd (C 0) x1.toNatClampNeg 3)) 5 (fun _ => ((C 5 0) - 1)))) := if_neg c1
    exact z_ret1 B rfl dX0_drop_28 () (trivial) (Nat.le_of_ble_eq_true rfl) (Nat.le_of_ble_eq_true rfl) (by rw [hF]) (by rw [hF])
def fX0_firstToEnd_L5 (C : Nat → Nat → Int32) : Nat → Nat → (Int32) → Int32
  | 0, a, g =>
    g
  | n + 1, a, g =>
    if ((C 0) (nI a).toNatClampNeg) = 3 then
      fX0_firstToEnd_L5 C n (a + 1) g
    else
      if g < 0 then
        fX0_firstToEnd_L5 C n (a + 1) (nI a)
      else
        if ((C 3) g.toNatClampNeg) ≤ ((C 3) (nI a).toNatClampNeg) then
          fX0_firstToEnd_L5 C n (a + 1) g
        else
          fX0_firstToEnd_L5 C n (a + 1) (nI a)
def fX0_firstToEnd (C : Nat → Nat → Int32) : Int32 :=
  fX0_firstToEnd_L5 C 16 0 (-3)
theorem hiX0_firstToEnd_0 : ∀ w ∈ wsX00, w ∈ wsX0_firstToEnd := by decide +kernel
theorem hfX0_firstToEnd_9 : Cond.fieldLink RX0 9 "ResolverFleet$Cache" "kinds" "[I" ∈ wsX0_firstToEnd := by decide +kernel
theorem hfX0_firstToEnd_21 : Cond.fieldLink RX0 21 "ResolverFleet$Cache" "ends" "[I" ∈ wsX0_firstToEnd := by decide +kernel
set_option maxHeartbeats 4000000 in
set_option maxRecDepth 100000 in
theorem kX0_firstToEnd_L5 (l : Launch) (hl : l.stackTraces = false) (K : zK) (ac : Nat → Nat) (C : Nat → Nat → Int32) {p : Program} {e : Env} {s : State} {m : MethodId} {args : Array Value} {below : List Frame} {meth : Method} {c : Code} {A : Nat → Prop} (B : zF K p l s m args meth c A cX0_firstToEnd 3 RX0 "firstToEnd" wsX0_firstToEnd (some .int) []) : ∀ (n a : Nat) (g : Int32), a + n = 16 → (g < 0 ∨ vp_in g 16) → fX0_firstToEnd C = fX0_firstToEnd_L5 C n a g → zW K p l e { frames := 0, cells := 0, slots := 0, locals := 0 } s m args below meth c A (vx_MQ below (zQ K A (fun _ : Unit => ((some (.int (fX0_firstToEnd C))), [zCa K ac C])) (fun _ => True)) (zX K A [zCa K ac C] zNo) args s 0 0 A) 0 0 [zCa K ac C] [(0, .ref (ac 0)), (1, .int g), (2, .int (nI a))] [] 5 := by
  intro n
  induction n with
  | zero =>
    intro a g ha hg hF0
    refine z_iload_n B dX0_firstToEnd_5 2 rfl ?_
    refine z_bipush B (v := 16) dX0_firstToEnd_6 rfl ?_
    refine z_icge B 48 dX0_firstToEnd_8 (by decide) (fun _ => ?_) (fun h => absurd (z_lge0 ha (by decide)) h)
    refine z_iload_n B dX0_firstToEnd_48 1 rfl ?_
    have hF : fX0_firstToEnd C = g := hF0
    exact z_ret1 B rfl dX0_firstToEnd_49 () (trivial) (Nat.le_of_ble_eq_true rfl) (Nat.le_of_ble_eq_true rfl) (by rw [hF]) (by rw [hF])
  | succ n ih =>
    intro a g ha hg hF0
    refine z_iload_n B dX0_firstToEnd_5 2 rfl ?_
    refine z_bipush B (v := 16) dX0_firstToEnd_6 rfl ?_
    refine z_icge B 48 dX0_firstToEnd_8 (by decide) (fun h => absurd h (z_lgeS ha (by decide))) (fun _ => ?_)
    refine z_aload_n B dX0_firstToEnd_11 0 rfl ?_
    refine z_get B (v := .ref (ac 1)) 0 0 0 hiX0_firstToEnd_0 hfX0_firstToEnd_9 rfl rfl rfl (by decide) rfl rfl rfl rfl dX0_firstToEnd_12 ?_
    refine z_iload_n B dX0_firstToEnd_15 2 rfl ?_
    refine z_iald B (N := 16) (f := (C 0)) 0 1 rfl rfl (z_nIr (by omega) (by decide)) dX0_firstToEnd_16 ?_
    refine z_iconst B (v := 3) dX0_firstToEnd_17 rfl ?_
    refine z_iceq B 42 dX0_firstToEnd_18 (by decide) (fun c1 => ?_) (fun c1 => ?_)
    · refine z_iinc B (v := nI (a + 1)) (lv' := [(2, .int (nI (a + 1))), (0, .ref (ac 0)), (1, .int g)]) dX0_firstToEnd_42 2 rfl (nI_1 a) (by decide) rfl ?_
      refine z_goto B (tgt := 5) dX0_firstToEnd_45 (by decide) ?_
      refine z_lsub [1, 2, 0] rfl ?_
      have hF : fX0_firstToEnd C = fX0_firstToEnd_L5 C n (a + 1) g := (hF0).trans (if_pos c1)
      exact ih (a + 1) g (by omega) hg hF
    · refine z_iload_n B dX0_firstToEnd_21 1 rfl ?_
      refine z_iflt B 40 dX0_firstToEnd_22 (by decide) (fun c2 => ?_) (fun c2 => ?_)
      · refine z_iload_n B dX0_firstToEnd_40 2 rfl ?_
        refine z_istore_n B (lv' := [(1, .int (nI a)), (0, .ref (ac 0)), (2, .int (nI a))]) dX0_firstToEnd_41 (by decide) rfl ?_
        refine z_iinc B (v := nI (a + 1)) (lv' := [(2, .int (nI (a + 1))), (1, .int (nI a)), (0, .ref (ac 0))]) dX0_firstToEnd_42 2 rfl (nI_1 a) (by decide) rfl ?_
        refine z_goto B (tgt := 5) dX0_firstToEnd_45 (by decide) ?_
        refine z_lsub [2, 1, 0] rfl ?_
        have hF : fX0_firstToEnd C = fX0_firstToEnd_L5 C n (a + 1) (nI a) := (hF0).trans ((if_neg c1).trans (if_pos c2))
        exact ih (a + 1) (nI a) (by omega) (Or.inr (z_nIr (by omega) (by decide))) hF
      · refine z_aload_n B dX0_firstToEnd_25 0 rfl ?_
        refine z_get B (v := .ref (ac 4)) 0 0 3 hiX0_firstToEnd_0 hfX0_firstToEnd_21 rfl rfl rfl (by decide) rfl rfl rfl rfl dX0_firstToEnd_26 ?_
        refine z_iload_n B dX0_firstToEnd_29 2 rfl ?_
        refine z_iald B (N := 16) (f := (C 3)) 0 4 rfl rfl (z_nIr (by omega) (by decide)) dX0_firstToEnd_30 ?_
        refine z_aload_n B dX0_firstToEnd_31 0 rfl ?_
        refine z_get B (v := .ref (ac 4)) 0 0 3 hiX0_firstToEnd_0 hfX0_firstToEnd_21 rfl rfl rfl (by decide) rfl rfl rfl rfl dX0_firstToEnd_32 ?_
        refine z_iload_n B dX0_firstToEnd_35 1 rfl ?_
        refine z_iald B (N := 16) (f := (C 3)) 0 4 rfl rfl (z_of hg c2) dX0_firstToEnd_36 ?_
        refine z_icge B 42 dX0_firstToEnd_37 (by decide) (fun c3 => ?_) (fun c3 => ?_)
        · refine z_iinc B (v := nI (a + 1)) (lv' := [(2, .int (nI (a + 1))), (0, .ref (ac 0)), (1, .int g)]) dX0_firstToEnd_42 2 rfl (nI_1 a) (by decide) rfl ?_
          refine z_goto B (tgt := 5) dX0_firstToEnd_45 (by decide) ?_
          refine z_lsub [1, 2, 0] rfl ?_
          have hF : fX0_firstToEnd C = fX0_firstToEnd_L5 C n (a + 1) g := (hF0).trans ((if_neg c1).trans ((if_neg c2).trans (if_pos c3)))
          exact ih (a + 1) g (by omega) hg hF
        · refine z_iload_n B dX0_firstToEnd_40 2 rfl ?_
          refine z_istore_n B (lv' := [(1, .int (nI a)), (0, .ref (ac 0)), (2, .int (nI a))]) dX0_firstToEnd_41 (by decide) rfl ?_
          refine z_iinc B (v := nI (a + 1)) (lv' := [(2, .int (nI (a + 1))), (1, .int (nI a)), (0, .ref (ac 0))]) dX0_firstToEnd_42 2 rfl (nI_1 a) (by decide) rfl ?_
          refine z_goto B (tgt := 5) dX0_firstToEnd_45 (by decide) ?_
          refine z_lsub [2, 1, 0] rfl ?_
          have hF : fX0_firstToEnd C = fX0_firstToEnd_L5 C n (a + 1) (nI a) := (hF0).trans ((if_neg c1).trans ((if_neg c2).trans (if_neg c3)))
          exact ih (a + 1) (nI a) (by omega) (Or.inr (z_nIr (by omega) (by decide))) hF
set_option maxHeartbeats 4000000 in
set_option maxRecDepth 100000 in
theorem kX0_firstToEnd (l : Launch) (hl : l.stackTraces = false) (K : zK) (ac : Nat → Nat) (C : Nat → Nat → Int32) : zMet l K yX0_firstToEnd wsX0_firstToEnd { frames := 0, cells := 0, slots := 0, locals := 0 } [.ref (ac 0)] [zCa K ac C] (some (.int (fX0_firstToEnd C))) [zCa K ac C] True zNo := by
  refine zMeN.of (cc := cX0_firstToEnd) (maxL := 3) (ret := (some .int)) (own := RX0) (nm := "firstToEnd") hl (by decide +kernel) rfl rfl rfl (Nat.le_of_ble_eq_true rfl) (lv := [(0, .ref (ac 0))]) rfl ?_
  intro p e s m args below meth c A B
  refine z_bipush B (v := (-3)) dX0_firstToEnd_0 rfl ?_
  refine z_istore_n B (lv' := [(1, .int (-3)), (0, .ref (ac 0))]) dX0_firstToEnd_2 (by decide) rfl ?_
  refine z_iconst B (v := 0) dX0_firstToEnd_3 rfl ?_
  refine z_istore_n B (lv' := [(2, .int 0), (1, .int (-3)), (0, .ref (ac 0))]) dX0_firstToEnd_4 (by decide) rfl ?_
  refine z_lsub [2, 1, 0] rfl ?_
  have hF : fX0_firstToEnd C = fX0_firstToEnd_L5 C 16 0 (-3) := rfl
  exact kX0_firstToEnd_L5 l hl K ac C B 16 0 (-3) (by omega) (Or.inl (by decide)) hF
def fX0_put_s5 (C : Nat → Nat → Int32) (x1 : Int32) (x2 : Int32) (x3 : Int32) (x4 : Int32) (x5 : Int32) (o5 : Int32 × (Nat → Nat → Int32)) : (Nat → Nat → Int32) :=
  (va_up (va_up (va_up (va_up (va_up (va_up (o5.2) 0 (upd ((o5.2) 0) x1.toNatClampNeg x2)) 1 (upd ((o5.2) 1) x1.toNatClampNeg x3)) 2 (upd ((o5.2) 2) x1.toNatClampNeg x4)) 3 (upd ((o5.2) 3) x1.toNatClampNeg (x5 + x4))) 4 (upd ((o5.2) 4) x1.toNatClampNeg 0)) 5 (fun _ => (((o5.2) 5 0) + 1)))
def fX0_put (C : Nat → Nat → Int32) (x1 : Int32) (x2 : Int32) (x3 : Int32) (x4 : Int32) (x5 : Int32) : (Nat → Nat → Int32) :=
  if x1 < 0 then
    C
  else
    if x1 < 16 then
      if ((C 0) x1.toNatClampNeg) = 3 then
        if (C 5 0) < 6 then
          (va_up (va_up (va_up (va_up (va_up (va_up C 0 (upd (C 0) x1.toNatClampNeg x2)) 1 (upd (C 1) x1.toNatClampNeg x3)) 2 (upd (C 2) x1.toNatClampNeg x4)) 3 (upd (C 3) x1.toNatClampNeg (x5 + x4))) 4 (upd (C 4) x1.toNatClampNeg 0)) 5 (fun _ => ((C 5 0) + 1)))
        else
          fX0_put_s5 C x1 x2 x3 x4 x5 (fX0_drop C (fX0_firstToEnd C))
      else
        (va_up (va_up (va_up (va_up (va_up C 0 (upd (C 0) x1.toNatClampNeg x2)) 1 (upd (C 1) x1.toNatClampNeg x3)) 2 (upd (C 2) x1.toNatClampNeg x4)) 3 (upd (C 3) x1.toNatClampNeg (x5 + x4))) 4 (upd (C 4) x1.toNatClampNeg 0))
    else
      C
theorem hiX0_put_0 : ∀ w ∈ wsX00, w ∈ wsX0_put := by decide +kernel
theorem hfX0_put_9 : Cond.fieldLink RX0 9 "ResolverFleet$Cache" "kinds" "[I" ∈ wsX0_put := by decide +kernel
theorem hfX0_put_39 : Cond.fieldLink RX0 39 "ResolverFleet$Cache" "size" "I" ∈ wsX0_put := by decide +kernel
theorem hfX0_put_15 : Cond.fieldLink RX0 15 "ResolverFleet$Cache" "values" "[I" ∈ wsX0_put := by decide +kernel
theorem hfX0_put_18 : Cond.fieldLink RX0 18 "ResolverFleet$Cache" "lives" "[I" ∈ wsX0_put := by decide +kernel
theorem hfX0_put_21 : Cond.fieldLink RX0 21 "ResolverFleet$Cache" "ends" "[I" ∈ wsX0_put := by decide +kernel
theorem hfX0_put_24 : Cond.fieldLink RX0 24 "ResolverFleet$Cache" "hits" "[I" ∈ wsX0_put := by decide +kernel
set_option maxHeartbeats 4000000 in
set_option maxRecDepth 100000 in
theorem kX0_put (l : Launch) (hl : l.stackTraces = false) (K : zK) (ac : Nat → Nat) (C : Nat → Nat → Int32) (x1 : Int32) (x2 : Int32) (x3 : Int32) (x4 : Int32) (x5 : Int32) : zMet l K yX0_put wsX0_put { frames := 2, cells := 0, slots := 0, locals := 42 } [.ref (ac 0), .int x1, .int x2, .int x3, .int x4, .int x5] [zCa K ac C] none [zCa K ac (fX0_put C x1 x2 x3 x4 x5)] True zNo := by
  refine zMeN.of (cc := cX0_put) (maxL := 6) (ret := none) (own := RX0) (nm := "put") hl (by decide +kernel) rfl rfl rfl (Nat.le_of_ble_eq_true rfl) (lv := [(0, .ref (ac 0)), (1, .int x1), (2, .int x2), (3, .int x3), (4, .int x4), (5, .int x5)]) rfl ?_
  intro p e s m args below meth c A B
  refine z_iload_n B dX0_put_0 1 rfl ?_
  refine z_iflt B 10 dX0_put_1 (by decide) (fun c1 => ?_) (fun c1 => ?_)
  · have hF : fX0_put C x1 x2 x3 x4 x5 = C := if_pos c1
    exact z_ret0 B dX0_put_10 () (trivial) (Nat.le_of_ble_eq_true rfl) (Nat.le_of_ble_eq_true rfl) rfl (by rw [hF])
  · refine z_iload_n B dX0_put_4 1 rfl ?_
    refine z_bipush B (v := 16) dX0_put_5 rfl ?_
    refine z_iclt B 11 dX0_put_7 (by decide) (fun c2 => ?_) (fun c2 => ?_)
    · refine z_aload_n B dX0_put_11 0 rfl ?_
      refine z_get B (v := .ref (ac 1)) 0 0 0 hiX0_put_0 hfX0_put_9 rfl rfl rfl (by decide) rfl rfl rfl rfl dX0_put_12 ?_
      refine z_iload_n B dX0_put_15 1 rfl ?_
      refine z_iald B (N := 16) (f := (C 0)) 0 1 rfl rfl (z_vp2 (M := 16) rfl c1 c2) dX0_put_16 ?_
      refine z_iconst B (v := 3) dX0_put_17 rfl ?_
      refine z_icne B 49 dX0_put_18 (by decide) (fun c3 => ?_) (fun c3 => ?_)
      · refine z_aload_n B dX0_put_21 0 rfl ?_
        refine z_get B (v := .int (C 5 0)) 0 0 5 hiX0_put_0 hfX0_put_39 rfl rfl rfl (by decide) rfl rfl rfl rfl dX0_put_22 ?_
        refine z_bipush B (v := 6) dX0_put_25 rfl ?_
        refine z_iclt B 39 dX0_put_27 (by decide) (fun c4 => ?_) (fun c4 => ?_)
        · refine z_aload_n B dX0_put_39 0 rfl ?_
          refine z_dup B dX0_put_40 rfl ?_
          refine z_get B (v := .int (C 5 0)) 0 0 5 hiX0_put_0 hfX0_put_39 rfl rfl rfl (by decide) rfl rfl rfl rfl dX0_put_41 ?_
          refine z_iconst B (v := 1) dX0_put_44 rfl ?_
          refine z_iadd B dX0_put_45 ?_
          refine z_put B 0 0 5 hiX0_put_0 hfX0_put_39 tyX0_ok nmX0 rfl rfl rfl (by decide) rfl rfl rfl rfl rfl rfl rfl (Nat.le_of_ble_eq_true rfl) (bs' := [zCa K ac (va_up C 5 (fun _ => ((C 5 0) + 1)))]) rfl dX0_put_46 ?_
          refine z_aload_n B dX0_put_49 0 rfl ?_
          refine z_get B (v := .ref (ac 1)) 0 0 0 hiX0_put_0 hfX0_put_9 rfl rfl rfl (by decide) rfl rfl rfl rfl dX0_put_50 ?_
          refine z_iload_n B dX0_put_53 1 rfl ?_
          refine z_iload_n B dX0_put_54 2 rfl ?_
          refine z_iast B (N := 16) (f := (C 0)) 0 1 rfl rfl (z_vp2 (M := 16) rfl c1 c2) (bs' := [zCa K ac (va_up (va_up C 0 (upd (C 0) x1.toNatClampNeg x2)) 5 (fun _ => ((C 5 0) + 1)))]) rfl dX0_put_55 ?_
          refine z_aload_n B dX0_put_56 0 rfl ?_
          refine z_get B (v := .ref (ac 2)) 0 0 1 hiX0_put_0 hfX0_put_15 rfl rfl rfl (by decide) rfl rfl rfl rfl dX0_put_57 ?_
          refine z_iload_n B dX0_put_60 1 rfl ?_
          refine z_iload_n B dX0_put_61 3 rfl ?_
          refine z_iast B (N := 16) (f := (C 1)) 0 2 rfl rfl (z_vp2 (M := 16) rfl c1 c2) (bs' := [zCa K ac (va_up (va_up (va_up C 0 (upd (C 0) x1.toNatClampNeg x2)) 1 (upd (C 1) x1.toNatClampNeg x3)) 5 (fun _ => ((C 5 0) + 1)))]) rfl dX0_put_62 ?_
          refine z_aload_n B dX0_put_63 0 rfl ?_
          refine z_get B (v := .ref (ac 3)) 0 0 2 hiX0_put_0 hfX0_put_18 rfl rfl rfl (by decide) rfl rfl rfl rfl dX0_put_64 ?_
          refine z_iload_n B dX0_put_67 1 rfl ?_
          refine z_iload B dX0_put_68 4 rfl ?_
          refine z_iast B (N := 16) (f := (C 2)) 0 3 rfl rfl (z_vp2 (M := 16) rfl c1 c2) (bs' := [zCa K ac (va_up (va_up (va_up (va_up C 0 (upd (C 0) x1.toNatClampNeg x2)) 1 (upd (C 1) x1.toNatClampNeg x3)) 2 (upd (C 2) x1.toNatClampNeg x4)) 5 (fun _ => ((C 5 0) + 1)))]) rfl dX0_put_70 ?_
          refine z_aload_n B dX0_put_71 0 rfl ?_
          refine z_get B (v := .ref (ac 4)) 0 0 3 hiX0_put_0 hfX0_put_21 rfl rfl rfl (by decide) rfl rfl rfl rfl dX0_put_72 ?_
          refine z_iload_n B dX0_put_75 1 rfl ?_
          refine z_iload B dX0_put_76 5 rfl ?_
          refine z_iload B dX0_put_78 4 rfl ?_
          refine z_iadd B dX0_put_80 ?_
          refine z_iast B (N := 16) (f := (C 3)) 0 4 rfl rfl (z_vp2 (M := 16) rfl c1 c2) (bs' := [zCa K ac (va_up (va_up (va_up (va_up (va_up C 0 (upd (C 0) x1.toNatClampNeg x2)) 1 (upd (C 1) x1.toNatClampNeg x3)) 2 (upd (C 2) x1.toNatClampNeg x4)) 3 (upd (C 3) x1.toNatClampNeg (x5 + x4))) 5 (fun _ => ((C 5 0) + 1)))]) rfl dX0_put_81 ?_
          refine z_aload_n B dX0_put_82 0 rfl ?_
          refine z_get B (v := .ref (ac 5)) 0 0 4 hiX0_put_0 hfX0_put_24 rfl rfl rfl (by decide) rfl rfl rfl rfl dX0_put_83 ?_
          refine z_iload_n B dX0_put_86 1 rfl ?_
          refine z_iconst B (v := 0) dX0_put_87 rfl ?_
          refine z_iast B (N := 16) (f := (C 4)) 0 5 rfl rfl (z_vp2 (M := 16) rfl c1 c2) (bs' := [zCa K ac (va_up (va_up (va_up (va_up (va_up (va_up C 0 (upd (C 0) x1.toNatClampNeg x2)) 1 (upd (C 1) x1.toNatClampNeg x3)) 2 (upd (C 2) x1.toNatClampNeg x4)) 3 (upd (C 3) x1.toNatClampNeg (x5 + x4))) 4 (upd (C 4) x1.toNatClampNeg 0)) 5 (fun _ => ((C 5 0) + 1)))]) rfl dX0_put_88 ?_
          have hF : fX0_put C x1 x2 x3 x4 x5 = (va_up (va_up (va_up (va_up (va_up (va_up C 0 (upd (C 0) x1.toNatClampNeg x2)) 1 (upd (C 1) x1.toNatClampNeg x3)) 2 (upd (C 2) x1.toNatClampNeg x4)) 3 (upd (C 3) x1.toNatClampNeg (x5 + x4))) 4 (upd (C 4) x1.toNatClampNeg 0)) 5 (fun _ => ((C 5 0) + 1))) := (if_neg c1).trans ((if_pos c2).trans ((if_pos c3).trans (if_pos c4)))
          exact z_ret0 B dX0_put_89 () (trivial) (Nat.le_of_ble_eq_true rfl) (Nat.le_of_ble_eq_true rfl) rfl (by rw [hF])
        · refine z_aload_n B dX0_put_30 0 rfl ?_
          refine z_aload_n B dX0_put_31 0 rfl ?_
          refine z_V1 B (kX0_firstToEnd l hl K ac C) [0] [] (br := []) (bs' := [zCa K ac C]) (st := [.ref (ac 0)]) (nA := 0) (zsp rfl rfl rfl) (zsp rfl rfl rfl) 0 0 rfl rfl rfl rfl gX0_put_X0_firstToEnd rfl (by decide +kernel) ⟨Nat.le_of_ble_eq_true rfl, Nat.le_of_ble_eq_true rfl⟩ rfl rfl (Nat.le_of_ble_eq_true rfl) ⟨Nat.le_of_ble_eq_true rfl, Nat.le_of_ble_eq_true rfl⟩ dX0_put_32 z_noX (fun _ => ?_)
          refine z_V1 B (kX0_drop l hl K ac C (fX0_firstToEnd C)) [0] [] (br := []) (bs' := [zCa K ac ((fX0_drop C (fX0_firstToEnd C)).2)]) (st := []) (nA := 1) (zsp rfl rfl rfl) (zsp rfl rfl rfl) 0 0 rfl rfl rfl rfl gX0_put_X0_drop rfl (by decide +kernel) ⟨Nat.le_of_ble_eq_true rfl, Nat.le_of_ble_eq_true rfl⟩ rfl rfl (Nat.le_of_ble_eq_true rfl) ⟨Nat.le_of_ble_eq_true rfl, Nat.le_of_ble_eq_true rfl⟩ dX0_put_35 z_noX (fun _ => ?_)
          generalize ho5 : (fX0_drop C (fX0_firstToEnd C)) = o5
          refine z_pop B dX0_put_38 rfl ?_
          refine z_aload_n B dX0_put_39 0 rfl ?_
          refine z_dup B dX0_put_40 rfl ?_
          refine z_get B (v := .int ((o5.2) 5 0)) 0 0 5 hiX0_put_0 hfX0_put_39 rfl rfl rfl (by decide) rfl rfl rfl rfl dX0_put_41 ?_
          refine z_iconst B (v := 1) dX0_put_44 rfl ?_
          refine z_iadd B dX0_put_45 ?_
          refine z_put B 0 0 5 hiX0_put_0 hfX0_put_39 tyX0_ok nmX0 rfl rfl rfl (by decide) rfl rfl rfl rfl rfl rfl rfl (Nat.le_of_ble_eq_true rfl) (bs' := [zCa K ac (va_up (o5.2) 5 (fun _ => (((o5.2) 5 0) + 1)))]) rfl dX0_put_46 ?_
          refine z_aload_n B dX0_put_49 0 rfl ?_
          refine z_get B (v := .ref (ac 1)) 0 0 0 hiX0_put_0 hfX0_put_9 rfl rfl rfl (by decide) rfl rfl rfl rfl dX0_put_50 ?_
          refine z_iload_n B dX0_put_53 1 rfl ?_
          refine z_iload_n B dX0_put_54 2 rfl ?_
          refine z_iast B (N := 16) (f := ((o5.2) 0)) 0 1 rfl rfl (z_vp2 (M := 16) rfl c1 c2) (bs' := [zCa K ac (va_up (va_up (o5.2) 0 (upd ((o5.2) 0) x1.toNatClampNeg x2)) 5 (fun _ => (((o5.2) 5 0) + 1)))]) rfl dX0_put_55 ?_
          refine z_aload_n B dX0_put_56 0 rfl ?_
          refine z_get B (v := .ref (ac 2)) 0 0 1 hiX0_put_0 hfX0_put_15 rfl rfl rfl (by decide) rfl rfl rfl rfl dX0_put_57 ?_
          refine z_iload_n B dX0_put_60 1 rfl ?_
          refine z_iload_n B dX0_put_61 3 rfl ?_
          refine z_iast B (N := 16) (f := ((o5.2) 1)) 0 2 rfl rfl (z_vp2 (M := 16) rfl c1 c2) (bs' := [zCa K ac (va_up (va_up (va_up (o5.2) 0 (upd ((o5.2) 0) x1.toNatClampNeg x2)) 1 (upd ((o5.2) 1) x1.toNatClampNeg x3)) 5 (fun _ => (((o5.2) 5 0) + 1)))]) rfl dX0_put_62 ?_
          refine z_aload_n B dX0_put_63 0 rfl ?_
          refine z_get B (v := .ref (ac 3)) 0 0 2 hiX0_put_0 hfX0_put_18 rfl rfl rfl (by decide) rfl rfl rfl rfl dX0_put_64 ?_
          refine z_iload_n B dX0_put_67 1 rfl ?_
          refine z_iload B dX0_put_68 4 rfl ?_
          refine z_iast B (N := 16) (f := ((o5.2) 2)) 0 3 rfl rfl (z_vp2 (M := 16) rfl c1 c2) (bs' := [zCa K ac (va_up (va_up (va_up (va_up (o5.2) 0 (upd ((o5.2) 0) x1.toNatClampNeg x2)) 1 (upd ((o5.2) 1) x1.toNatClampNeg x3)) 2 (upd ((o5.2) 2) x1.toNatClampNeg x4)) 5 (fun _ => (((o5.2) 5 0) + 1)))]) rfl dX0_put_70 ?_
          refine z_aload_n B dX0_put_71 0 rfl ?_
          refine z_get B (v := .ref (ac 4)) 0 0 3 hiX0_put_0 hfX0_put_21 rfl rfl rfl (by decide) rfl rfl rfl rfl dX0_put_72 ?_
          refine z_iload_n B dX0_put_75 1 rfl ?_
          refine z_iload B dX0_put_76 5 rfl ?_
          refine z_iload B dX0_put_78 4 rfl ?_
          refine z_iadd B dX0_put_80 ?_
          refine z_iast B (N := 16) (f := ((o5.2) 3)) 0 4 rfl rfl (z_vp2 (M := 16) rfl c1 c2) (bs' := [zCa K ac (va_up (va_up (va_up (va_up (va_up (o5.2) 0 (upd ((o5.2) 0) x1.toNatClampNeg x2)) 1 (upd ((o5.2) 1) x1.toNatClampNeg x3)) 2 (upd ((o5.2) 2) x1.toNatClampNeg x4)) 3 (upd ((o5.2) 3) x1.toNatClampNeg (x5 + x4))) 5 (fun _ => (((o5.2) 5 0) + 1)))]) rfl dX0_put_81 ?_
          refine z_aload_n B dX0_put_82 0 rfl ?_
          refine z_get B (v := .ref (ac 5)) 0 0 4 hiX0_put_0 hfX0_put_24 rfl rfl rfl (by decide) rfl rfl rfl rfl dX0_put_83 ?_
          refine z_iload_n B dX0_put_86 1 rfl ?_
          refine z_iconst B (v := 0) dX0_put_87 rfl ?_
          refine z_iast B (N := 16) (f := ((o5.2) 4)) 0 5 rfl rfl (z_vp2 (M := 16) rfl c1 c2) (bs' := [zCa K ac (va_up (va_up (va_up (va_up (va_up (va_up (o5.2) 0 (upd ((o5.2) 0) x1.toNatClampNeg x2)) 1 (upd ((o5.2) 1) x1.toNatClampNeg x3)) 2 (upd ((o5.2) 2) x1.toNatClampNeg x4)) 3 (upd ((o5.2) 3) x1.toNatClampNeg (x5 + x4))) 4 (upd ((o5.2) 4) x1.toNatClampNeg 0)) 5 (fun _ => (((o5.2) 5 0) + 1)))]) rfl dX0_put_88 ?_
          have hF : fX0_put C x1 x2 x3 x4 x5 = (va_up (va_up (va_up (va_up (va_up (va_up (o5.2) 0 (upd ((o5.2) 0) x1.toNatClampNeg x2)) 1 (upd ((o5.2) 1) x1.toNatClampNeg x3)) 2 (upd ((o5.2) 2) x1.toNatClampNeg x4)) 3 (upd ((o5.2) 3) x1.toNatClampNeg (x5 + x4))) 4 (upd ((o5.2) 4) x1.toNatClampNeg 0)) 5 (fun _ => (((o5.2) 5 0) + 1))) := (if_neg c1).trans ((if_pos c2).trans ((if_pos c3).trans ((if_neg c4).trans (congrArg (fun o => fX0_put_s5 C x1 x2 x3 x4 x5 o) ho5))))
          exact z_ret0 B dX0_put_89 () (trivial) (Nat.le_of_ble_eq_true rfl) (Nat.le_of_ble_eq_true rfl) rfl (by rw [hF])
      · refine z_aload_n B dX0_put_49 0 rfl ?_
        refine z_get B (v := .ref (ac 1)) 0 0 0 hiX0_put_0 hfX0_put_9 rfl rfl rfl (by decide) rfl rfl rfl rfl dX0_put_50 ?_
        refine z_iload_n B dX0_put_53 1 rfl ?_
        refine z_iload_n B dX0_put_54 2 rfl ?_
        refine z_iast B (N := 16) (f := (C 0)) 0 1 rfl rfl (z_vp2 (M := 16) rfl c1 c2) (bs' := [zCa K ac (va_up C 0 (upd (C 0) x1.toNatClampNeg x2))]) rfl dX0_put_55 ?_
        refine z_aload_n B dX0_put_56 0 rfl ?_
        refine z_get B (v := .ref (ac 2)) 0 0 1 hiX0_put_0 hfX0_put_15 rfl rfl rfl (by decide) rfl rfl rfl rfl dX0_put_57 ?_
        refine z_iload_n B dX0_put_60 1 rfl ?_
        refine z_iload_n B dX0_put_61 3 rfl ?_
        refine z_iast B (N := 16) (f := (C 1)) 0 2 rfl rfl (z_vp2 (M := 16) rfl c1 c2) (bs' := [zCa K ac (va_up (va_up C 0 (upd (C 0) x1.toNatClampNeg x2)) 1 (upd (C 1) x1.toNatClampNeg x3))]) rfl dX0_put_62 ?_
        refine z_aload_n B dX0_put_63 0 rfl ?_
        refine z_get B (v := .ref (ac 3)) 0 0 2 hiX0_put_0 hfX0_put_18 rfl rfl rfl (by decide) rfl rfl rfl rfl dX0_put_64 ?_
        refine z_iload_n B dX0_put_67 1 rfl ?_
        refine z_iload B dX0_put_68 4 rfl ?_
        refine z_iast B (N := 16) (f := (C 2)) 0 3 rfl rfl (z_vp2 (M := 16) rfl c1 c2) (bs' := [zCa K ac (va_up (va_up (va_up C 0 (upd (C 0) x1.toNatClampNeg x2)) 1 (upd (C 1) x1.toNatClampNeg x3)) 2 (upd (C 2) x1.toNatClampNeg x4))]) rfl dX0_put_70 ?_
        refine z_aload_n B dX0_put_71 0 rfl ?_
        refine z_get B (v := .ref (ac 4)) 0 0 3 hiX0_put_0 hfX0_put_21 rfl rfl rfl (by decide) rfl rfl rfl rfl dX0_put_72 ?_
        refine z_iload_n B dX0_put_75 1 rfl ?_
        refine z_iload B dX0_put_76 5 rfl ?_
        refine z_iload B dX0_put_78 4 rfl ?_
        refine z_iadd B dX0_put_80 ?_
        refine z_iast B (N := 16) (f := (C 3)) 0 4 rfl rfl (z_vp2 (M := 16) rfl c1 c2) (bs' := [zCa K ac (va_up (va_up (va_up (va_up C 0 (upd (C 0) x1.toNatClampNeg x2)) 1 (upd (C 1) x1.toNatClampNeg x3)) 2 (upd (C 2) x1.toNatClampNeg x4)) 3 (upd (C 3) x1.toNatClampNeg (x5 + x4)))]) rfl dX0_put_81 ?_
        refine z_aload_n B dX0_put_82 0 rfl ?_
        refine z_get B (v := .ref (ac 5)) 0 0 4 hiX0_put_0 hfX0_put_24 rfl rfl rfl (by decide) rfl rfl rfl rfl dX0_put_83 ?_
        refine z_iload_n B dX0_put_86 1 rfl ?_
        refine z_iconst B (v := 0) dX0_put_87 rfl ?_
        refine z_iast B (N := 16) (f := (C 4)) 0 5 rfl rfl (z_vp2 (M := 16) rfl c1 c2) (bs' := [zCa K ac (va_up (va_up (va_up (va_up (va_up C 0 (upd (C 0) x1.toNatClampNeg x2)) 1 (upd (C 1) x1.toNatClampNeg x3)) 2 (upd (C 2) x1.toNatClampNeg x4)) 3 (upd (C 3) x1.toNatClampNeg (x5 + x4))) 4 (upd (C 4) x1.toNatClampNeg 0))]) rfl dX0_put_88 ?_
        have hF : fX0_put C x1 x2 x3 x4 x5 = (va_up (va_up (va_up (va_up (va_up C 0 (upd (C 0) x1.toNatClampNeg x2)) 1 (upd (C 1) x1.toNatClampNeg x3)) 2 (upd (C 2) x1.toNatClampNeg x4)) 3 (upd (C 3) x1.toNatClampNeg (x5 + x4))) 4 (upd (C 4) x1.toNatClampNeg 0)) := (if_neg c1).trans ((if_pos c2).trans (if_neg c3))
        exact z_ret0 B dX0_put_89 () (trivial) (Nat.le_of_ble_eq_true rfl) (Nat.le_of_ble_eq_true rfl) rfl (by rw [hF])
    · have hF : fX0_put C x1 x2 x3 x4 x5 = C := (if_neg c1).trans (if_neg c2)
      exact z_ret0 B dX0_put_10 () (trivial) (Nat.le_of_ble_eq_true rfl) (Nat.le_of_ble_eq_true rfl) rfl (by rw [hF])
def fX0_copyFrom (C : Nat → Nat → Int32) (E : Nat → Nat → Int32) : (Nat → Nat → Int32) :=
  (va_up (va_up (va_up (va_up (va_up (va_up C 0 (va_cpy (E 0) (C 0) 0 0 16)) 1 (va_cpy (E 1) (C 1) 0 0 16)) 2 (va_cpy (E 2) (C 2) 0 0 16)) 3 (va_cpy (E 3) (C 3) 0 0 16)) 4 (va_cpy (E 4) (C 4) 0 0 16)) 5 (fun _ => (E 5 0)))
theorem hiX0_copyFrom_0 : ∀ w ∈ wsX00, w ∈ wsX0_copyFrom := by decide +kernel
theorem hfX0_copyFrom_9 : Cond.fieldLink RX0 9 "ResolverFleet$Cache" "kinds" "[I" ∈ wsX0_copyFrom := by decide +kernel
theorem hwX0_copyFrom_yl : Cond.methodLink RX0 33 arraycopyName ∈ wsX0_copyFrom := by decide +kernel
theorem hwX0_copyFrom_yn : Cond.native arraycopyName ∈ wsX0_copyFrom := by decide +kernel
theorem hwX0_copyFrom_ys : Cond.static arraycopyName ∈ wsX0_copyFrom := by decide +kernel
theorem hwX0_copyFrom_yi : Cond.initialized "java/lang/System" ∈ wsX0_copyFrom := by decide +kernel
theorem hfX0_copyFrom_15 : Cond.fieldLink RX0 15 "ResolverFleet$Cache" "values" "[I" ∈ wsX0_copyFrom := by decide +kernel
theorem hfX0_copyFrom_18 : Cond.fieldLink RX0 18 "ResolverFleet$Cache" "lives" "[I" ∈ wsX0_copyFrom := by decide +kernel
theorem hfX0_copyFrom_21 : Cond.fieldLink RX0 21 "ResolverFleet$Cache" "ends" "[I" ∈ wsX0_copyFrom := by decide +kernel
theorem hfX0_copyFrom_24 : Cond.fieldLink RX0 24 "ResolverFleet$Cache" "hits" "[I" ∈ wsX0_copyFrom := by decide +kernel
theorem hfX0_copyFrom_39 : Cond.fieldLink RX0 39 "ResolverFleet$Cache" "size" "I" ∈ wsX0_copyFrom := by decide +kernel
set_option maxHeartbeats 4000000 in
set_option maxRecDepth 100000 in
theorem kX0_copyFrom (l : Launch) (hl : l.stackTraces = false) (K : zK) (ac : Nat → Nat) (C : Nat → Nat → Int32) (ad : Nat → Nat) (E : Nat → Nat → Int32) : zMet l K yX0_copyFrom wsX0_copyFrom { frames := 1, cells := 0, slots := 0, locals := 60 } [.ref (ac 0), .ref (ad 0)] [zCa K ac C, zCa K ad E] none [zCa K ac (fX0_copyFrom C E), zCa K ad E] True zNo := by
  refine zMeN.of (cc := cX0_copyFrom) (maxL := 2) (ret := none) (own := RX0) (nm := "copyFrom") hl (by decide +kernel) rfl rfl rfl (Nat.le_of_ble_eq_true rfl) (lv := [(0, .ref (ac 0)), (1, .ref (ad 0))]) rfl ?_
  intro p e s m args below meth c A B
  refine z_aload_n B dX0_copyFrom_0 1 rfl ?_
  refine z_get B (v := .ref (ad 1)) 1 0 0 hiX0_copyFrom_0 hfX0_copyFrom_9 rfl rfl rfl (by decide) rfl rfl rfl rfl dX0_copyFrom_1 ?_
  refine z_iconst B (v := 0) dX0_copyFrom_4 rfl ?_
  refine z_aload_n B dX0_copyFrom_5 0 rfl ?_
  refine z_get B (v := .ref (ac 1)) 0 0 0 hiX0_copyFrom_0 hfX0_copyFrom_9 rfl rfl rfl (by decide) rfl rfl rfl rfl dX0_copyFrom_6 ?_
  refine z_iconst B (v := 0) dX0_copyFrom_9 rfl ?_
  refine z_bipush B (v := 16) dX0_copyFrom_10 rfl ?_
  refine z_copyI B hwX0_copyFrom_yl hwX0_copyFrom_yn hwX0_copyFrom_ys hwX0_copyFrom_yi 1 1 0 1 (f := (E 0)) (g := (C 0)) rfl rfl rfl rfl (bs' := [zCa K ac (va_up C 0 (va_cpy (E 0) (C 0) 0 0 16)), zCa K ad E]) rfl (Nat.le_of_ble_eq_true rfl) (Nat.le_of_ble_eq_true rfl) dX0_copyFrom_12 ?_
  refine z_aload_n B dX0_copyFrom_15 1 rfl ?_
  refine z_get B (v := .ref (ad 2)) 1 0 1 hiX0_copyFrom_0 hfX0_copyFrom_15 rfl rfl rfl (by decide) rfl rfl rfl rfl dX0_copyFrom_16 ?_
  refine z_iconst B (v := 0) dX0_copyFrom_19 rfl ?_
  refine z_aload_n B dX0_copyFrom_20 0 rfl ?_
  refine z_get B (v := .ref (ac 2)) 0 0 1 hiX0_copyFrom_0 hfX0_copyFrom_15 rfl rfl rfl (by decide) rfl rfl rfl rfl dX0_copyFrom_21 ?_
  refine z_iconst B (v := 0) dX0_copyFrom_24 rfl ?_
  refine z_bipush B (v := 16) dX0_copyFrom_25 rfl ?_
  refine z_copyI B hwX0_copyFrom_yl hwX0_copyFrom_yn hwX0_copyFrom_ys hwX0_copyFrom_yi 1 2 0 2 (f := (E 1)) (g := (C 1)) rfl rfl rfl rfl (bs' := [zCa K ac (va_up (va_up C 0 (va_cpy (E 0) (C 0) 0 0 16)) 1 (va_cpy (E 1) (C 1) 0 0 16)), zCa K ad E]) rfl (Nat.le_of_ble_eq_true rfl) (Nat.le_of_ble_eq_true rfl) dX0_copyFrom_27 ?_
  refine z_aload_n B dX0_copyFrom_30 1 rfl ?_
  refine z_get B (v := .ref (ad 3)) 1 0 2 hiX0_copyFrom_0 hfX0_copyFrom_18 rfl rfl rfl (by decide) rfl rfl rfl rfl dX0_copyFrom_31 ?_
  refine z_iconst B (v := 0) dX0_copyFrom_34 rfl ?_
  refine z_aload_n B dX0_copyFrom_35 0 rfl ?_
  refine z_get B (v := .ref (ac 3)) 0 0 2 hiX0_copyFrom_0 hfX0_copyFrom_18 rfl rfl rfl (by decide) rfl rfl rfl rfl dX0_copyFrom_36 ?_
  refine z_iconst B (v := 0) dX0_copyFrom_39 rfl ?_
  refine z_bipush B (v := 16) dX0_copyFrom_40 rfl ?_
  refine z_copyI B hwX0_copyFrom_yl hwX0_copyFrom_yn hwX0_copyFrom_ys hwX0_copyFrom_yi 1 3 0 3 (f := (E 2)) (g := (C 2)) rfl rfl rfl rfl (bs' := [zCa K ac (va_up (va_up (va_up C 0 (va_cpy (E 0) (C 0) 0 0 16)) 1 (va_cpy (E 1) (C 1) 0 0 16)) 2 (va_cpy (E 2) (C 2) 0 0 16)), zCa K ad E]) rfl (Nat.le_of_ble_eq_true rfl) (Nat.le_of_ble_eq_true rfl) dX0_copyFrom_42 ?_
  refine z_aload_n B dX0_copyFrom_45 1 rfl ?_
  refine z_get B (v := .ref (ad 4)) 1 0 3 hiX0_copyFrom_0 hfX0_copyFrom_21 rfl rfl rfl (by decide) rfl rfl rfl rfl dX0_copyFrom_46 ?_
  refine z_iconst B (v := 0) dX0_copyFrom_49 rfl ?_
  refine z_aload_n B dX0_copyFrom_50 0 rfl ?_
  refine z_get B (v := .ref (ac 4)) 0 0 3 hiX0_copyFrom_0 hfX0_copyFrom_21 rfl rfl rfl (by decide) rfl rfl rfl rfl dX0_copyFrom_51 ?_
  refine z_iconst B (v := 0) dX0_copyFrom_54 rfl ?_
  refine z_bipush B (v := 16) dX0_copyFrom_55 rfl ?_
  refine z_copyI B hwX0_copyFrom_yl hwX0_copyFrom_yn hwX0_copyFrom_ys hwX0_copyFrom_yi 1 4 0 4 (f := (E 3)) (g := (C 3)) rfl rfl rfl rfl (bs' := [zCa K ac (va_up (va_up (va_up (va_up C 0 (va_cpy (E 0) (C 0) 0 0 16)) 1 (va_cpy (E 1) (C 1) 0 0 16)) 2 (va_cpy (E 2) (C 2) 0 0 16)) 3 (va_cpy (E 3) (C 3) 0 0 16)), zCa K ad E]) rfl (Nat.le_of_ble_eq_true rfl) (Nat.le_of_ble_eq_true rfl) dX0_copyFrom_57 ?_
  refine z_aload_n B dX0_copyFrom_60 1 rfl ?_
  refine z_get B (v := .ref (ad 5)) 1 0 4 hiX0_copyFrom_0 hfX0_copyFrom_24 rfl rfl rfl (by decide) rfl rfl rfl rfl dX0_copyFrom_61 ?_
  refine z_iconst B (v := 0) dX0_copyFrom_64 rfl ?_
  refine z_aload_n B dX0_copyFrom_65 0 rfl ?_
  refine z_get B (v := .ref (ac 5)) 0 0 4 hiX0_copyFrom_0 hfX0_copyFrom_24 rfl rfl rfl (by decide) rfl rfl rfl rfl dX0_copyFrom_66 ?_
  refine z_iconst B (v := 0) dX0_copyFrom_69 rfl ?_
  refine z_bipush B (v := 16) dX0_copyFrom_70 rfl ?_
  refine z_copyI B hwX0_copyFrom_yl hwX0_copyFrom_yn hwX0_copyFrom_ys hwX0_copyFrom_yi 1 5 0 5 (f := (E 4)) (g := (C 4)) rfl rfl rfl rfl (bs' := [zCa K ac (va_up (va_up (va_up (va_up (va_up C 0 (va_cpy (E 0) (C 0) 0 0 16)) 1 (va_cpy (E 1) (C 1) 0 0 16)) 2 (va_cpy (E 2) (C 2) 0 0 16)) 3 (va_cpy (E 3) (C 3) 0 0 16)) 4 (va_cpy (E 4) (C 4) 0 0 16)), zCa K ad E]) rfl (Nat.le_of_ble_eq_true rfl) (Nat.le_of_ble_eq_true rfl) dX0_copyFrom_72 ?_
  refine z_aload_n B dX0_copyFrom_75 0 rfl ?_
  refine z_aload_n B dX0_copyFrom_76 1 rfl ?_
  refine z_get B (v := .int (E 5 0)) 1 0 5 hiX0_copyFrom_0 hfX0_copyFrom_39 rfl rfl rfl (by decide) rfl rfl rfl rfl dX0_copyFrom_77 ?_
  refine z_put B 0 0 5 hiX0_copyFrom_0 hfX0_copyFrom_39 tyX0_ok nmX0 rfl rfl rfl (by decide) rfl rfl rfl rfl rfl rfl rfl (Nat.le_of_ble_eq_true rfl) (bs' := [zCa K ac (va_up (va_up (va_up (va_up (va_up (va_up C 0 (va_cpy (E 0) (C 0) 0 0 16)) 1 (va_cpy (E 1) (C 1) 0 0 16)) 2 (va_cpy (E 2) (C 2) 0 0 16)) 3 (va_cpy (E 3) (C 3) 0 0 16)) 4 (va_cpy (E 4) (C 4) 0 0 16)) 5 (fun _ => (E 5 0))), zCa K ad E]) rfl dX0_copyFrom_80 ?_
  have hF : fX0_copyFrom C E = (va_up (va_up (va_up (va_up (va_up (va_up C 0 (va_cpy (E 0) (C 0) 0 0 16)) 1 (va_cpy (E 1) (C 1) 0 0 16)) 2 (va_cpy (E 2) (C 2) 0 0 16)) 3 (va_cpy (E 3) (C 3) 0 0 16)) 4 (va_cpy (E 4) (C 4) 0 0 16)) 5 (fun _ => (E 5 0))) := rfl
  exact z_ret0 B dX0_copyFrom_83 () (trivial) (Nat.le_of_ble_eq_true rfl) (Nat.le_of_ble_eq_true rfl) rfl (by rw [hF])
end
section
def fX4_requireName (x1 : Int32) : Nat :=
  if x1 < 0 then
    1
  else
    if x1 < 16 then
      0
    else
      1
theorem haX4_requireName_219 : ∀ w ∈ (vx_atS RX4 219 "java/lang/IndexOutOfBoundsException" ["java/lang/RuntimeException", "java/lang/Exception"]).filter goodWord, w ∈ wsX4_requireName := by decide +kernel
theorem hgX4_requireName_219 : ∀ w ∈ (vx_atS RX4 219 "java/lang/IndexOutOfBoundsException" ["java/lang/RuntimeException", "java/lang/Exception"]).filter (fun w => !goodWord w), w ∈ zNw := by decide +kernel
theorem hoX4_requireName_219 : ∀ w ∈ Cond.classLink RX4 215 "java/lang/IndexOutOfBoundsException" :: Cond.initialized "java/lang/IndexOutOfBoundsException" :: vx_atS RX4 219 "java/lang/IndexOutOfBoundsException" ["java/lang/RuntimeException", "java/lang/Exception"], vx_ot w = true := by decide +kernel
theorem hwX4_requireName_cl215 : Cond.classLink RX4 215 "java/lang/IndexOutOfBoundsException" ∈ wsX4_requireName := by decide +kernel
theorem hwX4_requireName_ini215 : Cond.initialized "java/lang/IndexOutOfBoundsException" ∈ wsX4_requireName := by decide +kernel
set_option maxHeartbeats 4000000 in
set_option maxRecDepth 100000 in
theorem kX4_requireName (l : Launch) (hl : l.stackTraces = false) (K : zK) (x1 : Int32) : zMet l K yX4_requireName wsX4_requireName { frames := 6, cells := 1, slots := 6, locals := 82 } [.int x1] [] none [] ((fX4_requireName x1) = 0) (fun E => (E = zE1 ∧ (fX4_requireName x1) = 1)) := by
  refine zMeN.of (cc := cX4_requireName) (maxL := 1) (ret := none) (own := RX4) (nm := "requireName") hl (by decide +kernel) rfl rfl rfl (Nat.le_of_ble_eq_true rfl) (lv := [(0, .int x1)]) rfl ?_
  intro p e s m args below meth c A B
  refine z_iload_n B dX4_requireName_0 0 rfl ?_
  refine z_iflt B 10 dX4_requireName_1 (by decide) (fun c1 => ?_) (fun c1 => ?_)
  · have hF : fX4_requireName x1 = 1 := if_pos c1
    exact z_throw B rfl ["java/lang/RuntimeException", "java/lang/Exception"] (by decide +kernel) (by decide +kernel) hwX4_requireName_cl215 hwX4_requireName_ini215 (text := "there is no such name") (by decide +kernel) haX4_requireName_219 hgX4_requireName_219 hoX4_requireName_219 dX4_requireName_10 dX4_requireName_13 dX4_requireName_14 dX4_requireName_16 dX4_requireName_19 (by decide) (Nat.le_of_ble_eq_true rfl) (Nat.le_of_ble_eq_true rfl) (Nat.le_of_ble_eq_true rfl) (⟨rfl, by rw [hF]⟩) (Nat.le_of_ble_eq_true rfl) (Nat.le_of_ble_eq_true rfl)
  · refine z_iload_n B dX4_requireName_4 0 rfl ?_
    refine z_bipush B (v := 16) dX4_requireName_5 rfl ?_
    refine z_iclt B 20 dX4_requireName_7 (by decide) (fun c2 => ?_) (fun c2 => ?_)
    · have hF : fX4_requireName x1 = 0 := (if_neg c1).trans (if_pos c2)
      exact z_ret0 B dX4_requireName_20 () (by rw [hF]) (Nat.le_of_ble_eq_true rfl) (Nat.le_of_ble_eq_true rfl) rfl (by rfl)
    · have hF : fX4_requireName x1 = 1 := (if_neg c1).trans (if_neg c2)
      exact z_throw B rfl ["java/lang/RuntimeException", "java/lang/Exception"] (by decide +kernel) (by decide +kernel) hwX4_requireName_cl215 hwX4_requireName_ini215 (text := "there is no such name") (by decide +kernel) haX4_requireName_219 hgX4_requireName_219 hoX4_requireName_219 dX4_requireName_10 dX4_requireName_13 dX4_requireName_14 dX4_requireName_16 dX4_requireName_19 (by decide) (Nat.le_of_ble_eq_true rfl) (Nat.le_of_ble_eq_true rfl) (Nat.le_of_ble_eq_true rfl) (⟨rfl, by rw [hF]⟩) (Nat.le_of_ble_eq_true rfl) (Nat.le_of_ble_eq_true rfl)
def fX4_requireWithin (x1 : Int32) (x2 : Int32) (x3 : Int32) : Nat :=
  if x1 < x2 then
    2
  else
    if x1 ≤ x3 then
      0
    else
      2
theorem haX4_requireWithin_59 : ∀ w ∈ (vx_atS RX4 59 "java/lang/IllegalArgumentException" ["java/lang/RuntimeException", "java/lang/Exception"]).filter goodWord, w ∈ wsX4_requireWithin := by decide +kernel
theorem hgX4_requireWithin_59 : ∀ w ∈ (vx_atS RX4 59 "java/lang/IllegalArgumentException" ["java/lang/RuntimeException", "java/lang/Exception"]).filter (fun w => !goodWord w), w ∈ zNw := by decide +kernel
theorem hoX4_requireWithin_59 : ∀ w ∈ Cond.classLink RX4 55 "java/lang/IllegalArgumentException" :: Cond.initialized "java/lang/IllegalArgumentException" :: vx_atS RX4 59 "java/lang/IllegalArgumentException" ["java/lang/RuntimeException", "java/lang/Exception"], vx_ot w = true := by decide +kernel
theorem hwX4_requireWithin_cl55 : Cond.classLink RX4 55 "java/lang/IllegalArgumentException" ∈ wsX4_requireWithin := by decide +kernel
theorem hwX4_requireWithin_ini55 : Cond.initialized "java/lang/IllegalArgumentException" ∈ wsX4_requireWithin := by decide +kernel
set_option maxHeartbeats 4000000 in
set_option maxRecDepth 100000 in
theorem kX4_requireWithin (l : Launch) (hl : l.stackTraces = false) (K : zK) (x1 : Int32) (x2 : Int32) (x3 : Int32) : zMet l K yX4_requireWithin wsX4_requireWithin { frames := 6, cells := 1, slots := 6, locals := 82 } [.int x1, .int x2, .int x3] [] none [] ((fX4_requireWithin x1 x2 x3) = 0) (fun E => (E = zE2 ∧ (fX4_requireWithin x1 x2 x3) = 2)) := by
  refine zMeN.of (cc := cX4_requireWithin) (maxL := 3) (ret := none) (own := RX4) (nm := "requireWithin") hl (by decide +kernel) rfl rfl rfl (Nat.le_of_ble_eq_true rfl) (lv := [(0, .int x1), (1, .int x2), (2, .int x3)]) rfl ?_
  intro p e s m args below meth c A B
  refine z_iload_n B dX4_requireWithin_0 0 rfl ?_
  refine z_iload_n B dX4_requireWithin_1 1 rfl ?_
  refine z_iclt B 10 dX4_requireWithin_2 (by decide) (fun c1 => ?_) (fun c1 => ?_)
  · have hF : fX4_requireWithin x1 x2 x3 = 2 := if_pos c1
    exact z_throw B rfl ["java/lang/RuntimeException", "java/lang/Exception"] (by decide +kernel) (by decide +kernel) hwX4_requireWithin_cl55 hwX4_requireWithin_ini55 (text := "an argument is out of its range") (by decide +kernel) haX4_requireWithin_59 hgX4_requireWithin_59 hoX4_requireWithin_59 dX4_requireWithin_10 dX4_requireWithin_13 dX4_requireWithin_14 dX4_requireWithin_16 dX4_requireWithin_19 (by decide) (Nat.le_of_ble_eq_true rfl) (Nat.le_of_ble_eq_true rfl) (Nat.le_of_ble_eq_true rfl) (⟨rfl, by rw [hF]⟩) (Nat.le_of_ble_eq_true rfl) (Nat.le_of_ble_eq_true rfl)
  · refine z_iload_n B dX4_requireWithin_5 0 rfl ?_
    refine z_iload_n B dX4_requireWithin_6 2 rfl ?_
    refine z_icle B 20 dX4_requireWithin_7 (by decide) (fun c2 => ?_) (fun c2 => ?_)
    · have hF : fX4_requireWithin x1 x2 x3 = 0 := (if_neg c1).trans (if_pos c2)
      exact z_ret0 B dX4_requireWithin_20 () (by rw [hF]) (Nat.le_of_ble_eq_true rfl) (Nat.le_of_ble_eq_true rfl) rfl (by rfl)
    · have hF : fX4_requireWithin x1 x2 x3 = 2 := (if_neg c1).trans (if_neg c2)
      exact z_throw B rfl ["java/lang/RuntimeException", "java/lang/Exception"] (by decide +kernel) (by decide +kernel) hwX4_requireWithin_cl55 hwX4_requireWithin_ini55 (text := "an argument is out of its range") (by decide +kernel) haX4_requireWithin_59 hgX4_requireWithin_59 hoX4_requireWithin_59 dX4_requireWithin_10 dX4_requireWithin_13 dX4_requireWithin_14 dX4_requireWithin_16 dX4_requireWithin_19 (by decide) (Nat.le_of_ble_eq_true rfl) (Nat.le_of_ble_eq_true rfl) (Nat.le_of_ble_eq_true rfl) (⟨rfl, by rw [hF]⟩) (Nat.le_of_ble_eq_true rfl) (Nat.le_of_ble_eq_true rfl)
def fX4_fetch_s1 (X : Nat → Int32) (Z : Nat → Nat → Int32) (W : Nat → Int32) (C : Nat → Nat → Int32) (F : Nat → Int32) (O : Nat → Int32) (x1 : Int32) (o1 : (Nat → Nat → Int32)) : (Nat → Nat → Int32) × (Nat → Int32) :=
  (o1, (va_up O 3 ((O 3) + 1)))
def fX4_fetch (X : Nat → Int32) (Z : Nat → Nat → Int32) (W : Nat → Int32) (C : Nat → Nat → Int32) (F : Nat → Int32) (O : Nat → Int32) (x1 : Int32) : (Nat → Nat → Int32) × (Nat → Int32) :=
  fX4_fetch_s1 X Z W C F O x1 (fX0_put C x1 (fX3_kindOf Z W x1) (fX3_valueOf Z W x1) (fX3_lifeOf Z W x1) (X 3))
theorem hiX4_fetch_4 : ∀ w ∈ wsX40, w ∈ wsX4_fetch := by decide +kernel
theorem hfX4_fetch_10 : Cond.fieldLink RX4 10 "ResolverFleet" "zone" "LResolverFleet$Zone;" ∈ wsX4_fetch := by decide +kernel
theorem hfX4_fetch_108 : Cond.fieldLink RX4 108 "ResolverFleet" "now" "I" ∈ wsX4_fetch := by decide +kernel
theorem hiX4_fetch_1 : ∀ w ∈ wsX10, w ∈ wsX4_fetch := by decide +kernel
theorem hfX4_fetch_139 : Cond.fieldLink RX4 139 "ResolverFleet$Course" "fetches" "I" ∈ wsX4_fetch := by decide +kernel
set_option maxHeartbeats 4000000 in
set_option maxRecDepth 100000 in
theorem kX4_fetch (l : Launch) (hl : l.stackTraces = false) (K : zK) (ax : Nat) (az : Nat → Nat) (sa : Nat) (la : Nat) (tr : Nat) (tc : Nat) (X : Nat → Int32) (Z : Nat → Nat → Int32) (W : Nat → Int32) (ac : Nat → Nat) (C : Nat → Nat → Int32) (ak : Nat → Nat) (F : Nat → Int32) (O : Nat → Int32) (x1 : Int32) : zMet l K yX4_fetch wsX4_fetch { frames := 3, cells := 0, slots := 0, locals := 67 } [.ref ax, .ref (ac 0), .int x1, .ref (ak 0)] [zXo ax (az 0) sa la tr tc X, zZo K az Z W, zCa K ac C, zCo K ak F O] none [zXo ax (az 0) sa la tr tc X, zZo K az Z W, zCa K ac ((fX4_fetch X Z W C F O x1).1), zCo K ak F ((fX4_fetch X Z W C F O x1).2)] True zNo := by
  refine zMeN.of (cc := cX4_fetch) (maxL := 4) (ret := none) (own := RX4) (nm := "fetch") hl (by decide +kernel) rfl rfl rfl (Nat.le_of_ble_eq_true rfl) (lv := [(0, .ref ax), (1, .ref (ac 0)), (2, .int x1), (3, .ref (ak 0))]) rfl ?_
  intro p e s m args below meth c A B
  refine z_aload_n B dX4_fetch_0 1 rfl ?_
  refine z_iload_n B dX4_fetch_1 2 rfl ?_
  refine z_aload_n B dX4_fetch_2 0 rfl ?_
  refine z_get B (v := .ref (az 0)) 0 0 0 hiX4_fetch_4 hfX4_fetch_10 rfl rfl rfl (by decide) rfl rfl rfl rfl dX4_fetch_3 ?_
  refine z_iload_n B dX4_fetch_6 2 rfl ?_
  refine z_V1 B (kX3_kindOf l hl K az Z W x1) [1] [0, 2, 3] (br := [zXo ax (az 0) sa la tr tc X, zCa K ac C, zCo K ak F O]) (bs' := [zXo ax (az 0) sa la tr tc X, zZo K az Z W, zCa K ac C, zCo K ak F O]) (st := [.int x1, .ref (ac 0)]) (nA := 1) (zsp rfl rfl rfl) (zsp rfl rfl rfl) 1 0 rfl rfl rfl rfl gX4_fetch_X3_kindOf rfl (by decide +kernel) ⟨Nat.le_of_ble_eq_true rfl, Nat.le_of_ble_eq_true rfl⟩ rfl rfl (Nat.le_of_ble_eq_true rfl) ⟨Nat.le_of_ble_eq_true rfl, Nat.le_of_ble_eq_true rfl⟩ dX4_fetch_7 z_noX (fun _ => ?_)
  refine z_aload_n B dX4_fetch_10 0 rfl ?_
  refine z_get B (v := .ref (az 0)) 0 0 0 hiX4_fetch_4 hfX4_fetch_10 rfl rfl rfl (by decide) rfl rfl rfl rfl dX4_fetch_11 ?_
  refine z_iload_n B dX4_fetch_14 2 rfl ?_
  refine z_V1 B (kX3_valueOf l hl K az Z W x1) [1] [0, 2, 3] (br := [zXo ax (az 0) sa la tr tc X, zCa K ac C, zCo K ak F O]) (bs' := [zXo ax (az 0) sa la tr tc X, zZo K az Z W, zCa K ac C, zCo K ak F O]) (st := [.int (fX3_kindOf Z W x1), .int x1, .ref (ac 0)]) (nA := 1) (zsp rfl rfl rfl) (zsp rfl rfl rfl) 1 0 rfl rfl rfl rfl gX4_fetch_X3_valueOf rfl (by decide +kernel) ⟨Nat.le_of_ble_eq_true rfl, Nat.le_of_ble_eq_true rfl⟩ rfl rfl (Nat.le_of_ble_eq_true rfl) ⟨Nat.le_of_ble_eq_true rfl, Nat.le_of_ble_eq_true rfl⟩ dX4_fetch_15 z_noX (fun _ => ?_)
  refine z_aload_n B dX4_fetch_18 0 rfl ?_
  refine z_get B (v := .ref (az 0)) 0 0 0 hiX4_fetch_4 hfX4_fetch_10 rfl rfl rfl (by decide) rfl rfl rfl rfl dX4_fetch_19 ?_
  refine z_iload_n B dX4_fetch_22 2 rfl ?_
  refine z_V1 B (kX3_lifeOf l hl K az Z W x1) [1] [0, 2, 3] (br := [zXo ax (az 0) sa la tr tc X, zCa K ac C, zCo K ak F O]) (bs' := [zXo ax (az 0) sa la tr tc X, zZo K az Z W, zCa K ac C, zCo K ak F O]) (st := [.int (fX3_valueOf Z W x1), .int (fX3_kindOf Z W x1), .int x1, .ref (ac 0)]) (nA := 1) (zsp rfl rfl rfl) (zsp rfl rfl rfl) 1 0 rfl rfl rfl rfl gX4_fetch_X3_lifeOf rfl (by decide +kernel) ⟨Nat.le_of_ble_eq_true rfl, Nat.le_of_ble_eq_true rfl⟩ rfl rfl (Nat.le_of_ble_eq_true rfl) ⟨Nat.le_of_ble_eq_true rfl, Nat.le_of_ble_eq_true rfl⟩ dX4_fetch_23 z_noX (fun _ => ?_)
  refine z_aload_n B dX4_fetch_26 0 rfl ?_
  refine z_get B (v := .int (X 3)) 0 0 3 hiX4_fetch_4 hfX4_fetch_108 rfl rfl rfl (by decide) rfl rfl rfl rfl dX4_fetch_27 ?_
  refine z_V0 B (kX0_put l hl K ac C x1 (fX3_kindOf Z W x1) (fX3_valueOf Z W x1) (fX3_lifeOf Z W x1) (X 3)) [2] [0, 1, 3] (br := [zXo ax (az 0) sa la tr tc X, zZo K az Z W, zCo K ak F O]) (bs' := [zXo ax (az 0) sa la tr tc X, zZo K az Z W, zCa K ac (fX0_put C x1 (fX3_kindOf Z W x1) (fX3_valueOf Z W x1) (fX3_lifeOf Z W x1) (X 3)), zCo K ak F O]) (st := []) (nA := 5) (zsp rfl rfl rfl) (zsp rfl rfl rfl) 2 0 rfl rfl rfl rfl gX4_fetch_X0_put rfl (by decide +kernel) ⟨Nat.le_of_ble_eq_true rfl, Nat.le_of_ble_eq_true rfl⟩ rfl rfl (Nat.le_of_ble_eq_true rfl) ⟨Nat.le_of_ble_eq_true rfl, Nat.le_of_ble_eq_true rfl⟩ dX4_fetch_30 z_noX (fun _ => ?_)
  generalize ho1 : (fX0_put C x1 (fX3_kindOf Z W x1) (fX3_valueOf Z W x1) (fX3_lifeOf Z W x1) (X 3)) = o1
  refine z_aload_n B dX4_fetch_33 3 rfl ?_
  refine z_dup B dX4_fetch_34 rfl ?_
  refine z_get B (v := .int (O 3)) 3 0 3 hiX4_fetch_1 hfX4_fetch_139 rfl rfl rfl (by decide) rfl rfl rfl rfl dX4_fetch_35 ?_
  refine z_iconst B (v := 1) dX4_fetch_38 rfl ?_
  refine z_iadd B dX4_fetch_39 ?_
  refine z_put B 3 0 3 hiX4_fetch_1 hfX4_fetch_139 tyX1_ok nmX1 rfl rfl rfl (by decide) rfl rfl rfl rfl rfl rfl rfl (Nat.le_of_ble_eq_true rfl) (bs' := [zXo ax (az 0) sa la tr tc X, zZo K az Z W, zCa K ac o1, zCo K ak F (va_up O 3 ((O 3) + 1))]) rfl dX4_fetch_40 ?_
  have hF : fX4_fetch X Z W C F O x1 = (o1, (va_up O 3 ((O 3) + 1))) := congrArg (fun o => fX4_fetch_s1 X Z W C F O x1 o) ho1
  exact z_ret0 B dX4_fetch_43 () (trivial) (Nat.le_of_ble_eq_true rfl) (Nat.le_of_ble_eq_true rfl) rfl (by rw [hF])
def fX4_lookUp_s4 (X : Nat → Int32) (Z : Nat → Nat → Int32) (W : Nat → Int32) (C : Nat → Nat → Int32) (F : Nat → Int32) (O : Nat → Int32) (x1 : Int32) (o4 : (Nat → Nat → Int32) × (Nat → Int32)) : Int32 × (Nat → Nat → Int32) × (Nat → Int32) × (Nat → Int32) :=
  (1, (o4.1), F, (o4.2))
def fX4_lookUp_s6 (X : Nat → Int32) (Z : Nat → Nat → Int32) (W : Nat → Int32) (C : Nat → Nat → Int32) (F : Nat → Int32) (O : Nat → Int32) (x1 : Int32) (o5 : (Nat → Nat → Int32)) (o6 : (Nat → Int32) × (Nat → Int32)) : Int32 × (Nat → Nat → Int32) × (Nat → Int32) × (Nat → Int32) :=
  (1, o5, (o6.1), (o6.2))
def fX4_lookUp_s5 (X : Nat → Int32) (Z : Nat → Nat → Int32) (W : Nat → Int32) (C : Nat → Nat → Int32) (F : Nat → Int32) (O : Nat → Int32) (x1 : Int32) (o5 : (Nat → Nat → Int32)) : Int32 × (Nat → Nat → Int32) × (Nat → Int32) × (Nat → Int32) :=
  fX4_lookUp_s6 X Z W C F O x1 o5 (fX1_noteFresh F (va_up O 2 ((O 2) + 1)) x1)
def fX4_lookUp (X : Nat → Int32) (Z : Nat → Nat → Int32) (W : Nat → Int32) (C : Nat → Nat → Int32) (F : Nat → Int32) (O : Nat → Int32) (x1 : Int32) : Int32 × (Nat → Nat → Int32) × (Nat → Int32) × (Nat → Int32) :=
  if (fX0_isFresh C x1 (X 3)) = 0 then
    if (W 4) = 0 then
      if (fX0_servesStale C x1 (X 3)) = 0 then
        (0, C, F, (va_up O 2 ((O 2) + 1)))
      else
        (1, C, F, (va_up (va_up O 2 ((O 2) + 1)) 5 1))
    else
      fX4_lookUp_s4 X Z W C F O x1 (fX4_fetch X Z W C F (va_up O 2 ((O 2) + 1)) x1)
  else
    fX4_lookUp_s5 X Z W C F O x1 (fX0_countHit C x1)
theorem hiX4_lookUp_1 : ∀ w ∈ wsX10, w ∈ wsX4_lookUp := by decide +kernel
theorem hfX4_lookUp_136 : Cond.fieldLink RX4 136 "ResolverFleet$Course" "lookUps" "I" ∈ wsX4_lookUp := by decide +kernel
theorem hiX4_lookUp_4 : ∀ w ∈ wsX40, w ∈ wsX4_lookUp := by decide +kernel
theorem hfX4_lookUp_108 : Cond.fieldLink RX4 108 "ResolverFleet" "now" "I" ∈ wsX4_lookUp := by decide +kernel
theorem hfX4_lookUp_10 : Cond.fieldLink RX4 10 "ResolverFleet" "zone" "LResolverFleet$Zone;" ∈ wsX4_lookUp := by decide +kernel
theorem hiX4_lookUp_3 : ∀ w ∈ wsX30, w ∈ wsX4_lookUp := by decide +kernel
theorem hfX4_lookUp_69 : Cond.fieldLink RX4 69 "ResolverFleet$Zone" "isUp" "Z" ∈ wsX4_lookUp := by decide +kernel
theorem hfX4_lookUp_133 : Cond.fieldLink RX4 133 "ResolverFleet$Course" "isStale" "Z" ∈ wsX4_lookUp := by decide +kernel
set_option maxHeartbeats 4000000 in
set_option maxRecDepth 100000 in
theorem kX4_lookUp (l : Launch) (hl : l.stackTraces = false) (K : zK) (ax : Nat) (az : Nat → Nat) (sa : Nat) (la : Nat) (tr : Nat) (tc : Nat) (X : Nat → Int32) (Z : Nat → Nat → Int32) (W : Nat → Int32) (ac : Nat → Nat) (C : Nat → Nat → Int32) (ak : Nat → Nat) (F : Nat → Int32) (O : Nat → Int32) (x1 : Int32) (hO1 : ¬ (O 1) < 0) : zMet l K yX4_lookUp wsX4_lookUp { frames := 4, cells := 0, slots := 0, locals := 90 } [.ref ax, .ref (ac 0), .int x1, .ref (ak 0)] [zXo ax (az 0) sa la tr tc X, zZo K az Z W, zCa K ac C, zCo K ak F O] (some (.int ((fX4_lookUp X Z W C F O x1).1))) [zXo ax (az 0) sa la tr tc X, zZo K az Z W, zCa K ac ((fX4_lookUp X Z W C F O x1).2.1), zCo K ak ((fX4_lookUp X Z W C F O x1).2.2.1) ((fX4_lookUp X Z W C F O x1).2.2.2)] True zNo := by
  refine zMeN.of (cc := cX4_lookUp) (maxL := 4) (ret := (some .boolean)) (own := RX4) (nm := "lookUp") hl (by decide +kernel) rfl rfl rfl (Nat.le_of_ble_eq_true rfl) (lv := [(0, .ref ax), (1, .ref (ac 0)), (2, .int x1), (3, .ref (ak 0))]) rfl ?_
  intro p e s m args below meth c A B
  refine z_aload_n B dX4_lookUp_0 3 rfl ?_
  refine z_dup B dX4_lookUp_1 rfl ?_
  refine z_get B (v := .int (O 2)) 3 0 2 hiX4_lookUp_1 hfX4_lookUp_136 rfl rfl rfl (by decide) rfl rfl rfl rfl dX4_lookUp_2 ?_
  refine z_iconst B (v := 1) dX4_lookUp_5 rfl ?_
  refine z_iadd B dX4_lookUp_6 ?_
  refine z_put B 3 0 2 hiX4_lookUp_1 hfX4_lookUp_136 tyX1_ok nmX1 rfl rfl rfl (by decide) rfl rfl rfl rfl rfl rfl rfl (Nat.le_of_ble_eq_true rfl) (bs' := [zXo ax (az 0) sa la tr tc X, zZo K az Z W, zCa K ac C, zCo K ak F (va_up O 2 ((O 2) + 1))]) rfl dX4_lookUp_7 ?_
  refine z_aload_n B dX4_lookUp_10 1 rfl ?_
  refine z_iload_n B dX4_lookUp_11 2 rfl ?_
  refine z_aload_n B dX4_lookUp_12 0 rfl ?_
  refine z_get B (v := .int (X 3)) 0 0 3 hiX4_lookUp_4 hfX4_lookUp_108 rfl rfl rfl (by decide) rfl rfl rfl rfl dX4_lookUp_13 ?_
  refine z_V1 B (kX0_isFresh l hl K ac C x1 (X 3)) [2] [0, 1, 3] (br := [zXo ax (az 0) sa la tr tc X, zZo K az Z W, zCo K ak F (va_up O 2 ((O 2) + 1))]) (bs' := [zXo ax (az 0) sa la tr tc X, zZo K az Z W, zCa K ac C, zCo K ak F (va_up O 2 ((O 2) + 1))]) (st := []) (nA := 2) (zsp rfl rfl rfl) (zsp rfl rfl rfl) 2 0 rfl rfl rfl rfl gX4_lookUp_X0_isFresh rfl (by decide +kernel) ⟨Nat.le_of_ble_eq_true rfl, Nat.le_of_ble_eq_true rfl⟩ rfl rfl (Nat.le_of_ble_eq_true rfl) ⟨Nat.le_of_ble_eq_true rfl, Nat.le_of_ble_eq_true rfl⟩ dX4_lookUp_16 z_noX (fun _ => ?_)
  refine z_ifeq B 34 dX4_lookUp_19 (by decide) (fun c1 => ?_) (fun c1 => ?_)
  · refine z_aload_n B dX4_lookUp_34 0 rfl ?_
    refine z_get B (v := .ref (az 0)) 0 0 0 hiX4_lookUp_4 hfX4_lookUp_10 rfl rfl rfl (by decide) rfl rfl rfl rfl dX4_lookUp_35 ?_
    refine z_get B (v := .int (W 4)) 1 0 4 hiX4_lookUp_3 hfX4_lookUp_69 rfl rfl rfl (by decide) rfl rfl rfl rfl dX4_lookUp_38 ?_
    refine z_ifeq B 53 dX4_lookUp_41 (by decide) (fun c2 => ?_) (fun c2 => ?_)
    · refine z_aload_n B dX4_lookUp_53 1 rfl ?_
      refine z_iload_n B dX4_lookUp_54 2 rfl ?_
      refine z_aload_n B dX4_lookUp_55 0 rfl ?_
      refine z_get B (v := .int (X 3)) 0 0 3 hiX4_lookUp_4 hfX4_lookUp_108 rfl rfl rfl (by decide) rfl rfl rfl rfl dX4_lookUp_56 ?_
      refine z_V1 B (kX0_servesStale l hl K ac C x1 (X 3)) [2] [0, 1, 3] (br := [zXo ax (az 0) sa la tr tc X, zZo K az Z W, zCo K ak F (va_up O 2 ((O 2) + 1))]) (bs' := [zXo ax (az 0) sa la tr tc X, zZo K az Z W, zCa K ac C, zCo K ak F (va_up O 2 ((O 2) + 1))]) (st := []) (nA := 2) (zsp rfl rfl rfl) (zsp rfl rfl rfl) 2 0 rfl rfl rfl rfl gX4_lookUp_X0_servesStale rfl (by decide +kernel) ⟨Nat.le_of_ble_eq_true rfl, Nat.le_of_ble_eq_true rfl⟩ rfl rfl (Nat.le_of_ble_eq_true rfl) ⟨Nat.le_of_ble_eq_true rfl, Nat.le_of_ble_eq_true rfl⟩ dX4_lookUp_59 z_noX (fun _ => ?_)
      refine z_ifeq B 72 dX4_lookUp_62 (by decide) (fun c3 => ?_) (fun c3 => ?_)
      · refine z_iconst B (v := 0) dX4_lookUp_72 rfl ?_
        have hF : fX4_lookUp X Z W C F O x1 = (0, C, F, (va_up O 2 ((O 2) + 1))) := (if_pos c1).trans ((if_pos c2).trans (if_pos c3))
        exact z_ret1 B rfl dX4_lookUp_73 () (trivial) (Nat.le_of_ble_eq_true rfl) (Nat.le_of_ble_eq_true rfl) (by rw [hF]) (by rw [hF])
      · refine z_aload_n B dX4_lookUp_65 3 rfl ?_
        refine z_iconst B (v := 1) dX4_lookUp_66 rfl ?_
        refine z_put B 3 0 5 hiX4_lookUp_1 hfX4_lookUp_133 tyX1_ok nmX1 rfl rfl rfl (by decide) rfl rfl rfl rfl rfl rfl rfl (Nat.le_of_ble_eq_true rfl) (bs' := [zXo ax (az 0) sa la tr tc X, zZo K az Z W, zCa K ac C, zCo K ak F (va_up (va_up O 2 ((O 2) + 1)) 5 1)]) rfl dX4_lookUp_67 ?_
        refine z_iconst B (v := 1) dX4_lookUp_70 rfl ?_
        have hF : fX4_lookUp X Z W C F O x1 = (1, C, F, (va_up (va_up O 2 ((O 2) + 1)) 5 1)) := (if_pos c1).trans ((if_pos c2).trans (if_neg c3))
        exact z_ret1 B rfl dX4_lookUp_71 () (trivial) (Nat.le_of_ble_eq_true rfl) (Nat.le_of_ble_eq_true rfl) (by rw [hF]) (by rw [hF])
    · refine z_aload_n B dX4_lookUp_44 0 rfl ?_
      refine z_aload_n B dX4_lookUp_45 1 rfl ?_
      refine z_iload_n B dX4_lookUp_46 2 rfl ?_
      refine z_aload_n B dX4_lookUp_47 3 rfl ?_
      refine z_V0 B (kX4_fetch l hl K ax az sa la tr tc X Z W ac C ak F (va_up O 2 ((O 2) + 1)) x1) [0, 1, 2, 3] [] (br := []) (bs' := [zXo ax (az 0) sa la tr tc X, zZo K az Z W, zCa K ac ((fX4_fetch X Z W C F (va_up O 2 ((O 2) + 1)) x1).1), zCo K ak F ((fX4_fetch X Z W C F (va_up O 2 ((O 2) + 1)) x1).2)]) (st := []) (nA := 3) (zsp rfl rfl rfl) (zsp rfl rfl rfl) 0 0 rfl rfl rfl rfl gX4_lookUp_X4_fetch rfl (by decide +kernel) ⟨Nat.le_of_ble_eq_true rfl, Nat.le_of_ble_eq_true rfl⟩ rfl rfl (Nat.le_of_ble_eq_true rfl) ⟨Nat.le_of_ble_eq_true rfl, Nat.le_of_ble_eq_true rfl⟩ dX4_lookUp_48 z_noX (fun _ => ?_)
      generalize ho4 : (fX4_fetch X Z W C F (va_up O 2 ((O 2) + 1)) x1) = o4
      refine z_iconst B (v := 1) dX4_lookUp_51 rfl ?_
      have hF : fX4_lookUp X Z W C F O x1 = (1, (o4.1), F, (o4.2)) := (if_pos c1).trans ((if_neg c2).trans (congrArg (fun o => fX4_lookUp_s4 X Z W C F O x1 o) ho4))
      exact z_ret1 B rfl dX4_lookUp_52 () (trivial) (Nat.le_of_ble_eq_true rfl) (Nat.le_of_ble_eq_true rfl) (by rw [hF]) (by rw [hF])
  · refine z_aload_n B dX4_lookUp_22 1 rfl ?_
    refine z_iload_n B dX4_lookUp_23 2 rfl ?_
    refine z_V0 B (kX0_countHit l hl K ac C x1) [2] [0, 1, 3] (br := [zXo ax (az 0) sa la tr tc X, zZo K az Z W, zCo K ak F (va_up O 2 ((O 2) + 1))]) (bs' := [zXo ax (az 0) sa la tr tc X, zZo K az Z W, zCa K ac (fX0_countHit C x1), zCo K ak F (va_up O 2 ((O 2) + 1))]) (st := []) (nA := 1) (zsp rfl rfl rfl) (zsp rfl rfl rfl) 2 0 rfl rfl rfl rfl gX4_lookUp_X0_countHit rfl (by decide +kernel) ⟨Nat.le_of_ble_eq_true rfl, Nat.le_of_ble_eq_true rfl⟩ rfl rfl (Nat.le_of_ble_eq_true rfl) ⟨Nat.le_of_ble_eq_true rfl, Nat.le_of_ble_eq_true rfl⟩ dX4_lookUp_24 z_noX (fun _ => ?_)
    generalize ho5 : (fX0_countHit C x1) = o5
    refine z_aload_n B dX4_lookUp_27 3 rfl ?_
    refine z_iload_n B dX4_lookUp_28 2 rfl ?_
    refine z_V0 B (kX1_noteFresh l hl K ak F (va_up O 2 ((O 2) + 1)) x1 hO1) [3] [0, 1, 2] (br := [zXo ax (az 0) sa la tr tc X, zZo K az Z W, zCa K ac o5]) (bs' := [zXo ax (az 0) sa la tr tc X, zZo K az Z W, zCa K ac o5, zCo K ak ((fX1_noteFresh F (va_up O 2 ((O 2) + 1)) x1).1) ((fX1_noteFresh F (va_up O 2 ((O 2) + 1)) x1).2)]) (st := []) (nA := 1) (zsp rfl rfl rfl) (zsp rfl rfl rfl) 3 0 rfl rfl rfl rfl gX4_lookUp_X1_noteFresh rfl (by decide +kernel) ⟨Nat.le_of_ble_eq_true rfl, Nat.le_of_ble_eq_true rfl⟩ rfl rfl (Nat.le_of_ble_eq_true rfl) ⟨Nat.le_of_ble_eq_true rfl, Nat.le_of_ble_eq_true rfl⟩ dX4_lookUp_29 z_noX (fun _ => ?_)
    generalize ho6 : (fX1_noteFresh F (va_up O 2 ((O 2) + 1)) x1) = o6
    refine z_iconst B (v := 1) dX4_lookUp_32 rfl ?_
    have hF : fX4_lookUp X Z W C F O x1 = (1, o5, (o6.1), (o6.2)) := (if_neg c1).trans ((congrArg (fun o => fX4_lookUp_s5 X Z W C F O x1 o) ho5).trans (congrArg (fun o => fX4_lookUp_s6 X Z W C F O x1 o5 o) ho6))
    exact z_ret1 B rfl dX4_lookUp_33 () (trivial) (Nat.le_of_ble_eq_true rfl) (Nat.le_of_ble_eq_true rfl) (by rw [hF]) (by rw [hF])
theorem z_note {F O : Nat → Int32} {x : Int32} (h : ¬ (O 1) < 0) : ¬ ((fX1_noteFresh F O x).2 1) < 0 := by
  unfold fX1_noteFresh
  split
  · exact h
  · rename_i h5
    show ¬ (O 1 + 1) < 0
    obtain ⟨j, hj, ej⟩ := nI_of h
    rw [ej] at h5 ⊢
    have h6 : ¬ nI 5 ≤ nI j := h5
    rw [nI_leI (by omega) hj] at h6
    rw [nI_1]
    exact nI_pos (by omega)
theorem z_fetO {X : Nat → Int32} {Z : Nat → Nat → Int32} {W : Nat → Int32} {C : Nat → Nat → Int32} {F O : Nat → Int32} {x : Int32} {k : Nat} (hk : k ≠ 3) : (fX4_fetch X Z W C F O x).2 k = O k := by
  unfold fX4_fetch
  simp [fX4_fetch_s1, va_up, hk]
theorem z_look {X : Nat → Int32} {Z : Nat → Nat → Int32} {W : Nat → Int32} {C : Nat → Nat → Int32} {F O : Nat → Int32} {x : Int32} (h : ¬ (O 1) < 0) : ¬ ((fX4_lookUp X Z W C F O x).2.2.2 1) < 0 := by
  unfold fX4_lookUp
  split
  · split
    · split
      · exact h
      · exact h
    · show ¬ ((fX4_fetch X Z W C F (va_up O 2 ((O 2) + 1)) x).2 1) < 0
      rw [z_fetO (by decide)]
      exact h
  · show ¬ ((fX1_noteFresh F (va_up O 2 ((O 2) + 1)) x).2 1) < 0
    exact z_note h
def fX4_resolve_L10 (X : Nat → Int32) (Z : Nat → Nat → Int32) (W : Nat → Int32) (C : Nat → Nat → Int32) (F : Nat → Int32) (O : Nat → Int32) (x1 : Int32) : Nat → Nat → (Int32) → (Nat → Nat → Int32) → (Nat → Int32) → (Nat → Int32) → Int32 × (Nat → Nat → Int32) × (Nat → Int32) × (Nat → Int32)
  | 0, a, cur, C1, F1, O1 =>
    ((-2), C1, F1, O1)
  | n + 1, a, cur, C1, F1, O1 =>
    if ((fX4_lookUp X Z W C1 F1 O1 cur).1) = 0 then
      ((-2), ((fX4_lookUp X Z W C1 F1 O1 cur).2.1), ((fX4_lookUp X Z W C1 F1 O1 cur).2.2.1), ((fX4_lookUp X Z W C1 F1 O1 cur).2.2.2))
    else
      if (fX0_kindOf ((fX4_lookUp X Z W C1 F1 O1 cur).2.1) cur) = 1 then
        fX4_resolve_L10 X Z W C F O x1 n (a + 1) (fX0_valueOf ((fX4_lookUp X Z W C1 F1 O1 cur).2.1) cur) ((fX4_lookUp X Z W C1 F1 O1 cur).2.1) ((fX4_lookUp X Z W C1 F1 O1 cur).2.2.1) ((fX4_lookUp X Z W C1 F1 O1 cur).2.2.2)
      else
        if (fX0_kindOf ((fX4_lookUp X Z W C1 F1 O1 cur).2.1) cur) = 0 then
          ((fX0_valueOf ((fX4_lookUp X Z W C1 F1 O1 cur).2.1) cur), ((fX4_lookUp X Z W C1 F1 O1 cur).2.1), ((fX4_lookUp X Z W C1 F1 O1 cur).2.2.1), ((fX4_lookUp X Z W C1 F1 O1 cur).2.2.2))
        else
          ((-1), ((fX4_lookUp X Z W C1 F1 O1 cur).2.1), ((fX4_lookUp X Z W C1 F1 O1 cur).2.2.1), ((fX4_lookUp X Z W C1 F1 O1 cur).2.2.2))
def fX4_resolve (X : Nat → Int32) (Z : Nat → Nat → Int32) (W : Nat → Int32) (C : Nat → Nat → Int32) (F : Nat → Int32) (O : Nat → Int32) (x1 : Int32) : Int32 × (Nat → Nat → Int32) × (Nat → Int32) × (Nat → Int32) :=
  fX4_resolve_L10 X Z W C F O x1 5 0 x1 C F (fX1_begin F O)
set_option maxHeartbeats 4000000 in
set_option maxRecDepth 100000 in
theorem kX4_resolve_L10 (l : Launch) (hl : l.stackTraces = false) (K : zK) (ax : Nat) (az : Nat → Nat) (sa : Nat) (la : Nat) (tr : Nat) (tc : Nat) (X : Nat → Int32) (Z : Nat → Nat → Int32) (W : Nat → Int32) (ac : Nat → Nat) (C : Nat → Nat → Int32) (ak : Nat → Nat) (F : Nat → Int32) (O : Nat → Int32) (x1 : Int32) {p : Program} {e : Env} {s : State} {m : MethodId} {args : Array Value} {below : List Frame} {meth : Method} {c : Code} {A : Nat → Prop} (B : zF K p l s m args meth c A cX4_resolve 8 RX4 "resolve" wsX4_resolve (some .int) []) : ∀ (n a : Nat) (cur : Int32) (C1 : Nat → Nat → Int32) (F1 : Nat → Int32) (O1 : Nat → Int32), a + n = 5 → (¬ (O1 1) < 0) → fX4_resolve X Z W C F O x1 = fX4_resolve_L10 X Z W C F O x1 n a cur C1 F1 O1 → zW K p l e { frames := 5, cells := 0, slots := 0, locals := 113 } s m args below meth c A (vx_MQ below (zQ K A (fun _ : Unit => ((some (.int ((fX4_resolve X Z W C F O x1).1))), [zXo ax (az 0) sa la tr tc X, zZo K az Z W, zCa K ac ((fX4_resolve X Z W C F O x1).2.1), zCo K ak ((fX4_resolve X Z W C F O x1).2.2.1) ((fX4_resolve X Z W C F O x1).2.2.2)])) (fun _ => True)) (zX K A [zXo ax (az 0) sa la tr tc X, zZo K az Z W, zCa K ac C, zCo K ak F O] zNo) args s 0 0 A) 0 0 [zXo ax (az 0) sa la tr tc X, zZo K az Z W, zCa K ac C1, zCo K ak F1 O1] [(0, .ref ax), (1, .ref (ac 0)), (3, .ref (ak 0)), (5, .int (nI a)), (4, .int cur)] [] 10 := by
  intro n
  induction n with
  | zero =>
    intro a cur C1 F1 O1 ha hp hF0
    refine z_iload B dX4_resolve_10 3 rfl ?_
    refine z_iconst B (v := 4) dX4_resolve_12 rfl ?_
    refine z_icgt B 74 dX4_resolve_13 (by decide) (fun _ => ?_) (fun h => absurd (z_lgt0 ha (by decide)) h)
    refine z_bipush B (v := (-2)) dX4_resolve_74 rfl ?_
    have hF : fX4_resolve X Z W C F O x1 = ((-2), C1, F1, O1) := hF0
    exact z_ret1 B rfl dX4_resolve_76 () (trivial) (Nat.le_of_ble_eq_true rfl) (Nat.le_of_ble_eq_true rfl) (by rw [hF]) (by rw [hF])
  | succ n ih =>
    intro a cur C1 F1 O1 ha hp hF0
    refine z_iload B dX4_resolve_10 3 rfl ?_
    refine z_iconst B (v := 4) dX4_resolve_12 rfl ?_
    refine z_icgt B 74 dX4_resolve_13 (by decide) (fun h => absurd h (z_lgtS ha (by decide))) (fun _ => ?_)
    refine z_aload_n B dX4_resolve_16 0 rfl ?_
    refine z_aload_n B dX4_resolve_17 1 rfl ?_
    refine z_iload B dX4_resolve_18 4 rfl ?_
    refine z_aload_n B dX4_resolve_20 2 rfl ?_
    refine z_V1 B (kX4_lookUp l hl K ax az sa la tr tc X Z W ac C1 ak F1 O1 cur hp) [0, 1, 2, 3] [] (br := []) (bs' := [zXo ax (az 0) sa la tr tc X, zZo K az Z W, zCa K ac ((fX4_lookUp X Z W C1 F1 O1 cur).2.1), zCo K ak ((fX4_lookUp X Z W C1 F1 O1 cur).2.2.1) ((fX4_lookUp X Z W C1 F1 O1 cur).2.2.2)]) (st := []) (nA := 3) (zsp rfl rfl rfl) (zsp rfl rfl rfl) 0 0 rfl rfl rfl rfl gX4_resolve_X4_lookUp rfl (by decide +kernel) ⟨Nat.le_of_ble_eq_true rfl, Nat.le_of_ble_eq_true rfl⟩ rfl rfl (Nat.le_of_ble_eq_true rfl) ⟨Nat.le_of_ble_eq_true rfl, Nat.le_of_ble_eq_true rfl⟩ dX4_resolve_21 z_noX (fun _ => ?_)
    refine z_ifne B 30 dX4_resolve_24 (by decide) (fun c1 => ?_) (fun c1 => ?_)
    · refine z_bipush B (v := (-2)) dX4_resolve_27 rfl ?_
      have hF : fX4_resolve X Z W C F O x1 = ((-2), ((fX4_lookUp X Z W C1 F1 O1 cur).2.1), ((fX4_lookUp X Z W C1 F1 O1 cur).2.2.1), ((fX4_lookUp X Z W C1 F1 O1 cur).2.2.2)) := (hF0).trans (if_pos c1)
      exact z_ret1 B rfl dX4_resolve_29 () (trivial) (Nat.le_of_ble_eq_true rfl) (Nat.le_of_ble_eq_true rfl) (by rw [hF]) (by rw [hF])
    · refine z_aload_n B dX4_resolve_30 1 rfl ?_
      refine z_iload B dX4_resolve_31 4 rfl ?_
      refine z_V1 B (kX0_kindOf l hl K ac ((fX4_lookUp X Z W C1 F1 O1 cur).2.1) cur) [2] [0, 1, 3] (br := [zXo ax (az 0) sa la tr tc X, zZo K az Z W, zCo K ak ((fX4_lookUp X Z W C1 F1 O1 cur).2.2.1) ((fX4_lookUp X Z W C1 F1 O1 cur).2.2.2)]) (bs' := [zXo ax (az 0) sa la tr tc X, zZo K az Z W, zCa K ac ((fX4_lookUp X Z W C1 F1 O1 cur).2.1), zCo K ak ((fX4_lookUp X Z W C1 F1 O1 cur).2.2.1) ((fX4_lookUp X Z W C1 F1 O1 cur).2.2.2)]) (st := []) (nA := 1) (zsp rfl rfl rfl) (zsp rfl rfl rfl) 2 0 rfl rfl rfl rfl gX4_resolve_X0_kindOf rfl (by decide +kernel) ⟨Nat.le_of_ble_eq_true rfl, Nat.le_of_ble_eq_true rfl⟩ rfl rfl (Nat.le_of_ble_eq_true rfl) ⟨Nat.le_of_ble_eq_true rfl, Nat.le_of_ble_eq_true rfl⟩ dX4_resolve_33 z_noX (fun _ => ?_)
      refine z_istore B (lv' := [(6, .int (fX0_kindOf ((fX4_lookUp X Z W C1 F1 O1 cur).2.1) cur)), (0, .ref ax), (1, .ref (ac 0)), (3, .ref (ak 0)), (5, .int (nI a)), (4, .int cur)]) dX4_resolve_36 (by decide) rfl ?_
      refine z_aload_n B dX4_resolve_38 2 rfl ?_
      refine z_iload B dX4_resolve_39 5 rfl ?_
      refine z_V1 B (kX0_valueOf l hl K ac ((fX4_lookUp X Z W C1 F1 O1 cur).2.1) cur) [2] [0, 1, 3] (br := [zXo ax (az 0) sa la tr tc X, zZo K az Z W, zCo K ak ((fX4_lookUp X Z W C1 F1 O1 cur).2.2.1) ((fX4_lookUp X Z W C1 F1 O1 cur).2.2.2)]) (bs' := [zXo ax (az 0) sa la tr tc X, zZo K az Z W, zCa K ac ((fX4_lookUp X Z W C1 F1 O1 cur).2.1), zCo K ak ((fX4_lookUp X Z W C1 F1 O1 cur).2.2.1) ((fX4_lookUp X Z W C1 F1 O1 cur).2.2.2)]) (st := []) (nA := 1) (zsp rfl rfl rfl) (zsp rfl rfl rfl) 2 0 rfl rfl rfl rfl gX4_resolve_X0_valueOf rfl (by decide +kernel) ⟨Nat.le_of_ble_eq_true rfl, Nat.le_of_ble_eq_true rfl⟩ rfl rfl (Nat.le_of_ble_eq_true rfl) ⟨Nat.le_of_ble_eq_true rfl, Nat.le_of_ble_eq_true rfl⟩ dX4_resolve_41 z_noX (fun _ => ?_)
      refine z_istore B (lv' := [(7, .int (fX0_valueOf ((fX4_lookUp X Z W C1 F1 O1 cur).2.1) cur)), (6, .int (fX0_kindOf ((fX4_lookUp X Z W C1 F1 O1 cur).2.1) cur)), (0, .ref ax), (1, .ref (ac 0)), (3, .ref (ak 0)), (5, .int (nI a)), (4, .int cur)]) dX4_resolve_44 (by decide) rfl ?_
      refine z_iload B dX4_resolve_46 1 rfl ?_
      refine z_iconst B (v := 1) dX4_resolve_48 rfl ?_
      refine z_iceq B 64 dX4_resolve_49 (by decide) (fun c2 => ?_) (fun c2 => ?_)
      · refine z_iload B dX4_resolve_64 0 rfl ?_
        refine z_istore B (lv' := [(4, .int (fX0_valueOf ((fX4_lookUp X Z W C1 F1 O1 cur).2.1) cur)), (7, .int (fX0_valueOf ((fX4_lookUp X Z W C1 F1 O1 cur).2.1) cur)), (6, .int (fX0_kindOf ((fX4_lookUp X Z W C1 F1 O1 cur).2.1) cur)), (0, .ref ax), (1, .ref (ac 0)), (3, .ref (ak 0)), (5, .int (nI a))]) dX4_resolve_66 (by decide) rfl ?_
        refine z_iinc B (v := nI (a + 1)) (lv' := [(5, .int (nI (a + 1))), (4, .int (fX0_valueOf ((fX4_lookUp X Z W C1 F1 O1 cur).2.1) cur)), (7, .int (fX0_valueOf ((fX4_lookUp X Z W C1 F1 O1 cur).2.1) cur)), (6, .int (fX0_kindOf ((fX4_lookUp X Z W C1 F1 O1 cur).2.1) cur)), (0, .ref ax), (1, .ref (ac 0)), (3, .ref (ak 0))]) dX4_resolve_68 6 rfl (nI_1 a) (by decide) rfl ?_
        refine z_goto B (tgt := 10) dX4_resolve_71 (by decide) ?_
        refine z_lsub [4, 5, 6, 0, 1] rfl ?_
        have hF : fX4_resolve X Z W C F O x1 = fX4_resolve_L10 X Z W C F O x1 n (a + 1) (fX0_valueOf ((fX4_lookUp X Z W C1 F1 O1 cur).2.1) cur) ((fX4_lookUp X Z W C1 F1 O1 cur).2.1) ((fX4_lookUp X Z W C1 F1 O1 cur).2.2.1) ((fX4_lookUp X Z W C1 F1 O1 cur).2.2.2) := (hF0).trans ((if_neg c1).trans (if_pos c2))
        exact ih (a + 1) (fX0_valueOf ((fX4_lookUp X Z W C1 F1 O1 cur).2.1) cur) ((fX4_lookUp X Z W C1 F1 O1 cur).2.1) ((fX4_lookUp X Z W C1 F1 O1 cur).2.2.1) ((fX4_lookUp X Z W C1 F1 O1 cur).2.2.2) (by omega) (z_look hp) hF
      · refine z_iload B dX4_resolve_52 1 rfl ?_
        refine z_ifne B 62 dX4_resolve_54 (by decide) (fun c3 => ?_) (fun c3 => ?_)
        · refine z_iload B dX4_resolve_57 0 rfl ?_
          refine z_goto B (tgt := 63) dX4_resolve_59 (by decide) ?_
          have hF : fX4_resolve X Z W C F O x1 = ((fX0_valueOf ((fX4_lookUp X Z W C1 F1 O1 cur).2.1) cur), ((fX4_lookUp X Z W C1 F1 O1 cur).2.1), ((fX4_lookUp X Z W C1 F1 O1 cur).2.2.1), ((fX4_lookUp X Z W C1 F1 O1 cur).2.2.2)) := (hF0).trans ((if_neg c1).trans ((if_neg c2).trans (if_pos c3)))
          exact z_ret1 B rfl dX4_resolve_63 () (trivial) (Nat.le_of_ble_eq_true rfl) (Nat.le_of_ble_eq_true rfl) (by rw [hF]) (by rw [hF])
        · refine z_iconst B (v := (-1)) dX4_resolve_62 rfl ?_
          have hF : fX4_resolve X Z W C F O x1 = ((-1), ((fX4_lookUp X Z W C1 F1 O1 cur).2.1), ((fX4_lookUp X Z W C1 F1 O1 cur).2.2.1), ((fX4_lookUp X Z W C1 F1 O1 cur).2.2.2)) := (hF0).trans ((if_neg c1).trans ((if_neg c2).trans (if_neg c3)))
          exact z_ret1 B rfl dX4_resolve_63 () (trivial) (Nat.le_of_ble_eq_true rfl) (Nat.le_of_ble_eq_true rfl) (by rw [hF]) (by rw [hF])
set_option maxHeartbeats 4000000 in
set_option maxRecDepth 100000 in
theorem kX4_resolve (l : Launch) (hl : l.stackTraces = false) (K : zK) (ax : Nat) (az : Nat → Nat) (sa : Nat) (la : Nat) (tr : Nat) (tc : Nat) (X : Nat → Int32) (Z : Nat → Nat → Int32) (W : Nat → Int32) (ac : Nat → Nat) (C : Nat → Nat → Int32) (ak : Nat → Nat) (F : Nat → Int32) (O : Nat → Int32) (x1 : Int32) : zMet l K yX4_resolve wsX4_resolve { frames := 5, cells := 0, slots := 0, locals := 113 } [.ref ax, .ref (ac 0), .int x1, .ref (ak 0)] [zXo ax (az 0) sa la tr tc X, zZo K az Z W, zCa K ac C, zCo K ak F O] (some (.int ((fX4_resolve X Z W C F O x1).1))) [zXo ax (az 0) sa la tr tc X, zZo K az Z W, zCa K ac ((fX4_resolve X Z W C F O x1).2.1), zCo K ak ((fX4_resolve X Z W C F O x1).2.2.1) ((fX4_resolve X Z W C F O x1).2.2.2)] True zNo := by
  refine zMeN.of (cc := cX4_resolve) (maxL := 8) (ret := (some .int)) (own := RX4) (nm := "resolve") hl (by decide +kernel) rfl rfl rfl (Nat.le_of_ble_eq_true rfl) (lv := [(0, .ref ax), (1, .ref (ac 0)), (2, .int x1), (3, .ref (ak 0))]) rfl ?_
  intro p e s m args below meth c A B
  refine z_aload_n B dX4_resolve_0 3 rfl ?_
  refine z_V0 B (kX1_begin l hl K ak F O) [3] [0, 1, 2] (br := [zXo ax (az 0) sa la tr tc X, zZo K az Z W, zCa K ac C]) (bs' := [zXo ax (az 0) sa la tr tc X, zZo K az Z W, zCa K ac C, zCo K ak F (fX1_begin F O)]) (st := []) (nA := 0) (zsp rfl rfl rfl) (zsp rfl rfl rfl) 3 0 rfl rfl rfl rfl gX4_resolve_X1_begin rfl (by decide +kernel) ⟨Nat.le_of_ble_eq_true rfl, Nat.le_of_ble_eq_true rfl⟩ rfl rfl (Nat.le_of_ble_eq_true rfl) ⟨Nat.le_of_ble_eq_true rfl, Nat.le_of_ble_eq_true rfl⟩ dX4_resolve_1 z_noX (fun _ => ?_)
  refine z_iload_n B dX4_resolve_4 2 rfl ?_
  refine z_istore B (lv' := [(4, .int x1), (0, .ref ax), (1, .ref (ac 0)), (2, .int x1), (3, .ref (ak 0))]) dX4_resolve_5 (by decide) rfl ?_
  refine z_iconst B (v := 0) dX4_resolve_7 rfl ?_
  refine z_istore B (lv' := [(5, .int 0), (4, .int x1), (0, .ref ax), (1, .ref (ac 0)), (2, .int x1), (3, .ref (ak 0))]) dX4_resolve_8 (by decide) rfl ?_
  refine z_lsub [2, 3, 5, 0, 1] rfl ?_
  have hF : fX4_resolve X Z W C F O x1 = fX4_resolve_L10 X Z W C F O x1 5 0 x1 C F (fX1_begin F O) := rfl
  exact kX4_resolve_L10 l hl K ax az sa la tr tc X Z W ac C ak F O x1 B 5 0 x1 C F (fX1_begin F O) (by omega) (by show ¬ (0 : Int32) < 0; decide) hF
theorem z_cl {x : Int32} (h : ¬ x < 0) : x = nI x.toNatClampNeg := by
  obtain ⟨j, hj, rfl⟩ := nI_of h
  rw [nI_clamp hj]
theorem z_clt {x : Int32} : x.toNatClampNeg < 2 ^ 31 := by
  have h := Int32.toInt_lt x
  have h2 : (x.toNatClampNeg : Int) = max x.toInt 0 := by
    rw [← Int.toNat_of_nonneg (a := max x.toInt 0) (by omega)]
    congr 1
    show x.toInt.toNat = _
    omega
  omega
def fX4_fetchHotAnew_L19 (X : Nat → Int32) (Z : Nat → Nat → Int32) (W : Nat → Int32) (C : Nat → Nat → Int32) (F : Nat → Int32) (O : Nat → Int32) : Nat → Nat → (Nat → Nat → Int32) → (Nat → Int32) → (Nat → Nat → Int32) × (Nat → Int32)
  | 0, a, C1, O1 =>
    (C1, O1)
  | n + 1, a, C1, O1 =>
    if (fX0_isHot C1 (fX1_freshNameAt F O1 (nI a)) (X 3)) = 0 then
      fX4_fetchHotAnew_L19 X Z W C F O n (a + 1) C1 O1
    else
      fX4_fetchHotAnew_L19 X Z W C F O n (a + 1) ((fX4_fetch X Z W C1 F O1 (fX1_freshNameAt F O1 (nI a))).1) (va_up ((fX4_fetch X Z W C1 F O1 (fX1_freshNameAt F O1 (nI a))).2) 4 ((((fX4_fetch X Z W C1 F O1 (fX1_freshNameAt F O1 (nI a))).2) 4) + 1))
def fX4_fetchHotAnew (X : Nat → Int32) (Z : Nat → Nat → Int32) (W : Nat → Int32) (C : Nat → Nat → Int32) (F : Nat → Int32) (O : Nat → Int32) : (Nat → Nat → Int32) × (Nat → Int32) :=
  if (W 4) = 0 then
    (C, O)
  else
    fX4_fetchHotAnew_L19 X Z W C F O ((O 1).toNatClampNeg) 0 C O
theorem hiX4_fetchHotAnew_4 : ∀ w ∈ wsX40, w ∈ wsX4_fetchHotAnew := by decide +kernel
theorem hfX4_fetchHotAnew_10 : Cond.fieldLink RX4 10 "ResolverFleet" "zone" "LResolverFleet$Zone;" ∈ wsX4_fetchHotAnew := by decide +kernel
theorem hiX4_fetchHotAnew_3 : ∀ w ∈ wsX30, w ∈ wsX4_fetchHotAnew := by decide +kernel
theorem hfX4_fetchHotAnew_69 : Cond.fieldLink RX4 69 "ResolverFleet$Zone" "isUp" "Z" ∈ wsX4_fetchHotAnew := by decide +kernel
theorem hiX4_fetchHotAnew_1 : ∀ w ∈ wsX10, w ∈ wsX4_fetchHotAnew := by decide +kernel
theorem hfX4_fetchHotAnew_203 : Cond.fieldLink RX4 203 "ResolverFleet$Course" "freshCount" "I" ∈ wsX4_fetchHotAnew := by decide +kernel
theorem hfX4_fetchHotAnew_108 : Cond.fieldLink RX4 108 "ResolverFleet" "now" "I" ∈ wsX4_fetchHotAnew := by decide +kernel
theorem hfX4_fetchHotAnew_212 : Cond.fieldLink RX4 212 "ResolverFleet$Course" "prefetches" "I" ∈ wsX4_fetchHotAnew := by decide +kernel
set_option maxHeartbeats 4000000 in
set_option maxRecDepth 100000 in
theorem kX4_fetchHotAnew_L19 (l : Launch) (hl : l.stackTraces = false) (K : zK) (ax : Nat) (az : Nat → Nat) (sa : Nat) (la : Nat) (tr : Nat) (tc : Nat) (X : Nat → Int32) (Z : Nat → Nat → Int32) (W : Nat → Int32) (ac : Nat → Nat) (C : Nat → Nat → Int32) (ak : Nat → Nat) (F : Nat → Int32) (O : Nat → Int32) (hO1 : ¬ (O 1) < 0) {p : Program} {e : Env} {s : State} {m : MethodId} {args : Array Value} {below : List Frame} {meth : Method} {c : Code} {A : Nat → Prop} (B : zF K p l s m args meth c A cX4_fetchHotAnew 6 RX4 "fetchHotAnew" wsX4_fetchHotAnew none []) : ∀ (n a : Nat) (C1 : Nat → Nat → Int32) (O1 : Nat → Int32), a + n = (O 1).toNatClampNeg → fX4_fetchHotAnew X Z W C F O = fX4_fetchHotAnew_L19 X Z W C F O n a C1 O1 → zW K p l e { frames := 4, cells := 0, slots := 0, locals := 90 } s m args below meth c A (vx_MQ below (zQ K A (fun _ : Unit => (none, [zXo ax (az 0) sa la tr tc X, zZo K az Z W, zCa K ac ((fX4_fetchHotAnew X Z W C F O).1), zCo K ak F ((fX4_fetchHotAnew X Z W C F O).2)])) (fun _ => True)) (zX K A [zXo ax (az 0) sa la tr tc X, zZo K az Z W, zCa K ac C, zCo K ak F O] zNo) args s 0 0 A) 0 0 [zXo ax (az 0) sa la tr tc X, zZo K az Z W, zCa K ac C1, zCo K ak F O1] [(0, .ref ax), (1, .ref (ac 0)), (2, .ref (ak 0)), (3, .int (O 1)), (4, .int (nI a))] [] 19 := by
  intro n
  induction n with
  | zero =>
    intro a C1 O1 ha  hF0
    refine z_iload B dX4_fetchHotAnew_19 4 rfl ?_
    refine z_iload_n B dX4_fetchHotAnew_21 3 rfl ?_
    refine z_icge B 70 dX4_fetchHotAnew_22 (by decide) (fun _ => ?_) (fun h => absurd (by rw [z_cl hO1]; exact (z_lge0 ha z_clt)) h)
    have hF : fX4_fetchHotAnew X Z W C F O = (C1, O1) := hF0
    exact z_ret0 B dX4_fetchHotAnew_70 () (trivial) (Nat.le_of_ble_eq_true rfl) (Nat.le_of_ble_eq_true rfl) rfl (by rw [hF])
  | succ n ih =>
    intro a C1 O1 ha  hF0
    refine z_iload B dX4_fetchHotAnew_19 4 rfl ?_
    refine z_iload_n B dX4_fetchHotAnew_21 3 rfl ?_
    refine z_icge B 70 dX4_fetchHotAnew_22 (by decide) (fun h => absurd h (by rw [z_cl hO1]; exact (z_lgeS ha z_clt))) (fun _ => ?_)
    refine z_aload_n B dX4_fetchHotAnew_25 2 rfl ?_
    refine z_iload B dX4_fetchHotAnew_26 4 rfl ?_
    refine z_V1 B (kX1_freshNameAt l hl K ak F O1 (nI a)) [3] [0, 1, 2] (br := [zXo ax (az 0) sa la tr tc X, zZo K az Z W, zCa K ac C1]) (bs' := [zXo ax (az 0) sa la tr tc X, zZo K az Z W, zCa K ac C1, zCo K ak F O1]) (st := []) (nA := 1) (zsp rfl rfl rfl) (zsp rfl rfl rfl) 3 0 rfl rfl rfl rfl gX4_fetchHotAnew_X1_freshNameAt rfl (by decide +kernel) ⟨Nat.le_of_ble_eq_true rfl, Nat.le_of_ble_eq_true rfl⟩ rfl rfl (Nat.le_of_ble_eq_true rfl) ⟨Nat.le_of_ble_eq_true rfl, Nat.le_of_ble_eq_true rfl⟩ dX4_fetchHotAnew_28 z_noX (fun _ => ?_)
    refine z_istore B (lv' := [(5, .int (fX1_freshNameAt F O1 (nI a))), (0, .ref ax), (1, .ref (ac 0)), (2, .ref (ak 0)), (3, .int (O 1)), (4, .int (nI a))]) dX4_fetchHotAnew_31 (by decide) rfl ?_
    refine z_aload_n B dX4_fetchHotAnew_33 2 rfl ?_
    refine z_iload B dX4_fetchHotAnew_34 0 rfl ?_
    refine z_aload_n B dX4_fetchHotAnew_36 1 rfl ?_
    refine z_get B (v := .int (X 3)) 0 0 3 hiX4_fetchHotAnew_4 hfX4_fetchHotAnew_108 rfl rfl rfl (by decide) rfl rfl rfl rfl dX4_fetchHotAnew_37 ?_
    refine z_V1 B (kX0_isHot l hl K ac C1 (fX1_freshNameAt F O1 (nI a)) (X 3)) [2] [0, 1, 3] (br := [zXo ax (az 0) sa la tr tc X, zZo K az Z W, zCo K ak F O1]) (bs' := [zXo ax (az 0) sa la tr tc X, zZo K az Z W, zCa K ac C1, zCo K ak F O1]) (st := []) (nA := 2) (zsp rfl rfl rfl) (zsp rfl rfl rfl) 2 0 rfl rfl rfl rfl gX4_fetchHotAnew_X0_isHot rfl (by decide +kernel) ⟨Nat.le_of_ble_eq_true rfl, Nat.le_of_ble_eq_true rfl⟩ rfl rfl (Nat.le_of_ble_eq_true rfl) ⟨Nat.le_of_ble_eq_true rfl, Nat.le_of_ble_eq_true rfl⟩ dX4_fetchHotAnew_40 z_noX (fun _ => ?_)
    refine z_ifeq B 64 dX4_fetchHotAnew_43 (by decide) (fun c2 => ?_) (fun c2 => ?_)
    · refine z_iinc B (v := nI (a + 1)) (lv' := [(4, .int (nI (a + 1))), (5, .int (fX1_freshNameAt F O1 (nI a))), (0, .ref ax), (1, .ref (ac 0)), (2, .ref (ak 0)), (3, .int (O 1))]) dX4_fetchHotAnew_64 5 rfl (nI_1 a) (by decide) rfl ?_
      refine z_goto B (tgt := 19) dX4_fetchHotAnew_67 (by decide) ?_
      refine z_lsub [2, 3, 4, 5, 0] rfl ?_
      have hF : fX4_fetchHotAnew X Z W C F O = fX4_fetchHotAnew_L19 X Z W C F O n (a + 1) C1 O1 := (hF0).trans (if_pos c2)
      exact ih (a + 1) C1 O1 (by omega)  hF
    · refine z_aload_n B dX4_fetchHotAnew_46 1 rfl ?_
      refine z_aload_n B dX4_fetchHotAnew_47 2 rfl ?_
      refine z_iload B dX4_fetchHotAnew_48 0 rfl ?_
      refine z_aload_n B dX4_fetchHotAnew_50 3 rfl ?_
      refine z_V0 B (kX4_fetch l hl K ax az sa la tr tc X Z W ac C1 ak F O1 (fX1_freshNameAt F O1 (nI a))) [0, 1, 2, 3] [] (br := []) (bs' := [zXo ax (az 0) sa la tr tc X, zZo K az Z W, zCa K ac ((fX4_fetch X Z W C1 F O1 (fX1_freshNameAt F O1 (nI a))).1), zCo K ak F ((fX4_fetch X Z W C1 F O1 (fX1_freshNameAt F O1 (nI a))).2)]) (st := []) (nA := 3) (zsp rfl rfl rfl) (zsp rfl rfl rfl) 0 0 rfl rfl rfl rfl gX4_fetchHotAnew_X4_fetch rfl (by decide +kernel) ⟨Nat.le_of_ble_eq_true rfl, Nat.le_of_ble_eq_true rfl⟩ rfl rfl (Nat.le_of_ble_eq_true rfl) ⟨Nat.le_of_ble_eq_true rfl, Nat.le_of_ble_eq_true rfl⟩ dX4_fetchHotAnew_51 z_noX (fun _ => ?_)
      refine z_aload_n B dX4_fetchHotAnew_54 3 rfl ?_
      refine z_dup B dX4_fetchHotAnew_55 rfl ?_
      refine z_get B (v := .int (((fX4_fetch X Z W C1 F O1 (fX1_freshNameAt F O1 (nI a))).2) 4)) 3 0 4 hiX4_fetchHotAnew_1 hfX4_fetchHotAnew_212 rfl rfl rfl (by decide) rfl rfl rfl rfl dX4_fetchHotAnew_56 ?_
      refine z_iconst B (v := 1) dX4_fetchHotAnew_59 rfl ?_
      refine z_iadd B dX4_fetchHotAnew_60 ?_
      refine z_put B 3 0 4 hiX4_fetchHotAnew_1 hfX4_fetchHotAnew_212 tyX1_ok nmX1 rfl rfl rfl (by decide) rfl rfl rfl rfl rfl rfl rfl (Nat.le_of_ble_eq_true rfl) (bs' := [zXo ax (az 0) sa la tr tc X, zZo K az Z W, zCa K ac ((fX4_fetch X Z W C1 F O1 (fX1_freshNameAt F O1 (nI a))).1), zCo K ak F (va_up ((fX4_fetch X Z W C1 F O1 (fX1_freshNameAt F O1 (nI a))).2) 4 ((((fX4_fetch X Z W C1 F O1 (fX1_freshNameAt F O1 (nI a))).2) 4) + 1))]) rfl dX4_fetchHotAnew_61 ?_
      refine z_iinc B (v := nI (a + 1)) (lv' := [(4, .int (nI (a + 1))), (5, .int (fX1_freshNameAt F O1 (nI a))), (0, .ref ax), (1, .ref (ac 0)), (2, .ref (ak 0)), (3, .int (O 1))]) dX4_fetchHotAnew_64 5 rfl (nI_1 a) (by decide) rfl ?_
      refine z_goto B (tgt := 19) dX4_fetchHotAnew_67 (by decide) ?_
      refine z_lsub [2, 3, 4, 5, 0] rfl ?_
      have hF : fX4_fetchHotAnew X Z W C F O = fX4_fetchHotAnew_L19 X Z W C F O n (a + 1) ((fX4_fetch X Z W C1 F O1 (fX1_freshNameAt F O1 (nI a))).1) (va_up ((fX4_fetch X Z W C1 F O1 (fX1_freshNameAt F O1 (nI a))).2) 4 ((((fX4_fetch X Z W C1 F O1 (fX1_freshNameAt F O1 (nI a))).2) 4) + 1)) := (hF0).trans (if_neg c2)
      exact ih (a + 1) ((fX4_fetch X Z W C1 F O1 (fX1_freshNameAt F O1 (nI a))).1) (va_up ((fX4_fetch X Z W C1 F O1 (fX1_freshNameAt F O1 (nI a))).2) 4 ((((fX4_fetch X Z W C1 F O1 (fX1_freshNameAt F O1 (nI a))).2) 4) + 1)) (by omega)  hF
set_option maxHeartbeats 4000000 in
set_option maxRecDepth 100000 in
theorem kX4_fetchHotAnew (l : Launch) (hl : l.stackTraces = false) (K : zK) (ax : Nat) (az : Nat → Nat) (sa : Nat) (la : Nat) (tr : Nat) (tc : Nat) (X : Nat → Int32) (Z : Nat → Nat → Int32) (W : Nat → Int32) (ac : Nat → Nat) (C : Nat → Nat → Int32) (ak : Nat → Nat) (F : Nat → Int32) (O : Nat → Int32) (hO1 : ¬ (O 1) < 0) : zMet l K yX4_fetchHotAnew wsX4_fetchHotAnew { frames := 4, cells := 0, slots := 0, locals := 90 } [.ref ax, .ref (ac 0), .ref (ak 0)] [zXo ax (az 0) sa la tr tc X, zZo K az Z W, zCa K ac C, zCo K ak F O] none [zXo ax (az 0) sa la tr tc X, zZo K az Z W, zCa K ac ((fX4_fetchHotAnew X Z W C F O).1), zCo K ak F ((fX4_fetchHotAnew X Z W C F O).2)] True zNo := by
  refine zMeN.of (cc := cX4_fetchHotAnew) (maxL := 6) (ret := none) (own := RX4) (nm := "fetchHotAnew") hl (by decide +kernel) rfl rfl rfl (Nat.le_of_ble_eq_true rfl) (lv := [(0, .ref ax), (1, .ref (ac 0)), (2, .ref (ak 0))]) rfl ?_
  intro p e s m args below meth c A B
  refine z_aload_n B dX4_fetchHotAnew_0 0 rfl ?_
  refine z_get B (v := .ref (az 0)) 0 0 0 hiX4_fetchHotAnew_4 hfX4_fetchHotAnew_10 rfl rfl rfl (by decide) rfl rfl rfl rfl dX4_fetchHotAnew_1 ?_
  refine z_get B (v := .int (W 4)) 1 0 4 hiX4_fetchHotAnew_3 hfX4_fetchHotAnew_69 rfl rfl rfl (by decide) rfl rfl rfl rfl dX4_fetchHotAnew_4 ?_
  refine z_ifne B 11 dX4_fetchHotAnew_7 (by decide) (fun c1 => ?_) (fun c1 => ?_)
  · have hF : fX4_fetchHotAnew X Z W C F O = (C, O) := if_pos c1
    exact z_ret0 B dX4_fetchHotAnew_10 () (trivial) (Nat.le_of_ble_eq_true rfl) (Nat.le_of_ble_eq_true rfl) rfl (by rw [hF])
  · refine z_aload_n B dX4_fetchHotAnew_11 2 rfl ?_
    refine z_get B (v := .int (O 1)) 3 0 1 hiX4_fetchHotAnew_1 hfX4_fetchHotAnew_203 rfl rfl rfl (by decide) rfl rfl rfl rfl dX4_fetchHotAnew_12 ?_
    refine z_istore_n B (lv' := [(3, .int (O 1)), (0, .ref ax), (1, .ref (ac 0)), (2, .ref (ak 0))]) dX4_fetchHotAnew_15 (by decide) rfl ?_
    refine z_iconst B (v := 0) dX4_fetchHotAnew_16 rfl ?_
    refine z_istore B (lv' := [(4, .int 0), (3, .int (O 1)), (0, .ref ax), (1, .ref (ac 0)), (2, .ref (ak 0))]) dX4_fetchHotAnew_17 (by decide) rfl ?_
    refine z_lsub [2, 3, 4, 1, 0] rfl ?_
    have hF : fX4_fetchHotAnew X Z W C F O = fX4_fetchHotAnew_L19 X Z W C F O ((O 1).toNatClampNeg) 0 C O := if_neg c1
    exact kX4_fetchHotAnew_L19 l hl K ax az sa la tr tc X Z W ac C ak F O hO1 B ((O 1).toNatClampNeg) 0 C O (by omega)  hF
def fX4_countQuery (X : Nat → Int32) (F : Nat → Int32) (O : Nat → Int32) (x1 : Int32) : (Nat → Int32) :=
  if (O 5) = 0 then
    if x1 = (-2) then
      (va_up (va_up (va_up (va_up X 8 ((X 8) + 1)) 9 ((X 9) + (O 3))) 10 ((X 10) + (O 4))) 12 ((X 12) + 1))
    else
      (va_up (va_up (va_up X 8 ((X 8) + 1)) 9 ((X 9) + (O 3))) 10 ((X 10) + (O 4)))
  else
    if x1 = (-2) then
      (va_up (va_up (va_up (va_up (va_up X 8 ((X 8) + 1)) 9 ((X 9) + (O 3))) 10 ((X 10) + (O 4))) 11 ((X 11) + 1)) 12 ((X 12) + 1))
    else
      (va_up (va_up (va_up (va_up X 8 ((X 8) + 1)) 9 ((X 9) + (O 3))) 10 ((X 10) + (O 4))) 11 ((X 11) + 1))
theorem hiX4_countQuery_4 : ∀ w ∈ wsX40, w ∈ wsX4_countQuery := by decide +kernel
theorem hfX4_countQuery_158 : Cond.fieldLink RX4 158 "ResolverFleet" "queryCount" "I" ∈ wsX4_countQuery := by decide +kernel
theorem hfX4_countQuery_161 : Cond.fieldLink RX4 161 "ResolverFleet" "fetchCount" "I" ∈ wsX4_countQuery := by decide +kernel
theorem hfX4_countQuery_25 : Cond.fieldLink RX4 25 "ResolverFleet" "last" "LResolverFleet$Course;" ∈ wsX4_countQuery := by decide +kernel
theorem hiX4_countQuery_1 : ∀ w ∈ wsX10, w ∈ wsX4_countQuery := by decide +kernel
theorem hfX4_countQuery_139 : Cond.fieldLink RX4 139 "ResolverFleet$Course" "fetches" "I" ∈ wsX4_countQuery := by decide +kernel
theorem hfX4_countQuery_164 : Cond.fieldLink RX4 164 "ResolverFleet" "prefetchCount" "I" ∈ wsX4_countQuery := by decide +kernel
theorem hfX4_countQuery_212 : Cond.fieldLink RX4 212 "ResolverFleet$Course" "prefetches" "I" ∈ wsX4_countQuery := by decide +kernel
theorem hfX4_countQuery_133 : Cond.fieldLink RX4 133 "ResolverFleet$Course" "isStale" "Z" ∈ wsX4_countQuery := by decide +kernel
theorem hfX4_countQuery_170 : Cond.fieldLink RX4 170 "ResolverFleet" "failureCount" "I" ∈ wsX4_countQuery := by decide +kernel
theorem hfX4_countQuery_167 : Cond.fieldLink RX4 167 "ResolverFleet" "staleCount" "I" ∈ wsX4_countQuery := by decide +kernel
set_option maxHeartbeats 4000000 in
set_option maxRecDepth 100000 in
theorem kX4_countQuery (l : Launch) (hl : l.stackTraces = false) (K : zK) (ax : Nat) (zn : Nat) (sa : Nat) (ak : Nat → Nat) (tr : Nat) (tc : Nat) (X : Nat → Int32) (F : Nat → Int32) (O : Nat → Int32) (x1 : Int32) : zMet l K yX4_countQuery wsX4_countQuery { frames := 0, cells := 0, slots := 0, locals := 0 } [.ref ax, .int x1] [zXo ax zn sa (ak 0) tr tc X, zCo K ak F O] none [zXo ax zn sa (ak 0) tr tc (fX4_countQuery X F O x1), zCo K ak F O] True zNo := by
  refine zMeN.of (cc := cX4_countQuery) (maxL := 2) (ret := none) (own := RX4) (nm := "countQuery") hl (by decide +kernel) rfl rfl rfl (Nat.le_of_ble_eq_true rfl) (lv := [(0, .ref ax), (1, .int x1)]) rfl ?_
  intro p e s m args below meth c A B
  refine z_aload_n B dX4_countQuery_0 0 rfl ?_
  refine z_dup B dX4_countQuery_1 rfl ?_
  refine z_get B (v := .int (X 8)) 0 0 8 hiX4_countQuery_4 hfX4_countQuery_158 rfl rfl rfl (by decide) rfl rfl rfl rfl dX4_countQuery_2 ?_
  refine z_iconst B (v := 1) dX4_countQuery_5 rfl ?_
  refine z_iadd B dX4_countQuery_6 ?_
  refine z_put B 0 0 8 hiX4_countQuery_4 hfX4_countQuery_158 tyX4_ok nmX4 rfl rfl rfl (by decide) rfl rfl rfl rfl rfl rfl rfl (Nat.le_of_ble_eq_true rfl) (bs' := [zXo ax zn sa (ak 0) tr tc (va_up X 8 ((X 8) + 1)), zCo K ak F O]) rfl dX4_countQuery_7 ?_
  refine z_aload_n B dX4_countQuery_10 0 rfl ?_
  refine z_dup B dX4_countQuery_11 rfl ?_
  refine z_get B (v := .int (X 9)) 0 0 9 hiX4_countQuery_4 hfX4_countQuery_161 rfl rfl rfl (by decide) rfl rfl rfl rfl dX4_countQuery_12 ?_
  refine z_aload_n B dX4_countQuery_15 0 rfl ?_
  refine z_get B (v := .ref (ak 0)) 0 0 4 hiX4_countQuery_4 hfX4_countQuery_25 rfl rfl rfl (by decide) rfl rfl rfl rfl dX4_countQuery_16 ?_
  refine z_get B (v := .int (O 3)) 1 0 3 hiX4_countQuery_1 hfX4_countQuery_139 rfl rfl rfl (by decide) rfl rfl rfl rfl dX4_countQuery_19 ?_
  refine z_iadd B dX4_countQuery_22 ?_
  refine z_put B 0 0 9 hiX4_countQuery_4 hfX4_countQuery_161 tyX4_ok nmX4 rfl rfl rfl (by decide) rfl rfl rfl rfl rfl rfl rfl (Nat.le_of_ble_eq_true rfl) (bs' := [zXo ax zn sa (ak 0) tr tc (va_up (va_up X 8 ((X 8) + 1)) 9 ((X 9) + (O 3))), zCo K ak F O]) rfl dX4_countQuery_23 ?_
  refine z_aload_n B dX4_countQuery_26 0 rfl ?_
  refine z_dup B dX4_countQuery_27 rfl ?_
  refine z_get B (v := .int (X 10)) 0 0 10 hiX4_countQuery_4 hfX4_countQuery_164 rfl rfl rfl (by decide) rfl rfl rfl rfl dX4_countQuery_28 ?_
  refine z_aload_n B dX4_countQuery_31 0 rfl ?_
  refine z_get B (v := .ref (ak 0)) 0 0 4 hiX4_countQuery_4 hfX4_countQuery_25 rfl rfl rfl (by decide) rfl rfl rfl rfl dX4_countQuery_32 ?_
  refine z_get B (v := .int (O 4)) 1 0 4 hiX4_countQuery_1 hfX4_countQuery_212 rfl rfl rfl (by decide) rfl rfl rfl rfl dX4_countQuery_35 ?_
  refine z_iadd B dX4_countQuery_38 ?_
  refine z_put B 0 0 10 hiX4_countQuery_4 hfX4_countQuery_164 tyX4_ok nmX4 rfl rfl rfl (by decide) rfl rfl rfl rfl rfl rfl rfl (Nat.le_of_ble_eq_true rfl) (bs' := [zXo ax zn sa (ak 0) tr tc (va_up (va_up (va_up X 8 ((X 8) + 1)) 9 ((X 9) + (O 3))) 10 ((X 10) + (O 4))), zCo K ak F O]) rfl dX4_countQuery_39 ?_
  refine z_aload_n B dX4_countQuery_42 0 rfl ?_
  refine z_get B (v := .ref (ak 0)) 0 0 4 hiX4_countQuery_4 hfX4_countQuery_25 rfl rfl rfl (by decide) rfl rfl rfl rfl dX4_countQuery_43 ?_
  refine z_get B (v := .int (O 5)) 1 0 5 hiX4_countQuery_1 hfX4_countQuery_133 rfl rfl rfl (by decide) rfl rfl rfl rfl dX4_countQuery_46 ?_
  refine z_ifeq B 62 dX4_countQuery_49 (by decide) (fun c1 => ?_) (fun c1 => ?_)
  · refine z_iload_n B dX4_countQuery_62 1 rfl ?_
    refine z_bipush B (v := (-2)) dX4_countQuery_63 rfl ?_
    refine z_icne B 78 dX4_countQuery_65 (by decide) (fun c2 => ?_) (fun c2 => ?_)
    · refine z_aload_n B dX4_countQuery_68 0 rfl ?_
      refine z_dup B dX4_countQuery_69 rfl ?_
      refine z_get B (v := .int (X 12)) 0 0 12 hiX4_countQuery_4 hfX4_countQuery_170 rfl rfl rfl (by decide) rfl rfl rfl rfl dX4_countQuery_70 ?_
      refine z_iconst B (v := 1) dX4_countQuery_73 rfl ?_
      refine z_iadd B dX4_countQuery_74 ?_
      refine z_put B 0 0 12 hiX4_countQuery_4 hfX4_countQuery_170 tyX4_ok nmX4 rfl rfl rfl (by decide) rfl rfl rfl rfl rfl rfl rfl (Nat.le_of_ble_eq_true rfl) (bs' := [zXo ax zn sa (ak 0) tr tc (va_up (va_up (va_up (va_up X 8 ((X 8) + 1)) 9 ((X 9) + (O 3))) 10 ((X 10) + (O 4))) 12 ((X 12) + 1)), zCo K ak F O]) rfl dX4_countQuery_75 ?_
      have hF : fX4_countQuery X F O x1 = (va_up (va_up (va_up (va_up X 8 ((X 8) + 1)) 9 ((X 9) + (O 3))) 10 ((X 10) + (O 4))) 12 ((X 12) + 1)) := (if_pos c1).trans (if_pos c2)
      exact z_ret0 B dX4_countQuery_78 () (trivial) (Nat.le_of_ble_eq_true rfl) (Nat.le_of_ble_eq_true rfl) rfl (by rw [hF])
    · have hF : fX4_countQuery X F O x1 = (va_up (va_up (va_up X 8 ((X 8) + 1)) 9 ((X 9) + (O 3))) 10 ((X 10) + (O 4))) := (if_pos c1).trans (if_neg c2)
      exact z_ret0 B dX4_countQuery_78 () (trivial) (Nat.le_of_ble_eq_true rfl) (Nat.le_of_ble_eq_true rfl) rfl (by rw [hF])
  · refine z_aload_n B dX4_countQuery_52 0 rfl ?_
    refine z_dup B dX4_countQuery_53 rfl ?_
    refine z_get B (v := .int (X 11)) 0 0 11 hiX4_countQuery_4 hfX4_countQuery_167 rfl rfl rfl (by decide) rfl rfl rfl rfl dX4_countQuery_54 ?_
    refine z_iconst B (v := 1) dX4_countQuery_57 rfl ?_
    refine z_iadd B dX4_countQuery_58 ?_
    refine z_put B 0 0 11 hiX4_countQuery_4 hfX4_countQuery_167 tyX4_ok nmX4 rfl rfl rfl (by decide) rfl rfl rfl rfl rfl rfl rfl (Nat.le_of_ble_eq_true rfl) (bs' := [zXo ax zn sa (ak 0) tr tc (va_up (va_up (va_up (va_up X 8 ((X 8) + 1)) 9 ((X 9) + (O 3))) 10 ((X 10) + (O 4))) 11 ((X 11) + 1)), zCo K ak F O]) rfl dX4_countQuery_59 ?_
    refine z_iload_n B dX4_countQuery_62 1 rfl ?_
    refine z_bipush B (v := (-2)) dX4_countQuery_63 rfl ?_
    refine z_icne B 78 dX4_countQuery_65 (by decide) (fun c3 => ?_) (fun c3 => ?_)
    · refine z_aload_n B dX4_countQuery_68 0 rfl ?_
      refine z_dup B dX4_countQuery_69 rfl ?_
      refine z_get B (v := .int (X 12)) 0 0 12 hiX4_countQuery_4 hfX4_countQuery_170 rfl rfl rfl (by decide) rfl rfl rfl rfl dX4_countQuery_70 ?_
      refine z_iconst B (v := 1) dX4_countQuery_73 rfl ?_
      refine z_iadd B dX4_countQuery_74 ?_
      refine z_put B 0 0 12 hiX4_countQuery_4 hfX4_countQuery_170 tyX4_ok nmX4 rfl rfl rfl (by decide) rfl rfl rfl rfl rfl rfl rfl (Nat.le_of_ble_eq_true rfl) (bs' := [zXo ax zn sa (ak 0) tr tc (va_up (va_up (va_up (va_up (va_up X 8 ((X 8) + 1)) 9 ((X 9) + (O 3))) 10 ((X 10) + (O 4))) 11 ((X 11) + 1)) 12 ((X 12) + 1)), zCo K ak F O]) rfl dX4_countQuery_75 ?_
      have hF : fX4_countQuery X F O x1 = (va_up (va_up (va_up (va_up (va_up X 8 ((X 8) + 1)) 9 ((X 9) + (O 3))) 10 ((X 10) + (O 4))) 11 ((X 11) + 1)) 12 ((X 12) + 1)) := (if_neg c1).trans (if_pos c3)
      exact z_ret0 B dX4_countQuery_78 () (trivial) (Nat.le_of_ble_eq_true rfl) (Nat.le_of_ble_eq_true rfl) rfl (by rw [hF])
    · have hF : fX4_countQuery X F O x1 = (va_up (va_up (va_up (va_up X 8 ((X 8) + 1)) 9 ((X 9) + (O 3))) 10 ((X 10) + (O 4))) 11 ((X 11) + 1)) := (if_neg c1).trans (if_neg c3)
      exact z_ret0 B dX4_countQuery_78 () (trivial) (Nat.le_of_ble_eq_true rfl) (Nat.le_of_ble_eq_true rfl) rfl (by rw [hF])
end
section
def fX4_setAddress_s4 (X : Nat → Int32) (Z : Nat → Nat → Int32) (W : Nat → Int32) (x1 : Int32) (x2 : Int32) (x3 : Int32) (o4 : (Nat → Nat → Int32)) : Nat × (Nat → Nat → Int32) :=
  (0, o4)
def fX4_setAddress (X : Nat → Int32) (Z : Nat → Nat → Int32) (W : Nat → Int32) (x1 : Int32) (x2 : Int32) (x3 : Int32) : Nat × (Nat → Nat → Int32) :=
  if (fX4_requireName x1) = 0 then
    if (fX4_requireWithin x2 1 9999) = 0 then
      if (fX4_requireWithin x3 1 1000) = 0 then
        fX4_setAddress_s4 X Z W x1 x2 x3 (fX3_put Z W x1 0 x2 x3)
      else
        ((fX4_requireWithin x3 1 1000), Z)
    else
      ((fX4_requireWithin x2 1 9999), Z)
  else
    ((fX4_requireName x1), Z)
theorem hiX4_setAddress_4 : ∀ w ∈ wsX40, w ∈ wsX4_setAddress := by decide +kernel
theorem hfX4_setAddress_10 : Cond.fieldLink RX4 10 "ResolverFleet" "zone" "LResolverFleet$Zone;" ∈ wsX4_setAddress := by decide +kernel
set_option maxHeartbeats 4000000 in
set_option maxRecDepth 100000 in
theorem kX4_setAddress (l : Launch) (hl : l.stackTraces = false) (K : zK) (ax : Nat) (az : Nat → Nat) (sa : Nat) (la : Nat) (tr : Nat) (tc : Nat) (X : Nat → Int32) (Z : Nat → Nat → Int32) (W : Nat → Int32) (x1 : Int32) (x2 : Int32) (x3 : Int32) : zMet l K yX4_setAddress wsX4_setAddress { frames := 7, cells := 3, slots := 18, locals := 104 } [.ref ax, .int x1, .int x2, .int x3] [zXo ax (az 0) sa la tr tc X, zZo K az Z W] none [zXo ax (az 0) sa la tr tc X, zZo K az ((fX4_setAddress X Z W x1 x2 x3).2) W] ((fX4_setAddress X Z W x1 x2 x3).1 = 0) (fun E => (E = zE1 ∧ (fX4_setAddress X Z W x1 x2 x3).1 = 1) ∨ (E = zE2 ∧ (fX4_setAddress X Z W x1 x2 x3).1 = 2)) := by
  refine zMeN.of (cc := cX4_setAddress) (maxL := 4) (ret := none) (own := RX4) (nm := "setAddress") hl (by decide +kernel) rfl rfl rfl (Nat.le_of_ble_eq_true rfl) (lv := [(0, .ref ax), (1, .int x1), (2, .int x2), (3, .int x3)]) rfl ?_
  intro p e s m args below meth c A B
  refine z_iload_n B dX4_setAddress_0 1 rfl ?_
  refine z_S0 B (kX4_requireName l hl K x1) [] [0, 1] (br := [zXo ax (az 0) sa la tr tc X, zZo K az Z W]) (bs' := [zXo ax (az 0) sa la tr tc X, zZo K az Z W]) (st := []) (nA := 1) (zsp rfl rfl rfl) (zsp rfl rfl rfl) gX4_setAddress_X4_requireName rfl (by decide +kernel) ⟨Nat.le_of_ble_eq_true rfl, Nat.le_of_ble_eq_true rfl⟩ rfl rfl (Nat.le_of_ble_eq_true rfl) ⟨Nat.le_of_ble_eq_true rfl, Nat.le_of_ble_eq_true rfl⟩ dX4_setAddress_1 (fun E hE => ?_) (fun h1 => ?_)
  · rcases hE with ⟨rfl, hx⟩
    · have hF : fX4_setAddress X Z W x1 x2 x3 = (1, Z) := (if_neg (show ¬ (fX4_requireName x1) = 0 by rw [hx]; decide)).trans ((by rw [hx]))
      exact z_out B (Or.inl ⟨rfl, by rw [hF]⟩) (Nat.le_of_ble_eq_true rfl) (Nat.le_of_ble_eq_true rfl)
  refine z_iload_n B dX4_setAddress_4 2 rfl ?_
  refine z_iconst B (v := 1) dX4_setAddress_5 rfl ?_
  refine z_sipush B (v := 9999) dX4_setAddress_6 rfl ?_
  refine z_S0 B (kX4_requireWithin l hl K x2 1 9999) [] [0, 1] (br := [zXo ax (az 0) sa la tr tc X, zZo K az Z W]) (bs' := [zXo ax (az 0) sa la tr tc X, zZo K az Z W]) (st := []) (nA := 3) (zsp rfl rfl rfl) (zsp rfl rfl rfl) gX4_setAddress_X4_requireWithin rfl (by decide +kernel) ⟨Nat.le_of_ble_eq_true rfl, Nat.le_of_ble_eq_true rfl⟩ rfl rfl (Nat.le_of_ble_eq_true rfl) ⟨Nat.le_of_ble_eq_true rfl, Nat.le_of_ble_eq_true rfl⟩ dX4_setAddress_9 (fun E hE => ?_) (fun h2 => ?_)
  · rcases hE with ⟨rfl, hx⟩
    · have hF : fX4_setAddress X Z W x1 x2 x3 = (2, Z) := (if_pos h1).trans ((if_neg (show ¬ (fX4_requireWithin x2 1 9999) = 0 by rw [hx]; decide)).trans ((by rw [hx])))
      exact z_out B (Or.inr (⟨rfl, by rw [hF]⟩)) (Nat.le_of_ble_eq_true rfl) (Nat.le_of_ble_eq_true rfl)
  refine z_iload_n B dX4_setAddress_12 3 rfl ?_
  refine z_iconst B (v := 1) dX4_setAddress_13 rfl ?_
  refine z_sipush B (v := 1000) dX4_setAddress_14 rfl ?_
  refine z_S0 B (kX4_requireWithin l hl K x3 1 1000) [] [0, 1] (br := [zXo ax (az 0) sa la tr tc X, zZo K az Z W]) (bs' := [zXo ax (az 0) sa la tr tc X, zZo K az Z W]) (st := []) (nA := 3) (zsp rfl rfl rfl) (zsp rfl rfl rfl) gX4_setAddress_X4_requireWithin rfl (by decide +kernel) ⟨Nat.le_of_ble_eq_true rfl, Nat.le_of_ble_eq_true rfl⟩ rfl rfl (Nat.le_of_ble_eq_true rfl) ⟨Nat.le_of_ble_eq_true rfl, Nat.le_of_ble_eq_true rfl⟩ dX4_setAddress_17 (fun E hE => ?_) (fun h3 => ?_)
  · rcases hE with ⟨rfl, hx⟩
    · have hF : fX4_setAddress X Z W x1 x2 x3 = (2, Z) := (if_pos h1).trans ((if_pos h2).trans ((if_neg (show ¬ (fX4_requireWithin x3 1 1000) = 0 by rw [hx]; decide)).trans ((by rw [hx]))))
      exact z_out B (Or.inr (⟨rfl, by rw [hF]⟩)) (Nat.le_of_ble_eq_true rfl) (Nat.le_of_ble_eq_true rfl)
  refine z_aload_n B dX4_setAddress_20 0 rfl ?_
  refine z_get B (v := .ref (az 0)) 0 0 0 hiX4_setAddress_4 hfX4_setAddress_10 rfl rfl rfl (by decide) rfl rfl rfl rfl dX4_setAddress_21 ?_
  refine z_iload_n B dX4_setAddress_24 1 rfl ?_
  refine z_iconst B (v := 0) dX4_setAddress_25 rfl ?_
  refine z_iload_n B dX4_setAddress_26 2 rfl ?_
  refine z_iload_n B dX4_setAddress_27 3 rfl ?_
  refine z_V0 B (kX3_put l hl K az Z W x1 0 x2 x3) [1] [0] (br := [zXo ax (az 0) sa la tr tc X]) (bs' := [zXo ax (az 0) sa la tr tc X, zZo K az (fX3_put Z W x1 0 x2 x3) W]) (st := []) (nA := 4) (zsp rfl rfl rfl) (zsp rfl rfl rfl) 1 0 rfl rfl rfl rfl gX4_setAddress_X3_put rfl (by decide +kernel) ⟨Nat.le_of_ble_eq_true rfl, Nat.le_of_ble_eq_true rfl⟩ rfl rfl (Nat.le_of_ble_eq_true rfl) ⟨Nat.le_of_ble_eq_true rfl, Nat.le_of_ble_eq_true rfl⟩ dX4_setAddress_28 z_noX (fun _ => ?_)
  generalize ho4 : (fX3_put Z W x1 0 x2 x3) = o4
  have hF : fX4_setAddress X Z W x1 x2 x3 = (0, o4) := (if_pos h1).trans ((if_pos h2).trans ((if_pos h3).trans (congrArg (fun o => fX4_setAddress_s4 X Z W x1 x2 x3 o) ho4)))
  exact z_ret0 B dX4_setAddress_31 () (by rw [hF]) (Nat.le_of_ble_eq_true rfl) (Nat.le_of_ble_eq_true rfl) rfl (by rw [hF])
def fX4_setAlias_s5 (X : Nat → Int32) (Z : Nat → Nat → Int32) (W : Nat → Int32) (x1 : Int32) (x2 : Int32) (x3 : Int32) (o5 : (Nat → Nat → Int32)) : Nat × (Nat → Nat → Int32) :=
  (0, o5)
def fX4_setAlias (X : Nat → Int32) (Z : Nat → Nat → Int32) (W : Nat → Int32) (x1 : Int32) (x2 : Int32) (x3 : Int32) : Nat × (Nat → Nat → Int32) :=
  if (fX4_requireName x1) = 0 then
    if (fX4_requireName x2) = 0 then
      if x2 = x1 then
        (2, Z)
      else
        if (fX4_requireWithin x3 1 1000) = 0 then
          fX4_setAlias_s5 X Z W x1 x2 x3 (fX3_put Z W x1 1 x2 x3)
        else
          ((fX4_requireWithin x3 1 1000), Z)
    else
      ((fX4_requireName x2), Z)
  else
    ((fX4_requireName x1), Z)
theorem haX4_setAlias_59 : ∀ w ∈ (vx_atS RX4 59 "java/lang/IllegalArgumentException" ["java/lang/RuntimeException", "java/lang/Exception"]).filter goodWord, w ∈ wsX4_setAlias := by decide +kernel
theorem hgX4_setAlias_59 : ∀ w ∈ (vx_atS RX4 59 "java/lang/IllegalArgumentException" ["java/lang/RuntimeException", "java/lang/Exception"]).filter (fun w => !goodWord w), w ∈ zNw := by decide +kernel
theorem hoX4_setAlias_59 : ∀ w ∈ Cond.classLink RX4 55 "java/lang/IllegalArgumentException" :: Cond.initialized "java/lang/IllegalArgumentException" :: vx_atS RX4 59 "java/lang/IllegalArgumentException" ["java/lang/RuntimeException", "java/lang/Exception"], vx_ot w = true := by decide +kernel
theorem hwX4_setAlias_cl55 : Cond.classLink RX4 55 "java/lang/IllegalArgumentException" ∈ wsX4_setAlias := by decide +kernel
theorem hwX4_setAlias_ini55 : Cond.initialized "java/lang/IllegalArgumentException" ∈ wsX4_setAlias := by decide +kernel
theorem hiX4_setAlias_4 : ∀ w ∈ wsX40, w ∈ wsX4_setAlias := by decide +kernel
theorem hfX4_setAlias_10 : Cond.fieldLink RX4 10 "ResolverFleet" "zone" "LResolverFleet$Zone;" ∈ wsX4_setAlias := by decide +kernel
set_option maxHeartbeats 4000000 in
set_option maxRecDepth 100000 in
theorem kX4_setAlias (l : Launch) (hl : l.stackTraces = false) (K : zK) (ax : Nat) (az : Nat → Nat) (sa : Nat) (la : Nat) (tr : Nat) (tc : Nat) (X : Nat → Int32) (Z : Nat → Nat → Int32) (W : Nat → Int32) (x1 : Int32) (x2 : Int32) (x3 : Int32) : zMet l K yX4_setAlias wsX4_setAlias { frames := 7, cells := 3, slots := 18, locals := 104 } [.ref ax, .int x1, .int x2, .int x3] [zXo ax (az 0) sa la tr tc X, zZo K az Z W] none [zXo ax (az 0) sa la tr tc X, zZo K az ((fX4_setAlias X Z W x1 x2 x3).2) W] ((fX4_setAlias X Z W x1 x2 x3).1 = 0) (fun E => (E = zE1 ∧ (fX4_setAlias X Z W x1 x2 x3).1 = 1) ∨ (E = zE2 ∧ (fX4_setAlias X Z W x1 x2 x3).1 = 2)) := by
  refine zMeN.of (cc := cX4_setAlias) (maxL := 4) (ret := none) (own := RX4) (nm := "setAlias") hl (by decide +kernel) rfl rfl rfl (Nat.le_of_ble_eq_true rfl) (lv := [(0, .ref ax), (1, .int x1), (2, .int x2), (3, .int x3)]) rfl ?_
  intro p e s m args below meth c A B
  refine z_iload_n B dX4_setAlias_0 1 rfl ?_
  refine z_S0 B (kX4_requireName l hl K x1) [] [0, 1] (br := [zXo ax (az 0) sa la tr tc X, zZo K az Z W]) (bs' := [zXo ax (az 0) sa la tr tc X, zZo K az Z W]) (st := []) (nA := 1) (zsp rfl rfl rfl) (zsp rfl rfl rfl) gX4_setAlias_X4_requireName rfl (by decide +kernel) ⟨Nat.le_of_ble_eq_true rfl, Nat.le_of_ble_eq_true rfl⟩ rfl rfl (Nat.le_of_ble_eq_true rfl) ⟨Nat.le_of_ble_eq_true rfl, Nat.le_of_ble_eq_true rfl⟩ dX4_setAlias_1 (fun E hE => ?_) (fun h1 => ?_)
  · rcases hE with ⟨rfl, hx⟩
    · have hF : fX4_setAlias X Z W x1 x2 x3 = (1, Z) := (if_neg (show ¬ (fX4_requireName x1) = 0 by rw [hx]; decide)).trans ((by rw [hx]))
      exact z_out B (Or.inl ⟨rfl, by rw [hF]⟩) (Nat.le_of_ble_eq_true rfl) (Nat.le_of_ble_eq_true rfl)
  refine z_iload_n B dX4_setAlias_4 2 rfl ?_
  refine z_S0 B (kX4_requireName l hl K x2) [] [0, 1] (br := [zXo ax (az 0) sa la tr tc X, zZo K az Z W]) (bs' := [zXo ax (az 0) sa la tr tc X, zZo K az Z W]) (st := []) (nA := 1) (zsp rfl rfl rfl) (zsp rfl rfl rfl) gX4_setAlias_X4_requireName rfl (by decide +kernel) ⟨Nat.le_of_ble_eq_true rfl, Nat.le_of_ble_eq_true rfl⟩ rfl rfl (Nat.le_of_ble_eq_true rfl) ⟨Nat.le_of_ble_eq_true rfl, Nat.le_of_ble_eq_true rfl⟩ dX4_setAlias_5 (fun E hE => ?_) (fun h2 => ?_)
  · rcases hE with ⟨rfl, hx⟩
    · have hF : fX4_setAlias X Z W x1 x2 x3 = (1, Z) := (if_pos h1).trans ((if_neg (show ¬ (fX4_requireName x2) = 0 by rw [hx]; decide)).trans ((by rw [hx])))
      exact z_out B (Or.inl ⟨rfl, by rw [hF]⟩) (Nat.le_of_ble_eq_true rfl) (Nat.le_of_ble_eq_true rfl)
  refine z_iload_n B dX4_setAlias_8 2 rfl ?_
  refine z_iload_n B dX4_setAlias_9 1 rfl ?_
  refine z_icne B 23 dX4_setAlias_10 (by decide) (fun c3 => ?_) (fun c3 => ?_)
  · have hF : fX4_setAlias X Z W x1 x2 x3 = (2, Z) := (if_pos h1).trans ((if_pos h2).trans (if_pos c3))
    exact z_throw B rfl ["java/lang/RuntimeException", "java/lang/Exception"] (by decide +kernel) (by decide +kernel) hwX4_setAlias_cl55 hwX4_setAlias_ini55 (text := "a name is no alias for itself") (by decide +kernel) haX4_setAlias_59 hgX4_setAlias_59 hoX4_setAlias_59 dX4_setAlias_13 dX4_setAlias_16 dX4_setAlias_17 dX4_setAlias_19 dX4_setAlias_22 (by decide) (Nat.le_of_ble_eq_true rfl) (Nat.le_of_ble_eq_true rfl) (Nat.le_of_ble_eq_true rfl) (Or.inr (⟨rfl, by rw [hF]⟩)) (Nat.le_of_ble_eq_true rfl) (Nat.le_of_ble_eq_true rfl)
  · refine z_iload_n B dX4_setAlias_23 3 rfl ?_
    refine z_iconst B (v := 1) dX4_setAlias_24 rfl ?_
    refine z_sipush B (v := 1000) dX4_setAlias_25 rfl ?_
    refine z_S0 B (kX4_requireWithin l hl K x3 1 1000) [] [0, 1] (br := [zXo ax (az 0) sa la tr tc X, zZo K az Z W]) (bs' := [zXo ax (az 0) sa la tr tc X, zZo K az Z W]) (st := []) (nA := 3) (zsp rfl rfl rfl) (zsp rfl rfl rfl) gX4_setAlias_X4_requireWithin rfl (by decide +kernel) ⟨Nat.le_of_ble_eq_true rfl, Nat.le_of_ble_eq_true rfl⟩ rfl rfl (Nat.le_of_ble_eq_true rfl) ⟨Nat.le_of_ble_eq_true rfl, Nat.le_of_ble_eq_true rfl⟩ dX4_setAlias_28 (fun E hE => ?_) (fun h4 => ?_)
    · rcases hE with ⟨rfl, hx⟩
      · have hF : fX4_setAlias X Z W x1 x2 x3 = (2, Z) := (if_pos h1).trans ((if_pos h2).trans ((if_neg c3).trans ((if_neg (show ¬ (fX4_requireWithin x3 1 1000) = 0 by rw [hx]; decide)).trans ((by rw [hx])))))
        exact z_out B (Or.inr (⟨rfl, by rw [hF]⟩)) (Nat.le_of_ble_eq_true rfl) (Nat.le_of_ble_eq_true rfl)
    refine z_aload_n B dX4_setAlias_31 0 rfl ?_
    refine z_get B (v := .ref (az 0)) 0 0 0 hiX4_setAlias_4 hfX4_setAlias_10 rfl rfl rfl (by decide) rfl rfl rfl rfl dX4_setAlias_32 ?_
    refine z_iload_n B dX4_setAlias_35 1 rfl ?_
    refine z_iconst B (v := 1) dX4_setAlias_36 rfl ?_
    refine z_iload_n B dX4_setAlias_37 2 rfl ?_
    refine z_iload_n B dX4_setAlias_38 3 rfl ?_
    refine z_V0 B (kX3_put l hl K az Z W x1 1 x2 x3) [1] [0] (br := [zXo ax (az 0) sa la tr tc X]) (bs' := [zXo ax (az 0) sa la tr tc X, zZo K az (fX3_put Z W x1 1 x2 x3) W]) (st := []) (nA := 4) (zsp rfl rfl rfl) (zsp rfl rfl rfl) 1 0 rfl rfl rfl rfl gX4_setAlias_X3_put rfl (by decide +kernel) ⟨Nat.le_of_ble_eq_true rfl, Nat.le_of_ble_eq_true rfl⟩ rfl rfl (Nat.le_of_ble_eq_true rfl) ⟨Nat.le_of_ble_eq_true rfl, Nat.le_of_ble_eq_true rfl⟩ dX4_setAlias_39 z_noX (fun _ => ?_)
    generalize ho5 : (fX3_put Z W x1 1 x2 x3) = o5
    have hF : fX4_setAlias X Z W x1 x2 x3 = (0, o5) := (if_pos h1).trans ((if_pos h2).trans ((if_neg c3).trans ((if_pos h4).trans (congrArg (fun o => fX4_setAlias_s5 X Z W x1 x2 x3 o) ho5))))
    exact z_ret0 B dX4_setAlias_42 () (by rw [hF]) (Nat.le_of_ble_eq_true rfl) (Nat.le_of_ble_eq_true rfl) rfl (by rw [hF])
def fX4_remove_s3 (X : Nat → Int32) (Z : Nat → Nat → Int32) (W : Nat → Int32) (x1 : Int32) (o3 : (Nat → Nat → Int32)) : Nat × Int32 × (Nat → Nat → Int32) :=
  (0, 0, o3)
def fX4_remove_s4 (X : Nat → Int32) (Z : Nat → Nat → Int32) (W : Nat → Int32) (x1 : Int32) (o4 : (Nat → Nat → Int32)) : Nat × Int32 × (Nat → Nat → Int32) :=
  (0, 1, o4)
def fX4_remove (X : Nat → Int32) (Z : Nat → Nat → Int32) (W : Nat → Int32) (x1 : Int32) : Nat × Int32 × (Nat → Nat → Int32) :=
  if (fX4_requireName x1) = 0 then
    if (fX3_kindOf Z W x1) = 2 then
      fX4_remove_s3 X Z W x1 (fX3_put Z W x1 2 (-3) 0)
    else
      fX4_remove_s4 X Z W x1 (fX3_put Z W x1 2 (-3) 0)
  else
    ((fX4_requireName x1), 0, Z)
theorem hiX4_remove_4 : ∀ w ∈ wsX40, w ∈ wsX4_remove := by decide +kernel
theorem hfX4_remove_10 : Cond.fieldLink RX4 10 "ResolverFleet" "zone" "LResolverFleet$Zone;" ∈ wsX4_remove := by decide +kernel
set_option maxHeartbeats 4000000 in
set_option maxRecDepth 100000 in
theorem kX4_remove (l : Launch) (hl : l.stackTraces = false) (K : zK) (ax : Nat) (az : Nat → Nat) (sa : Nat) (la : Nat) (tr : Nat) (tc : Nat) (X : Nat → Int32) (Z : Nat → Nat → Int32) (W : Nat → Int32) (x1 : Int32) : zMet l K yX4_remove wsX4_remove { frames := 7, cells := 1, slots := 6, locals := 102 } [.ref ax, .int x1] [zXo ax (az 0) sa la tr tc X, zZo K az Z W] (some (.int ((fX4_remove X Z W x1).2.1))) [zXo ax (az 0) sa la tr tc X, zZo K az ((fX4_remove X Z W x1).2.2) W] ((fX4_remove X Z W x1).1 = 0) (fun E => (E = zE1 ∧ (fX4_remove X Z W x1).1 = 1)) := by
  refine zMeN.of (cc := cX4_remove) (maxL := 3) (ret := (some .boolean)) (own := RX4) (nm := "remove") hl (by decide +kernel) rfl rfl rfl (Nat.le_of_ble_eq_true rfl) (lv := [(0, .ref ax), (1, .int x1)]) rfl ?_
  intro p e s m args below meth c A B
  refine z_iload_n B dX4_remove_0 1 rfl ?_
  refine z_S0 B (kX4_requireName l hl K x1) [] [0, 1] (br := [zXo ax (az 0) sa la tr tc X, zZo K az Z W]) (bs' := [zXo ax (az 0) sa la tr tc X, zZo K az Z W]) (st := []) (nA := 1) (zsp rfl rfl rfl) (zsp rfl rfl rfl) gX4_remove_X4_requireName rfl (by decide +kernel) ⟨Nat.le_of_ble_eq_true rfl, Nat.le_of_ble_eq_true rfl⟩ rfl rfl (Nat.le_of_ble_eq_true rfl) ⟨Nat.le_of_ble_eq_true rfl, Nat.le_of_ble_eq_true rfl⟩ dX4_remove_1 (fun E hE => ?_) (fun h1 => ?_)
  · rcases hE with ⟨rfl, hx⟩
    · have hF : fX4_remove X Z W x1 = (1, 0, Z) := (if_neg (show ¬ (fX4_requireName x1) = 0 by rw [hx]; decide)).trans ((by rw [hx]))
      exact z_out B (⟨rfl, by rw [hF]⟩) (Nat.le_of_ble_eq_true rfl) (Nat.le_of_ble_eq_true rfl)
  refine z_aload_n B dX4_remove_4 0 rfl ?_
  refine z_get B (v := .ref (az 0)) 0 0 0 hiX4_remove_4 hfX4_remove_10 rfl rfl rfl (by decide) rfl rfl rfl rfl dX4_remove_5 ?_
  refine z_iload_n B dX4_remove_8 1 rfl ?_
  refine z_V1 B (kX3_kindOf l hl K az Z W x1) [1] [0] (br := [zXo ax (az 0) sa la tr tc X]) (bs' := [zXo ax (az 0) sa la tr tc X, zZo K az Z W]) (st := []) (nA := 1) (zsp rfl rfl rfl) (zsp rfl rfl rfl) 1 0 rfl rfl rfl rfl gX4_remove_X3_kindOf rfl (by decide +kernel) ⟨Nat.le_of_ble_eq_true rfl, Nat.le_of_ble_eq_true rfl⟩ rfl rfl (Nat.le_of_ble_eq_true rfl) ⟨Nat.le_of_ble_eq_true rfl, Nat.le_of_ble_eq_true rfl⟩ dX4_remove_9 z_noX (fun _ => ?_)
  refine z_iconst B (v := 2) dX4_remove_12 rfl ?_
  refine z_iceq B 20 dX4_remove_13 (by decide) (fun c2 => ?_) (fun c2 => ?_)
  · refine z_iconst B (v := 0) dX4_remove_20 rfl ?_
    refine z_istore_n B (lv' := [(2, .int 0), (0, .ref ax), (1, .int x1)]) dX4_remove_21 (by decide) rfl ?_
    refine z_aload_n B dX4_remove_22 1 rfl ?_
    refine z_get B (v := .ref (az 0)) 0 0 0 hiX4_remove_4 hfX4_remove_10 rfl rfl rfl (by decide) rfl rfl rfl rfl dX4_remove_23 ?_
    refine z_iload_n B dX4_remove_26 2 rfl ?_
    refine z_iconst B (v := 2) dX4_remove_27 rfl ?_
    refine z_bipush B (v := (-3)) dX4_remove_28 rfl ?_
    refine z_iconst B (v := 0) dX4_remove_30 rfl ?_
    refine z_V0 B (kX3_put l hl K az Z W x1 2 (-3) 0) [1] [0] (br := [zXo ax (az 0) sa la tr tc X]) (bs' := [zXo ax (az 0) sa la tr tc X, zZo K az (fX3_put Z W x1 2 (-3) 0) W]) (st := []) (nA := 4) (zsp rfl rfl rfl) (zsp rfl rfl rfl) 1 0 rfl rfl rfl rfl gX4_remove_X3_put rfl (by decide +kernel) ⟨Nat.le_of_ble_eq_true rfl, Nat.le_of_ble_eq_true rfl⟩ rfl rfl (Nat.le_of_ble_eq_true rfl) ⟨Nat.le_of_ble_eq_true rfl, Nat.le_of_ble_eq_true rfl⟩ dX4_remove_31 z_noX (fun _ => ?_)
    generalize ho3 : (fX3_put Z W x1 2 (-3) 0) = o3
    refine z_iload_n B dX4_remove_34 0 rfl ?_
    have hF : fX4_remove X Z W x1 = (0, 0, o3) := (if_pos h1).trans ((if_pos c2).trans (congrArg (fun o => fX4_remove_s3 X Z W x1 o) ho3))
    exact z_ret1 B rfl dX4_remove_35 () (by rw [hF]) (Nat.le_of_ble_eq_true rfl) (Nat.le_of_ble_eq_true rfl) (by rw [hF]) (by rw [hF])
  · refine z_iconst B (v := 1) dX4_remove_16 rfl ?_
    refine z_goto B (tgt := 21) dX4_remove_17 (by decide) ?_
    refine z_istore_n B (lv' := [(2, .int 1), (0, .ref ax), (1, .int x1)]) dX4_remove_21 (by decide) rfl ?_
    refine z_aload_n B dX4_remove_22 1 rfl ?_
    refine z_get B (v := .ref (az 0)) 0 0 0 hiX4_remove_4 hfX4_remove_10 rfl rfl rfl (by decide) rfl rfl rfl rfl dX4_remove_23 ?_
    refine z_iload_n B dX4_remove_26 2 rfl ?_
    refine z_iconst B (v := 2) dX4_remove_27 rfl ?_
    refine z_bipush B (v := (-3)) dX4_remove_28 rfl ?_
    refine z_iconst B (v := 0) dX4_remove_30 rfl ?_
    refine z_V0 B (kX3_put l hl K az Z W x1 2 (-3) 0) [1] [0] (br := [zXo ax (az 0) sa la tr tc X]) (bs' := [zXo ax (az 0) sa la tr tc X, zZo K az (fX3_put Z W x1 2 (-3) 0) W]) (st := []) (nA := 4) (zsp rfl rfl rfl) (zsp rfl rfl rfl) 1 0 rfl rfl rfl rfl gX4_remove_X3_put rfl (by decide +kernel) ⟨Nat.le_of_ble_eq_true rfl, Nat.le_of_ble_eq_true rfl⟩ rfl rfl (Nat.le_of_ble_eq_true rfl) ⟨Nat.le_of_ble_eq_true rfl, Nat.le_of_ble_eq_true rfl⟩ dX4_remove_31 z_noX (fun _ => ?_)
    generalize ho4 : (fX3_put Z W x1 2 (-3) 0) = o4
    refine z_iload_n B dX4_remove_34 0 rfl ?_
    have hF : fX4_remove X Z W x1 = (0, 1, o4) := (if_pos h1).trans ((if_neg c2).trans (congrArg (fun o => fX4_remove_s4 X Z W x1 o) ho4))
    exact z_ret1 B rfl dX4_remove_35 () (by rw [hF]) (Nat.le_of_ble_eq_true rfl) (Nat.le_of_ble_eq_true rfl) (by rw [hF]) (by rw [hF])
def fX4_setBound (X : Nat → Int32) (Z : Nat → Nat → Int32) (W : Nat → Int32) (x1 : Int32) : Nat × Int32 × (Nat → Int32) :=
  if (fX4_requireWithin x1 1 300) = 0 then
    (0, (W 3), (va_up W 3 x1))
  else
    ((fX4_requireWithin x1 1 300), 0, W)
theorem hiX4_setBound_4 : ∀ w ∈ wsX40, w ∈ wsX4_setBound := by decide +kernel
theorem hfX4_setBound_10 : Cond.fieldLink RX4 10 "ResolverFleet" "zone" "LResolverFleet$Zone;" ∈ wsX4_setBound := by decide +kernel
theorem hiX4_setBound_3 : ∀ w ∈ wsX30, w ∈ wsX4_setBound := by decide +kernel
theorem hfX4_setBound_66 : Cond.fieldLink RX4 66 "ResolverFleet$Zone" "bound" "I" ∈ wsX4_setBound := by decide +kernel
set_option maxHeartbeats 4000000 in
set_option maxRecDepth 100000 in
theorem kX4_setBound (l : Launch) (hl : l.stackTraces = false) (K : zK) (ax : Nat) (az : Nat → Nat) (sa : Nat) (la : Nat) (tr : Nat) (tc : Nat) (X : Nat → Int32) (Z : Nat → Nat → Int32) (W : Nat → Int32) (x1 : Int32) : zMet l K yX4_setBound wsX4_setBound { frames := 7, cells := 1, slots := 6, locals := 104 } [.ref ax, .int x1] [zXo ax (az 0) sa la tr tc X, zZo K az Z W] (some (.int ((fX4_setBound X Z W x1).2.1))) [zXo ax (az 0) sa la tr tc X, zZo K az Z ((fX4_setBound X Z W x1).2.2)] ((fX4_setBound X Z W x1).1 = 0) (fun E => (E = zE2 ∧ (fX4_setBound X Z W x1).1 = 2)) := by
  refine zMeN.of (cc := cX4_setBound) (maxL := 3) (ret := (some .int)) (own := RX4) (nm := "setBound") hl (by decide +kernel) rfl rfl rfl (Nat.le_of_ble_eq_true rfl) (lv := [(0, .ref ax), (1, .int x1)]) rfl ?_
  intro p e s m args below meth c A B
  refine z_iload_n B dX4_setBound_0 1 rfl ?_
  refine z_iconst B (v := 1) dX4_setBound_1 rfl ?_
  refine z_sipush B (v := 300) dX4_setBound_2 rfl ?_
  refine z_S0 B (kX4_requireWithin l hl K x1 1 300) [] [0, 1] (br := [zXo ax (az 0) sa la tr tc X, zZo K az Z W]) (bs' := [zXo ax (az 0) sa la tr tc X, zZo K az Z W]) (st := []) (nA := 3) (zsp rfl rfl rfl) (zsp rfl rfl rfl) gX4_setBound_X4_requireWithin rfl (by decide +kernel) ⟨Nat.le_of_ble_eq_true rfl, Nat.le_of_ble_eq_true rfl⟩ rfl rfl (Nat.le_of_ble_eq_true rfl) ⟨Nat.le_of_ble_eq_true rfl, Nat.le_of_ble_eq_true rfl⟩ dX4_setBound_5 (fun E hE => ?_) (fun h1 => ?_)
  · rcases hE with ⟨rfl, hx⟩
    · have hF : fX4_setBound X Z W x1 = (2, 0, W) := (if_neg (show ¬ (fX4_requireWithin x1 1 300) = 0 by rw [hx]; decide)).trans ((by rw [hx]))
      exact z_out B (⟨rfl, by rw [hF]⟩) (Nat.le_of_ble_eq_true rfl) (Nat.le_of_ble_eq_true rfl)
  refine z_aload_n B dX4_setBound_8 0 rfl ?_
  refine z_get B (v := .ref (az 0)) 0 0 0 hiX4_setBound_4 hfX4_setBound_10 rfl rfl rfl (by decide) rfl rfl rfl rfl dX4_setBound_9 ?_
  refine z_get B (v := .int (W 3)) 1 0 3 hiX4_setBound_3 hfX4_setBound_66 rfl rfl rfl (by decide) rfl rfl rfl rfl dX4_setBound_12 ?_
  refine z_istore_n B (lv' := [(2, .int (W 3)), (0, .ref ax), (1, .int x1)]) dX4_setBound_15 (by decide) rfl ?_
  refine z_aload_n B dX4_setBound_16 1 rfl ?_
  refine z_get B (v := .ref (az 0)) 0 0 0 hiX4_setBound_4 hfX4_setBound_10 rfl rfl rfl (by decide) rfl rfl rfl rfl dX4_setBound_17 ?_
  refine z_iload_n B dX4_setBound_20 2 rfl ?_
  refine z_put B 1 0 3 hiX4_setBound_3 hfX4_setBound_66 tyX3_ok nmX3 rfl rfl rfl (by decide) rfl rfl rfl rfl rfl rfl rfl (Nat.le_of_ble_eq_true rfl) (bs' := [zXo ax (az 0) sa la tr tc X, zZo K az Z (va_up W 3 x1)]) rfl dX4_setBound_21 ?_
  refine z_iload_n B dX4_setBound_24 0 rfl ?_
  have hF : fX4_setBound X Z W x1 = (0, (W 3), (va_up W 3 x1)) := if_pos h1
  exact z_ret1 B rfl dX4_setBound_25 () (by rw [hF]) (Nat.le_of_ble_eq_true rfl) (Nat.le_of_ble_eq_true rfl) (by rw [hF]) (by rw [hF])
def fX4_setAuthority (X : Nat → Int32) (Z : Nat → Nat → Int32) (W : Nat → Int32) (x1 : Int32) : Int32 × (Nat → Int32) :=
  ((W 4), (va_up W 4 x1))
theorem hiX4_setAuthority_4 : ∀ w ∈ wsX40, w ∈ wsX4_setAuthority := by decide +kernel
theorem hfX4_setAuthority_10 : Cond.fieldLink RX4 10 "ResolverFleet" "zone" "LResolverFleet$Zone;" ∈ wsX4_setAuthority := by decide +kernel
theorem hiX4_setAuthority_3 : ∀ w ∈ wsX30, w ∈ wsX4_setAuthority := by decide +kernel
theorem hfX4_setAuthority_69 : Cond.fieldLink RX4 69 "ResolverFleet$Zone" "isUp" "Z" ∈ wsX4_setAuthority := by decide +kernel
set_option maxHeartbeats 4000000 in
set_option maxRecDepth 100000 in
theorem kX4_setAuthority (l : Launch) (hl : l.stackTraces = false) (K : zK) (ax : Nat) (az : Nat → Nat) (sa : Nat) (la : Nat) (tr : Nat) (tc : Nat) (X : Nat → Int32) (Z : Nat → Nat → Int32) (W : Nat → Int32) (x1 : Int32) (hx1 : x1 = 0 ∨ x1 = 1) (hW4 : (W 4) = 0 ∨ (W 4) = 1) : zMet l K yX4_setAuthority wsX4_setAuthority { frames := 0, cells := 0, slots := 0, locals := 0 } [.ref ax, .int x1] [zXo ax (az 0) sa la tr tc X, zZo K az Z W] (some (.int ((fX4_setAuthority X Z W x1).1))) [zXo ax (az 0) sa la tr tc X, zZo K az Z ((fX4_setAuthority X Z W x1).2)] True zNo := by
  refine zMeN.of (cc := cX4_setAuthority) (maxL := 3) (ret := (some .boolean)) (own := RX4) (nm := "setAuthority") hl (by decide +kernel) rfl rfl rfl (Nat.le_of_ble_eq_true rfl) (lv := [(0, .ref ax), (1, .int x1)]) rfl ?_
  intro p e s m args below meth c A B
  refine z_aload_n B dX4_setAuthority_0 0 rfl ?_
  refine z_get B (v := .ref (az 0)) 0 0 0 hiX4_setAuthority_4 hfX4_setAuthority_10 rfl rfl rfl (by decide) rfl rfl rfl rfl dX4_setAuthority_1 ?_
  refine z_get B (v := .int (W 4)) 1 0 4 hiX4_setAuthority_3 hfX4_setAuthority_69 rfl rfl rfl (by decide) rfl rfl rfl rfl dX4_setAuthority_4 ?_
  refine z_istore_n B (lv' := [(2, .int (W 4)), (0, .ref ax), (1, .int x1)]) dX4_setAuthority_7 (by decide) rfl ?_
  refine z_aload_n B dX4_setAuthority_8 1 rfl ?_
  refine z_get B (v := .ref (az 0)) 0 0 0 hiX4_setAuthority_4 hfX4_setAuthority_10 rfl rfl rfl (by decide) rfl rfl rfl rfl dX4_setAuthority_9 ?_
  refine z_iload_n B dX4_setAuthority_12 2 rfl ?_
  refine z_put B 1 0 4 hiX4_setAuthority_3 hfX4_setAuthority_69 tyX3_ok nmX3 rfl rfl rfl (by decide) rfl rfl rfl rfl rfl (z_nz hx1) (z_fz hx1) (Nat.le_of_ble_eq_true rfl) (bs' := [zXo ax (az 0) sa la tr tc X, zZo K az Z (va_up W 4 x1)]) rfl dX4_setAuthority_13 ?_
  refine z_iload_n B dX4_setAuthority_16 0 rfl ?_
  have hF : fX4_setAuthority X Z W x1 = ((W 4), (va_up W 4 x1)) := rfl
  exact z_ret1 B (z_nz hW4) dX4_setAuthority_17 () (trivial) (Nat.le_of_ble_eq_true rfl) (Nat.le_of_ble_eq_true rfl) (by rw [hF]) (by rw [hF])
def fX4_truth_L8 (X : Nat → Int32) (Z : Nat → Nat → Int32) (W : Nat → Int32) (x1 : Int32) : Nat → Nat → (Int32) → Nat × Int32
  | 0, a, cur =>
    (0, (-2))
  | n + 1, a, cur =>
    if (fX3_kindOf Z W cur) = 1 then
      fX4_truth_L8 X Z W x1 n (a + 1) (fX3_valueOf Z W cur)
    else
      if (fX3_kindOf Z W cur) = 0 then
        (0, (fX3_valueOf Z W cur))
      else
        (0, (-1))
def fX4_truth (X : Nat → Int32) (Z : Nat → Nat → Int32) (W : Nat → Int32) (x1 : Int32) : Nat × Int32 :=
  if (fX4_requireName x1) = 0 then
    fX4_truth_L8 X Z W x1 5 0 x1
  else
    ((fX4_requireName x1), 0)
theorem hiX4_truth_4 : ∀ w ∈ wsX40, w ∈ wsX4_truth := by decide +kernel
theorem hfX4_truth_10 : Cond.fieldLink RX4 10 "ResolverFleet" "zone" "LResolverFleet$Zone;" ∈ wsX4_truth := by decide +kernel
set_option maxHeartbeats 4000000 in
set_option maxRecDepth 100000 in
theorem kX4_truth_L8 (l : Launch) (hl : l.stackTraces = false) (K : zK) (ax : Nat) (az : Nat → Nat) (sa : Nat) (la : Nat) (tr : Nat) (tc : Nat) (X : Nat → Int32) (Z : Nat → Nat → Int32) (W : Nat → Int32) (x1 : Int32) {p : Program} {e : Env} {s : State} {m : MethodId} {args : Array Value} {below : List Frame} {meth : Method} {c : Code} {A : Nat → Prop} (B : zF K p l s m args meth c A cX4_truth 6 RX4 "truth" wsX4_truth (some .int) []) : ∀ (n a : Nat) (cur : Int32), a + n = 5 → fX4_truth X Z W x1 = fX4_truth_L8 X Z W x1 n a cur → zW K p l e { frames := 7, cells := 1, slots := 6, locals := 102 } s m args below meth c A (vx_MQ below (zQ K A (fun _ : Unit => ((some (.int ((fX4_truth X Z W x1).2))), [zXo ax (az 0) sa la tr tc X, zZo K az Z W])) (fun _ => ((fX4_truth X Z W x1).1 = 0))) (zX K A [zXo ax (az 0) sa la tr tc X, zZo K az Z W] (fun E => (E = zE1 ∧ (fX4_truth X Z W x1).1 = 1))) args s 1 6 A) 1 6 [zXo ax (az 0) sa la tr tc X, zZo K az Z W] [(0, .ref ax), (1, .int x1), (3, .int (nI a)), (2, .int cur)] [] 8 := by
  intro n
  induction n with
  | zero =>
    intro a cur ha  hF0
    refine z_iload_n B dX4_truth_8 2 rfl ?_
    refine z_iconst B (v := 4) dX4_truth_9 rfl ?_
    refine z_icgt B 60 dX4_truth_10 (by decide) (fun _ => ?_) (fun h => absurd (z_lgt0 ha (by decide)) h)
    refine z_bipush B (v := (-2)) dX4_truth_60 rfl ?_
    have hF : fX4_truth X Z W x1 = (0, (-2)) := hF0
    exact z_ret1 B rfl dX4_truth_62 () (by rw [hF]) (Nat.le_of_ble_eq_true rfl) (Nat.le_of_ble_eq_true rfl) (by rw [hF]) (by rw [hF])
  | succ n ih =>
    intro a cur ha  hF0
    refine z_iload_n B dX4_truth_8 2 rfl ?_
    refine z_iconst B (v := 4) dX4_truth_9 rfl ?_
    refine z_icgt B 60 dX4_truth_10 (by decide) (fun h => absurd h (z_lgtS ha (by decide))) (fun _ => ?_)
    refine z_aload_n B dX4_truth_13 0 rfl ?_
    refine z_get B (v := .ref (az 0)) 0 0 0 hiX4_truth_4 hfX4_truth_10 rfl rfl rfl (by decide) rfl rfl rfl rfl dX4_truth_14 ?_
    refine z_iload_n B dX4_truth_17 3 rfl ?_
    refine z_V1 B (kX3_kindOf l hl K az Z W cur) [1] [0] (br := [zXo ax (az 0) sa la tr tc X]) (bs' := [zXo ax (az 0) sa la tr tc X, zZo K az Z W]) (st := []) (nA := 1) (zsp rfl rfl rfl) (zsp rfl rfl rfl) 1 0 rfl rfl rfl rfl gX4_truth_X3_kindOf rfl (by decide +kernel) ⟨Nat.le_of_ble_eq_true rfl, Nat.le_of_ble_eq_true rfl⟩ rfl rfl (Nat.le_of_ble_eq_true rfl) ⟨Nat.le_of_ble_eq_true rfl, Nat.le_of_ble_eq_true rfl⟩ dX4_truth_18 z_noX (fun _ => ?_)
    refine z_istore B (lv' := [(4, .int (fX3_kindOf Z W cur)), (0, .ref ax), (1, .int x1), (3, .int (nI a)), (2, .int cur)]) dX4_truth_21 (by decide) rfl ?_
    refine z_aload_n B dX4_truth_23 1 rfl ?_
    refine z_get B (v := .ref (az 0)) 0 0 0 hiX4_truth_4 hfX4_truth_10 rfl rfl rfl (by decide) rfl rfl rfl rfl dX4_truth_24 ?_
    refine z_iload_n B dX4_truth_27 4 rfl ?_
    refine z_V1 B (kX3_valueOf l hl K az Z W cur) [1] [0] (br := [zXo ax (az 0) sa la tr tc X]) (bs' := [zXo ax (az 0) sa la tr tc X, zZo K az Z W]) (st := []) (nA := 1) (zsp rfl rfl rfl) (zsp rfl rfl rfl) 1 0 rfl rfl rfl rfl gX4_truth_X3_valueOf rfl (by decide +kernel) ⟨Nat.le_of_ble_eq_true rfl, Nat.le_of_ble_eq_true rfl⟩ rfl rfl (Nat.le_of_ble_eq_true rfl) ⟨Nat.le_of_ble_eq_true rfl, Nat.le_of_ble_eq_true rfl⟩ dX4_truth_28 z_noX (fun _ => ?_)
    refine z_istore B (lv' := [(5, .int (fX3_valueOf Z W cur)), (4, .int (fX3_kindOf Z W cur)), (0, .ref ax), (1, .int x1), (3, .int (nI a)), (2, .int cur)]) dX4_truth_31 (by decide) rfl ?_
    refine z_iload B dX4_truth_33 1 rfl ?_
    refine z_iconst B (v := 1) dX4_truth_35 rfl ?_
    refine z_iceq B 51 dX4_truth_36 (by decide) (fun c2 => ?_) (fun c2 => ?_)
    · refine z_iload B dX4_truth_51 0 rfl ?_
      refine z_istore_n B (lv' := [(2, .int (fX3_valueOf Z W cur)), (5, .int (fX3_valueOf Z W cur)), (4, .int (fX3_kindOf Z W cur)), (0, .ref ax), (1, .int x1), (3, .int (nI a))]) dX4_truth_53 (by decide) rfl ?_
      refine z_iinc B (v := nI (a + 1)) (lv' := [(3, .int (nI (a + 1))), (2, .int (fX3_valueOf Z W cur)), (5, .int (fX3_valueOf Z W cur)), (4, .int (fX3_kindOf Z W cur)), (0, .ref ax), (1, .int x1)]) dX4_truth_54 5 rfl (nI_1 a) (by decide) rfl ?_
      refine z_goto B (tgt := 8) dX4_truth_57 (by decide) ?_
      refine z_lsub [4, 5, 0, 1] rfl ?_
      have hF : fX4_truth X Z W x1 = fX4_truth_L8 X Z W x1 n (a + 1) (fX3_valueOf Z W cur) := (hF0).trans (if_pos c2)
      exact ih (a + 1) (fX3_valueOf Z W cur) (by omega)  hF
    · refine z_iload B dX4_truth_39 1 rfl ?_
      refine z_ifne B 49 dX4_truth_41 (by decide) (fun c3 => ?_) (fun c3 => ?_)
      · refine z_iload B dX4_truth_44 0 rfl ?_
        refine z_goto B (tgt := 50) dX4_truth_46 (by decide) ?_
        have hF : fX4_truth X Z W x1 = (0, (fX3_valueOf Z W cur)) := (hF0).trans ((if_neg c2).trans (if_pos c3))
        exact z_ret1 B rfl dX4_truth_50 () (by rw [hF]) (Nat.le_of_ble_eq_true rfl) (Nat.le_of_ble_eq_true rfl) (by rw [hF]) (by rw [hF])
      · refine z_iconst B (v := (-1)) dX4_truth_49 rfl ?_
        have hF : fX4_truth X Z W x1 = (0, (-1)) := (hF0).trans ((if_neg c2).trans (if_neg c3))
        exact z_ret1 B rfl dX4_truth_50 () (by rw [hF]) (Nat.le_of_ble_eq_true rfl) (Nat.le_of_ble_eq_true rfl) (by rw [hF]) (by rw [hF])
set_option maxHeartbeats 4000000 in
set_option maxRecDepth 100000 in
theorem kX4_truth (l : Launch) (hl : l.stackTraces = false) (K : zK) (ax : Nat) (az : Nat → Nat) (sa : Nat) (la : Nat) (tr : Nat) (tc : Nat) (X : Nat → Int32) (Z : Nat → Nat → Int32) (W : Nat → Int32) (x1 : Int32) : zMet l K yX4_truth wsX4_truth { frames := 7, cells := 1, slots := 6, locals := 102 } [.ref ax, .int x1] [zXo ax (az 0) sa la tr tc X, zZo K az Z W] (some (.int ((fX4_truth X Z W x1).2))) [zXo ax (az 0) sa la tr tc X, zZo K az Z W] ((fX4_truth X Z W x1).1 = 0) (fun E => (E = zE1 ∧ (fX4_truth X Z W x1).1 = 1)) := by
  refine zMeN.of (cc := cX4_truth) (maxL := 6) (ret := (some .int)) (own := RX4) (nm := "truth") hl (by decide +kernel) rfl rfl rfl (Nat.le_of_ble_eq_true rfl) (lv := [(0, .ref ax), (1, .int x1)]) rfl ?_
  intro p e s m args below meth c A B
  refine z_iload_n B dX4_truth_0 1 rfl ?_
  refine z_S0 B (kX4_requireName l hl K x1) [] [0, 1] (br := [zXo ax (az 0) sa la tr tc X, zZo K az Z W]) (bs' := [zXo ax (az 0) sa la tr tc X, zZo K az Z W]) (st := []) (nA := 1) (zsp rfl rfl rfl) (zsp rfl rfl rfl) gX4_truth_X4_requireName rfl (by decide +kernel) ⟨Nat.le_of_ble_eq_true rfl, Nat.le_of_ble_eq_true rfl⟩ rfl rfl (Nat.le_of_ble_eq_true rfl) ⟨Nat.le_of_ble_eq_true rfl, Nat.le_of_ble_eq_true rfl⟩ dX4_truth_1 (fun E hE => ?_) (fun h1 => ?_)
  · rcases hE with ⟨rfl, hx⟩
    · have hF : fX4_truth X Z W x1 = (1, 0) := (if_neg (show ¬ (fX4_requireName x1) = 0 by rw [hx]; decide)).trans ((by rw [hx]))
      exact z_out B (⟨rfl, by rw [hF]⟩) (Nat.le_of_ble_eq_true rfl) (Nat.le_of_ble_eq_true rfl)
  refine z_iload_n B dX4_truth_4 1 rfl ?_
  refine z_istore_n B (lv' := [(2, .int x1), (0, .ref ax), (1, .int x1)]) dX4_truth_5 (by decide) rfl ?_
  refine z_iconst B (v := 0) dX4_truth_6 rfl ?_
  refine z_istore_n B (lv' := [(3, .int 0), (2, .int x1), (0, .ref ax), (1, .int x1)]) dX4_truth_7 (by decide) rfl ?_
  refine z_lsub [2, 3, 0, 1] rfl ?_
  have hF : fX4_truth X Z W x1 = fX4_truth_L8 X Z W x1 5 0 x1 := if_pos h1
  exact kX4_truth_L8 l hl K ax az sa la tr tc X Z W x1 B 5 0 x1 (by omega)  hF
def fX4_pass (X : Nat → Int32) (x1 : Int32) : Nat × Int32 × (Nat → Int32) :=
  if (fX4_requireWithin x1 1 1000) = 0 then
    (0, ((X 3) + x1), (va_up X 3 ((X 3) + x1)))
  else
    ((fX4_requireWithin x1 1 1000), 0, X)
theorem hiX4_pass_4 : ∀ w ∈ wsX40, w ∈ wsX4_pass := by decide +kernel
theorem hfX4_pass_108 : Cond.fieldLink RX4 108 "ResolverFleet" "now" "I" ∈ wsX4_pass := by decide +kernel
set_option maxHeartbeats 4000000 in
set_option maxRecDepth 100000 in
theorem kX4_pass (l : Launch) (hl : l.stackTraces = false) (K : zK) (ax : Nat) (zn : Nat) (sa : Nat) (la : Nat) (tr : Nat) (tc : Nat) (X : Nat → Int32) (x1 : Int32) : zMet l K yX4_pass wsX4_pass { frames := 7, cells := 1, slots := 6, locals := 104 } [.ref ax, .int x1] [zXo ax zn sa la tr tc X] (some (.int ((fX4_pass X x1).2.1))) [zXo ax zn sa la tr tc ((fX4_pass X x1).2.2)] ((fX4_pass X x1).1 = 0) (fun E => (E = zE2 ∧ (fX4_pass X x1).1 = 2)) := by
  refine zMeN.of (cc := cX4_pass) (maxL := 2) (ret := (some .int)) (own := RX4) (nm := "pass") hl (by decide +kernel) rfl rfl rfl (Nat.le_of_ble_eq_true rfl) (lv := [(0, .ref ax), (1, .int x1)]) rfl ?_
  intro p e s m args below meth c A B
  refine z_iload_n B dX4_pass_0 1 rfl ?_
  refine z_iconst B (v := 1) dX4_pass_1 rfl ?_
  refine z_sipush B (v := 1000) dX4_pass_2 rfl ?_
  refine z_S0 B (kX4_requireWithin l hl K x1 1 1000) [] [0] (br := [zXo ax zn sa la tr tc X]) (bs' := [zXo ax zn sa la tr tc X]) (st := []) (nA := 3) (zsp rfl rfl rfl) (zsp rfl rfl rfl) gX4_pass_X4_requireWithin rfl (by decide +kernel) ⟨Nat.le_of_ble_eq_true rfl, Nat.le_of_ble_eq_true rfl⟩ rfl rfl (Nat.le_of_ble_eq_true rfl) ⟨Nat.le_of_ble_eq_true rfl, Nat.le_of_ble_eq_true rfl⟩ dX4_pass_5 (fun E hE => ?_) (fun h1 => ?_)
  · rcases hE with ⟨rfl, hx⟩
    · have hF : fX4_pass X x1 = (2, 0, X) := (if_neg (show ¬ (fX4_requireWithin x1 1 1000) = 0 by rw [hx]; decide)).trans ((by rw [hx]))
      exact z_out B (⟨rfl, by rw [hF]⟩) (Nat.le_of_ble_eq_true rfl) (Nat.le_of_ble_eq_true rfl)
  refine z_aload_n B dX4_pass_8 0 rfl ?_
  refine z_dup B dX4_pass_9 rfl ?_
  refine z_get B (v := .int (X 3)) 0 0 3 hiX4_pass_4 hfX4_pass_108 rfl rfl rfl (by decide) rfl rfl rfl rfl dX4_pass_10 ?_
  refine z_iload_n B dX4_pass_13 1 rfl ?_
  refine z_iadd B dX4_pass_14 ?_
  refine z_put B 0 0 3 hiX4_pass_4 hfX4_pass_108 tyX4_ok nmX4 rfl rfl rfl (by decide) rfl rfl rfl rfl rfl rfl rfl (Nat.le_of_ble_eq_true rfl) (bs' := [zXo ax zn sa la tr tc (va_up X 3 ((X 3) + x1))]) rfl dX4_pass_15 ?_
  refine z_aload_n B dX4_pass_18 0 rfl ?_
  refine z_get B (v := .int ((X 3) + x1)) 0 0 3 hiX4_pass_4 hfX4_pass_108 rfl rfl rfl (by decide) rfl rfl rfl rfl dX4_pass_19 ?_
  have hF : fX4_pass X x1 = (0, ((X 3) + x1), (va_up X 3 ((X 3) + x1))) := if_pos h1
  exact z_ret1 B rfl dX4_pass_22 () (by rw [hF]) (Nat.le_of_ble_eq_true rfl) (Nat.le_of_ble_eq_true rfl) (by rw [hF]) (by rw [hF])
def fX4_time (X : Nat → Int32) : Int32 :=
  (X 3)
theorem hiX4_time_4 : ∀ w ∈ wsX40, w ∈ wsX4_time := by decide +kernel
theorem hfX4_time_108 : Cond.fieldLink RX4 108 "ResolverFleet" "now" "I" ∈ wsX4_time := by decide +kernel
set_option maxHeartbeats 4000000 in
set_option maxRecDepth 100000 in
theorem kX4_time (l : Launch) (hl : l.stackTraces = false) (K : zK) (ax : Nat) (zn : Nat) (sa : Nat) (la : Nat) (tr : Nat) (tc : Nat) (X : Nat → Int32) : zMet l K yX4_time wsX4_time { frames := 0, cells := 0, slots := 0, locals := 0 } [.ref ax] [zXo ax zn sa la tr tc X] (some (.int (fX4_time X))) [zXo ax zn sa la tr tc X] True zNo := by
  refine zMeN.of (cc := cX4_time) (maxL := 1) (ret := (some .int)) (own := RX4) (nm := "time") hl (by decide +kernel) rfl rfl rfl (Nat.le_of_ble_eq_true rfl) (lv := [(0, .ref ax)]) rfl ?_
  intro p e s m args below meth c A B
  refine z_aload_n B dX4_time_0 0 rfl ?_
  refine z_get B (v := .int (X 3)) 0 0 3 hiX4_time_4 hfX4_time_108 rfl rfl rfl (by decide) rfl rfl rfl rfl dX4_time_1 ?_
  have hF : fX4_time X = (X 3) := rfl
  exact z_ret1 B rfl dX4_time_4 () (trivial) (Nat.le_of_ble_eq_true rfl) (Nat.le_of_ble_eq_true rfl) (by rw [hF]) (by rw [hF])
def fX4_lastSite (X : Nat → Int32) : Int32 :=
  (X 5)
theorem hiX4_lastSite_4 : ∀ w ∈ wsX40, w ∈ wsX4_lastSite := by decide +kernel
theorem hfX4_lastSite_29 : Cond.fieldLink RX4 29 "ResolverFleet" "lastSiteNumber" "I" ∈ wsX4_lastSite := by decide +kernel
set_option maxHeartbeats 4000000 in
set_option maxRecDepth 100000 in
theorem kX4_lastSite (l : Launch) (hl : l.stackTraces = false) (K : zK) (ax : Nat) (zn : Nat) (sa : Nat) (la : Nat) (tr : Nat) (tc : Nat) (X : Nat → Int32) : zMet l K yX4_lastSite wsX4_lastSite { frames := 0, cells := 0, slots := 0, locals := 0 } [.ref ax] [zXo ax zn sa la tr tc X] (some (.int (fX4_lastSite X))) [zXo ax zn sa la tr tc X] True zNo := by
  refine zMeN.of (cc := cX4_lastSite) (maxL := 1) (ret := (some .int)) (own := RX4) (nm := "lastSite") hl (by decide +kernel) rfl rfl rfl (Nat.le_of_ble_eq_true rfl) (lv := [(0, .ref ax)]) rfl ?_
  intro p e s m args below meth c A B
  refine z_aload_n B dX4_lastSite_0 0 rfl ?_
  refine z_get B (v := .int (X 5)) 0 0 5 hiX4_lastSite_4 hfX4_lastSite_29 rfl rfl rfl (by decide) rfl rfl rfl rfl dX4_lastSite_1 ?_
  have hF : fX4_lastSite X = (X 5) := rfl
  exact z_ret1 B rfl dX4_lastSite_4 () (trivial) (Nat.le_of_ble_eq_true rfl) (Nat.le_of_ble_eq_true rfl) (by rw [hF]) (by rw [hF])
def fX4_queries (X : Nat → Int32) : Int32 :=
  (X 8)
theorem hiX4_queries_4 : ∀ w ∈ wsX40, w ∈ wsX4_queries := by decide +kernel
theorem hfX4_queries_158 : Cond.fieldLink RX4 158 "ResolverFleet" "queryCount" "I" ∈ wsX4_queries := by decide +kernel
set_option maxHeartbeats 4000000 in
set_option maxRecDepth 100000 in
theorem kX4_queries (l : Launch) (hl : l.stackTraces = false) (K : zK) (ax : Nat) (zn : Nat) (sa : Nat) (la : Nat) (tr : Nat) (tc : Nat) (X : Nat → Int32) : zMet l K yX4_queries wsX4_queries { frames := 0, cells := 0, slots := 0, locals := 0 } [.ref ax] [zXo ax zn sa la tr tc X] (some (.int (fX4_queries X))) [zXo ax zn sa la tr tc X] True zNo := by
  refine zMeN.of (cc := cX4_queries) (maxL := 1) (ret := (some .int)) (own := RX4) (nm := "queries") hl (by decide +kernel) rfl rfl rfl (Nat.le_of_ble_eq_true rfl) (lv := [(0, .ref ax)]) rfl ?_
  intro p e s m args below meth c A B
  refine z_aload_n B dX4_queries_0 0 rfl ?_
  refine z_get B (v := .int (X 8)) 0 0 8 hiX4_queries_4 hfX4_queries_158 rfl rfl rfl (by decide) rfl rfl rfl rfl dX4_queries_1 ?_
  have hF : fX4_queries X = (X 8) := rfl
  exact z_ret1 B rfl dX4_queries_4 () (trivial) (Nat.le_of_ble_eq_true rfl) (Nat.le_of_ble_eq_true rfl) (by rw [hF]) (by rw [hF])
def fX4_fetches (X : Nat → Int32) : Int32 :=
  (X 9)
theorem hiX4_fetches_4 : ∀ w ∈ wsX40, w ∈ wsX4_fetches := by decide +kernel
theorem hfX4_fetches_161 : Cond.fieldLink RX4 161 "ResolverFleet" "fetchCount" "I" ∈ wsX4_fetches := by decide +kernel
set_option maxHeartbeats 4000000 in
set_option maxRecDepth 100000 in
theorem kX4_fetches (l : Launch) (hl : l.stackTraces = false) (K : zK) (ax : Nat) (zn : Nat) (sa : Nat) (la : Nat) (tr : Nat) (tc : Nat) (X : Nat → Int32) : zMet l K yX4_fetches wsX4_fetches { frames := 0, cells := 0, slots := 0, locals := 0 } [.ref ax] [zXo ax zn sa la tr tc X] (some (.int (fX4_fetches X))) [zXo ax zn sa la tr tc X] True zNo := by
  refine zMeN.of (cc := cX4_fetches) (maxL := 1) (ret := (some .int)) (own := RX4) (nm := "fetches") hl (by decide +kernel) rfl rfl rfl (Nat.le_of_ble_eq_true rfl) (lv := [(0, .ref ax)]) rfl ?_
  intro p e s m args below meth c A B
  refine z_aload_n B dX4_fetches_0 0 rfl ?_
  refine z_get B (v := .int (X 9)) 0 0 9 hiX4_fetches_4 hfX4_fetches_161 rfl rfl rfl (by decide) rfl rfl rfl rfl dX4_fetches_1 ?_
  have hF : fX4_fetches X = (X 9) := rfl
  exact z_ret1 B rfl dX4_fetches_4 () (trivial) (Nat.le_of_ble_eq_true rfl) (Nat.le_of_ble_eq_true rfl) (by rw [hF]) (by rw [hF])
def fX4_prefetches (X : Nat → Int32) : Int32 :=
  (X 10)
theorem hiX4_prefetches_4 : ∀ w ∈ wsX40, w ∈ wsX4_prefetches := by decide +kernel
theorem hfX4_prefetches_164 : Cond.fieldLink RX4 164 "ResolverFleet" "prefetchCount" "I" ∈ wsX4_prefetches := by decide +kernel
set_option maxHeartbeats 4000000 in
set_option maxRecDepth 100000 in
theorem kX4_prefetches (l : Launch) (hl : l.stackTraces = false) (K : zK) (ax : Nat) (zn : Nat) (sa : Nat) (la : Nat) (tr : Nat) (tc : Nat) (X : Nat → Int32) : zMet l K yX4_prefetches wsX4_prefetches { frames := 0, cells := 0, slots := 0, locals := 0 } [.ref ax] [zXo ax zn sa la tr tc X] (some (.int (fX4_prefetches X))) [zXo ax zn sa la tr tc X] True zNo := by
  refine zMeN.of (cc := cX4_prefetches) (maxL := 1) (ret := (some .int)) (own := RX4) (nm := "prefetches") hl (by decide +kernel) rfl rfl rfl (Nat.le_of_ble_eq_true rfl) (lv := [(0, .ref ax)]) rfl ?_
  intro p e s m args below meth c A B
  refine z_aload_n B dX4_prefetches_0 0 rfl ?_
  refine z_get B (v := .int (X 10)) 0 0 10 hiX4_prefetches_4 hfX4_prefetches_164 rfl rfl rfl (by decide) rfl rfl rfl rfl dX4_prefetches_1 ?_
  have hF : fX4_prefetches X = (X 10) := rfl
  exact z_ret1 B rfl dX4_prefetches_4 () (trivial) (Nat.le_of_ble_eq_true rfl) (Nat.le_of_ble_eq_true rfl) (by rw [hF]) (by rw [hF])
def fX4_staleAnswers (X : Nat → Int32) : Int32 :=
  (X 11)
theorem hiX4_staleAnswers_4 : ∀ w ∈ wsX40, w ∈ wsX4_staleAnswers := by decide +kernel
theorem hfX4_staleAnswers_167 : Cond.fieldLink RX4 167 "ResolverFleet" "staleCount" "I" ∈ wsX4_staleAnswers := by decide +kernel
set_option maxHeartbeats 4000000 in
set_option maxRecDepth 100000 in
theorem kX4_staleAnswers (l : Launch) (hl : l.stackTraces = false) (K : zK) (ax : Nat) (zn : Nat) (sa : Nat) (la : Nat) (tr : Nat) (tc : Nat) (X : Nat → Int32) : zMet l K yX4_staleAnswers wsX4_staleAnswers { frames := 0, cells := 0, slots := 0, locals := 0 } [.ref ax] [zXo ax zn sa la tr tc X] (some (.int (fX4_staleAnswers X))) [zXo ax zn sa la tr tc X] True zNo := by
  refine zMeN.of (cc := cX4_staleAnswers) (maxL := 1) (ret := (some .int)) (own := RX4) (nm := "staleAnswers") hl (by decide +kernel) rfl rfl rfl (Nat.le_of_ble_eq_true rfl) (lv := [(0, .ref ax)]) rfl ?_
  intro p e s m args below meth c A B
  refine z_aload_n B dX4_staleAnswers_0 0 rfl ?_
  refine z_get B (v := .int (X 11)) 0 0 11 hiX4_staleAnswers_4 hfX4_staleAnswers_167 rfl rfl rfl (by decide) rfl rfl rfl rfl dX4_staleAnswers_1 ?_
  have hF : fX4_staleAnswers X = (X 11) := rfl
  exact z_ret1 B rfl dX4_staleAnswers_4 () (trivial) (Nat.le_of_ble_eq_true rfl) (Nat.le_of_ble_eq_true rfl) (by rw [hF]) (by rw [hF])
def fX4_failures (X : Nat → Int32) : Int32 :=
  (X 12)
theorem hiX4_failures_4 : ∀ w ∈ wsX40, w ∈ wsX4_failures := by decide +kernel
theorem hfX4_failures_170 : Cond.fieldLink RX4 170 "ResolverFleet" "failureCount" "I" ∈ wsX4_failures := by decide +kernel
set_option maxHeartbeats 4000000 in
set_option maxRecDepth 100000 in
theorem kX4_failures (l : Launch) (hl : l.stackTraces = false) (K : zK) (ax : Nat) (zn : Nat) (sa : Nat) (la : Nat) (tr : Nat) (tc : Nat) (X : Nat → Int32) : zMet l K yX4_failures wsX4_failures { frames := 0, cells := 0, slots := 0, locals := 0 } [.ref ax] [zXo ax zn sa la tr tc X] (some (.int (fX4_failures X))) [zXo ax zn sa la tr tc X] True zNo := by
  refine zMeN.of (cc := cX4_failures) (maxL := 1) (ret := (some .int)) (own := RX4) (nm := "failures") hl (by decide +kernel) rfl rfl rfl (Nat.le_of_ble_eq_true rfl) (lv := [(0, .ref ax)]) rfl ?_
  intro p e s m args below meth c A B
  refine z_aload_n B dX4_failures_0 0 rfl ?_
  refine z_get B (v := .int (X 12)) 0 0 12 hiX4_failures_4 hfX4_failures_170 rfl rfl rfl (by decide) rfl rfl rfl rfl dX4_failures_1 ?_
  have hF : fX4_failures X = (X 12) := rfl
  exact z_ret1 B rfl dX4_failures_4 () (trivial) (Nat.le_of_ble_eq_true rfl) (Nat.le_of_ble_eq_true rfl) (by rw [hF]) (by rw [hF])
def fX4_lastWasStale (X : Nat → Int32) (F : Nat → Int32) (O : Nat → Int32) : Int32 :=
  (O 5)
theorem hiX4_lastWasStale_4 : ∀ w ∈ wsX40, w ∈ wsX4_lastWasStale := by decide +kernel
theorem hfX4_lastWasStale_25 : Cond.fieldLink RX4 25 "ResolverFleet" "last" "LResolverFleet$Course;" ∈ wsX4_lastWasStale := by decide +kernel
theorem hiX4_lastWasStale_1 : ∀ w ∈ wsX10, w ∈ wsX4_lastWasStale := by decide +kernel
theorem hfX4_lastWasStale_133 : Cond.fieldLink RX4 133 "ResolverFleet$Course" "isStale" "Z" ∈ wsX4_lastWasStale := by decide +kernel
set_option maxHeartbeats 4000000 in
set_option maxRecDepth 100000 in
theorem kX4_lastWasStale (l : Launch) (hl : l.stackTraces = false) (K : zK) (ax : Nat) (zn : Nat) (sa : Nat) (ak : Nat → Nat) (tr : Nat) (tc : Nat) (X : Nat → Int32) (F : Nat → Int32) (O : Nat → Int32) (hO5 : (O 5) = 0 ∨ (O 5) = 1) : zMet l K yX4_lastWasStale wsX4_lastWasStale { frames := 0, cells := 0, slots := 0, locals := 0 } [.ref ax] [zXo ax zn sa (ak 0) tr tc X, zCo K ak F O] (some (.int (fX4_lastWasStale X F O))) [zXo ax zn sa (ak 0) tr tc X, zCo K ak F O] True zNo := by
  refine zMeN.of (cc := cX4_lastWasStale) (maxL := 1) (ret := (some .boolean)) (own := RX4) (nm := "lastWasStale") hl (by decide +kernel) rfl rfl rfl (Nat.le_of_ble_eq_true rfl) (lv := [(0, .ref ax)]) rfl ?_
  intro p e s m args below meth c A B
  refine z_aload_n B dX4_lastWasStale_0 0 rfl ?_
  refine z_get B (v := .ref (ak 0)) 0 0 4 hiX4_lastWasStale_4 hfX4_lastWasStale_25 rfl rfl rfl (by decide) rfl rfl rfl rfl dX4_lastWasStale_1 ?_
  refine z_get B (v := .int (O 5)) 1 0 5 hiX4_lastWasStale_1 hfX4_lastWasStale_133 rfl rfl rfl (by decide) rfl rfl rfl rfl dX4_lastWasStale_4 ?_
  have hF : fX4_lastWasStale X F O = (O 5) := rfl
  exact z_ret1 B (z_nz hO5) dX4_lastWasStale_7 () (trivial) (Nat.le_of_ble_eq_true rfl) (Nat.le_of_ble_eq_true rfl) (by rw [hF]) (by rw [hF])
def fX4_lastLookUps (X : Nat → Int32) (F : Nat → Int32) (O : Nat → Int32) : Int32 :=
  (O 2)
theorem hiX4_lastLookUps_4 : ∀ w ∈ wsX40, w ∈ wsX4_lastLookUps := by decide +kernel
theorem hfX4_lastLookUps_25 : Cond.fieldLink RX4 25 "ResolverFleet" "last" "LResolverFleet$Course;" ∈ wsX4_lastLookUps := by decide +kernel
theorem hiX4_lastLookUps_1 : ∀ w ∈ wsX10, w ∈ wsX4_lastLookUps := by decide +kernel
theorem hfX4_lastLookUps_136 : Cond.fieldLink RX4 136 "ResolverFleet$Course" "lookUps" "I" ∈ wsX4_lastLookUps := by decide +kernel
set_option maxHeartbeats 4000000 in
set_option maxRecDepth 100000 in
theorem kX4_lastLookUps (l : Launch) (hl : l.stackTraces = false) (K : zK) (ax : Nat) (zn : Nat) (sa : Nat) (ak : Nat → Nat) (tr : Nat) (tc : Nat) (X : Nat → Int32) (F : Nat → Int32) (O : Nat → Int32) : zMet l K yX4_lastLookUps wsX4_lastLookUps { frames := 0, cells := 0, slots := 0, locals := 0 } [.ref ax] [zXo ax zn sa (ak 0) tr tc X, zCo K ak F O] (some (.int (fX4_lastLookUps X F O))) [zXo ax zn sa (ak 0) tr tc X, zCo K ak F O] True zNo := by
  refine zMeN.of (cc := cX4_lastLookUps) (maxL := 1) (ret := (some .int)) (own := RX4) (nm := "lastLookUps") hl (by decide +kernel) rfl rfl rfl (Nat.le_of_ble_eq_true rfl) (lv := [(0, .ref ax)]) rfl ?_
  intro p e s m args below meth c A B
  refine z_aload_n B dX4_lastLookUps_0 0 rfl ?_
  refine z_get B (v := .ref (ak 0)) 0 0 4 hiX4_lastLookUps_4 hfX4_lastLookUps_25 rfl rfl rfl (by decide) rfl rfl rfl rfl dX4_lastLookUps_1 ?_
  refine z_get B (v := .int (O 2)) 1 0 2 hiX4_lastLookUps_1 hfX4_lastLookUps_136 rfl rfl rfl (by decide) rfl rfl rfl rfl dX4_lastLookUps_4 ?_
  have hF : fX4_lastLookUps X F O = (O 2) := rfl
  exact z_ret1 B rfl dX4_lastLookUps_7 () (trivial) (Nat.le_of_ble_eq_true rfl) (Nat.le_of_ble_eq_true rfl) (by rw [hF]) (by rw [hF])
def fX4_lastFetches (X : Nat → Int32) (F : Nat → Int32) (O : Nat → Int32) : Int32 :=
  (O 3)
theorem hiX4_lastFetches_4 : ∀ w ∈ wsX40, w ∈ wsX4_lastFetches := by decide +kernel
theorem hfX4_lastFetches_25 : Cond.fieldLink RX4 25 "ResolverFleet" "last" "LResolverFleet$Course;" ∈ wsX4_lastFetches := by decide +kernel
theorem hiX4_lastFetches_1 : ∀ w ∈ wsX10, w ∈ wsX4_lastFetches := by decide +kernel
theorem hfX4_lastFetches_139 : Cond.fieldLink RX4 139 "ResolverFleet$Course" "fetches" "I" ∈ wsX4_lastFetches := by decide +kernel
set_option maxHeartbeats 4000000 in
set_option maxRecDepth 100000 in
theorem kX4_lastFetches (l : Launch) (hl : l.stackTraces = false) (K : zK) (ax : Nat) (zn : Nat) (sa : Nat) (ak : Nat → Nat) (tr : Nat) (tc : Nat) (X : Nat → Int32) (F : Nat → Int32) (O : Nat → Int32) : zMet l K yX4_lastFetches wsX4_lastFetches { frames := 0, cells := 0, slots := 0, locals := 0 } [.ref ax] [zXo ax zn sa (ak 0) tr tc X, zCo K ak F O] (some (.int (fX4_lastFetches X F O))) [zXo ax zn sa (ak 0) tr tc X, zCo K ak F O] True zNo := by
  refine zMeN.of (cc := cX4_lastFetches) (maxL := 1) (ret := (some .int)) (own := RX4) (nm := "lastFetches") hl (by decide +kernel) rfl rfl rfl (Nat.le_of_ble_eq_true rfl) (lv := [(0, .ref ax)]) rfl ?_
  intro p e s m args below meth c A B
  refine z_aload_n B dX4_lastFetches_0 0 rfl ?_
  refine z_get B (v := .ref (ak 0)) 0 0 4 hiX4_lastFetches_4 hfX4_lastFetches_25 rfl rfl rfl (by decide) rfl rfl rfl rfl dX4_lastFetches_1 ?_
  refine z_get B (v := .int (O 3)) 1 0 3 hiX4_lastFetches_1 hfX4_lastFetches_139 rfl rfl rfl (by decide) rfl rfl rfl rfl dX4_lastFetches_4 ?_
  have hF : fX4_lastFetches X F O = (O 3) := rfl
  exact z_ret1 B rfl dX4_lastFetches_7 () (trivial) (Nat.le_of_ble_eq_true rfl) (Nat.le_of_ble_eq_true rfl) (by rw [hF]) (by rw [hF])
end
section
/-! SITES: a site's own cell among the others' -/
theorem zSO_set3 {n i : Nat} {so : Nat → Nat} {sc : Nat → Nat → Nat} {D : Nat → Nat → Int32} {v : Int32} (h : i < n) : (zSO n so sc D).set i (so i, .inr (2, ([.int (D i 0), .int (D i 1), .ref (sc i 0), .int (D i 3)] : List Value).set 3 (.int v))) = zSO n so sc (va_up D i (va_up (D i) 3 v)) := by
  refine List.ext_getElem? fun j => ?_
  unfold zSO
  by_cases hj : j = i
  · subst hj
    rw [List.getElem?_set_self (by simpa using h), List.getElem?_map, List.getElem?_range h]
    simp [zSi, va_up]
  · rw [List.getElem?_set_ne (Ne.symm hj), List.getElem?_map, List.getElem?_map]
    cases hr : (List.range n)[j]? with
    | none => rfl
    | some k =>
      have hk : k ≠ i := by
        have := List.getElem?_eq_some_iff.mp hr
        obtain ⟨h1, h2⟩ := this
        rw [List.getElem_range] at h2
        omega
      simp [zSi, va_up, hk]
theorem z_lt0n {i : Nat} (h : i < 4) : ¬ nI i < 0 := nI_pos (by omega)
theorem z_lt4n {i : Nat} (h : i < 4) : nI i < 4 := by
  show nI i < nI 4
  exact nI_lt h (by decide)
section ZT4
variable {K : zK} {p : Program} {l : Launch} {e : Env} {R : Room} {s : State} {m : MethodId} {args : Array Value} {below : List Frame} {meth : Method} {c : Code} {A : Nat → Prop} {Q : State → Prop} {k n : Nat} {bs : zB} {lv : List (Nat × Value)} {st : List Value} {pc : Nat}
variable {cc : ByteArray} {nL : Nat} {own nm : String} {Ts : List Cond} {ret : Option FieldType} {tb : List ExceptionTableEntry}
theorem z_aaldS (B : zF K p l s m args meth c A cc nL own nm Ts ret tb) {a N v : Nat} {f : Nat → Option Nat} {b : va_W} (q j : Nat) (hb : bs[q]? = some b) (he : b[j]? = some (a, .inl (zS K, N, .inr (.inr (.inr (.inr f)))))) {i : Int32} (hin : vp_in i N) (hf : f i.toNatClampNeg = some v) (d : decode cc pc = .ok (.aaload, 1))
    (kk : zW K p l e R s m args below meth c A Q k n bs lv (.ref v :: st) (pc + 1)) : zW K p l e R s m args below meth c A Q k n bs lv (.int i :: .ref a :: st) pc :=
  z_aald B q j hb he hin d (by rw [hf]; exact kk)
theorem z_aaldN (B : zF K p l s m args meth c A cc nL own nm Ts ret tb) {a N : Nat} {f : Nat → Option Nat} {b : va_W} (q j : Nat) (hb : bs[q]? = some b) (he : b[j]? = some (a, .inl (zS K, N, .inr (.inr (.inr (.inr f)))))) {i : Int32} (hin : vp_in i N) (hf : f i.toNatClampNeg = none) (d : decode cc pc = .ok (.aaload, 1))
    (kk : zW K p l e R s m args below meth c A Q k n bs lv (.null :: st) (pc + 1)) : zW K p l e R s m args below meth c A Q k n bs lv (.int i :: .ref a :: st) pc :=
  z_aald B q j hb he hin d (by rw [hf]; exact kk)
end ZT4

theorem z_drop01 {C : Nat → Nat → Int32} {x : Int32} : (fX0_drop C x).1 = 0 ∨ (fX0_drop C x).1 = 1 := by
  unfold fX0_drop
  split
  · exact Or.inl rfl
  · exact Or.inr rfl
def fX4_siteNumbered_h  : Unit :=
  ()
theorem hiX4_siteNumbered_4 : ∀ w ∈ wsX40, w ∈ wsX4_siteNumbered := by decide +kernel
theorem hfX4_siteNumbered_18 : Cond.fieldLink RX4 18 "ResolverFleet" "sites" "[LResolverFleet$Site;" ∈ wsX4_siteNumbered := by decide +kernel
set_option maxHeartbeats 4000000 in
set_option maxRecDepth 100000 in
theorem kX4_siteNumbered_h (l : Launch) (hl : l.stackTraces = false) (K : zK) (ax : Nat) (zn : Nat) (sa : Nat) (la : Nat) (tr : Nat) (tc : Nat) (X : Nat → Int32) (f : Nat → Option Nat) (so : Nat → Nat) (i : Nat) (hi4 : i < 4) (hfi : f (nI i).toNatClampNeg = some (so i)) : zMet l K yX4_siteNumbered wsX4_siteNumbered { frames := 0, cells := 0, slots := 0, locals := 0 } [.ref ax, .int (nI i)] [zXo ax zn sa la tr tc X, zSa K sa f] (some (.ref (so i))) [zXo ax zn sa la tr tc X, zSa K sa f] True zNo := by
  refine zMeN.of (cc := cX4_siteNumbered) (maxL := 3) (ret := (some (.object "ResolverFleet$Site"))) (own := RX4) (nm := "siteNumbered") hl (by decide +kernel) rfl rfl rfl (Nat.le_of_ble_eq_true rfl) (lv := [(0, .ref ax), (1, .int (nI i))]) rfl ?_
  intro p e s m args below meth c A B
  refine z_iload_n B dX4_siteNumbered_0 1 rfl ?_
  refine z_iflt B 13 dX4_siteNumbered_1 (by decide) (fun h => absurd h (z_lt0n hi4)) (fun _ => ?_)
  refine z_iload_n B dX4_siteNumbered_4 1 rfl ?_
  refine z_aload_n B dX4_siteNumbered_5 0 rfl ?_
  refine z_get B (v := .ref sa) 0 0 1 hiX4_siteNumbered_4 hfX4_siteNumbered_18 rfl rfl rfl (by decide) rfl rfl rfl rfl dX4_siteNumbered_6 ?_
  refine z_alen B (v := 4) 1 0 2 rfl rfl rfl rfl dX4_siteNumbered_9 ?_
  refine z_iclt B 17 dX4_siteNumbered_10 (by decide) (fun _ => ?_) (fun h => absurd (z_lt4n hi4) h)
  refine z_aload_n B dX4_siteNumbered_17 0 rfl ?_
  refine z_get B (v := .ref sa) 0 0 1 hiX4_siteNumbered_4 hfX4_siteNumbered_18 rfl rfl rfl (by decide) rfl rfl rfl rfl dX4_siteNumbered_18 ?_
  refine z_iload_n B dX4_siteNumbered_21 1 rfl ?_
  refine z_aaldS B (N := 4) (f := f) 1 0 rfl rfl (z_nIr hi4 (by decide)) hfi dX4_siteNumbered_22 ?_
  refine z_astore_n B (lv' := [(2, .ref (so i)), (0, .ref ax), (1, .int (nI i))]) dX4_siteNumbered_23 (by decide) rfl ?_
  refine z_aload_n B dX4_siteNumbered_24 0 rfl ?_
  refine z_ifnonnull B 38 dX4_siteNumbered_25 (by decide) ?_
  refine z_aload_n B dX4_siteNumbered_38 0 rfl ?_
  have hF : fX4_siteNumbered_h = () := rfl
  exact z_reta B (Or.inr ⟨_, rfl⟩) dX4_siteNumbered_39 () (trivial) (Nat.le_of_ble_eq_true rfl) (Nat.le_of_ble_eq_true rfl) rfl rfl
def fX4_siteNumbered_m (x1 : Int32) : Nat :=
  if x1 < 0 then
    1
  else
    if x1 < 4 then
      1
    else
      1
theorem haX4_siteNumbered_219 : ∀ w ∈ (vx_atS RX4 219 "java/lang/IndexOutOfBoundsException" ["java/lang/RuntimeException", "java/lang/Exception"]).filter goodWord, w ∈ wsX4_siteNumbered := by decide +kernel
theorem hgX4_siteNumbered_219 : ∀ w ∈ (vx_atS RX4 219 "java/lang/IndexOutOfBoundsException" ["java/lang/RuntimeException", "java/lang/Exception"]).filter (fun w => !goodWord w), w ∈ zNw := by decide +kernel
theorem hoX4_siteNumbered_219 : ∀ w ∈ Cond.classLink RX4 215 "java/lang/IndexOutOfBoundsException" :: Cond.initialized "java/lang/IndexOutOfBoundsException" :: vx_atS RX4 219 "java/lang/IndexOutOfBoundsException" ["java/lang/RuntimeException", "java/lang/Exception"], vx_ot w = true := by decide +kernel
theorem hwX4_siteNumbered_cl215 : Cond.classLink RX4 215 "java/lang/IndexOutOfBoundsException" ∈ wsX4_siteNumbered := by decide +kernel
theorem hwX4_siteNumbered_ini215 : Cond.initialized "java/lang/IndexOutOfBoundsException" ∈ wsX4_siteNumbered := by decide +kernel
set_option maxHeartbeats 4000000 in
set_option maxRecDepth 100000 in
theorem kX4_siteNumbered_m (l : Launch) (hl : l.stackTraces = false) (K : zK) (ax : Nat) (zn : Nat) (sa : Nat) (la : Nat) (tr : Nat) (tc : Nat) (X : Nat → Int32) (f : Nat → Option Nat) (x1 : Int32) (hfn : x1 < 4 → ¬ x1 < 0 → f x1.toNatClampNeg = none) : zMet l K yX4_siteNumbered wsX4_siteNumbered { frames := 6, cells := 1, slots := 6, locals := 82 } [.ref ax, .int x1] [zXo ax zn sa la tr tc X, zSa K sa f] (some .null) [zXo ax zn sa la tr tc X, zSa K sa f] False (fun E => (E = zE1 ∧ (fX4_siteNumbered_m x1) = 1)) := by
  refine zMeN.of (cc := cX4_siteNumbered) (maxL := 3) (ret := (some (.object "ResolverFleet$Site"))) (own := RX4) (nm := "siteNumbered") hl (by decide +kernel) rfl rfl rfl (Nat.le_of_ble_eq_true rfl) (lv := [(0, .ref ax), (1, .int x1)]) rfl ?_
  intro p e s m args below meth c A B
  refine z_iload_n B dX4_siteNumbered_0 1 rfl ?_
  refine z_iflt B 13 dX4_siteNumbered_1 (by decide) (fun c1 => ?_) (fun c1 => ?_)
  · refine z_null B dX4_siteNumbered_13 ?_
    refine z_goto B (tgt := 23) dX4_siteNumbered_14 (by decide) ?_
    refine z_astore_nN B (lv' := [(2, .null), (0, .ref ax), (1, .int x1)]) dX4_siteNumbered_23 (by decide) rfl ?_
    refine z_aload_nN B dX4_siteNumbered_24 0 rfl ?_
    refine z_ifnonnullN B dX4_siteNumbered_25 ?_
    have hF : fX4_siteNumbered_m x1 = 1 := if_pos c1
    exact z_throw B rfl ["java/lang/RuntimeException", "java/lang/Exception"] (by decide +kernel) (by decide +kernel) hwX4_siteNumbered_cl215 hwX4_siteNumbered_ini215 (text := "there is no such site") (by decide +kernel) haX4_siteNumbered_219 hgX4_siteNumbered_219 hoX4_siteNumbered_219 dX4_siteNumbered_28 dX4_siteNumbered_31 dX4_siteNumbered_32 dX4_siteNumbered_34 dX4_siteNumbered_37 (by decide) (Nat.le_of_ble_eq_true rfl) (Nat.le_of_ble_eq_true rfl) (Nat.le_of_ble_eq_true rfl) (⟨rfl, by rw [hF]⟩) (Nat.le_of_ble_eq_true rfl) (Nat.le_of_ble_eq_true rfl)
  · refine z_iload_n B dX4_siteNumbered_4 1 rfl ?_
    refine z_aload_n B dX4_siteNumbered_5 0 rfl ?_
    refine z_get B (v := .ref sa) 0 0 1 hiX4_siteNumbered_4 hfX4_siteNumbered_18 rfl rfl rfl (by decide) rfl rfl rfl rfl dX4_siteNumbered_6 ?_
    refine z_alen B (v := 4) 1 0 2 rfl rfl rfl rfl dX4_siteNumbered_9 ?_
    refine z_iclt B 17 dX4_siteNumbered_10 (by decide) (fun c2 => ?_) (fun c2 => ?_)
    · refine z_aload_n B dX4_siteNumbered_17 0 rfl ?_
      refine z_get B (v := .ref sa) 0 0 1 hiX4_siteNumbered_4 hfX4_siteNumbered_18 rfl rfl rfl (by decide) rfl rfl rfl rfl dX4_siteNumbered_18 ?_
      refine z_iload_n B dX4_siteNumbered_21 1 rfl ?_
      refine z_aaldN B (N := 4) (f := f) 1 0 rfl rfl (z_vp2 (M := 4) rfl c1 c2) (hfn c2 c1) dX4_siteNumbered_22 ?_
      refine z_astore_nN B (lv' := [(2, .null), (0, .ref ax), (1, .int x1)]) dX4_siteNumbered_23 (by decide) rfl ?_
      refine z_aload_nN B dX4_siteNumbered_24 0 rfl ?_
      refine z_ifnonnullN B dX4_siteNumbered_25 ?_
      have hF : fX4_siteNumbered_m x1 = 1 := (if_neg c1).trans (if_pos c2)
      exact z_throw B rfl ["java/lang/RuntimeException", "java/lang/Exception"] (by decide +kernel) (by decide +kernel) hwX4_siteNumbered_cl215 hwX4_siteNumbered_ini215 (text := "there is no such site") (by decide +kernel) haX4_siteNumbered_219 hgX4_siteNumbered_219 hoX4_siteNumbered_219 dX4_siteNumbered_28 dX4_siteNumbered_31 dX4_siteNumbered_32 dX4_siteNumbered_34 dX4_siteNumbered_37 (by decide) (Nat.le_of_ble_eq_true rfl) (Nat.le_of_ble_eq_true rfl) (Nat.le_of_ble_eq_true rfl) (⟨rfl, by rw [hF]⟩) (Nat.le_of_ble_eq_true rfl) (Nat.le_of_ble_eq_true rfl)
    · refine z_null B dX4_siteNumbered_13 ?_
      refine z_goto B (tgt := 23) dX4_siteNumbered_14 (by decide) ?_
      refine z_astore_nN B (lv' := [(2, .null), (0, .ref ax), (1, .int x1)]) dX4_siteNumbered_23 (by decide) rfl ?_
      refine z_aload_nN B dX4_siteNumbered_24 0 rfl ?_
      refine z_ifnonnullN B dX4_siteNumbered_25 ?_
      have hF : fX4_siteNumbered_m x1 = 1 := (if_neg c1).trans (if_neg c2)
      exact z_throw B rfl ["java/lang/RuntimeException", "java/lang/Exception"] (by decide +kernel) (by decide +kernel) hwX4_siteNumbered_cl215 hwX4_siteNumbered_ini215 (text := "there is no such site") (by decide +kernel) haX4_siteNumbered_219 hgX4_siteNumbered_219 hoX4_siteNumbered_219 dX4_siteNumbered_28 dX4_siteNumbered_31 dX4_siteNumbered_32 dX4_siteNumbered_34 dX4_siteNumbered_37 (by decide) (Nat.le_of_ble_eq_true rfl) (Nat.le_of_ble_eq_true rfl) (Nat.le_of_ble_eq_true rfl) (⟨rfl, by rw [hF]⟩) (Nat.le_of_ble_eq_true rfl) (Nat.le_of_ble_eq_true rfl)
def fX4_announce_h (D : Nat → Nat → Int32) (i : Nat) (x2 : Int32) : Int32 × (Nat → Nat → Int32) :=
  ((D i 3), (va_up D i (va_up (D i) 3 x2)))
theorem hiX4_announce_2 : ∀ w ∈ wsX20, w ∈ wsX4_announce := by decide +kernel
theorem hfX4_announce_91 : Cond.fieldLink RX4 91 "ResolverFleet$Site" "isAnnounced" "Z" ∈ wsX4_announce := by decide +kernel
set_option maxHeartbeats 4000000 in
set_option maxRecDepth 100000 in
theorem kX4_announce_h (l : Launch) (hl : l.stackTraces = false) (K : zK) (ax : Nat) (zn : Nat) (sa : Nat) (la : Nat) (tr : Nat) (tc : Nat) (X : Nat → Int32) (f : Nat → Option Nat) (n : Nat) (so : Nat → Nat) (sc : Nat → Nat → Nat) (D : Nat → Nat → Int32) (i : Nat) (x2 : Int32) (hi4 : i < 4) (hi : i < n) (hfi : f (nI i).toNatClampNeg = some (so i)) (hx2 : x2 = 0 ∨ x2 = 1) (hD3 : (D i 3) = 0 ∨ (D i 3) = 1) : zMet l K yX4_announce wsX4_announce { frames := 1, cells := 0, slots := 0, locals := 22 } [.ref ax, .int (nI i), .int x2] [zXo ax zn sa la tr tc X, zSa K sa f, zSO n so sc D] (some (.int ((fX4_announce_h D i x2).1))) [zXo ax zn sa la tr tc X, zSa K sa f, zSO n so sc ((fX4_announce_h D i x2).2)] True zNo := by
  refine zMeN.of (cc := cX4_announce) (maxL := 5) (ret := (some .boolean)) (own := RX4) (nm := "announce") hl (by decide +kernel) rfl rfl rfl (Nat.le_of_ble_eq_true rfl) (lv := [(0, .ref ax), (1, .int (nI i)), (2, .int x2)]) rfl ?_
  intro p e s m args below meth c A B
  refine z_aload_n B dX4_announce_0 0 rfl ?_
  refine z_iload_n B dX4_announce_1 1 rfl ?_
  refine z_V1 B (kX4_siteNumbered_h l hl K ax zn sa la tr tc X f so i hi4 hfi) [0, 1] [2] (br := [zSO n so sc D]) (bs' := [zXo ax zn sa la tr tc X, zSa K sa f, zSO n so sc D]) (st := []) (nA := 1) (zsp rfl rfl rfl) (zsp rfl rfl rfl) 0 0 rfl rfl rfl rfl gX4_announce_X4_siteNumbered rfl (by decide +kernel) ⟨Nat.le_of_ble_eq_true rfl, Nat.le_of_ble_eq_true rfl⟩ rfl rfl (Nat.le_of_ble_eq_true rfl) ⟨Nat.le_of_ble_eq_true rfl, Nat.le_of_ble_eq_true rfl⟩ dX4_announce_2 z_noX (fun _ => ?_)
  refine z_astore_n B (lv' := [(3, .ref (so i)), (0, .ref ax), (1, .int (nI i)), (2, .int x2)]) dX4_announce_5 (by decide) rfl ?_
  refine z_aload_n B dX4_announce_6 0 rfl ?_
  refine z_get B (v := .int (D i 3)) 2 i 3 hiX4_announce_2 hfX4_announce_91 rfl (zSO_get hi) rfl (by decide) rfl rfl rfl rfl dX4_announce_7 ?_
  refine z_istore B (lv' := [(4, .int (D i 3)), (3, .ref (so i)), (0, .ref ax), (1, .int (nI i)), (2, .int x2)]) dX4_announce_10 (by decide) rfl ?_
  refine z_aload_n B dX4_announce_12 1 rfl ?_
  refine z_iload_n B dX4_announce_13 4 rfl ?_
  refine z_put B 2 i 3 hiX4_announce_2 hfX4_announce_91 tyX2_ok nmX2 rfl (zSO_get hi) rfl (by decide) rfl rfl rfl rfl rfl (z_nz hx2) (z_fz hx2) (Nat.le_of_ble_eq_true rfl) (bs' := [zXo ax zn sa la tr tc X, zSa K sa f, zSO n so sc (va_up D i (va_up (D i) 3 x2))]) (congrArg (fun z => ([zXo ax zn sa la tr tc X, zSa K sa f, z] : zB)) (zSO_set3 hi)) dX4_announce_14 ?_
  refine z_iload B dX4_announce_17 0 rfl ?_
  have hF : fX4_announce_h D i x2 = ((D i 3), (va_up D i (va_up (D i) 3 x2))) := rfl
  exact z_ret1 B (z_nz hD3) dX4_announce_19 () (trivial) (Nat.le_of_ble_eq_true rfl) (Nat.le_of_ble_eq_true rfl) (by rw [hF]) (by rw [hF])
def fX4_cacheAsked_h (D : Nat → Nat → Int32) (i : Nat) (x2 : Int32) : Nat :=
  if (fX4_requireName x2) = 0 then
    0
  else
    (fX4_requireName x2)
theorem hiX4_cacheAsked_2 : ∀ w ∈ wsX20, w ∈ wsX4_cacheAsked := by decide +kernel
theorem hfX4_cacheAsked_115 : Cond.fieldLink RX4 115 "ResolverFleet$Site" "cache" "LResolverFleet$Cache;" ∈ wsX4_cacheAsked := by decide +kernel
set_option maxHeartbeats 4000000 in
set_option maxRecDepth 100000 in
theorem kX4_cacheAsked_h (l : Launch) (hl : l.stackTraces = false) (K : zK) (ax : Nat) (zn : Nat) (sa : Nat) (la : Nat) (tr : Nat) (tc : Nat) (X : Nat → Int32) (f : Nat → Option Nat) (n : Nat) (so : Nat → Nat) (sc : Nat → Nat → Nat) (D : Nat → Nat → Int32) (i : Nat) (x2 : Int32) (hi4 : i < 4) (hi : i < n) (hfi : f (nI i).toNatClampNeg = some (so i)) : zMet l K yX4_cacheAsked wsX4_cacheAsked { frames := 7, cells := 1, slots := 6, locals := 102 } [.ref ax, .int (nI i), .int x2] [zXo ax zn sa la tr tc X, zSa K sa f, zSO n so sc D] (some (.ref ((sc i) 0))) [zXo ax zn sa la tr tc X, zSa K sa f, zSO n so sc D] ((fX4_cacheAsked_h D i x2) = 0) (fun E => (E = zE1 ∧ (fX4_cacheAsked_h D i x2) = 1)) := by
  refine zMeN.of (cc := cX4_cacheAsked) (maxL := 4) (ret := (some (.object "ResolverFleet$Cache"))) (own := RX4) (nm := "cacheAsked") hl (by decide +kernel) rfl rfl rfl (Nat.le_of_ble_eq_true rfl) (lv := [(0, .ref ax), (1, .int (nI i)), (2, .int x2)]) rfl ?_
  intro p e s m args below meth c A B
  refine z_aload_n B dX4_cacheAsked_0 0 rfl ?_
  refine z_iload_n B dX4_cacheAsked_1 1 rfl ?_
  refine z_V1 B (kX4_siteNumbered_h l hl K ax zn sa la tr tc X f so i hi4 hfi) [0, 1] [2] (br := [zSO n so sc D]) (bs' := [zXo ax zn sa la tr tc X, zSa K sa f, zSO n so sc D]) (st := []) (nA := 1) (zsp rfl rfl rfl) (zsp rfl rfl rfl) 0 0 rfl rfl rfl rfl gX4_cacheAsked_X4_siteNumbered rfl (by decide +kernel) ⟨Nat.le_of_ble_eq_true rfl, Nat.le_of_ble_eq_true rfl⟩ rfl rfl (Nat.le_of_ble_eq_true rfl) ⟨Nat.le_of_ble_eq_true rfl, Nat.le_of_ble_eq_true rfl⟩ dX4_cacheAsked_2 z_noX (fun _ => ?_)
  refine z_astore_n B (lv' := [(3, .ref (so i)), (0, .ref ax), (1, .int (nI i)), (2, .int x2)]) dX4_cacheAsked_5 (by decide) rfl ?_
  refine z_iload_n B dX4_cacheAsked_6 3 rfl ?_
  refine z_S0 B (kX4_requireName l hl K x2) [] [0, 1, 2] (br := [zXo ax zn sa la tr tc X, zSa K sa f, zSO n so sc D]) (bs' := [zXo ax zn sa la tr tc X, zSa K sa f, zSO n so sc D]) (st := []) (nA := 1) (zsp rfl rfl rfl) (zsp rfl rfl rfl) gX4_cacheAsked_X4_requireName rfl (by decide +kernel) ⟨Nat.le_of_ble_eq_true rfl, Nat.le_of_ble_eq_true rfl⟩ rfl rfl (Nat.le_of_ble_eq_true rfl) ⟨Nat.le_of_ble_eq_true rfl, Nat.le_of_ble_eq_true rfl⟩ dX4_cacheAsked_7 (fun E hE => ?_) (fun h1 => ?_)
  · rcases hE with ⟨rfl, hx⟩
    · have hF : fX4_cacheAsked_h D i x2 = 1 := (if_neg (show ¬ (fX4_requireName x2) = 0 by rw [hx]; decide)).trans ((show (fX4_requireName x2) = 1 by rw [hx]))
      exact z_out B (⟨rfl, by rw [hF]⟩) (Nat.le_of_ble_eq_true rfl) (Nat.le_of_ble_eq_true rfl)
  refine z_aload_n B dX4_cacheAsked_10 0 rfl ?_
  refine z_get B (v := .ref ((sc i) 0)) 2 i 2 hiX4_cacheAsked_2 hfX4_cacheAsked_115 rfl (zSO_get hi) rfl (by decide) rfl rfl rfl rfl dX4_cacheAsked_11 ?_
  have hF : fX4_cacheAsked_h D i x2 = 0 := if_pos h1
  exact z_reta B (Or.inr ⟨_, rfl⟩) dX4_cacheAsked_14 () (by rw [hF]) (Nat.le_of_ble_eq_true rfl) (Nat.le_of_ble_eq_true rfl) rfl rfl
def fX4_flush_s2 (D : Nat → Nat → Int32) (i : Nat) (C : Nat → Nat → Int32) (x2 : Int32) (o2 : Int32 × (Nat → Nat → Int32)) : Nat × Int32 × (Nat → Nat → Int32) :=
  (0, (o2.1), (o2.2))
def fX4_flush_h (D : Nat → Nat → Int32) (i : Nat) (C : Nat → Nat → Int32) (x2 : Int32) : Nat × Int32 × (Nat → Nat → Int32) :=
  if (fX4_cacheAsked_h D i x2) = 0 then
    fX4_flush_s2 D i C x2 (fX0_drop C x2)
  else
    ((fX4_cacheAsked_h D i x2), 0, C)
set_option maxHeartbeats 4000000 in
set_option maxRecDepth 100000 in
theorem kX4_flush_h (l : Launch) (hl : l.stackTraces = false) (K : zK) (ax : Nat) (zn : Nat) (sa : Nat) (la : Nat) (tr : Nat) (tc : Nat) (X : Nat → Int32) (f : Nat → Option Nat) (n : Nat) (so : Nat → Nat) (sc : Nat → Nat → Nat) (D : Nat → Nat → Int32) (i : Nat) (C : Nat → Nat → Int32) (x2 : Int32) (hi4 : i < 4) (hi : i < n) (hfi : f (nI i).toNatClampNeg = some (so i)) : zMet l K yX4_flush wsX4_flush { frames := 8, cells := 1, slots := 6, locals := 125 } [.ref ax, .int (nI i), .int x2] [zXo ax zn sa la tr tc X, zSa K sa f, zSO n so sc D, zCa K (sc i) C] (some (.int ((fX4_flush_h D i C x2).2.1))) [zXo ax zn sa la tr tc X, zSa K sa f, zSO n so sc D, zCa K (sc i) ((fX4_flush_h D i C x2).2.2)] ((fX4_flush_h D i C x2).1 = 0) (fun E => (E = zE1 ∧ (fX4_flush_h D i C x2).1 = 1)) := by
  refine zMeN.of (cc := cX4_flush) (maxL := 3) (ret := (some .boolean)) (own := RX4) (nm := "flush") hl (by decide +kernel) rfl rfl rfl (Nat.le_of_ble_eq_true rfl) (lv := [(0, .ref ax), (1, .int (nI i)), (2, .int x2)]) rfl ?_
  intro p e s m args below meth c A B
  refine z_aload_n B dX4_flush_0 0 rfl ?_
  refine z_iload_n B dX4_flush_1 1 rfl ?_
  refine z_iload_n B dX4_flush_2 2 rfl ?_
  refine z_V1 B (kX4_cacheAsked_h l hl K ax zn sa la tr tc X f n so sc D i x2 hi4 hi hfi) [0, 1, 2] [3] (br := [zCa K (sc i) C]) (bs' := [zXo ax zn sa la tr tc X, zSa K sa f, zSO n so sc D, zCa K (sc i) C]) (st := []) (nA := 2) (zsp rfl rfl rfl) (zsp rfl rfl rfl) 0 0 rfl rfl rfl rfl gX4_flush_X4_cacheAsked rfl (by decide +kernel) ⟨Nat.le_of_ble_eq_true rfl, Nat.le_of_ble_eq_true rfl⟩ rfl rfl (Nat.le_of_ble_eq_true rfl) ⟨Nat.le_of_ble_eq_true rfl, Nat.le_of_ble_eq_true rfl⟩ dX4_flush_3 (fun E hE => ?_) (fun h1 => ?_)
  · rcases hE with ⟨rfl, hx⟩
    · have hF : fX4_flush_h D i C x2 = (1, 0, C) := (if_neg (show ¬ (fX4_cacheAsked_h D i x2) = 0 by rw [hx]; decide)).trans ((show ((fX4_cacheAsked_h D i x2), 0, C) = (1, 0, C) by rw [hx]))
      exact z_out B (⟨rfl, by rw [hF]⟩) (Nat.le_of_ble_eq_true rfl) (Nat.le_of_ble_eq_true rfl)
  refine z_iload_n B dX4_flush_6 2 rfl ?_
  refine z_V1 B (kX0_drop l hl K (sc i) C x2) [3] [0, 1, 2] (br := [zXo ax zn sa la tr tc X, zSa K sa f, zSO n so sc D]) (bs' := [zXo ax zn sa la tr tc X, zSa K sa f, zSO n so sc D, zCa K (sc i) ((fX0_drop C x2).2)]) (st := []) (nA := 1) (zsp rfl rfl rfl) (zsp rfl rfl rfl) 3 0 rfl rfl rfl rfl gX4_flush_X0_drop rfl (by decide +kernel) ⟨Nat.le_of_ble_eq_true rfl, Nat.le_of_ble_eq_true rfl⟩ rfl rfl (Nat.le_of_ble_eq_true rfl) ⟨Nat.le_of_ble_eq_true rfl, Nat.le_of_ble_eq_true rfl⟩ dX4_flush_7 z_noX (fun _ => ?_)
  generalize ho2 : (fX0_drop C x2) = o2
  have hF : fX4_flush_h D i C x2 = (0, (o2.1), (o2.2)) := (if_pos h1).trans (congrArg (fun o => fX4_flush_s2 D i C x2 o) ho2)
  exact z_ret1 B (z_nz (by rw [← ho2]; exact z_drop01)) dX4_flush_10 () (by rw [hF]) (Nat.le_of_ble_eq_true rfl) (Nat.le_of_ble_eq_true rfl) (by rw [hF]) (by rw [hF])
def fX4_entries_h (D : Nat → Nat → Int32) (i : Nat) (C : Nat → Nat → Int32) : Int32 :=
  (C 5 0)
theorem hiX4_entries_2 : ∀ w ∈ wsX20, w ∈ wsX4_entries := by decide +kernel
theorem hfX4_entries_115 : Cond.fieldLink RX4 115 "ResolverFleet$Site" "cache" "LResolverFleet$Cache;" ∈ wsX4_entries := by decide +kernel
theorem hiX4_entries_0 : ∀ w ∈ wsX00, w ∈ wsX4_entries := by decide +kernel
theorem hfX4_entries_142 : Cond.fieldLink RX4 142 "ResolverFleet$Cache" "size" "I" ∈ wsX4_entries := by decide +kernel
set_option maxHeartbeats 4000000 in
set_option maxRecDepth 100000 in
theorem kX4_entries_h (l : Launch) (hl : l.stackTraces = false) (K : zK) (ax : Nat) (zn : Nat) (sa : Nat) (la : Nat) (tr : Nat) (tc : Nat) (X : Nat → Int32) (f : Nat → Option Nat) (n : Nat) (so : Nat → Nat) (sc : Nat → Nat → Nat) (D : Nat → Nat → Int32) (i : Nat) (C : Nat → Nat → Int32) (hi4 : i < 4) (hi : i < n) (hfi : f (nI i).toNatClampNeg = some (so i)) : zMet l K yX4_entries wsX4_entries { frames := 1, cells := 0, slots := 0, locals := 22 } [.ref ax, .int (nI i)] [zXo ax zn sa la tr tc X, zSa K sa f, zSO n so sc D, zCa K (sc i) C] (some (.int (fX4_entries_h D i C))) [zXo ax zn sa la tr tc X, zSa K sa f, zSO n so sc D, zCa K (sc i) C] True zNo := by
  refine zMeN.of (cc := cX4_entries) (maxL := 2) (ret := (some .int)) (own := RX4) (nm := "entries") hl (by decide +kernel) rfl rfl rfl (Nat.le_of_ble_eq_true rfl) (lv := [(0, .ref ax), (1, .int (nI i))]) rfl ?_
  intro p e s m args below meth c A B
  refine z_aload_n B dX4_entries_0 0 rfl ?_
  refine z_iload_n B dX4_entries_1 1 rfl ?_
  refine z_V1 B (kX4_siteNumbered_h l hl K ax zn sa la tr tc X f so i hi4 hfi) [0, 1] [2, 3] (br := [zSO n so sc D, zCa K (sc i) C]) (bs' := [zXo ax zn sa la tr tc X, zSa K sa f, zSO n so sc D, zCa K (sc i) C]) (st := []) (nA := 1) (zsp rfl rfl rfl) (zsp rfl rfl rfl) 0 0 rfl rfl rfl rfl gX4_entries_X4_siteNumbered rfl (by decide +kernel) ⟨Nat.le_of_ble_eq_true rfl, Nat.le_of_ble_eq_true rfl⟩ rfl rfl (Nat.le_of_ble_eq_true rfl) ⟨Nat.le_of_ble_eq_true rfl, Nat.le_of_ble_eq_true rfl⟩ dX4_entries_2 z_noX (fun _ => ?_)
  refine z_get B (v := .ref ((sc i) 0)) 2 i 2 hiX4_entries_2 hfX4_entries_115 rfl (zSO_get hi) rfl (by decide) rfl rfl rfl rfl dX4_entries_5 ?_
  refine z_get B (v := .int (C 5 0)) 3 0 5 hiX4_entries_0 hfX4_entries_142 rfl rfl rfl (by decide) rfl rfl rfl rfl dX4_entries_8 ?_
  have hF : fX4_entries_h D i C = (C 5 0) := rfl
  exact z_ret1 B rfl dX4_entries_11 () (trivial) (Nat.le_of_ble_eq_true rfl) (Nat.le_of_ble_eq_true rfl) (by rw [hF]) (by rw [hF])
def fX4_cachedKind_h (D : Nat → Nat → Int32) (i : Nat) (C : Nat → Nat → Int32) (x2 : Int32) : Nat × Int32 :=
  if (fX4_cacheAsked_h D i x2) = 0 then
    (0, (fX0_kindOf C x2))
  else
    ((fX4_cacheAsked_h D i x2), 0)
set_option maxHeartbeats 4000000 in
set_option maxRecDepth 100000 in
theorem kX4_cachedKind_h (l : Launch) (hl : l.stackTraces = false) (K : zK) (ax : Nat) (zn : Nat) (sa : Nat) (la : Nat) (tr : Nat) (tc : Nat) (X : Nat → Int32) (f : Nat → Option Nat) (n : Nat) (so : Nat → Nat) (sc : Nat → Nat → Nat) (D : Nat → Nat → Int32) (i : Nat) (C : Nat → Nat → Int32) (x2 : Int32) (hi4 : i < 4) (hi : i < n) (hfi : f (nI i).toNatClampNeg = some (so i)) : zMet l K yX4_cachedKind wsX4_cachedKind { frames := 8, cells := 1, slots := 6, locals := 125 } [.ref ax, .int (nI i), .int x2] [zXo ax zn sa la tr tc X, zSa K sa f, zSO n so sc D, zCa K (sc i) C] (some (.int ((fX4_cachedKind_h D i C x2).2))) [zXo ax zn sa la tr tc X, zSa K sa f, zSO n so sc D, zCa K (sc i) C] ((fX4_cachedKind_h D i C x2).1 = 0) (fun E => (E = zE1 ∧ (fX4_cachedKind_h D i C x2).1 = 1)) := by
  refine zMeN.of (cc := cX4_cachedKind) (maxL := 3) (ret := (some .int)) (own := RX4) (nm := "cachedKind") hl (by decide +kernel) rfl rfl rfl (Nat.le_of_ble_eq_true rfl) (lv := [(0, .ref ax), (1, .int (nI i)), (2, .int x2)]) rfl ?_
  intro p e s m args below meth c A B
  refine z_aload_n B dX4_cachedKind_0 0 rfl ?_
  refine z_iload_n B dX4_cachedKind_1 1 rfl ?_
  refine z_iload_n B dX4_cachedKind_2 2 rfl ?_
  refine z_V1 B (kX4_cacheAsked_h l hl K ax zn sa la tr tc X f n so sc D i x2 hi4 hi hfi) [0, 1, 2] [3] (br := [zCa K (sc i) C]) (bs' := [zXo ax zn sa la tr tc X, zSa K sa f, zSO n so sc D, zCa K (sc i) C]) (st := []) (nA := 2) (zsp rfl rfl rfl) (zsp rfl rfl rfl) 0 0 rfl rfl rfl rfl gX4_cachedKind_X4_cacheAsked rfl (by decide +kernel) ⟨Nat.le_of_ble_eq_true rfl, Nat.le_of_ble_eq_true rfl⟩ rfl rfl (Nat.le_of_ble_eq_true rfl) ⟨Nat.le_of_ble_eq_true rfl, Nat.le_of_ble_eq_true rfl⟩ dX4_cachedKind_3 (fun E hE => ?_) (fun h1 => ?_)
  · rcases hE with ⟨rfl, hx⟩
    · have hF : fX4_cachedKind_h D i C x2 = (1, 0) := (if_neg (show ¬ (fX4_cacheAsked_h D i x2) = 0 by rw [hx]; decide)).trans ((show ((fX4_cacheAsked_h D i x2), 0) = (1, 0) by rw [hx]))
      exact z_out B (⟨rfl, by rw [hF]⟩) (Nat.le_of_ble_eq_true rfl) (Nat.le_of_ble_eq_true rfl)
  refine z_iload_n B dX4_cachedKind_6 2 rfl ?_
  refine z_V1 B (kX0_kindOf l hl K (sc i) C x2) [3] [0, 1, 2] (br := [zXo ax zn sa la tr tc X, zSa K sa f, zSO n so sc D]) (bs' := [zXo ax zn sa la tr tc X, zSa K sa f, zSO n so sc D, zCa K (sc i) C]) (st := []) (nA := 1) (zsp rfl rfl rfl) (zsp rfl rfl rfl) 3 0 rfl rfl rfl rfl gX4_cachedKind_X0_kindOf rfl (by decide +kernel) ⟨Nat.le_of_ble_eq_true rfl, Nat.le_of_ble_eq_true rfl⟩ rfl rfl (Nat.le_of_ble_eq_true rfl) ⟨Nat.le_of_ble_eq_true rfl, Nat.le_of_ble_eq_true rfl⟩ dX4_cachedKind_7 z_noX (fun _ => ?_)
  have hF : fX4_cachedKind_h D i C x2 = (0, (fX0_kindOf C x2)) := if_pos h1
  exact z_ret1 B rfl dX4_cachedKind_10 () (by rw [hF]) (Nat.le_of_ble_eq_true rfl) (Nat.le_of_ble_eq_true rfl) (by rw [hF]) (by rw [hF])
def fX4_cachedValue_h (D : Nat → Nat → Int32) (i : Nat) (C : Nat → Nat → Int32) (x2 : Int32) : Nat × Int32 :=
  if (fX4_cacheAsked_h D i x2) = 0 then
    (0, (fX0_valueOf C x2))
  else
    ((fX4_cacheAsked_h D i x2), 0)
set_option maxHeartbeats 4000000 in
set_option maxRecDepth 100000 in
theorem kX4_cachedValue_h (l : Launch) (hl : l.stackTraces = false) (K : zK) (ax : Nat) (zn : Nat) (sa : Nat) (la : Nat) (tr : Nat) (tc : Nat) (X : Nat → Int32) (f : Nat → Option Nat) (n : Nat) (so : Nat → Nat) (sc : Nat → Nat → Nat) (D : Nat → Nat → Int32) (i : Nat) (C : Nat → Nat → Int32) (x2 : Int32) (hi4 : i < 4) (hi : i < n) (hfi : f (nI i).toNatClampNeg = some (so i)) : zMet l K yX4_cachedValue wsX4_cachedValue { frames := 8, cells := 1, slots := 6, locals := 125 } [.ref ax, .int (nI i), .int x2] [zXo ax zn sa la tr tc X, zSa K sa f, zSO n so sc D, zCa K (sc i) C] (some (.int ((fX4_cachedValue_h D i C x2).2))) [zXo ax zn sa la tr tc X, zSa K sa f, zSO n so sc D, zCa K (sc i) C] ((fX4_cachedValue_h D i C x2).1 = 0) (fun E => (E = zE1 ∧ (fX4_cachedValue_h D i C x2).1 = 1)) := by
  refine zMeN.of (cc := cX4_cachedValue) (maxL := 3) (ret := (some .int)) (own := RX4) (nm := "cachedValue") hl (by decide +kernel) rfl rfl rfl (Nat.le_of_ble_eq_true rfl) (lv := [(0, .ref ax), (1, .int (nI i)), (2, .int x2)]) rfl ?_
  intro p e s m args below meth c A B
  refine z_aload_n B dX4_cachedValue_0 0 rfl ?_
  refine z_iload_n B dX4_cachedValue_1 1 rfl ?_
  refine z_iload_n B dX4_cachedValue_2 2 rfl ?_
  refine z_V1 B (kX4_cacheAsked_h l hl K ax zn sa la tr tc X f n so sc D i x2 hi4 hi hfi) [0, 1, 2] [3] (br := [zCa K (sc i) C]) (bs' := [zXo ax zn sa la tr tc X, zSa K sa f, zSO n so sc D, zCa K (sc i) C]) (st := []) (nA := 2) (zsp rfl rfl rfl) (zsp rfl rfl rfl) 0 0 rfl rfl rfl rfl gX4_cachedValue_X4_cacheAsked rfl (by decide +kernel) ⟨Nat.le_of_ble_eq_true rfl, Nat.le_of_ble_eq_true rfl⟩ rfl rfl (Nat.le_of_ble_eq_true rfl) ⟨Nat.le_of_ble_eq_true rfl, Nat.le_of_ble_eq_true rfl⟩ dX4_cachedValue_3 (fun E hE => ?_) (fun h1 => ?_)
  · rcases hE with ⟨rfl, hx⟩
    · have hF : fX4_cachedValue_h D i C x2 = (1, 0) := (if_neg (show ¬ (fX4_cacheAsked_h D i x2) = 0 by rw [hx]; decide)).trans ((show ((fX4_cacheAsked_h D i x2), 0) = (1, 0) by rw [hx]))
      exact z_out B (⟨rfl, by rw [hF]⟩) (Nat.le_of_ble_eq_true rfl) (Nat.le_of_ble_eq_true rfl)
  refine z_iload_n B dX4_cachedValue_6 2 rfl ?_
  refine z_V1 B (kX0_valueOf l hl K (sc i) C x2) [3] [0, 1, 2] (br := [zXo ax zn sa la tr tc X, zSa K sa f, zSO n so sc D]) (bs' := [zXo ax zn sa la tr tc X, zSa K sa f, zSO n so sc D, zCa K (sc i) C]) (st := []) (nA := 1) (zsp rfl rfl rfl) (zsp rfl rfl rfl) 3 0 rfl rfl rfl rfl gX4_cachedValue_X0_valueOf rfl (by decide +kernel) ⟨Nat.le_of_ble_eq_true rfl, Nat.le_of_ble_eq_true rfl⟩ rfl rfl (Nat.le_of_ble_eq_true rfl) ⟨Nat.le_of_ble_eq_true rfl, Nat.le_of_ble_eq_true rfl⟩ dX4_cachedValue_7 z_noX (fun _ => ?_)
  have hF : fX4_cachedValue_h D i C x2 = (0, (fX0_valueOf C x2)) := if_pos h1
  exact z_ret1 B rfl dX4_cachedValue_10 () (by rw [hF]) (Nat.le_of_ble_eq_true rfl) (Nat.le_of_ble_eq_true rfl) (by rw [hF]) (by rw [hF])
def fX4_hitsOf_h (D : Nat → Nat → Int32) (i : Nat) (C : Nat → Nat → Int32) (x2 : Int32) : Nat × Int32 :=
  if (fX4_cacheAsked_h D i x2) = 0 then
    (0, (fX0_hitsFor C x2))
  else
    ((fX4_cacheAsked_h D i x2), 0)
set_option maxHeartbeats 4000000 in
set_option maxRecDepth 100000 in
theorem kX4_hitsOf_h (l : Launch) (hl : l.stackTraces = false) (K : zK) (ax : Nat) (zn : Nat) (sa : Nat) (la : Nat) (tr : Nat) (tc : Nat) (X : Nat → Int32) (f : Nat → Option Nat) (n : Nat) (so : Nat → Nat) (sc : Nat → Nat → Nat) (D : Nat → Nat → Int32) (i : Nat) (C : Nat → Nat → Int32) (x2 : Int32) (hi4 : i < 4) (hi : i < n) (hfi : f (nI i).toNatClampNeg = some (so i)) : zMet l K yX4_hitsOf wsX4_hitsOf { frames := 8, cells := 1, slots := 6, locals := 125 } [.ref ax, .int (nI i), .int x2] [zXo ax zn sa la tr tc X, zSa K sa f, zSO n so sc D, zCa K (sc i) C] (some (.int ((fX4_hitsOf_h D i C x2).2))) [zXo ax zn sa la tr tc X, zSa K sa f, zSO n so sc D, zCa K (sc i) C] ((fX4_hitsOf_h D i C x2).1 = 0) (fun E => (E = zE1 ∧ (fX4_hitsOf_h D i C x2).1 = 1)) := by
  refine zMeN.of (cc := cX4_hitsOf) (maxL := 3) (ret := (some .int)) (own := RX4) (nm := "hitsOf") hl (by decide +kernel) rfl rfl rfl (Nat.le_of_ble_eq_true rfl) (lv := [(0, .ref ax), (1, .int (nI i)), (2, .int x2)]) rfl ?_
  intro p e s m args below meth c A B
  refine z_aload_n B dX4_hitsOf_0 0 rfl ?_
  refine z_iload_n B dX4_hitsOf_1 1 rfl ?_
  refine z_iload_n B dX4_hitsOf_2 2 rfl ?_
  refine z_V1 B (kX4_cacheAsked_h l hl K ax zn sa la tr tc X f n so sc D i x2 hi4 hi hfi) [0, 1, 2] [3] (br := [zCa K (sc i) C]) (bs' := [zXo ax zn sa la tr tc X, zSa K sa f, zSO n so sc D, zCa K (sc i) C]) (st := []) (nA := 2) (zsp rfl rfl rfl) (zsp rfl rfl rfl) 0 0 rfl rfl rfl rfl gX4_hitsOf_X4_cacheAsked rfl (by decide +kernel) ⟨Nat.le_of_ble_eq_true rfl, Nat.le_of_ble_eq_true rfl⟩ rfl rfl (Nat.le_of_ble_eq_true rfl) ⟨Nat.le_of_ble_eq_true rfl, Nat.le_of_ble_eq_true rfl⟩ dX4_hitsOf_3 (fun E hE => ?_) (fun h1 => ?_)
  · rcases hE with ⟨rfl, hx⟩
    · have hF : fX4_hitsOf_h D i C x2 = (1, 0) := (if_neg (show ¬ (fX4_cacheAsked_h D i x2) = 0 by rw [hx]; decide)).trans ((show ((fX4_cacheAsked_h D i x2), 0) = (1, 0) by rw [hx]))
      exact z_out B (⟨rfl, by rw [hF]⟩) (Nat.le_of_ble_eq_true rfl) (Nat.le_of_ble_eq_true rfl)
  refine z_iload_n B dX4_hitsOf_6 2 rfl ?_
  refine z_V1 B (kX0_hitsFor l hl K (sc i) C x2) [3] [0, 1, 2] (br := [zXo ax zn sa la tr tc X, zSa K sa f, zSO n so sc D]) (bs' := [zXo ax zn sa la tr tc X, zSa K sa f, zSO n so sc D, zCa K (sc i) C]) (st := []) (nA := 1) (zsp rfl rfl rfl) (zsp rfl rfl rfl) 3 0 rfl rfl rfl rfl gX4_hitsOf_X0_hitsFor rfl (by decide +kernel) ⟨Nat.le_of_ble_eq_true rfl, Nat.le_of_ble_eq_true rfl⟩ rfl rfl (Nat.le_of_ble_eq_true rfl) ⟨Nat.le_of_ble_eq_true rfl, Nat.le_of_ble_eq_true rfl⟩ dX4_hitsOf_7 z_noX (fun _ => ?_)
  have hF : fX4_hitsOf_h D i C x2 = (0, (fX0_hitsFor C x2)) := if_pos h1
  exact z_ret1 B rfl dX4_hitsOf_10 () (by rw [hF]) (Nat.le_of_ble_eq_true rfl) (Nat.le_of_ble_eq_true rfl) (by rw [hF]) (by rw [hF])
def fX4_left_h (X : Nat → Int32) (D : Nat → Nat → Int32) (i : Nat) (C : Nat → Nat → Int32) (x2 : Int32) : Nat × Int32 :=
  if (fX4_cacheAsked_h D i x2) = 0 then
    if (fX0_has C x2) = 0 then
      (3, 0)
    else
      (0, ((fX0_endOf C x2) - (X 3)))
  else
    ((fX4_cacheAsked_h D i x2), 0)
theorem haX4_left_83 : ∀ w ∈ (vx_atS RX4 83 "java/lang/IllegalStateException" ["java/lang/RuntimeException", "java/lang/Exception"]).filter goodWord, w ∈ wsX4_left := by decide +kernel
theorem hgX4_left_83 : ∀ w ∈ (vx_atS RX4 83 "java/lang/IllegalStateException" ["java/lang/RuntimeException", "java/lang/Exception"]).filter (fun w => !goodWord w), w ∈ zNw := by decide +kernel
theorem hoX4_left_83 : ∀ w ∈ Cond.classLink RX4 79 "java/lang/IllegalStateException" :: Cond.initialized "java/lang/IllegalStateException" :: vx_atS RX4 83 "java/lang/IllegalStateException" ["java/lang/RuntimeException", "java/lang/Exception"], vx_ot w = true := by decide +kernel
theorem hwX4_left_cl79 : Cond.classLink RX4 79 "java/lang/IllegalStateException" ∈ wsX4_left := by decide +kernel
theorem hwX4_left_ini79 : Cond.initialized "java/lang/IllegalStateException" ∈ wsX4_left := by decide +kernel
theorem hiX4_left_4 : ∀ w ∈ wsX40, w ∈ wsX4_left := by decide +kernel
theorem hfX4_left_108 : Cond.fieldLink RX4 108 "ResolverFleet" "now" "I" ∈ wsX4_left := by decide +kernel
set_option maxHeartbeats 4000000 in
set_option maxRecDepth 100000 in
theorem kX4_left_h (l : Launch) (hl : l.stackTraces = false) (K : zK) (ax : Nat) (zn : Nat) (sa : Nat) (la : Nat) (tr : Nat) (tc : Nat) (X : Nat → Int32) (f : Nat → Option Nat) (n : Nat) (so : Nat → Nat) (sc : Nat → Nat → Nat) (D : Nat → Nat → Int32) (i : Nat) (C : Nat → Nat → Int32) (x2 : Int32) (hi4 : i < 4) (hi : i < n) (hfi : f (nI i).toNatClampNeg = some (so i)) : zMet l K yX4_left wsX4_left { frames := 8, cells := 2, slots := 12, locals := 125 } [.ref ax, .int (nI i), .int x2] [zXo ax zn sa la tr tc X, zSa K sa f, zSO n so sc D, zCa K (sc i) C] (some (.int ((fX4_left_h X D i C x2).2))) [zXo ax zn sa la tr tc X, zSa K sa f, zSO n so sc D, zCa K (sc i) C] ((fX4_left_h X D i C x2).1 = 0) (fun E => (E = zE1 ∧ (fX4_left_h X D i C x2).1 = 1) ∨ (E = zE3 ∧ (fX4_left_h X D i C x2).1 = 3)) := by
  refine zMeN.of (cc := cX4_left) (maxL := 4) (ret := (some .int)) (own := RX4) (nm := "left") hl (by decide +kernel) rfl rfl rfl (Nat.le_of_ble_eq_true rfl) (lv := [(0, .ref ax), (1, .int (nI i)), (2, .int x2)]) rfl ?_
  intro p e s m args below meth c A B
  refine z_aload_n B dX4_left_0 0 rfl ?_
  refine z_iload_n B dX4_left_1 1 rfl ?_
  refine z_iload_n B dX4_left_2 2 rfl ?_
  refine z_V1 B (kX4_cacheAsked_h l hl K ax zn sa la tr tc X f n so sc D i x2 hi4 hi hfi) [0, 1, 2] [3] (br := [zCa K (sc i) C]) (bs' := [zXo ax zn sa la tr tc X, zSa K sa f, zSO n so sc D, zCa K (sc i) C]) (st := []) (nA := 2) (zsp rfl rfl rfl) (zsp rfl rfl rfl) 0 0 rfl rfl rfl rfl gX4_left_X4_cacheAsked rfl (by decide +kernel) ⟨Nat.le_of_ble_eq_true rfl, Nat.le_of_ble_eq_true rfl⟩ rfl rfl (Nat.le_of_ble_eq_true rfl) ⟨Nat.le_of_ble_eq_true rfl, Nat.le_of_ble_eq_true rfl⟩ dX4_left_3 (fun E hE => ?_) (fun h1 => ?_)
  · rcases hE with ⟨rfl, hx⟩
    · have hF : fX4_left_h X D i C x2 = (1, 0) := (if_neg (show ¬ (fX4_cacheAsked_h D i x2) = 0 by rw [hx]; decide)).trans ((show ((fX4_cacheAsked_h D i x2), 0) = (1, 0) by rw [hx]))
      exact z_out B (Or.inl ⟨rfl, by rw [hF]⟩) (Nat.le_of_ble_eq_true rfl) (Nat.le_of_ble_eq_true rfl)
  refine z_astore_n B (lv' := [(3, .ref ((sc i) 0)), (0, .ref ax), (1, .int (nI i)), (2, .int x2)]) dX4_left_6 (by decide) rfl ?_
  refine z_aload_n B dX4_left_7 0 rfl ?_
  refine z_iload_n B dX4_left_8 3 rfl ?_
  refine z_V1 B (kX0_has l hl K (sc i) C x2) [3] [0, 1, 2] (br := [zXo ax zn sa la tr tc X, zSa K sa f, zSO n so sc D]) (bs' := [zXo ax zn sa la tr tc X, zSa K sa f, zSO n so sc D, zCa K (sc i) C]) (st := []) (nA := 1) (zsp rfl rfl rfl) (zsp rfl rfl rfl) 3 0 rfl rfl rfl rfl gX4_left_X0_has rfl (by decide +kernel) ⟨Nat.le_of_ble_eq_true rfl, Nat.le_of_ble_eq_true rfl⟩ rfl rfl (Nat.le_of_ble_eq_true rfl) ⟨Nat.le_of_ble_eq_true rfl, Nat.le_of_ble_eq_true rfl⟩ dX4_left_9 z_noX (fun _ => ?_)
  refine z_ifne B 25 dX4_left_12 (by decide) (fun c2 => ?_) (fun c2 => ?_)
  · have hF : fX4_left_h X D i C x2 = (3, 0) := (if_pos h1).trans (if_pos c2)
    exact z_throw B rfl ["java/lang/RuntimeException", "java/lang/Exception"] (by decide +kernel) (by decide +kernel) hwX4_left_cl79 hwX4_left_ini79 (text := "there is no entry for this name") (by decide +kernel) haX4_left_83 hgX4_left_83 hoX4_left_83 dX4_left_15 dX4_left_18 dX4_left_19 dX4_left_21 dX4_left_24 (by decide) (Nat.le_of_ble_eq_true rfl) (Nat.le_of_ble_eq_true rfl) (Nat.le_of_ble_eq_true rfl) (Or.inr (⟨rfl, by rw [hF]⟩)) (Nat.le_of_ble_eq_true rfl) (Nat.le_of_ble_eq_true rfl)
  · refine z_aload_n B dX4_left_25 0 rfl ?_
    refine z_iload_n B dX4_left_26 3 rfl ?_
    refine z_V1 B (kX0_endOf l hl K (sc i) C x2) [3] [0, 1, 2] (br := [zXo ax zn sa la tr tc X, zSa K sa f, zSO n so sc D]) (bs' := [zXo ax zn sa la tr tc X, zSa K sa f, zSO n so sc D, zCa K (sc i) C]) (st := []) (nA := 1) (zsp rfl rfl rfl) (zsp rfl rfl rfl) 3 0 rfl rfl rfl rfl gX4_left_X0_endOf rfl (by decide +kernel) ⟨Nat.le_of_ble_eq_true rfl, Nat.le_of_ble_eq_true rfl⟩ rfl rfl (Nat.le_of_ble_eq_true rfl) ⟨Nat.le_of_ble_eq_true rfl, Nat.le_of_ble_eq_true rfl⟩ dX4_left_27 z_noX (fun _ => ?_)
    refine z_aload_n B dX4_left_30 1 rfl ?_
    refine z_get B (v := .int (X 3)) 0 0 3 hiX4_left_4 hfX4_left_108 rfl rfl rfl (by decide) rfl rfl rfl rfl dX4_left_31 ?_
    refine z_isub B dX4_left_34 ?_
    have hF : fX4_left_h X D i C x2 = (0, ((fX0_endOf C x2) - (X 3))) := (if_pos h1).trans (if_neg c2)
    exact z_ret1 B rfl dX4_left_35 () (by rw [hF]) (Nat.le_of_ble_eq_true rfl) (Nat.le_of_ble_eq_true rfl) (by rw [hF]) (by rw [hF])
def fX4_announce_m (x1 : Int32) (x2 : Int32) : Nat × Int32 :=
  ((fX4_siteNumbered_m x1), 0)
set_option maxHeartbeats 4000000 in
set_option maxRecDepth 100000 in
theorem kX4_announce_m (l : Launch) (hl : l.stackTraces = false) (K : zK) (ax : Nat) (zn : Nat) (sa : Nat) (la : Nat) (tr : Nat) (tc : Nat) (X : Nat → Int32) (f : Nat → Option Nat) (x1 : Int32) (x2 : Int32) (hfn : x1 < 4 → ¬ x1 < 0 → f x1.toNatClampNeg = none) : zMet l K yX4_announce wsX4_announce { frames := 7, cells := 1, slots := 6, locals := 104 } [.ref ax, .int x1, .int x2] [zXo ax zn sa la tr tc X, zSa K sa f] (some (.int ((fX4_announce_m x1 x2).2))) [zXo ax zn sa la tr tc X, zSa K sa f] False (fun E => (E = zE1 ∧ (fX4_announce_m x1 x2).1 = 1)) := by
  refine zMeN.of (cc := cX4_announce) (maxL := 5) (ret := (some .boolean)) (own := RX4) (nm := "announce") hl (by decide +kernel) rfl rfl rfl (Nat.le_of_ble_eq_true rfl) (lv := [(0, .ref ax), (1, .int x1), (2, .int x2)]) rfl ?_
  intro p e s m args below meth c A B
  refine z_aload_n B dX4_announce_0 0 rfl ?_
  refine z_iload_n B dX4_announce_1 1 rfl ?_
  refine z_V1 B (kX4_siteNumbered_m l hl K ax zn sa la tr tc X f x1 hfn) [0, 1] [] (br := []) (bs' := [zXo ax zn sa la tr tc X, zSa K sa f]) (st := []) (nA := 1) (zsp rfl rfl rfl) (zsp rfl rfl rfl) 0 0 rfl rfl rfl rfl gX4_announce_X4_siteNumbered rfl (by decide +kernel) ⟨Nat.le_of_ble_eq_true rfl, Nat.le_of_ble_eq_true rfl⟩ rfl rfl (Nat.le_of_ble_eq_true rfl) ⟨Nat.le_of_ble_eq_true rfl, Nat.le_of_ble_eq_true rfl⟩ dX4_announce_2 (fun E hE => ?_) (fun h9 => h9.elim)
  · rcases hE with ⟨rfl, hx⟩
    · have hF : fX4_announce_m x1 x2 = (1, 0) := (show ((fX4_siteNumbered_m x1), 0) = (1, 0) by rw [hx])
      exact z_out B (⟨rfl, by rw [hF]⟩) (Nat.le_of_ble_eq_true rfl) (Nat.le_of_ble_eq_true rfl)
def fX4_cacheAsked_m (x1 : Int32) (x2 : Int32) : Nat :=
  (fX4_siteNumbered_m x1)
set_option maxHeartbeats 4000000 in
set_option maxRecDepth 100000 in
theorem kX4_cacheAsked_m (l : Launch) (hl : l.stackTraces = false) (K : zK) (ax : Nat) (zn : Nat) (sa : Nat) (la : Nat) (tr : Nat) (tc : Nat) (X : Nat → Int32) (f : Nat → Option Nat) (x1 : Int32) (x2 : Int32) (hfn : x1 < 4 → ¬ x1 < 0 → f x1.toNatClampNeg = none) : zMet l K yX4_cacheAsked wsX4_cacheAsked { frames := 7, cells := 1, slots := 6, locals := 104 } [.ref ax, .int x1, .int x2] [zXo ax zn sa la tr tc X, zSa K sa f] (some .null) [zXo ax zn sa la tr tc X, zSa K sa f] False (fun E => (E = zE1 ∧ (fX4_cacheAsked_m x1 x2) = 1)) := by
  refine zMeN.of (cc := cX4_cacheAsked) (maxL := 4) (ret := (some (.object "ResolverFleet$Cache"))) (own := RX4) (nm := "cacheAsked") hl (by decide +kernel) rfl rfl rfl (Nat.le_of_ble_eq_true rfl) (lv := [(0, .ref ax), (1, .int x1), (2, .int x2)]) rfl ?_
  intro p e s m args below meth c A B
  refine z_aload_n B dX4_cacheAsked_0 0 rfl ?_
  refine z_iload_n B dX4_cacheAsked_1 1 rfl ?_
  refine z_V1 B (kX4_siteNumbered_m l hl K ax zn sa la tr tc X f x1 hfn) [0, 1] [] (br := []) (bs' := [zXo ax zn sa la tr tc X, zSa K sa f]) (st := []) (nA := 1) (zsp rfl rfl rfl) (zsp rfl rfl rfl) 0 0 rfl rfl rfl rfl gX4_cacheAsked_X4_siteNumbered rfl (by decide +kernel) ⟨Nat.le_of_ble_eq_true rfl, Nat.le_of_ble_eq_true rfl⟩ rfl rfl (Nat.le_of_ble_eq_true rfl) ⟨Nat.le_of_ble_eq_true rfl, Nat.le_of_ble_eq_true rfl⟩ dX4_cacheAsked_2 (fun E hE => ?_) (fun h9 => h9.elim)
  · rcases hE with ⟨rfl, hx⟩
    · have hF : fX4_cacheAsked_m x1 x2 = 1 := (show (fX4_siteNumbered_m x1) = 1 by rw [hx])
      exact z_out B (⟨rfl, by rw [hF]⟩) (Nat.le_of_ble_eq_true rfl) (Nat.le_of_ble_eq_true rfl)
def fX4_flush_m (x1 : Int32) (x2 : Int32) : Nat × Int32 :=
  ((fX4_cacheAsked_m x1 x2), 0)
set_option maxHeartbeats 4000000 in
set_option maxRecDepth 100000 in
theorem kX4_flush_m (l : Launch) (hl : l.stackTraces = false) (K : zK) (ax : Nat) (zn : Nat) (sa : Nat) (la : Nat) (tr : Nat) (tc : Nat) (X : Nat → Int32) (f : Nat → Option Nat) (x1 : Int32) (x2 : Int32) (hfn : x1 < 4 → ¬ x1 < 0 → f x1.toNatClampNeg = none) : zMet l K yX4_flush wsX4_flush { frames := 8, cells := 1, slots := 6, locals := 127 } [.ref ax, .int x1, .int x2] [zXo ax zn sa la tr tc X, zSa K sa f] (some (.int ((fX4_flush_m x1 x2).2))) [zXo ax zn sa la tr tc X, zSa K sa f] False (fun E => (E = zE1 ∧ (fX4_flush_m x1 x2).1 = 1)) := by
  refine zMeN.of (cc := cX4_flush) (maxL := 3) (ret := (some .boolean)) (own := RX4) (nm := "flush") hl (by decide +kernel) rfl rfl rfl (Nat.le_of_ble_eq_true rfl) (lv := [(0, .ref ax), (1, .int x1), (2, .int x2)]) rfl ?_
  intro p e s m args below meth c A B
  refine z_aload_n B dX4_flush_0 0 rfl ?_
  refine z_iload_n B dX4_flush_1 1 rfl ?_
  refine z_iload_n B dX4_flush_2 2 rfl ?_
  refine z_V1 B (kX4_cacheAsked_m l hl K ax zn sa la tr tc X f x1 x2 hfn) [0, 1] [] (br := []) (bs' := [zXo ax zn sa la tr tc X, zSa K sa f]) (st := []) (nA := 2) (zsp rfl rfl rfl) (zsp rfl rfl rfl) 0 0 rfl rfl rfl rfl gX4_flush_X4_cacheAsked rfl (by decide +kernel) ⟨Nat.le_of_ble_eq_true rfl, Nat.le_of_ble_eq_true rfl⟩ rfl rfl (Nat.le_of_ble_eq_true rfl) ⟨Nat.le_of_ble_eq_true rfl, Nat.le_of_ble_eq_true rfl⟩ dX4_flush_3 (fun E hE => ?_) (fun h9 => h9.elim)
  · rcases hE with ⟨rfl, hx⟩
    · have hF : fX4_flush_m x1 x2 = (1, 0) := (show ((fX4_cacheAsked_m x1 x2), 0) = (1, 0) by rw [hx])
      exact z_out B (⟨rfl, by rw [hF]⟩) (Nat.le_of_ble_eq_true rfl) (Nat.le_of_ble_eq_true rfl)
def fX4_cachedKind_m (x1 : Int32) (x2 : Int32) : Nat × Int32 :=
  ((fX4_cacheAsked_m x1 x2), 0)
set_option maxHeartbeats 4000000 in
set_option maxRecDepth 100000 in
theorem kX4_cachedKind_m (l : Launch) (hl : l.stackTraces = false) (K : zK) (ax : Nat) (zn : Nat) (sa : Nat) (la : Nat) (tr : Nat) (tc : Nat) (X : Nat → Int32) (f : Nat → Option Nat) (x1 : Int32) (x2 : Int32) (hfn : x1 < 4 → ¬ x1 < 0 → f x1.toNatClampNeg = none) : zMet l K yX4_cachedKind wsX4_cachedKind { frames := 8, cells := 1, slots := 6, locals := 127 } [.ref ax, .int x1, .int x2] [zXo ax zn sa la tr tc X, zSa K sa f] (some (.int ((fX4_cachedKind_m x1 x2).2))) [zXo ax zn sa la tr tc X, zSa K sa f] False (fun E => (E = zE1 ∧ (fX4_cachedKind_m x1 x2).1 = 1)) := by
  refine zMeN.of (cc := cX4_cachedKind) (maxL := 3) (ret := (some .int)) (own := RX4) (nm := "cachedKind") hl (by decide +kernel) rfl rfl rfl (Nat.le_of_ble_eq_true rfl) (lv := [(0, .ref ax), (1, .int x1), (2, .int x2)]) rfl ?_
  intro p e s m args below meth c A B
  refine z_aload_n B dX4_cachedKind_0 0 rfl ?_
  refine z_iload_n B dX4_cachedKind_1 1 rfl ?_
  refine z_iload_n B dX4_cachedKind_2 2 rfl ?_
  refine z_V1 B (kX4_cacheAsked_m l hl K ax zn sa la tr tc X f x1 x2 hfn) [0, 1] [] (br := []) (bs' := [zXo ax zn sa la tr tc X, zSa K sa f]) (st := []) (nA := 2) (zsp rfl rfl rfl) (zsp rfl rfl rfl) 0 0 rfl rfl rfl rfl gX4_cachedKind_X4_cacheAsked rfl (by decide +kernel) ⟨Nat.le_of_ble_eq_true rfl, Nat.le_of_ble_eq_true rfl⟩ rfl rfl (Nat.le_of_ble_eq_true rfl) ⟨Nat.le_of_ble_eq_true rfl, Nat.le_of_ble_eq_true rfl⟩ dX4_cachedKind_3 (fun E hE => ?_) (fun h9 => h9.elim)
  · rcases hE with ⟨rfl, hx⟩
    · have hF : fX4_cachedKind_m x1 x2 = (1, 0) := (show ((fX4_cacheAsked_m x1 x2), 0) = (1, 0) by rw [hx])
      exact z_out B (⟨rfl, by rw [hF]⟩) (Nat.le_of_ble_eq_true rfl) (Nat.le_of_ble_eq_true rfl)
def fX4_cachedValue_m (x1 : Int32) (x2 : Int32) : Nat × Int32 :=
  ((fX4_cacheAsked_m x1 x2), 0)
set_option maxHeartbeats 4000000 in
set_option maxRecDepth 100000 in
theorem kX4_cachedValue_m (l : Launch) (hl : l.stackTraces = false) (K : zK) (ax : Nat) (zn : Nat) (sa : Nat) (la : Nat) (tr : Nat) (tc : Nat) (X : Nat → Int32) (f : Nat → Option Nat) (x1 : Int32) (x2 : Int32) (hfn : x1 < 4 → ¬ x1 < 0 → f x1.toNatClampNeg = none) : zMet l K yX4_cachedValue wsX4_cachedValue { frames := 8, cells := 1, slots := 6, locals := 127 } [.ref ax, .int x1, .int x2] [zXo ax zn sa la tr tc X, zSa K sa f] (some (.int ((fX4_cachedValue_m x1 x2).2))) [zXo ax zn sa la tr tc X, zSa K sa f] False (fun E => (E = zE1 ∧ (fX4_cachedValue_m x1 x2).1 = 1)) := by
  refine zMeN.of (cc := cX4_cachedValue) (maxL := 3) (ret := (some .int)) (own := RX4) (nm := "cachedValue") hl (by decide +kernel) rfl rfl rfl (Nat.le_of_ble_eq_true rfl) (lv := [(0, .ref ax), (1, .int x1), (2, .int x2)]) rfl ?_
  intro p e s m args below meth c A B
  refine z_aload_n B dX4_cachedValue_0 0 rfl ?_
  refine z_iload_n B dX4_cachedValue_1 1 rfl ?_
  refine z_iload_n B dX4_cachedValue_2 2 rfl ?_
  refine z_V1 B (kX4_cacheAsked_m l hl K ax zn sa la tr tc X f x1 x2 hfn) [0, 1] [] (br := []) (bs' := [zXo ax zn sa la tr tc X, zSa K sa f]) (st := []) (nA := 2) (zsp rfl rfl rfl) (zsp rfl rfl rfl) 0 0 rfl rfl rfl rfl gX4_cachedValue_X4_cacheAsked rfl (by decide +kernel) ⟨Nat.le_of_ble_eq_true rfl, Nat.le_of_ble_eq_true rfl⟩ rfl rfl (Nat.le_of_ble_eq_true rfl) ⟨Nat.le_of_ble_eq_true rfl, Nat.le_of_ble_eq_true rfl⟩ dX4_cachedValue_3 (fun E hE => ?_) (fun h9 => h9.elim)
  · rcases hE with ⟨rfl, hx⟩
    · have hF : fX4_cachedValue_m x1 x2 = (1, 0) := (show ((fX4_cacheAsked_m x1 x2), 0) = (1, 0) by rw [hx])
      exact z_out B (⟨rfl, by rw [hF]⟩) (Nat.le_of_ble_eq_true rfl) (Nat.le_of_ble_eq_true rfl)
def fX4_left_m (x1 : Int32) (x2 : Int32) : Nat × Int32 :=
  ((fX4_cacheAsked_m x1 x2), 0)
set_option maxHeartbeats 4000000 in
set_option maxRecDepth 100000 in
theorem kX4_left_m (l : Launch) (hl : l.stackTraces = false) (K : zK) (ax : Nat) (zn : Nat) (sa : Nat) (la : Nat) (tr : Nat) (tc : Nat) (X : Nat → Int32) (f : Nat → Option Nat) (x1 : Int32) (x2 : Int32) (hfn : x1 < 4 → ¬ x1 < 0 → f x1.toNatClampNeg = none) : zMet l K yX4_left wsX4_left { frames := 8, cells := 1, slots := 6, locals := 127 } [.ref ax, .int x1, .int x2] [zXo ax zn sa la tr tc X, zSa K sa f] (some (.int ((fX4_left_m x1 x2).2))) [zXo ax zn sa la tr tc X, zSa K sa f] False (fun E => (E = zE1 ∧ (fX4_left_m x1 x2).1 = 1)) := by
  refine zMeN.of (cc := cX4_left) (maxL := 4) (ret := (some .int)) (own := RX4) (nm := "left") hl (by decide +kernel) rfl rfl rfl (Nat.le_of_ble_eq_true rfl) (lv := [(0, .ref ax), (1, .int x1), (2, .int x2)]) rfl ?_
  intro p e s m args below meth c A B
  refine z_aload_n B dX4_left_0 0 rfl ?_
  refine z_iload_n B dX4_left_1 1 rfl ?_
  refine z_iload_n B dX4_left_2 2 rfl ?_
  refine z_V1 B (kX4_cacheAsked_m l hl K ax zn sa la tr tc X f x1 x2 hfn) [0, 1] [] (br := []) (bs' := [zXo ax zn sa la tr tc X, zSa K sa f]) (st := []) (nA := 2) (zsp rfl rfl rfl) (zsp rfl rfl rfl) 0 0 rfl rfl rfl rfl gX4_left_X4_cacheAsked rfl (by decide +kernel) ⟨Nat.le_of_ble_eq_true rfl, Nat.le_of_ble_eq_true rfl⟩ rfl rfl (Nat.le_of_ble_eq_true rfl) ⟨Nat.le_of_ble_eq_true rfl, Nat.le_of_ble_eq_true rfl⟩ dX4_left_3 (fun E hE => ?_) (fun h9 => h9.elim)
  · rcases hE with ⟨rfl, hx⟩
    · have hF : fX4_left_m x1 x2 = (1, 0) := (show ((fX4_cacheAsked_m x1 x2), 0) = (1, 0) by rw [hx])
      exact z_out B (⟨rfl, by rw [hF]⟩) (Nat.le_of_ble_eq_true rfl) (Nat.le_of_ble_eq_true rfl)
def fX4_hitsOf_m (x1 : Int32) (x2 : Int32) : Nat × Int32 :=
  ((fX4_cacheAsked_m x1 x2), 0)
set_option maxHeartbeats 4000000 in
set_option maxRecDepth 100000 in
theorem kX4_hitsOf_m (l : Launch) (hl : l.stackTraces = false) (K : zK) (ax : Nat) (zn : Nat) (sa : Nat) (la : Nat) (tr : Nat) (tc : Nat) (X : Nat → Int32) (f : Nat → Option Nat) (x1 : Int32) (x2 : Int32) (hfn : x1 < 4 → ¬ x1 < 0 → f x1.toNatClampNeg = none) : zMet l K yX4_hitsOf wsX4_hitsOf { frames := 8, cells := 1, slots := 6, locals := 127 } [.ref ax, .int x1, .int x2] [zXo ax zn sa la tr tc X, zSa K sa f] (some (.int ((fX4_hitsOf_m x1 x2).2))) [zXo ax zn sa la tr tc X, zSa K sa f] False (fun E => (E = zE1 ∧ (fX4_hitsOf_m x1 x2).1 = 1)) := by
  refine zMeN.of (cc := cX4_hitsOf) (maxL := 3) (ret := (some .int)) (own := RX4) (nm := "hitsOf") hl (by decide +kernel) rfl rfl rfl (Nat.le_of_ble_eq_true rfl) (lv := [(0, .ref ax), (1, .int x1), (2, .int x2)]) rfl ?_
  intro p e s m args below meth c A B
  refine z_aload_n B dX4_hitsOf_0 0 rfl ?_
  refine z_iload_n B dX4_hitsOf_1 1 rfl ?_
  refine z_iload_n B dX4_hitsOf_2 2 rfl ?_
  refine z_V1 B (kX4_cacheAsked_m l hl K ax zn sa la tr tc X f x1 x2 hfn) [0, 1] [] (br := []) (bs' := [zXo ax zn sa la tr tc X, zSa K sa f]) (st := []) (nA := 2) (zsp rfl rfl rfl) (zsp rfl rfl rfl) 0 0 rfl rfl rfl rfl gX4_hitsOf_X4_cacheAsked rfl (by decide +kernel) ⟨Nat.le_of_ble_eq_true rfl, Nat.le_of_ble_eq_true rfl⟩ rfl rfl (Nat.le_of_ble_eq_true rfl) ⟨Nat.le_of_ble_eq_true rfl, Nat.le_of_ble_eq_true rfl⟩ dX4_hitsOf_3 (fun E hE => ?_) (fun h9 => h9.elim)
  · rcases hE with ⟨rfl, hx⟩
    · have hF : fX4_hitsOf_m x1 x2 = (1, 0) := (show ((fX4_cacheAsked_m x1 x2), 0) = (1, 0) by rw [hx])
      exact z_out B (⟨rfl, by rw [hF]⟩) (Nat.le_of_ble_eq_true rfl) (Nat.le_of_ble_eq_true rfl)
def fX4_entries_m (x1 : Int32) : Nat × Int32 :=
  ((fX4_siteNumbered_m x1), 0)
set_option maxHeartbeats 4000000 in
set_option maxRecDepth 100000 in
theorem kX4_entries_m (l : Launch) (hl : l.stackTraces = false) (K : zK) (ax : Nat) (zn : Nat) (sa : Nat) (la : Nat) (tr : Nat) (tc : Nat) (X : Nat → Int32) (f : Nat → Option Nat) (x1 : Int32) (hfn : x1 < 4 → ¬ x1 < 0 → f x1.toNatClampNeg = none) : zMet l K yX4_entries wsX4_entries { frames := 7, cells := 1, slots := 6, locals := 104 } [.ref ax, .int x1] [zXo ax zn sa la tr tc X, zSa K sa f] (some (.int ((fX4_entries_m x1).2))) [zXo ax zn sa la tr tc X, zSa K sa f] False (fun E => (E = zE1 ∧ (fX4_entries_m x1).1 = 1)) := by
  refine zMeN.of (cc := cX4_entries) (maxL := 2) (ret := (some .int)) (own := RX4) (nm := "entries") hl (by decide +kernel) rfl rfl rfl (Nat.le_of_ble_eq_true rfl) (lv := [(0, .ref ax), (1, .int x1)]) rfl ?_
  intro p e s m args below meth c A B
  refine z_aload_n B dX4_entries_0 0 rfl ?_
  refine z_iload_n B dX4_entries_1 1 rfl ?_
  refine z_V1 B (kX4_siteNumbered_m l hl K ax zn sa la tr tc X f x1 hfn) [0, 1] [] (br := []) (bs' := [zXo ax zn sa la tr tc X, zSa K sa f]) (st := []) (nA := 1) (zsp rfl rfl rfl) (zsp rfl rfl rfl) 0 0 rfl rfl rfl rfl gX4_entries_X4_siteNumbered rfl (by decide +kernel) ⟨Nat.le_of_ble_eq_true rfl, Nat.le_of_ble_eq_true rfl⟩ rfl rfl (Nat.le_of_ble_eq_true rfl) ⟨Nat.le_of_ble_eq_true rfl, Nat.le_of_ble_eq_true rfl⟩ dX4_entries_2 (fun E hE => ?_) (fun h9 => h9.elim)
  · rcases hE with ⟨rfl, hx⟩
    · have hF : fX4_entries_m x1 = (1, 0) := (show ((fX4_siteNumbered_m x1), 0) = (1, 0) by rw [hx])
      exact z_out B (⟨rfl, by rw [hF]⟩) (Nat.le_of_ble_eq_true rfl) (Nat.le_of_ble_eq_true rfl)
end
section
def fX2_distanceTo (D : Nat → Nat → Int32) (i : Nat) (x1 : Int32) : Int32 :=
  (if 0 ≤ (x1 - (D i 1)) then (x1 - (D i 1)) else 0 - (x1 - (D i 1)))
theorem hiX2_distanceTo_2 : ∀ w ∈ wsX20, w ∈ wsX2_distanceTo := by decide +kernel
theorem hfX2_distanceTo_24 : Cond.fieldLink RX2 24 "ResolverFleet$Site" "position" "I" ∈ wsX2_distanceTo := by decide +kernel
theorem hwX2_distanceTo_al : Cond.methodLink RX2 27 Lib.Math.abs.name ∈ wsX2_distanceTo := by decide +kernel
theorem hwX2_distanceTo_as : Cond.static Lib.Math.abs.name ∈ wsX2_distanceTo := by decide +kernel
theorem hwX2_distanceTo_ai : Cond.initialized "java/lang/Math" ∈ wsX2_distanceTo := by decide +kernel
theorem hwX2_distanceTo_ac : Cond.code Lib.Math.abs.name Lib.Math.abs.code 1 (some .int) ∈ wsX2_distanceTo := by decide +kernel
set_option maxHeartbeats 4000000 in
set_option maxRecDepth 100000 in
theorem kX2_distanceTo (l : Launch) (hl : l.stackTraces = false) (K : zK) (n : Nat) (so : Nat → Nat) (sc : Nat → Nat → Nat) (D : Nat → Nat → Int32) (i : Nat) (x1 : Int32) (hi : i < n) : zMet l K yX2_distanceTo wsX2_distanceTo { frames := 1, cells := 0, slots := 0, locals := 13 } [.ref (so i), .int x1] [zSO n so sc D] (some (.int (fX2_distanceTo D i x1))) [zSO n so sc D] True zNo := by
  refine zMeN.of (cc := cX2_distanceTo) (maxL := 2) (ret := (some .int)) (own := RX2) (nm := "distanceTo") hl (by decide +kernel) rfl rfl rfl (Nat.le_of_ble_eq_true rfl) (lv := [(0, .ref (so i)), (1, .int x1)]) rfl ?_
  intro p e s m args below meth c A B
  refine z_iload_n B dX2_distanceTo_0 1 rfl ?_
  refine z_aload_n B dX2_distanceTo_1 0 rfl ?_
  refine z_get B (v := .int (D i 1)) 0 i 1 hiX2_distanceTo_2 hfX2_distanceTo_24 rfl (zSO_get hi) rfl (by decide) rfl rfl rfl rfl dX2_distanceTo_2 ?_
  refine z_isub B dX2_distanceTo_5 ?_
  refine z_abs B hwX2_distanceTo_al hwX2_distanceTo_as hwX2_distanceTo_ai hwX2_distanceTo_ac (Nat.le_of_ble_eq_true rfl) (Nat.le_of_ble_eq_true rfl) (Nat.le_of_ble_eq_true rfl) (Nat.le_of_ble_eq_true rfl) dX2_distanceTo_6 ?_
  have hF : fX2_distanceTo D i x1 = (if 0 ≤ (x1 - (D i 1)) then (x1 - (D i 1)) else 0 - (x1 - (D i 1))) := rfl
  exact z_ret1 B rfl dX2_distanceTo_9 () (trivial) (Nat.le_of_ble_eq_true rfl) (Nat.le_of_ble_eq_true rfl) (by rw [hF]) (by rw [hF])
/-- the nearest announced site of n, by the loop over the four places -/
def fX4_nr (n : Nat) (D : Nat → Nat → Int32) (x1 : Int32) : Nat → Nat → Option Nat → Option Nat
  | 0, a, g => g
  | m + 1, a, g => if a < n then (if D a 3 = 0 then fX4_nr n D x1 m (a + 1) g else match g with
    | none => fX4_nr n D x1 m (a + 1) (some a)
    | some b => if fX2_distanceTo D b x1 ≤ fX2_distanceTo D a x1 then fX4_nr n D x1 m (a + 1) (some b) else fX4_nr n D x1 m (a + 1) (some a)) else fX4_nr n D x1 m (a + 1) g
def fX4_near (n : Nat) (D : Nat → Nat → Int32) (x1 : Int32) : Option Nat := fX4_nr n D x1 4 0 none
theorem hiX4_nearestSite_4 : ∀ w ∈ wsX40, w ∈ wsX4_nearestSite := by decide +kernel
theorem hfX4_nearestSite_18 : Cond.fieldLink RX4 18 "ResolverFleet" "sites" "[LResolverFleet$Site;" ∈ wsX4_nearestSite := by decide +kernel
theorem hiX4_nearestSite_2 : ∀ w ∈ wsX20, w ∈ wsX4_nearestSite := by decide +kernel
theorem hfX4_nearestSite_91 : Cond.fieldLink RX4 91 "ResolverFleet$Site" "isAnnounced" "Z" ∈ wsX4_nearestSite := by decide +kernel
theorem z_fcl {f : Nat → Option Nat} {so : Nat → Nat} {n a : Nat} (h : ∀ a, a < n → f a = some (so a)) (ha : a < n) (h4 : a < 4) : f (nI a).toNatClampNeg = some (so a) := by
  rw [nI_clamp (by omega)]
  exact h a ha
theorem z_fcn {f : Nat → Option Nat} {n a : Nat} (h : ∀ a, n ≤ a → a < 4 → f a = none) (ha : n ≤ a) (h4 : a < 4) : f (nI a).toNatClampNeg = none := by
  rw [nI_clamp (by omega)]
  exact h a ha h4
set_option maxHeartbeats 4000000 in
set_option maxRecDepth 100000 in
theorem kX4_nearestSite_L (l : Launch) (hl : l.stackTraces = false) (K : zK) (ax : Nat) (zn : Nat) (sa : Nat) (la : Nat) (tr : Nat) (tc : Nat) (X : Nat → Int32) (f : Nat → Option Nat) (n : Nat) (so : Nat → Nat) (sc : Nat → Nat → Nat) (D : Nat → Nat → Int32) (x1 : Int32) (hf1 : ∀ a, a < n → f a = some (so a)) (hf2 : ∀ a, n ≤ a → a < 4 → f a = none) {p : Program} {e : Env} {s : State} {m : MethodId} {args : Array Value} {below : List Frame} {meth : Method} {c : Code} {A : Nat → Prop} (B : zF K p l s m args meth c A cX4_nearestSite 7 RX4 "nearestSite" wsX4_nearestSite (some (.object "ResolverFleet$Site")) []) : ∀ (m9 a : Nat) (g : Option Nat), a + m9 = 4 → (∀ b, g = some b → b < n) → (fX4_near n D x1) = fX4_nr n D x1 m9 a g → zW K p l e { frames := 2, cells := 0, slots := 0, locals := 34 } s m args below meth c A (vx_MQ below (zQ K A (fun _ : Unit => ((some (va_rf ((fX4_near n D x1).map so))), [zXo ax zn sa la tr tc X, zSa K sa f, zSO n so sc D])) (fun _ => True)) (zX K A [zXo ax zn sa la tr tc X, zSa K sa f, zSO n so sc D] zNo) args s 0 0 A) 0 0 [zXo ax zn sa la tr tc X, zSa K sa f, zSO n so sc D] [(0, .ref ax), (1, .int x1), (2, va_rf (g.map so)), (3, .ref sa), (4, .int 4), (5, .int (nI a))] [] 14 := by
  intro m9
  induction m9 with
  | zero =>
    intro a g ha hg hF0
    cases g with
    | none =>
      refine z_iload B dX4_nearestSite_14 5 rfl ?_
      refine z_iload B dX4_nearestSite_16 4 rfl ?_
      refine z_icge B 70 dX4_nearestSite_18 (by decide) (fun _ => ?_) (fun h => absurd (z_lge0 ha (by decide)) h)
      refine z_aload_nN B dX4_nearestSite_70 2 rfl ?_
      exact z_reta B (Or.inl rfl) dX4_nearestSite_71 () trivial (Nat.le_of_ble_eq_true rfl) (Nat.le_of_ble_eq_true rfl) (by rw [hF0]; rfl) rfl
    | some b =>
      refine z_iload B dX4_nearestSite_14 5 rfl ?_
      refine z_iload B dX4_nearestSite_16 4 rfl ?_
      refine z_icge B 70 dX4_nearestSite_18 (by decide) (fun _ => ?_) (fun h => absurd (z_lge0 ha (by decide)) h)
      refine z_aload_n B dX4_nearestSite_70 2 rfl ?_
      exact z_reta B (Or.inr ⟨_, rfl⟩) dX4_nearestSite_71 () trivial (Nat.le_of_ble_eq_true rfl) (Nat.le_of_ble_eq_true rfl) (by rw [hF0]; rfl) rfl
  | succ m9 ih =>
    intro a g ha hg hF0
    by_cases han : a < n
    · by_cases hd : (D a 3) = 0
      · refine z_iload B dX4_nearestSite_14 5 rfl ?_
        refine z_iload B dX4_nearestSite_16 4 rfl ?_
        refine z_icge B 70 dX4_nearestSite_18 (by decide) (fun h => absurd h (z_lgeS ha (by decide))) (fun _ => ?_)
        refine z_aload_n B dX4_nearestSite_21 3 rfl ?_
        refine z_iload B dX4_nearestSite_22 5 rfl ?_
        refine z_aaldS B (N := 4) (f := f) 1 0 rfl rfl (z_nIr (by omega) (by decide)) (z_fcl hf1 han (by omega)) dX4_nearestSite_24 ?_
        refine z_astore B (lv' := [(6, .ref (so a)), (0, .ref ax), (1, .int x1), (2, va_rf (g.map so)), (3, .ref sa), (4, .int 4), (5, .int (nI a))]) dX4_nearestSite_25 (by decide) rfl ?_
        refine z_aload B dX4_nearestSite_27 0 rfl ?_
        refine z_ifnull B dX4_nearestSite_29 ?_
        refine z_aload B dX4_nearestSite_32 0 rfl ?_
        refine z_get B (v := .int (D a 3)) 2 a 3 hiX4_nearestSite_2 hfX4_nearestSite_91 rfl (zSO_get han) rfl (by decide) rfl rfl rfl rfl dX4_nearestSite_34 ?_
        refine z_ifne B 43 dX4_nearestSite_37 (by decide) (fun _ => ?_) (fun h => absurd hd h)
        refine z_goto B (tgt := 64) dX4_nearestSite_40 (by decide) ?_
        refine z_iinc B (v := nI (a + 1)) (lv' := [(5, .int (nI (a + 1))), (6, .ref (so a)), (0, .ref ax), (1, .int x1), (2, va_rf (g.map so)), (3, .ref sa), (4, .int 4)]) dX4_nearestSite_64 6 rfl (nI_1 a) (by decide) rfl ?_
        refine z_goto B (tgt := 14) dX4_nearestSite_67 (by decide) ?_
        refine z_lsub [2, 3, 4, 5, 6, 0] rfl ?_
        exact ih (a + 1) g (by omega) hg ((hF0).trans ((if_pos han).trans ((if_pos hd).trans (rfl))))
      · cases g with
        | none =>
          refine z_iload B dX4_nearestSite_14 5 rfl ?_
          refine z_iload B dX4_nearestSite_16 4 rfl ?_
          refine z_icge B 70 dX4_nearestSite_18 (by decide) (fun h => absurd h (z_lgeS ha (by decide))) (fun _ => ?_)
          refine z_aload_n B dX4_nearestSite_21 3 rfl ?_
          refine z_iload B dX4_nearestSite_22 5 rfl ?_
          refine z_aaldS B (N := 4) (f := f) 1 0 rfl rfl (z_nIr (by omega) (by decide)) (z_fcl hf1 han (by omega)) dX4_nearestSite_24 ?_
          refine z_astore B (lv' := [(6, .ref (so a)), (0, .ref ax), (1, .int x1), (2, .null), (3, .ref sa), (4, .int 4), (5, .int (nI a))]) dX4_nearestSite_25 (by decide) rfl ?_
          refine z_aload B dX4_nearestSite_27 0 rfl ?_
          refine z_ifnull B dX4_nearestSite_29 ?_
          refine z_aload B dX4_nearestSite_32 0 rfl ?_
          refine z_get B (v := .int (D a 3)) 2 a 3 hiX4_nearestSite_2 hfX4_nearestSite_91 rfl (zSO_get han) rfl (by decide) rfl rfl rfl rfl dX4_nearestSite_34 ?_
          refine z_ifne B 43 dX4_nearestSite_37 (by decide) (fun h => absurd h hd) (fun _ => ?_)
          refine z_aload_nN B dX4_nearestSite_43 3 rfl ?_
          refine z_ifnullN B 61 dX4_nearestSite_44 (by decide) ?_
          refine z_aload B dX4_nearestSite_61 0 rfl ?_
          refine z_astore_n B (lv' := [(2, .ref (so a)), (6, .ref (so a)), (0, .ref ax), (1, .int x1), (3, .ref sa), (4, .int 4), (5, .int (nI a))]) dX4_nearestSite_63 (by decide) rfl ?_
          refine z_iinc B (v := nI (a + 1)) (lv' := [(5, .int (nI (a + 1))), (2, .ref (so a)), (6, .ref (so a)), (0, .ref ax), (1, .int x1), (3, .ref sa), (4, .int 4)]) dX4_nearestSite_64 6 rfl (nI_1 a) (by decide) rfl ?_
          refine z_goto B (tgt := 14) dX4_nearestSite_67 (by decide) ?_
          refine z_lsub [3, 4, 1, 5, 6, 0] rfl ?_
          exact ih (a + 1) (some a) (by omega) (fun b hb => by cases hb; exact han) ((hF0).trans ((if_pos han).trans ((if_neg hd).trans (rfl))))
        | some b =>
          have hbn : b < n := hg b rfl
          refine z_iload B dX4_nearestSite_14 5 rfl ?_
          refine z_iload B dX4_nearestSite_16 4 rfl ?_
          refine z_icge B 70 dX4_nearestSite_18 (by decide) (fun h => absurd h (z_lgeS ha (by decide))) (fun _ => ?_)
          refine z_aload_n B dX4_nearestSite_21 3 rfl ?_
          refine z_iload B dX4_nearestSite_22 5 rfl ?_
          refine z_aaldS B (N := 4) (f := f) 1 0 rfl rfl (z_nIr (by omega) (by decide)) (z_fcl hf1 han (by omega)) dX4_nearestSite_24 ?_
          refine z_astore B (lv' := [(6, .ref (so a)), (0, .ref ax), (1, .int x1), (2, .ref (so b)), (3, .ref sa), (4, .int 4), (5, .int (nI a))]) dX4_nearestSite_25 (by decide) rfl ?_
          refine z_aload B dX4_nearestSite_27 0 rfl ?_
          refine z_ifnull B dX4_nearestSite_29 ?_
          refine z_aload B dX4_nearestSite_32 0 rfl ?_
          refine z_get B (v := .int (D a 3)) 2 a 3 hiX4_nearestSite_2 hfX4_nearestSite_91 rfl (zSO_get han) rfl (by decide) rfl rfl rfl rfl dX4_nearestSite_34 ?_
          refine z_ifne B 43 dX4_nearestSite_37 (by decide) (fun h => absurd h hd) (fun _ => ?_)
          refine z_aload_n B dX4_nearestSite_43 3 rfl ?_
          refine z_ifnull B dX4_nearestSite_44 ?_
          refine z_aload B dX4_nearestSite_47 0 rfl ?_
          refine z_iload_n B dX4_nearestSite_49 2 rfl ?_
          refine z_V1 B (kX2_distanceTo l hl K n so sc D a x1 han) [2] [0, 1] (br := [zXo ax zn sa la tr tc X, zSa K sa f]) (bs' := [zXo ax zn sa la tr tc X, zSa K sa f, zSO n so sc D]) (st := []) (nA := 1) (zsp rfl rfl rfl) (zsp rfl rfl rfl) 2 a rfl (zSO_get han) rfl rfl gX4_nearestSite_X2_distanceTo rfl (by decide +kernel) ⟨Nat.le_of_ble_eq_true rfl, Nat.le_of_ble_eq_true rfl⟩ rfl rfl (Nat.le_of_ble_eq_true rfl) ⟨Nat.le_of_ble_eq_true rfl, Nat.le_of_ble_eq_true rfl⟩ dX4_nearestSite_50 z_noX (fun _ => ?_)
          refine z_aload_n B dX4_nearestSite_53 3 rfl ?_
          refine z_iload_n B dX4_nearestSite_54 2 rfl ?_
          refine z_V1 B (kX2_distanceTo l hl K n so sc D b x1 hbn) [2] [0, 1] (br := [zXo ax zn sa la tr tc X, zSa K sa f]) (bs' := [zXo ax zn sa la tr tc X, zSa K sa f, zSO n so sc D]) (st := [.int (fX2_distanceTo D a x1)]) (nA := 1) (zsp rfl rfl rfl) (zsp rfl rfl rfl) 2 b rfl (zSO_get hbn) rfl rfl gX4_nearestSite_X2_distanceTo rfl (by decide +kernel) ⟨Nat.le_of_ble_eq_true rfl, Nat.le_of_ble_eq_true rfl⟩ rfl rfl (Nat.le_of_ble_eq_true rfl) ⟨Nat.le_of_ble_eq_true rfl, Nat.le_of_ble_eq_true rfl⟩ dX4_nearestSite_55 z_noX (fun _ => ?_)
          refine z_icge B 64 dX4_nearestSite_58 (by decide) (fun c1 => ?_) (fun c1 => ?_)
          · refine z_iinc B (v := nI (a + 1)) (lv' := [(5, .int (nI (a + 1))), (6, .ref (so a)), (0, .ref ax), (1, .int x1), (2, .ref (so b)), (3, .ref sa), (4, .int 4)]) dX4_nearestSite_64 6 rfl (nI_1 a) (by decide) rfl ?_
            refine z_goto B (tgt := 14) dX4_nearestSite_67 (by decide) ?_
            refine z_lsub [2, 3, 4, 5, 6, 0] rfl ?_
            exact ih (a + 1) (some b) (by omega) hg ((hF0).trans ((if_pos han).trans ((if_neg hd).trans ((if_pos c1).trans (rfl)))))
          · refine z_aload B dX4_nearestSite_61 0 rfl ?_
            refine z_astore_n B (lv' := [(2, .ref (so a)), (6, .ref (so a)), (0, .ref ax), (1, .int x1), (3, .ref sa), (4, .int 4), (5, .int (nI a))]) dX4_nearestSite_63 (by decide) rfl ?_
            refine z_iinc B (v := nI (a + 1)) (lv' := [(5, .int (nI (a + 1))), (2, .ref (so a)), (6, .ref (so a)), (0, .ref ax), (1, .int x1), (3, .ref sa), (4, .int 4)]) dX4_nearestSite_64 6 rfl (nI_1 a) (by decide) rfl ?_
            refine z_goto B (tgt := 14) dX4_nearestSite_67 (by decide) ?_
            refine z_lsub [3, 4, 1, 5, 6, 0] rfl ?_
            exact ih (a + 1) (some a) (by omega) (fun b hb => by cases hb; exact han) ((hF0).trans ((if_pos han).trans ((if_neg hd).trans ((if_neg c1).trans (rfl)))))
    · refine z_iload B dX4_nearestSite_14 5 rfl ?_
      refine z_iload B dX4_nearestSite_16 4 rfl ?_
      refine z_icge B 70 dX4_nearestSite_18 (by decide) (fun h => absurd h (z_lgeS ha (by decide))) (fun _ => ?_)
      refine z_aload_n B dX4_nearestSite_21 3 rfl ?_
      refine z_iload B dX4_nearestSite_22 5 rfl ?_
      refine z_aaldN B (N := 4) (f := f) 1 0 rfl rfl (z_nIr (by omega) (by decide)) (z_fcn hf2 (by omega) (by omega)) dX4_nearestSite_24 ?_
      refine z_astoreN B (lv' := [(6, .null), (0, .ref ax), (1, .int x1), (2, va_rf (g.map so)), (3, .ref sa), (4, .int 4), (5, .int (nI a))]) dX4_nearestSite_25 (by decide) rfl ?_
      refine z_aloadN B dX4_nearestSite_27 0 rfl ?_
      refine z_ifnullN B 64 dX4_nearestSite_29 (by decide) ?_
      refine z_iinc B (v := nI (a + 1)) (lv' := [(5, .int (nI (a + 1))), (6, .null), (0, .ref ax), (1, .int x1), (2, va_rf (g.map so)), (3, .ref sa), (4, .int 4)]) dX4_nearestSite_64 6 rfl (nI_1 a) (by decide) rfl ?_
      refine z_goto B (tgt := 14) dX4_nearestSite_67 (by decide) ?_
      refine z_lsub [2, 3, 4, 5, 6, 0] rfl ?_
      exact ih (a + 1) g (by omega) hg ((hF0).trans ((if_neg han).trans (rfl)))
set_option maxHeartbeats 4000000 in
set_option maxRecDepth 100000 in
theorem kX4_nearestSite (l : Launch) (hl : l.stackTraces = false) (K : zK) (ax : Nat) (zn : Nat) (sa : Nat) (la : Nat) (tr : Nat) (tc : Nat) (X : Nat → Int32) (f : Nat → Option Nat) (n : Nat) (so : Nat → Nat) (sc : Nat → Nat → Nat) (D : Nat → Nat → Int32) (x1 : Int32) (hf1 : ∀ a, a < n → f a = some (so a)) (hf2 : ∀ a, n ≤ a → a < 4 → f a = none) : zMet l K yX4_nearestSite wsX4_nearestSite { frames := 2, cells := 0, slots := 0, locals := 34 } [.ref ax, .int x1] [zXo ax zn sa la tr tc X, zSa K sa f, zSO n so sc D] (some (va_rf ((fX4_near n D x1).map so))) [zXo ax zn sa la tr tc X, zSa K sa f, zSO n so sc D] True zNo := by
  refine zMeN.of (cc := cX4_nearestSite) (maxL := 7) (ret := (some (.object "ResolverFleet$Site"))) (own := RX4) (nm := "nearestSite") hl (by decide +kernel) rfl rfl rfl (Nat.le_of_ble_eq_true rfl) (lv := [(0, .ref ax), (1, .int x1)]) rfl ?_
  intro p e s m args below meth c A B
  refine z_null B dX4_nearestSite_0 ?_
  refine z_astore_nN B (lv' := [(2, .null), (0, .ref ax), (1, .int x1)]) dX4_nearestSite_1 (by decide) rfl ?_
  refine z_aload_n B dX4_nearestSite_2 1 rfl ?_
  refine z_get B (v := .ref sa) 0 0 1 hiX4_nearestSite_4 hfX4_nearestSite_18 rfl rfl rfl (by decide) rfl rfl rfl rfl dX4_nearestSite_3 ?_
  refine z_astore_n B (lv' := [(3, .ref sa), (2, .null), (0, .ref ax), (1, .int x1)]) dX4_nearestSite_6 (by decide) rfl ?_
  refine z_aload_n B dX4_nearestSite_7 0 rfl ?_
  refine z_alen B (v := 4) 1 0 2 rfl rfl rfl rfl dX4_nearestSite_8 ?_
  refine z_istore B (lv' := [(4, .int 4), (3, .ref sa), (2, .null), (0, .ref ax), (1, .int x1)]) dX4_nearestSite_9 (by decide) rfl ?_
  refine z_iconst B (v := 0) dX4_nearestSite_11 rfl ?_
  refine z_istore B (lv' := [(5, .int 0), (4, .int 4), (3, .ref sa), (2, .null), (0, .ref ax), (1, .int x1)]) dX4_nearestSite_12 (by decide) rfl ?_
  refine z_lsub [4, 5, 3, 2, 1, 0] rfl ?_
  exact kX4_nearestSite_L l hl K ax zn sa la tr tc X f n so sc D x1 hf1 hf2 B 4 0 none rfl (fun b hb => nomatch hb) rfl
theorem kX4_nearestSite_h (l : Launch) (hl : l.stackTraces = false) (K : zK) (ax : Nat) (zn : Nat) (sa : Nat) (la : Nat) (tr : Nat) (tc : Nat) (X : Nat → Int32) (f : Nat → Option Nat) (n : Nat) (so : Nat → Nat) (sc : Nat → Nat → Nat) (D : Nat → Nat → Int32) (i : Nat) (x1 : Int32) (hf1 : ∀ a, a < n → f a = some (so a)) (hf2 : ∀ a, n ≤ a → a < 4 → f a = none) (hN : fX4_near n D x1 = some i) : zMet l K yX4_nearestSite wsX4_nearestSite { frames := 2, cells := 0, slots := 0, locals := 34 } [.ref ax, .int x1] [zXo ax zn sa la tr tc X, zSa K sa f, zSO n so sc D] (some (.ref (so i))) [zXo ax zn sa la tr tc X, zSa K sa f, zSO n so sc D] True zNo := by
  have h := kX4_nearestSite l hl K ax zn sa la tr tc X f n so sc D x1 hf1 hf2
  rw [hN] at h
  exact h
theorem kX4_nearestSite_m (l : Launch) (hl : l.stackTraces = false) (K : zK) (ax : Nat) (zn : Nat) (sa : Nat) (la : Nat) (tr : Nat) (tc : Nat) (X : Nat → Int32) (f : Nat → Option Nat) (n : Nat) (so : Nat → Nat) (sc : Nat → Nat → Nat) (D : Nat → Nat → Int32) (x1 : Int32) (hf1 : ∀ a, a < n → f a = some (so a)) (hf2 : ∀ a, n ≤ a → a < 4 → f a = none) (hN : fX4_near n D x1 = none) : zMet l K yX4_nearestSite wsX4_nearestSite { frames := 2, cells := 0, slots := 0, locals := 34 } [.ref ax, .int x1] [zXo ax zn sa la tr tc X, zSa K sa f, zSO n so sc D] (some .null) [zXo ax zn sa la tr tc X, zSa K sa f, zSO n so sc D] True zNo := by
  have h := kX4_nearestSite l hl K ax zn sa la tr tc X f n so sc D x1 hf1 hf2
  rw [hN] at h
  exact h
def fX4_siteFor_h (D : Nat → Nat → Int32) (i : Nat) (x1 : Int32) : Nat × Int32 :=
  if (fX4_requireWithin x1 0 99) = 0 then
    (0, (D i 0))
  else
    ((fX4_requireWithin x1 0 99), 0)
theorem hiX4_siteFor_2 : ∀ w ∈ wsX20, w ∈ wsX4_siteFor := by decide +kernel
theorem hfX4_siteFor_97 : Cond.fieldLink RX4 97 "ResolverFleet$Site" "number" "I" ∈ wsX4_siteFor := by decide +kernel
set_option maxHeartbeats 4000000 in
set_option maxRecDepth 100000 in
theorem kX4_siteFor_h (l : Launch) (hl : l.stackTraces = false) (K : zK) (ax : Nat) (zn : Nat) (sa : Nat) (la : Nat) (tr : Nat) (tc : Nat) (X : Nat → Int32) (f : Nat → Option Nat) (n : Nat) (so : Nat → Nat) (sc : Nat → Nat → Nat) (D : Nat → Nat → Int32) (i : Nat) (x1 : Int32) (hf1 : ∀ a, a < n → f a = some (so a)) (hf2 : ∀ a, n ≤ a → a < 4 → f a = none) (hi : i < n) (hN : fX4_near n D x1 = some i) : zMet l K yX4_siteFor wsX4_siteFor { frames := 7, cells := 1, slots := 6, locals := 104 } [.ref ax, .int x1] [zXo ax zn sa la tr tc X, zSa K sa f, zSO n so sc D] (some (.int ((fX4_siteFor_h D i x1).2))) [zXo ax zn sa la tr tc X, zSa K sa f, zSO n so sc D] ((fX4_siteFor_h D i x1).1 = 0) (fun E => (E = zE2 ∧ (fX4_siteFor_h D i x1).1 = 2)) := by
  refine zMeN.of (cc := cX4_siteFor) (maxL := 3) (ret := (some .int)) (own := RX4) (nm := "siteFor") hl (by decide +kernel) rfl rfl rfl (Nat.le_of_ble_eq_true rfl) (lv := [(0, .ref ax), (1, .int x1)]) rfl ?_
  intro p e s m args below meth c A B
  refine z_iload_n B dX4_siteFor_0 1 rfl ?_
  refine z_iconst B (v := 0) dX4_siteFor_1 rfl ?_
  refine z_bipush B (v := 99) dX4_siteFor_2 rfl ?_
  refine z_S0 B (kX4_requireWithin l hl K x1 0 99) [] [0, 1, 2] (br := [zXo ax zn sa la tr tc X, zSa K sa f, zSO n so sc D]) (bs' := [zXo ax zn sa la tr tc X, zSa K sa f, zSO n so sc D]) (st := []) (nA := 3) (zsp rfl rfl rfl) (zsp rfl rfl rfl) gX4_siteFor_X4_requireWithin rfl (by decide +kernel) ⟨Nat.le_of_ble_eq_true rfl, Nat.le_of_ble_eq_true rfl⟩ rfl rfl (Nat.le_of_ble_eq_true rfl) ⟨Nat.le_of_ble_eq_true rfl, Nat.le_of_ble_eq_true rfl⟩ dX4_siteFor_4 (fun E hE => ?_) (fun h1 => ?_)
  · rcases hE with ⟨rfl, hx⟩
    · have hF : fX4_siteFor_h D i x1 = (2, 0) := (if_neg (show ¬ (fX4_requireWithin x1 0 99) = 0 by rw [hx]; decide)).trans ((show ((fX4_requireWithin x1 0 99), 0) = (2, 0) by rw [hx]))
      exact z_out B (⟨rfl, by rw [hF]⟩) (Nat.le_of_ble_eq_true rfl) (Nat.le_of_ble_eq_true rfl)
  refine z_aload_n B dX4_siteFor_7 0 rfl ?_
  refine z_iload_n B dX4_siteFor_8 1 rfl ?_
  refine z_V1 B (kX4_nearestSite_h l hl K ax zn sa la tr tc X f n so sc D i x1 hf1 hf2 hN) [0, 1, 2] [] (br := []) (bs' := [zXo ax zn sa la tr tc X, zSa K sa f, zSO n so sc D]) (st := []) (nA := 1) (zsp rfl rfl rfl) (zsp rfl rfl rfl) 0 0 rfl rfl rfl rfl gX4_siteFor_X4_nearestSite rfl (by decide +kernel) ⟨Nat.le_of_ble_eq_true rfl, Nat.le_of_ble_eq_true rfl⟩ rfl rfl (Nat.le_of_ble_eq_true rfl) ⟨Nat.le_of_ble_eq_true rfl, Nat.le_of_ble_eq_true rfl⟩ dX4_siteFor_9 z_noX (fun _ => ?_)
  refine z_astore_n B (lv' := [(2, .ref (so i)), (0, .ref ax), (1, .int x1)]) dX4_siteFor_12 (by decide) rfl ?_
  refine z_aload_n B dX4_siteFor_13 0 rfl ?_
  refine z_ifnonnull B 22 dX4_siteFor_14 (by decide) ?_
  refine z_aload_n B dX4_siteFor_22 0 rfl ?_
  refine z_get B (v := .int (D i 0)) 2 i 0 hiX4_siteFor_2 hfX4_siteFor_97 rfl (zSO_get hi) rfl (by decide) rfl rfl rfl rfl dX4_siteFor_23 ?_
  have hF : fX4_siteFor_h D i x1 = (0, (D i 0)) := if_pos h1
  exact z_ret1 B rfl dX4_siteFor_26 () (by rw [hF]) (Nat.le_of_ble_eq_true rfl) (Nat.le_of_ble_eq_true rfl) (by rw [hF]) (by rw [hF])
def fX4_siteFor_m (D : Nat → Nat → Int32) (x1 : Int32) : Nat × Int32 :=
  if (fX4_requireWithin x1 0 99) = 0 then
    (0, (-3))
  else
    ((fX4_requireWithin x1 0 99), 0)
set_option maxHeartbeats 4000000 in
set_option maxRecDepth 100000 in
theorem kX4_siteFor_m (l : Launch) (hl : l.stackTraces = false) (K : zK) (ax : Nat) (zn : Nat) (sa : Nat) (la : Nat) (tr : Nat) (tc : Nat) (X : Nat → Int32) (f : Nat → Option Nat) (n : Nat) (so : Nat → Nat) (sc : Nat → Nat → Nat) (D : Nat → Nat → Int32) (x1 : Int32) (hf1 : ∀ a, a < n → f a = some (so a)) (hf2 : ∀ a, n ≤ a → a < 4 → f a = none) (hN : fX4_near n D x1 = none) : zMet l K yX4_siteFor wsX4_siteFor { frames := 7, cells := 1, slots := 6, locals := 104 } [.ref ax, .int x1] [zXo ax zn sa la tr tc X, zSa K sa f, zSO n so sc D] (some (.int ((fX4_siteFor_m D x1).2))) [zXo ax zn sa la tr tc X, zSa K sa f, zSO n so sc D] ((fX4_siteFor_m D x1).1 = 0) (fun E => (E = zE2 ∧ (fX4_siteFor_m D x1).1 = 2)) := by
  refine zMeN.of (cc := cX4_siteFor) (maxL := 3) (ret := (some .int)) (own := RX4) (nm := "siteFor") hl (by decide +kernel) rfl rfl rfl (Nat.le_of_ble_eq_true rfl) (lv := [(0, .ref ax), (1, .int x1)]) rfl ?_
  intro p e s m args below meth c A B
  refine z_iload_n B dX4_siteFor_0 1 rfl ?_
  refine z_iconst B (v := 0) dX4_siteFor_1 rfl ?_
  refine z_bipush B (v := 99) dX4_siteFor_2 rfl ?_
  refine z_S0 B (kX4_requireWithin l hl K x1 0 99) [] [0, 1, 2] (br := [zXo ax zn sa la tr tc X, zSa K sa f, zSO n so sc D]) (bs' := [zXo ax zn sa la tr tc X, zSa K sa f, zSO n so sc D]) (st := []) (nA := 3) (zsp rfl rfl rfl) (zsp rfl rfl rfl) gX4_siteFor_X4_requireWithin rfl (by decide +kernel) ⟨Nat.le_of_ble_eq_true rfl, Nat.le_of_ble_eq_true rfl⟩ rfl rfl (Nat.le_of_ble_eq_true rfl) ⟨Nat.le_of_ble_eq_true rfl, Nat.le_of_ble_eq_true rfl⟩ dX4_siteFor_4 (fun E hE => ?_) (fun h1 => ?_)
  · rcases hE with ⟨rfl, hx⟩
    · have hF : fX4_siteFor_m D x1 = (2, 0) := (if_neg (show ¬ (fX4_requireWithin x1 0 99) = 0 by rw [hx]; decide)).trans ((show ((fX4_requireWithin x1 0 99), 0) = (2, 0) by rw [hx]))
      exact z_out B (⟨rfl, by rw [hF]⟩) (Nat.le_of_ble_eq_true rfl) (Nat.le_of_ble_eq_true rfl)
  refine z_aload_n B dX4_siteFor_7 0 rfl ?_
  refine z_iload_n B dX4_siteFor_8 1 rfl ?_
  refine z_V1 B (kX4_nearestSite_m l hl K ax zn sa la tr tc X f n so sc D x1 hf1 hf2 hN) [0, 1, 2] [] (br := []) (bs' := [zXo ax zn sa la tr tc X, zSa K sa f, zSO n so sc D]) (st := []) (nA := 1) (zsp rfl rfl rfl) (zsp rfl rfl rfl) 0 0 rfl rfl rfl rfl gX4_siteFor_X4_nearestSite rfl (by decide +kernel) ⟨Nat.le_of_ble_eq_true rfl, Nat.le_of_ble_eq_true rfl⟩ rfl rfl (Nat.le_of_ble_eq_true rfl) ⟨Nat.le_of_ble_eq_true rfl, Nat.le_of_ble_eq_true rfl⟩ dX4_siteFor_9 z_noX (fun _ => ?_)
  refine z_astore_nN B (lv' := [(2, .null), (0, .ref ax), (1, .int x1)]) dX4_siteFor_12 (by decide) rfl ?_
  refine z_aload_nN B dX4_siteFor_13 0 rfl ?_
  refine z_ifnonnullN B dX4_siteFor_14 ?_
  refine z_bipush B (v := (-3)) dX4_siteFor_17 rfl ?_
  refine z_goto B (tgt := 26) dX4_siteFor_19 (by decide) ?_
  have hF : fX4_siteFor_m D x1 = (0, (-3)) := if_pos h1
  exact z_ret1 B rfl dX4_siteFor_26 () (by rw [hF]) (Nat.le_of_ble_eq_true rfl) (Nat.le_of_ble_eq_true rfl) (by rw [hF]) (by rw [hF])
def fX4_siteAsked_h (D : Nat → Nat → Int32) (i : Nat) (x1 : Int32) (x2 : Int32) : Nat :=
  if (fX4_requireName x2) = 0 then
    if (fX4_requireWithin x1 0 99) = 0 then
      0
    else
      (fX4_requireWithin x1 0 99)
  else
    (fX4_requireName x2)
set_option maxHeartbeats 4000000 in
set_option maxRecDepth 100000 in
theorem kX4_siteAsked_h (l : Launch) (hl : l.stackTraces = false) (K : zK) (ax : Nat) (zn : Nat) (sa : Nat) (la : Nat) (tr : Nat) (tc : Nat) (X : Nat → Int32) (f : Nat → Option Nat) (n : Nat) (so : Nat → Nat) (sc : Nat → Nat → Nat) (D : Nat → Nat → Int32) (i : Nat) (x1 : Int32) (x2 : Int32) (hf1 : ∀ a, a < n → f a = some (so a)) (hf2 : ∀ a, n ≤ a → a < 4 → f a = none) (hi : i < n) (hN : fX4_near n D x1 = some i) : zMet l K yX4_siteAsked wsX4_siteAsked { frames := 7, cells := 2, slots := 12, locals := 104 } [.ref ax, .int x1, .int x2] [zXo ax zn sa la tr tc X, zSa K sa f, zSO n so sc D] (some (.ref (so i))) [zXo ax zn sa la tr tc X, zSa K sa f, zSO n so sc D] ((fX4_siteAsked_h D i x1 x2) = 0) (fun E => (E = zE1 ∧ (fX4_siteAsked_h D i x1 x2) = 1) ∨ (E = zE2 ∧ (fX4_siteAsked_h D i x1 x2) = 2)) := by
  refine zMeN.of (cc := cX4_siteAsked) (maxL := 4) (ret := (some (.object "ResolverFleet$Site"))) (own := RX4) (nm := "siteAsked") hl (by decide +kernel) rfl rfl rfl (Nat.le_of_ble_eq_true rfl) (lv := [(0, .ref ax), (1, .int x1), (2, .int x2)]) rfl ?_
  intro p e s m args below meth c A B
  refine z_iload_n B dX4_siteAsked_0 2 rfl ?_
  refine z_S0 B (kX4_requireName l hl K x2) [] [0, 1, 2] (br := [zXo ax zn sa la tr tc X, zSa K sa f, zSO n so sc D]) (bs' := [zXo ax zn sa la tr tc X, zSa K sa f, zSO n so sc D]) (st := []) (nA := 1) (zsp rfl rfl rfl) (zsp rfl rfl rfl) gX4_siteAsked_X4_requireName rfl (by decide +kernel) ⟨Nat.le_of_ble_eq_true rfl, Nat.le_of_ble_eq_true rfl⟩ rfl rfl (Nat.le_of_ble_eq_true rfl) ⟨Nat.le_of_ble_eq_true rfl, Nat.le_of_ble_eq_true rfl⟩ dX4_siteAsked_1 (fun E hE => ?_) (fun h1 => ?_)
  · rcases hE with ⟨rfl, hx⟩
    · have hF : fX4_siteAsked_h D i x1 x2 = 1 := (if_neg (show ¬ (fX4_requireName x2) = 0 by rw [hx]; decide)).trans ((show (fX4_requireName x2) = 1 by rw [hx]))
      exact z_out B (Or.inl ⟨rfl, by rw [hF]⟩) (Nat.le_of_ble_eq_true rfl) (Nat.le_of_ble_eq_true rfl)
  refine z_iload_n B dX4_siteAsked_4 1 rfl ?_
  refine z_iconst B (v := 0) dX4_siteAsked_5 rfl ?_
  refine z_bipush B (v := 99) dX4_siteAsked_6 rfl ?_
  refine z_S0 B (kX4_requireWithin l hl K x1 0 99) [] [0, 1, 2] (br := [zXo ax zn sa la tr tc X, zSa K sa f, zSO n so sc D]) (bs' := [zXo ax zn sa la tr tc X, zSa K sa f, zSO n so sc D]) (st := []) (nA := 3) (zsp rfl rfl rfl) (zsp rfl rfl rfl) gX4_siteAsked_X4_requireWithin rfl (by decide +kernel) ⟨Nat.le_of_ble_eq_true rfl, Nat.le_of_ble_eq_true rfl⟩ rfl rfl (Nat.le_of_ble_eq_true rfl) ⟨Nat.le_of_ble_eq_true rfl, Nat.le_of_ble_eq_true rfl⟩ dX4_siteAsked_8 (fun E hE => ?_) (fun h2 => ?_)
  · rcases hE with ⟨rfl, hx⟩
    · have hF : fX4_siteAsked_h D i x1 x2 = 2 := (if_pos h1).trans ((if_neg (show ¬ (fX4_requireWithin x1 0 99) = 0 by rw [hx]; decide)).trans ((show (fX4_requireWithin x1 0 99) = 2 by rw [hx])))
      exact z_out B (Or.inr (⟨rfl, by rw [hF]⟩)) (Nat.le_of_ble_eq_true rfl) (Nat.le_of_ble_eq_true rfl)
  refine z_aload_n B dX4_siteAsked_11 0 rfl ?_
  refine z_iload_n B dX4_siteAsked_12 1 rfl ?_
  refine z_V1 B (kX4_nearestSite_h l hl K ax zn sa la tr tc X f n so sc D i x1 hf1 hf2 hN) [0, 1, 2] [] (br := []) (bs' := [zXo ax zn sa la tr tc X, zSa K sa f, zSO n so sc D]) (st := []) (nA := 1) (zsp rfl rfl rfl) (zsp rfl rfl rfl) 0 0 rfl rfl rfl rfl gX4_siteAsked_X4_nearestSite rfl (by decide +kernel) ⟨Nat.le_of_ble_eq_true rfl, Nat.le_of_ble_eq_true rfl⟩ rfl rfl (Nat.le_of_ble_eq_true rfl) ⟨Nat.le_of_ble_eq_true rfl, Nat.le_of_ble_eq_true rfl⟩ dX4_siteAsked_13 z_noX (fun _ => ?_)
  refine z_astore_n B (lv' := [(3, .ref (so i)), (0, .ref ax), (1, .int x1), (2, .int x2)]) dX4_siteAsked_16 (by decide) rfl ?_
  refine z_aload_n B dX4_siteAsked_17 0 rfl ?_
  refine z_ifnonnull B 31 dX4_siteAsked_18 (by decide) ?_
  refine z_aload_n B dX4_siteAsked_31 0 rfl ?_
  have hF : fX4_siteAsked_h D i x1 x2 = 0 := (if_pos h1).trans (if_pos h2)
  exact z_reta B (Or.inr ⟨_, rfl⟩) dX4_siteAsked_32 () (by rw [hF]) (Nat.le_of_ble_eq_true rfl) (Nat.le_of_ble_eq_true rfl) rfl rfl
def fX4_siteAsked_m (D : Nat → Nat → Int32) (x1 : Int32) (x2 : Int32) : Nat :=
  if (fX4_requireName x2) = 0 then
    if (fX4_requireWithin x1 0 99) = 0 then
      3
    else
      (fX4_requireWithin x1 0 99)
  else
    (fX4_requireName x2)
theorem haX4_siteAsked_83 : ∀ w ∈ (vx_atS RX4 83 "java/lang/IllegalStateException" ["java/lang/RuntimeException", "java/lang/Exception"]).filter goodWord, w ∈ wsX4_siteAsked := by decide +kernel
theorem hgX4_siteAsked_83 : ∀ w ∈ (vx_atS RX4 83 "java/lang/IllegalStateException" ["java/lang/RuntimeException", "java/lang/Exception"]).filter (fun w => !goodWord w), w ∈ zNw := by decide +kernel
theorem hoX4_siteAsked_83 : ∀ w ∈ Cond.classLink RX4 79 "java/lang/IllegalStateException" :: Cond.initialized "java/lang/IllegalStateException" :: vx_atS RX4 83 "java/lang/IllegalStateException" ["java/lang/RuntimeException", "java/lang/Exception"], vx_ot w = true := by decide +kernel
theorem hwX4_siteAsked_cl79 : Cond.classLink RX4 79 "java/lang/IllegalStateException" ∈ wsX4_siteAsked := by decide +kernel
theorem hwX4_siteAsked_ini79 : Cond.initialized "java/lang/IllegalStateException" ∈ wsX4_siteAsked := by decide +kernel
set_option maxHeartbeats 4000000 in
set_option maxRecDepth 100000 in
theorem kX4_siteAsked_m (l : Launch) (hl : l.stackTraces = false) (K : zK) (ax : Nat) (zn : Nat) (sa : Nat) (la : Nat) (tr : Nat) (tc : Nat) (X : Nat → Int32) (f : Nat → Option Nat) (n : Nat) (so : Nat → Nat) (sc : Nat → Nat → Nat) (D : Nat → Nat → Int32) (x1 : Int32) (x2 : Int32) (hf1 : ∀ a, a < n → f a = some (so a)) (hf2 : ∀ a, n ≤ a → a < 4 → f a = none) (hN : fX4_near n D x1 = none) : zMet l K yX4_siteAsked wsX4_siteAsked { frames := 7, cells := 3, slots := 18, locals := 104 } [.ref ax, .int x1, .int x2] [zXo ax zn sa la tr tc X, zSa K sa f, zSO n so sc D] (some .null) [zXo ax zn sa la tr tc X, zSa K sa f, zSO n so sc D] False (fun E => (E = zE1 ∧ (fX4_siteAsked_m D x1 x2) = 1) ∨ (E = zE2 ∧ (fX4_siteAsked_m D x1 x2) = 2) ∨ (E = zE3 ∧ (fX4_siteAsked_m D x1 x2) = 3)) := by
  refine zMeN.of (cc := cX4_siteAsked) (maxL := 4) (ret := (some (.object "ResolverFleet$Site"))) (own := RX4) (nm := "siteAsked") hl (by decide +kernel) rfl rfl rfl (Nat.le_of_ble_eq_true rfl) (lv := [(0, .ref ax), (1, .int x1), (2, .int x2)]) rfl ?_
  intro p e s m args below meth c A B
  refine z_iload_n B dX4_siteAsked_0 2 rfl ?_
  refine z_S0 B (kX4_requireName l hl K x2) [] [0, 1, 2] (br := [zXo ax zn sa la tr tc X, zSa K sa f, zSO n so sc D]) (bs' := [zXo ax zn sa la tr tc X, zSa K sa f, zSO n so sc D]) (st := []) (nA := 1) (zsp rfl rfl rfl) (zsp rfl rfl rfl) gX4_siteAsked_X4_requireName rfl (by decide +kernel) ⟨Nat.le_of_ble_eq_true rfl, Nat.le_of_ble_eq_true rfl⟩ rfl rfl (Nat.le_of_ble_eq_true rfl) ⟨Nat.le_of_ble_eq_true rfl, Nat.le_of_ble_eq_true rfl⟩ dX4_siteAsked_1 (fun E hE => ?_) (fun h1 => ?_)
  · rcases hE with ⟨rfl, hx⟩
    · have hF : fX4_siteAsked_m D x1 x2 = 1 := (if_neg (show ¬ (fX4_requireName x2) = 0 by rw [hx]; decide)).trans ((show (fX4_requireName x2) = 1 by rw [hx]))
      exact z_out B (Or.inl ⟨rfl, by rw [hF]⟩) (Nat.le_of_ble_eq_true rfl) (Nat.le_of_ble_eq_true rfl)
  refine z_iload_n B dX4_siteAsked_4 1 rfl ?_
  refine z_iconst B (v := 0) dX4_siteAsked_5 rfl ?_
  refine z_bipush B (v := 99) dX4_siteAsked_6 rfl ?_
  refine z_S0 B (kX4_requireWithin l hl K x1 0 99) [] [0, 1, 2] (br := [zXo ax zn sa la tr tc X, zSa K sa f, zSO n so sc D]) (bs' := [zXo ax zn sa la tr tc X, zSa K sa f, zSO n so sc D]) (st := []) (nA := 3) (zsp rfl rfl rfl) (zsp rfl rfl rfl) gX4_siteAsked_X4_requireWithin rfl (by decide +kernel) ⟨Nat.le_of_ble_eq_true rfl, Nat.le_of_ble_eq_true rfl⟩ rfl rfl (Nat.le_of_ble_eq_true rfl) ⟨Nat.le_of_ble_eq_true rfl, Nat.le_of_ble_eq_true rfl⟩ dX4_siteAsked_8 (fun E hE => ?_) (fun h2 => ?_)
  · rcases hE with ⟨rfl, hx⟩
    · have hF : fX4_siteAsked_m D x1 x2 = 2 := (if_pos h1).trans ((if_neg (show ¬ (fX4_requireWithin x1 0 99) = 0 by rw [hx]; decide)).trans ((show (fX4_requireWithin x1 0 99) = 2 by rw [hx])))
      exact z_out B (Or.inr (Or.inl ⟨rfl, by rw [hF]⟩)) (Nat.le_of_ble_eq_true rfl) (Nat.le_of_ble_eq_true rfl)
  refine z_aload_n B dX4_siteAsked_11 0 rfl ?_
  refine z_iload_n B dX4_siteAsked_12 1 rfl ?_
  refine z_V1 B (kX4_nearestSite_m l hl K ax zn sa la tr tc X f n so sc D x1 hf1 hf2 hN) [0, 1, 2] [] (br := []) (bs' := [zXo ax zn sa la tr tc X, zSa K sa f, zSO n so sc D]) (st := []) (nA := 1) (zsp rfl rfl rfl) (zsp rfl rfl rfl) 0 0 rfl rfl rfl rfl gX4_siteAsked_X4_nearestSite rfl (by decide +kernel) ⟨Nat.le_of_ble_eq_true rfl, Nat.le_of_ble_eq_true rfl⟩ rfl rfl (Nat.le_of_ble_eq_true rfl) ⟨Nat.le_of_ble_eq_true rfl, Nat.le_of_ble_eq_true rfl⟩ dX4_siteAsked_13 z_noX (fun _ => ?_)
  refine z_astore_nN B (lv' := [(3, .null), (0, .ref ax), (1, .int x1), (2, .int x2)]) dX4_siteAsked_16 (by decide) rfl ?_
  refine z_aload_nN B dX4_siteAsked_17 0 rfl ?_
  refine z_ifnonnullN B dX4_siteAsked_18 ?_
  have hF : fX4_siteAsked_m D x1 x2 = 3 := (if_pos h1).trans (if_pos h2)
  exact z_throw B rfl ["java/lang/RuntimeException", "java/lang/Exception"] (by decide +kernel) (by decide +kernel) hwX4_siteAsked_cl79 hwX4_siteAsked_ini79 (text := "no site is announced") (by decide +kernel) haX4_siteAsked_83 hgX4_siteAsked_83 hoX4_siteAsked_83 dX4_siteAsked_21 dX4_siteAsked_24 dX4_siteAsked_25 dX4_siteAsked_27 dX4_siteAsked_30 (by decide) (Nat.le_of_ble_eq_true rfl) (Nat.le_of_ble_eq_true rfl) (Nat.le_of_ble_eq_true rfl) (Or.inr (Or.inr (⟨rfl, by rw [hF]⟩))) (Nat.le_of_ble_eq_true rfl) (Nat.le_of_ble_eq_true rfl)
theorem z_resL {X : Nat → Int32} {Z : Nat → Nat → Int32} {W : Nat → Int32} {C : Nat → Nat → Int32} {F O : Nat → Int32} {x : Int32} : ∀ (n a : Nat) (cur : Int32) (C1 : Nat → Nat → Int32) (F1 O1 : Nat → Int32), ¬ (O1 1) < 0 → ¬ ((fX4_resolve_L10 X Z W C F O x n a cur C1 F1 O1).2.2.2 1) < 0
  | 0, a, cur, C1, F1, O1, h => h
  | n + 1, a, cur, C1, F1, O1, h => by
    have g : ¬ ((fX4_lookUp X Z W C1 F1 O1 cur).2.2.2 1) < 0 := z_look h
    rw [fX4_resolve_L10]
    split
    · exact g
    · split
      · exact z_resL n (a + 1) _ _ _ _ g
      · split
        · exact g
        · exact g
theorem z_resO {X : Nat → Int32} {Z : Nat → Nat → Int32} {W : Nat → Int32} {C : Nat → Nat → Int32} {F O : Nat → Int32} {x : Int32} : ¬ ((fX4_resolve X Z W C F O x).2.2.2 1) < 0 := z_resL 5 0 x C F (fX1_begin F O) (by show ¬ (0 : Int32) < 0; decide)
def fX4_query_s4 (X : Nat → Int32) (D : Nat → Nat → Int32) (i : Nat) (C : Nat → Nat → Int32) (Z : Nat → Nat → Int32) (W : Nat → Int32) (F : Nat → Int32) (O : Nat → Int32) (x1 : Int32) (x2 : Int32) (o2 : Int32 × (Nat → Nat → Int32) × (Nat → Int32) × (Nat → Int32)) (o3 : (Nat → Nat → Int32) × (Nat → Int32)) (o4 : (Nat → Int32)) : Nat × Int32 × (Nat → Int32) × (Nat → Nat → Int32) × (Nat → Int32) × (Nat → Int32) :=
  (0, (o2.1), o4, (o3.1), (o2.2.2.1), (o3.2))
def fX4_query_s3 (X : Nat → Int32) (D : Nat → Nat → Int32) (i : Nat) (C : Nat → Nat → Int32) (Z : Nat → Nat → Int32) (W : Nat → Int32) (F : Nat → Int32) (O : Nat → Int32) (x1 : Int32) (x2 : Int32) (o2 : Int32 × (Nat → Nat → Int32) × (Nat → Int32) × (Nat → Int32)) (o3 : (Nat → Nat → Int32) × (Nat → Int32)) : Nat × Int32 × (Nat → Int32) × (Nat → Nat → Int32) × (Nat → Int32) × (Nat → Int32) :=
  fX4_query_s4 X D i C Z W F O x1 x2 o2 o3 (fX4_countQuery (va_up X 5 (D i 0)) (o2.2.2.1) (o3.2) (o2.1))
def fX4_query_s2 (X : Nat → Int32) (D : Nat → Nat → Int32) (i : Nat) (C : Nat → Nat → Int32) (Z : Nat → Nat → Int32) (W : Nat → Int32) (F : Nat → Int32) (O : Nat → Int32) (x1 : Int32) (x2 : Int32) (o2 : Int32 × (Nat → Nat → Int32) × (Nat → Int32) × (Nat → Int32)) : Nat × Int32 × (Nat → Int32) × (Nat → Nat → Int32) × (Nat → Int32) × (Nat → Int32) :=
  fX4_query_s3 X D i C Z W F O x1 x2 o2 (fX4_fetchHotAnew X Z W (o2.2.1) (o2.2.2.1) (o2.2.2.2))
def fX4_query_h (X : Nat → Int32) (D : Nat → Nat → Int32) (i : Nat) (C : Nat → Nat → Int32) (Z : Nat → Nat → Int32) (W : Nat → Int32) (F : Nat → Int32) (O : Nat → Int32) (x1 : Int32) (x2 : Int32) : Nat × Int32 × (Nat → Int32) × (Nat → Nat → Int32) × (Nat → Int32) × (Nat → Int32) :=
  if (fX4_siteAsked_h D i x1 x2) = 0 then
    fX4_query_s2 X D i C Z W F O x1 x2 (fX4_resolve X Z W C F O x2)
  else
    ((fX4_siteAsked_h D i x1 x2), 0, X, C, F, O)
theorem hiX4_query_2 : ∀ w ∈ wsX20, w ∈ wsX4_query := by decide +kernel
theorem hfX4_query_115 : Cond.fieldLink RX4 115 "ResolverFleet$Site" "cache" "LResolverFleet$Cache;" ∈ wsX4_query := by decide +kernel
theorem hiX4_query_4 : ∀ w ∈ wsX40, w ∈ wsX4_query := by decide +kernel
theorem hfX4_query_25 : Cond.fieldLink RX4 25 "ResolverFleet" "last" "LResolverFleet$Course;" ∈ wsX4_query := by decide +kernel
theorem hfX4_query_97 : Cond.fieldLink RX4 97 "ResolverFleet$Site" "number" "I" ∈ wsX4_query := by decide +kernel
theorem hfX4_query_29 : Cond.fieldLink RX4 29 "ResolverFleet" "lastSiteNumber" "I" ∈ wsX4_query := by decide +kernel
set_option maxHeartbeats 4000000 in
set_option maxRecDepth 100000 in
theorem kX4_query_h (l : Launch) (hl : l.stackTraces = false) (K : zK) (ax : Nat) (az : Nat → Nat) (sa : Nat) (ak : Nat → Nat) (tr : Nat) (tc : Nat) (X : Nat → Int32) (f : Nat → Option Nat) (n : Nat) (so : Nat → Nat) (sc : Nat → Nat → Nat) (D : Nat → Nat → Int32) (i : Nat) (C : Nat → Nat → Int32) (Z : Nat → Nat → Int32) (W : Nat → Int32) (F : Nat → Int32) (O : Nat → Int32) (x1 : Int32) (x2 : Int32) (hf1 : ∀ a, a < n → f a = some (so a)) (hf2 : ∀ a, n ≤ a → a < 4 → f a = none) (hi : i < n) (hN : fX4_near n D x1 = some i) : zMet l K yX4_query wsX4_query { frames := 8, cells := 2, slots := 12, locals := 140 } [.ref ax, .int x1, .int x2] [zXo ax (az 0) sa (ak 0) tr tc X, zSa K sa f, zSO n so sc D, zCa K (sc i) C, zZo K az Z W, zCo K ak F O] (some (.int ((fX4_query_h X D i C Z W F O x1 x2).2.1))) [zXo ax (az 0) sa (ak 0) tr tc ((fX4_query_h X D i C Z W F O x1 x2).2.2.1), zSa K sa f, zSO n so sc D, zCa K (sc i) ((fX4_query_h X D i C Z W F O x1 x2).2.2.2.1), zZo K az Z W, zCo K ak ((fX4_query_h X D i C Z W F O x1 x2).2.2.2.2.1) ((fX4_query_h X D i C Z W F O x1 x2).2.2.2.2.2)] ((fX4_query_h X D i C Z W F O x1 x2).1 = 0) (fun E => (E = zE1 ∧ (fX4_query_h X D i C Z W F O x1 x2).1 = 1) ∨ (E = zE2 ∧ (fX4_query_h X D i C Z W F O x1 x2).1 = 2)) := by
  refine zMeN.of (cc := cX4_query) (maxL := 5) (ret := (some .int)) (own := RX4) (nm := "query") hl (by decide +kernel) rfl rfl rfl (Nat.le_of_ble_eq_true rfl) (lv := [(0, .ref ax), (1, .int x1), (2, .int x2)]) rfl ?_
  intro p e s m args below meth c A B
  refine z_aload_n B dX4_query_0 0 rfl ?_
  refine z_iload_n B dX4_query_1 1 rfl ?_
  refine z_iload_n B dX4_query_2 2 rfl ?_
  refine z_V1 B (kX4_siteAsked_h l hl K ax (az 0) sa (ak 0) tr tc X f n so sc D i x1 x2 hf1 hf2 hi hN) [0, 1, 2] [3, 4, 5] (br := [zCa K (sc i) C, zZo K az Z W, zCo K ak F O]) (bs' := [zXo ax (az 0) sa (ak 0) tr tc X, zSa K sa f, zSO n so sc D, zCa K (sc i) C, zZo K az Z W, zCo K ak F O]) (st := []) (nA := 2) (zsp rfl rfl rfl) (zsp rfl rfl rfl) 0 0 rfl rfl rfl rfl gX4_query_X4_siteAsked rfl (by decide +kernel) ⟨Nat.le_of_ble_eq_true rfl, Nat.le_of_ble_eq_true rfl⟩ rfl rfl (Nat.le_of_ble_eq_true rfl) ⟨Nat.le_of_ble_eq_true rfl, Nat.le_of_ble_eq_true rfl⟩ dX4_query_3 (fun E hE => ?_) (fun h1 => ?_)
  · rcases hE with ⟨rfl, hx⟩ | ⟨rfl, hx⟩
    · have hF : fX4_query_h X D i C Z W F O x1 x2 = (1, 0, X, C, F, O) := (if_neg (show ¬ (fX4_siteAsked_h D i x1 x2) = 0 by rw [hx]; decide)).trans ((show ((fX4_siteAsked_h D i x1 x2), 0, X, C, F, O) = (1, 0, X, C, F, O) by rw [hx]))
      exact z_out B (Or.inl ⟨rfl, by rw [hF]⟩) (Nat.le_of_ble_eq_true rfl) (Nat.le_of_ble_eq_true rfl)
    · have hF : fX4_query_h X D i C Z W F O x1 x2 = (2, 0, X, C, F, O) := (if_neg (show ¬ (fX4_siteAsked_h D i x1 x2) = 0 by rw [hx]; decide)).trans ((show ((fX4_siteAsked_h D i x1 x2), 0, X, C, F, O) = (2, 0, X, C, F, O) by rw [hx]))
      exact z_out B (Or.inr (⟨rfl, by rw [hF]⟩)) (Nat.le_of_ble_eq_true rfl) (Nat.le_of_ble_eq_true rfl)
  refine z_astore_n B (lv' := [(3, .ref (so i)), (0, .ref ax), (1, .int x1), (2, .int x2)]) dX4_query_6 (by decide) rfl ?_
  refine z_aload_n B dX4_query_7 1 rfl ?_
  refine z_aload_n B dX4_query_8 0 rfl ?_
  refine z_get B (v := .ref ((sc i) 0)) 2 i 2 hiX4_query_2 hfX4_query_115 rfl (zSO_get hi) rfl (by decide) rfl rfl rfl rfl dX4_query_9 ?_
  refine z_iload_n B dX4_query_12 3 rfl ?_
  refine z_aload_n B dX4_query_13 1 rfl ?_
  refine z_get B (v := .ref (ak 0)) 0 0 4 hiX4_query_4 hfX4_query_25 rfl rfl rfl (by decide) rfl rfl rfl rfl dX4_query_14 ?_
  refine z_V1 B (kX4_resolve l hl K ax az sa (ak 0) tr tc X Z W (sc i) C ak F O x2) [0, 4, 3, 5] [1, 2] (br := [zSa K sa f, zSO n so sc D]) (bs' := [zXo ax (az 0) sa (ak 0) tr tc X, zSa K sa f, zSO n so sc D, zCa K (sc i) ((fX4_resolve X Z W C F O x2).2.1), zZo K az Z W, zCo K ak ((fX4_resolve X Z W C F O x2).2.2.1) ((fX4_resolve X Z W C F O x2).2.2.2)]) (st := []) (nA := 3) (zsp rfl rfl rfl) (zsp rfl rfl rfl) 0 0 rfl rfl rfl rfl gX4_query_X4_resolve rfl (by decide +kernel) ⟨Nat.le_of_ble_eq_true rfl, Nat.le_of_ble_eq_true rfl⟩ rfl rfl (Nat.le_of_ble_eq_true rfl) ⟨Nat.le_of_ble_eq_true rfl, Nat.le_of_ble_eq_true rfl⟩ dX4_query_17 z_noX (fun _ => ?_)
  generalize ho2 : (fX4_resolve X Z W C F O x2) = o2
  refine z_istore B (lv' := [(4, .int (o2.1)), (3, .ref (so i)), (0, .ref ax), (1, .int x1), (2, .int x2)]) dX4_query_20 (by decide) rfl ?_
  refine z_aload_n B dX4_query_22 2 rfl ?_
  refine z_aload_n B dX4_query_23 1 rfl ?_
  refine z_get B (v := .ref ((sc i) 0)) 2 i 2 hiX4_query_2 hfX4_query_115 rfl (zSO_get hi) rfl (by decide) rfl rfl rfl rfl dX4_query_24 ?_
  refine z_aload_n B dX4_query_27 2 rfl ?_
  refine z_get B (v := .ref (ak 0)) 0 0 4 hiX4_query_4 hfX4_query_25 rfl rfl rfl (by decide) rfl rfl rfl rfl dX4_query_28 ?_
  refine z_V0 B (kX4_fetchHotAnew l hl K ax az sa (ak 0) tr tc X Z W (sc i) (o2.2.1) ak (o2.2.2.1) (o2.2.2.2) (by rw [← ho2]; exact z_resO)) [0, 4, 3, 5] [1, 2] (br := [zSa K sa f, zSO n so sc D]) (bs' := [zXo ax (az 0) sa (ak 0) tr tc X, zSa K sa f, zSO n so sc D, zCa K (sc i) ((fX4_fetchHotAnew X Z W (o2.2.1) (o2.2.2.1) (o2.2.2.2)).1), zZo K az Z W, zCo K ak (o2.2.2.1) ((fX4_fetchHotAnew X Z W (o2.2.1) (o2.2.2.1) (o2.2.2.2)).2)]) (st := []) (nA := 2) (zsp rfl rfl rfl) (zsp rfl rfl rfl) 0 0 rfl rfl rfl rfl gX4_query_X4_fetchHotAnew rfl (by decide +kernel) ⟨Nat.le_of_ble_eq_true rfl, Nat.le_of_ble_eq_true rfl⟩ rfl rfl (Nat.le_of_ble_eq_true rfl) ⟨Nat.le_of_ble_eq_true rfl, Nat.le_of_ble_eq_true rfl⟩ dX4_query_31 z_noX (fun _ => ?_)
  generalize ho3 : (fX4_fetchHotAnew X Z W (o2.2.1) (o2.2.2.1) (o2.2.2.2)) = o3
  refine z_aload_n B dX4_query_34 2 rfl ?_
  refine z_aload_n B dX4_query_35 1 rfl ?_
  refine z_get B (v := .int (D i 0)) 2 i 0 hiX4_query_2 hfX4_query_97 rfl (zSO_get hi) rfl (by decide) rfl rfl rfl rfl dX4_query_36 ?_
  refine z_put B 0 0 5 hiX4_query_4 hfX4_query_29 tyX4_ok nmX4 rfl rfl rfl (by decide) rfl rfl rfl rfl rfl rfl rfl (Nat.le_of_ble_eq_true rfl) (bs' := [zXo ax (az 0) sa (ak 0) tr tc (va_up X 5 (D i 0)), zSa K sa f, zSO n so sc D, zCa K (sc i) (o3.1), zZo K az Z W, zCo K ak (o2.2.2.1) (o3.2)]) rfl dX4_query_39 ?_
  refine z_aload_n B dX4_query_42 2 rfl ?_
  refine z_iload B dX4_query_43 0 rfl ?_
  refine z_V0 B (kX4_countQuery l hl K ax (az 0) sa ak tr tc (va_up X 5 (D i 0)) (o2.2.2.1) (o3.2) (o2.1)) [0, 5] [1, 2, 3, 4] (br := [zSa K sa f, zSO n so sc D, zCa K (sc i) (o3.1), zZo K az Z W]) (bs' := [zXo ax (az 0) sa (ak 0) tr tc (fX4_countQuery (va_up X 5 (D i 0)) (o2.2.2.1) (o3.2) (o2.1)), zSa K sa f, zSO n so sc D, zCa K (sc i) (o3.1), zZo K az Z W, zCo K ak (o2.2.2.1) (o3.2)]) (st := []) (nA := 1) (zsp rfl rfl rfl) (zsp rfl rfl rfl) 0 0 rfl rfl rfl rfl gX4_query_X4_countQuery rfl (by decide +kernel) ⟨Nat.le_of_ble_eq_true rfl, Nat.le_of_ble_eq_true rfl⟩ rfl rfl (Nat.le_of_ble_eq_true rfl) ⟨Nat.le_of_ble_eq_true rfl, Nat.le_of_ble_eq_true rfl⟩ dX4_query_45 z_noX (fun _ => ?_)
  generalize ho4 : (fX4_countQuery (va_up X 5 (D i 0)) (o2.2.2.1) (o3.2) (o2.1)) = o4
  refine z_iload B dX4_query_48 0 rfl ?_
  have hF : fX4_query_h X D i C Z W F O x1 x2 = (0, (o2.1), o4, (o3.1), (o2.2.2.1), (o3.2)) := (if_pos h1).trans ((congrArg (fun o => fX4_query_s2 X D i C Z W F O x1 x2 o) ho2).trans ((congrArg (fun o => fX4_query_s3 X D i C Z W F O x1 x2 o2 o) ho3).trans (congrArg (fun o => fX4_query_s4 X D i C Z W F O x1 x2 o2 o3 o) ho4)))
  exact z_ret1 B rfl dX4_query_50 () (by rw [hF]) (Nat.le_of_ble_eq_true rfl) (Nat.le_of_ble_eq_true rfl) (by rw [hF]) (by rw [hF])
def fX4_query_m (D : Nat → Nat → Int32) (x1 : Int32) (x2 : Int32) : Nat × Int32 :=
  ((fX4_siteAsked_m D x1 x2), 0)
set_option maxHeartbeats 4000000 in
set_option maxRecDepth 100000 in
theorem kX4_query_m (l : Launch) (hl : l.stackTraces = false) (K : zK) (ax : Nat) (zn : Nat) (sa : Nat) (la : Nat) (tr : Nat) (tc : Nat) (X : Nat → Int32) (f : Nat → Option Nat) (n : Nat) (so : Nat → Nat) (sc : Nat → Nat → Nat) (D : Nat → Nat → Int32) (x1 : Int32) (x2 : Int32) (hf1 : ∀ a, a < n → f a = some (so a)) (hf2 : ∀ a, n ≤ a → a < 4 → f a = none) (hN : fX4_near n D x1 = none) : zMet l K yX4_query wsX4_query { frames := 8, cells := 3, slots := 18, locals := 127 } [.ref ax, .int x1, .int x2] [zXo ax zn sa la tr tc X, zSa K sa f, zSO n so sc D] (some (.int ((fX4_query_m D x1 x2).2))) [zXo ax zn sa la tr tc X, zSa K sa f, zSO n so sc D] False (fun E => (E = zE1 ∧ (fX4_query_m D x1 x2).1 = 1) ∨ (E = zE2 ∧ (fX4_query_m D x1 x2).1 = 2) ∨ (E = zE3 ∧ (fX4_query_m D x1 x2).1 = 3)) := by
  refine zMeN.of (cc := cX4_query) (maxL := 5) (ret := (some .int)) (own := RX4) (nm := "query") hl (by decide +kernel) rfl rfl rfl (Nat.le_of_ble_eq_true rfl) (lv := [(0, .ref ax), (1, .int x1), (2, .int x2)]) rfl ?_
  intro p e s m args below meth c A B
  refine z_aload_n B dX4_query_0 0 rfl ?_
  refine z_iload_n B dX4_query_1 1 rfl ?_
  refine z_iload_n B dX4_query_2 2 rfl ?_
  refine z_V1 B (kX4_siteAsked_m l hl K ax zn sa la tr tc X f n so sc D x1 x2 hf1 hf2 hN) [0, 1, 2] [] (br := []) (bs' := [zXo ax zn sa la tr tc X, zSa K sa f, zSO n so sc D]) (st := []) (nA := 2) (zsp rfl rfl rfl) (zsp rfl rfl rfl) 0 0 rfl rfl rfl rfl gX4_query_X4_siteAsked rfl (by decide +kernel) ⟨Nat.le_of_ble_eq_true rfl, Nat.le_of_ble_eq_true rfl⟩ rfl rfl (Nat.le_of_ble_eq_true rfl) ⟨Nat.le_of_ble_eq_true rfl, Nat.le_of_ble_eq_true rfl⟩ dX4_query_3 (fun E hE => ?_) (fun h9 => h9.elim)
  · rcases hE with ⟨rfl, hx⟩ | ⟨rfl, hx⟩ | ⟨rfl, hx⟩
    · have hF : fX4_query_m D x1 x2 = (1, 0) := (show ((fX4_siteAsked_m D x1 x2), 0) = (1, 0) by rw [hx])
      exact z_out B (Or.inl ⟨rfl, by rw [hF]⟩) (Nat.le_of_ble_eq_true rfl) (Nat.le_of_ble_eq_true rfl)
    · have hF : fX4_query_m D x1 x2 = (2, 0) := (show ((fX4_siteAsked_m D x1 x2), 0) = (2, 0) by rw [hx])
      exact z_out B (Or.inr (Or.inl ⟨rfl, by rw [hF]⟩)) (Nat.le_of_ble_eq_true rfl) (Nat.le_of_ble_eq_true rfl)
    · have hF : fX4_query_m D x1 x2 = (3, 0) := (show ((fX4_siteAsked_m D x1 x2), 0) = (3, 0) by rw [hx])
      exact z_out B (Or.inr (Or.inr (⟨rfl, by rw [hF]⟩))) (Nat.le_of_ble_eq_true rfl) (Nat.le_of_ble_eq_true rfl)
def fX4_wouldAnswer_s3 (X : Nat → Int32) (D : Nat → Nat → Int32) (i : Nat) (C : Nat → Nat → Int32) (Z : Nat → Nat → Int32) (W : Nat → Int32) (F : Nat → Int32) (O : Nat → Int32) (Tc : Nat → Nat → Int32) (x1 : Int32) (x2 : Int32) (o2 : (Nat → Nat → Int32)) (o3 : Int32 × (Nat → Nat → Int32) × (Nat → Int32) × (Nat → Int32)) : Nat × Int32 × (Nat → Int32) × (Nat → Int32) × (Nat → Nat → Int32) :=
  (0, (o3.1), (o3.2.2.1), (o3.2.2.2), (o3.2.1))
def fX4_wouldAnswer_s2 (X : Nat → Int32) (D : Nat → Nat → Int32) (i : Nat) (C : Nat → Nat → Int32) (Z : Nat → Nat → Int32) (W : Nat → Int32) (F : Nat → Int32) (O : Nat → Int32) (Tc : Nat → Nat → Int32) (x1 : Int32) (x2 : Int32) (o2 : (Nat → Nat → Int32)) : Nat × Int32 × (Nat → Int32) × (Nat → Int32) × (Nat → Nat → Int32) :=
  fX4_wouldAnswer_s3 X D i C Z W F O Tc x1 x2 o2 (fX4_resolve X Z W o2 F O x2)
def fX4_wouldAnswer_h (X : Nat → Int32) (D : Nat → Nat → Int32) (i : Nat) (C : Nat → Nat → Int32) (Z : Nat → Nat → Int32) (W : Nat → Int32) (F : Nat → Int32) (O : Nat → Int32) (Tc : Nat → Nat → Int32) (x1 : Int32) (x2 : Int32) : Nat × Int32 × (Nat → Int32) × (Nat → Int32) × (Nat → Nat → Int32) :=
  if (fX4_siteAsked_h D i x1 x2) = 0 then
    fX4_wouldAnswer_s2 X D i C Z W F O Tc x1 x2 (fX0_copyFrom Tc C)
  else
    ((fX4_siteAsked_h D i x1 x2), 0, F, O, Tc)
theorem hiX4_wouldAnswer_4 : ∀ w ∈ wsX40, w ∈ wsX4_wouldAnswer := by decide +kernel
theorem hfX4_wouldAnswer_39 : Cond.fieldLink RX4 39 "ResolverFleet" "trialCache" "LResolverFleet$Cache;" ∈ wsX4_wouldAnswer := by decide +kernel
theorem hiX4_wouldAnswer_2 : ∀ w ∈ wsX20, w ∈ wsX4_wouldAnswer := by decide +kernel
theorem hfX4_wouldAnswer_115 : Cond.fieldLink RX4 115 "ResolverFleet$Site" "cache" "LResolverFleet$Cache;" ∈ wsX4_wouldAnswer := by decide +kernel
theorem hfX4_wouldAnswer_33 : Cond.fieldLink RX4 33 "ResolverFleet" "trial" "LResolverFleet$Course;" ∈ wsX4_wouldAnswer := by decide +kernel
set_option maxHeartbeats 4000000 in
set_option maxRecDepth 100000 in
theorem kX4_wouldAnswer_h (l : Launch) (hl : l.stackTraces = false) (K : zK) (ax : Nat) (az : Nat → Nat) (sa : Nat) (la : Nat) (ak : Nat → Nat) (ad : Nat → Nat) (X : Nat → Int32) (f : Nat → Option Nat) (n : Nat) (so : Nat → Nat) (sc : Nat → Nat → Nat) (D : Nat → Nat → Int32) (i : Nat) (C : Nat → Nat → Int32) (Z : Nat → Nat → Int32) (W : Nat → Int32) (F : Nat → Int32) (O : Nat → Int32) (Tc : Nat → Nat → Int32) (x1 : Int32) (x2 : Int32) (hf1 : ∀ a, a < n → f a = some (so a)) (hf2 : ∀ a, n ≤ a → a < 4 → f a = none) (hi : i < n) (hN : fX4_near n D x1 = some i) : zMet l K yX4_wouldAnswer wsX4_wouldAnswer { frames := 8, cells := 2, slots := 12, locals := 140 } [.ref ax, .int x1, .int x2] [zXo ax (az 0) sa la (ak 0) (ad 0) X, zSa K sa f, zSO n so sc D, zCa K (sc i) C, zZo K az Z W, zCo K ak F O, zCa K ad Tc] (some (.int ((fX4_wouldAnswer_h X D i C Z W F O Tc x1 x2).2.1))) [zXo ax (az 0) sa la (ak 0) (ad 0) X, zSa K sa f, zSO n so sc D, zCa K (sc i) C, zZo K az Z W, zCo K ak ((fX4_wouldAnswer_h X D i C Z W F O Tc x1 x2).2.2.1) ((fX4_wouldAnswer_h X D i C Z W F O Tc x1 x2).2.2.2.1), zCa K ad ((fX4_wouldAnswer_h X D i C Z W F O Tc x1 x2).2.2.2.2)] ((fX4_wouldAnswer_h X D i C Z W F O Tc x1 x2).1 = 0) (fun E => (E = zE1 ∧ (fX4_wouldAnswer_h X D i C Z W F O Tc x1 x2).1 = 1) ∨ (E = zE2 ∧ (fX4_wouldAnswer_h X D i C Z W F O Tc x1 x2).1 = 2)) := by
  refine zMeN.of (cc := cX4_wouldAnswer) (maxL := 4) (ret := (some .int)) (own := RX4) (nm := "wouldAnswer") hl (by decide +kernel) rfl rfl rfl (Nat.le_of_ble_eq_true rfl) (lv := [(0, .ref ax), (1, .int x1), (2, .int x2)]) rfl ?_
  intro p e s m args below meth c A B
  refine z_aload_n B dX4_wouldAnswer_0 0 rfl ?_
  refine z_iload_n B dX4_wouldAnswer_1 1 rfl ?_
  refine z_iload_n B dX4_wouldAnswer_2 2 rfl ?_
  refine z_V1 B (kX4_siteAsked_h l hl K ax (az 0) sa la (ak 0) (ad 0) X f n so sc D i x1 x2 hf1 hf2 hi hN) [0, 1, 2] [3, 4, 5, 6] (br := [zCa K (sc i) C, zZo K az Z W, zCo K ak F O, zCa K ad Tc]) (bs' := [zXo ax (az 0) sa la (ak 0) (ad 0) X, zSa K sa f, zSO n so sc D, zCa K (sc i) C, zZo K az Z W, zCo K ak F O, zCa K ad Tc]) (st := []) (nA := 2) (zsp rfl rfl rfl) (zsp rfl rfl rfl) 0 0 rfl rfl rfl rfl gX4_wouldAnswer_X4_siteAsked rfl (by decide +kernel) ⟨Nat.le_of_ble_eq_true rfl, Nat.le_of_ble_eq_true rfl⟩ rfl rfl (Nat.le_of_ble_eq_true rfl) ⟨Nat.le_of_ble_eq_true rfl, Nat.le_of_ble_eq_true rfl⟩ dX4_wouldAnswer_3 (fun E hE => ?_) (fun h1 => ?_)
  · rcases hE with ⟨rfl, hx⟩ | ⟨rfl, hx⟩
    · have hF : fX4_wouldAnswer_h X D i C Z W F O Tc x1 x2 = (1, 0, F, O, Tc) := (if_neg (show ¬ (fX4_siteAsked_h D i x1 x2) = 0 by rw [hx]; decide)).trans ((show ((fX4_siteAsked_h D i x1 x2), 0, F, O, Tc) = (1, 0, F, O, Tc) by rw [hx]))
      exact z_out B (Or.inl ⟨rfl, by rw [hF]⟩) (Nat.le_of_ble_eq_true rfl) (Nat.le_of_ble_eq_true rfl)
    · have hF : fX4_wouldAnswer_h X D i C Z W F O Tc x1 x2 = (2, 0, F, O, Tc) := (if_neg (show ¬ (fX4_siteAsked_h D i x1 x2) = 0 by rw [hx]; decide)).trans ((show ((fX4_siteAsked_h D i x1 x2), 0, F, O, Tc) = (2, 0, F, O, Tc) by rw [hx]))
      exact z_out B (Or.inr (⟨rfl, by rw [hF]⟩)) (Nat.le_of_ble_eq_true rfl) (Nat.le_of_ble_eq_true rfl)
  refine z_astore_n B (lv' := [(3, .ref (so i)), (0, .ref ax), (1, .int x1), (2, .int x2)]) dX4_wouldAnswer_6 (by decide) rfl ?_
  refine z_aload_n B dX4_wouldAnswer_7 1 rfl ?_
  refine z_get B (v := .ref (ad 0)) 0 0 7 hiX4_wouldAnswer_4 hfX4_wouldAnswer_39 rfl rfl rfl (by decide) rfl rfl rfl rfl dX4_wouldAnswer_8 ?_
  refine z_aload_n B dX4_wouldAnswer_11 0 rfl ?_
  refine z_get B (v := .ref ((sc i) 0)) 2 i 2 hiX4_wouldAnswer_2 hfX4_wouldAnswer_115 rfl (zSO_get hi) rfl (by decide) rfl rfl rfl rfl dX4_wouldAnswer_12 ?_
  refine z_V0 B (kX0_copyFrom l hl K ad Tc (sc i) C) [6, 3] [0, 1, 2, 4, 5] (br := [zXo ax (az 0) sa la (ak 0) (ad 0) X, zSa K sa f, zSO n so sc D, zZo K az Z W, zCo K ak F O]) (bs' := [zXo ax (az 0) sa la (ak 0) (ad 0) X, zSa K sa f, zSO n so sc D, zCa K (sc i) C, zZo K az Z W, zCo K ak F O, zCa K ad (fX0_copyFrom Tc C)]) (st := []) (nA := 1) (zsp rfl rfl rfl) (zsp rfl rfl rfl) 6 0 rfl rfl rfl rfl gX4_wouldAnswer_X0_copyFrom rfl (by decide +kernel) ⟨Nat.le_of_ble_eq_true rfl, Nat.le_of_ble_eq_true rfl⟩ rfl rfl (Nat.le_of_ble_eq_true rfl) ⟨Nat.le_of_ble_eq_true rfl, Nat.le_of_ble_eq_true rfl⟩ dX4_wouldAnswer_15 z_noX (fun _ => ?_)
  generalize ho2 : (fX0_copyFrom Tc C) = o2
  refine z_aload_n B dX4_wouldAnswer_18 1 rfl ?_
  refine z_aload_n B dX4_wouldAnswer_19 1 rfl ?_
  refine z_get B (v := .ref (ad 0)) 0 0 7 hiX4_wouldAnswer_4 hfX4_wouldAnswer_39 rfl rfl rfl (by decide) rfl rfl rfl rfl dX4_wouldAnswer_20 ?_
  refine z_iload_n B dX4_wouldAnswer_23 3 rfl ?_
  refine z_aload_n B dX4_wouldAnswer_24 1 rfl ?_
  refine z_get B (v := .ref (ak 0)) 0 0 6 hiX4_wouldAnswer_4 hfX4_wouldAnswer_33 rfl rfl rfl (by decide) rfl rfl rfl rfl dX4_wouldAnswer_25 ?_
  refine z_V1 B (kX4_resolve l hl K ax az sa la (ak 0) (ad 0) X Z W ad o2 ak F O x2) [0, 4, 6, 5] [1, 2, 3] (br := [zSa K sa f, zSO n so sc D, zCa K (sc i) C]) (bs' := [zXo ax (az 0) sa la (ak 0) (ad 0) X, zSa K sa f, zSO n so sc D, zCa K (sc i) C, zZo K az Z W, zCo K ak ((fX4_resolve X Z W o2 F O x2).2.2.1) ((fX4_resolve X Z W o2 F O x2).2.2.2), zCa K ad ((fX4_resolve X Z W o2 F O x2).2.1)]) (st := []) (nA := 3) (zsp rfl rfl rfl) (zsp rfl rfl rfl) 0 0 rfl rfl rfl rfl gX4_wouldAnswer_X4_resolve rfl (by decide +kernel) ⟨Nat.le_of_ble_eq_true rfl, Nat.le_of_ble_eq_true rfl⟩ rfl rfl (Nat.le_of_ble_eq_true rfl) ⟨Nat.le_of_ble_eq_true rfl, Nat.le_of_ble_eq_true rfl⟩ dX4_wouldAnswer_28 z_noX (fun _ => ?_)
  generalize ho3 : (fX4_resolve X Z W o2 F O x2) = o3
  have hF : fX4_wouldAnswer_h X D i C Z W F O Tc x1 x2 = (0, (o3.1), (o3.2.2.1), (o3.2.2.2), (o3.2.1)) := (if_pos h1).trans ((congrArg (fun o => fX4_wouldAnswer_s2 X D i C Z W F O Tc x1 x2 o) ho2).trans (congrArg (fun o => fX4_wouldAnswer_s3 X D i C Z W F O Tc x1 x2 o2 o) ho3))
  exact z_ret1 B rfl dX4_wouldAnswer_31 () (by rw [hF]) (Nat.le_of_ble_eq_true rfl) (Nat.le_of_ble_eq_true rfl) (by rw [hF]) (by rw [hF])
def fX4_wouldAnswer_m (D : Nat → Nat → Int32) (x1 : Int32) (x2 : Int32) : Nat × Int32 :=
  ((fX4_siteAsked_m D x1 x2), 0)
set_option maxHeartbeats 4000000 in
set_option maxRecDepth 100000 in
theorem kX4_wouldAnswer_m (l : Launch) (hl : l.stackTraces = false) (K : zK) (ax : Nat) (zn : Nat) (sa : Nat) (la : Nat) (tr : Nat) (tc : Nat) (X : Nat → Int32) (f : Nat → Option Nat) (n : Nat) (so : Nat → Nat) (sc : Nat → Nat → Nat) (D : Nat → Nat → Int32) (x1 : Int32) (x2 : Int32) (hf1 : ∀ a, a < n → f a = some (so a)) (hf2 : ∀ a, n ≤ a → a < 4 → f a = none) (hN : fX4_near n D x1 = none) : zMet l K yX4_wouldAnswer wsX4_wouldAnswer { frames := 8, cells := 3, slots := 18, locals := 127 } [.ref ax, .int x1, .int x2] [zXo ax zn sa la tr tc X, zSa K sa f, zSO n so sc D] (some (.int ((fX4_wouldAnswer_m D x1 x2).2))) [zXo ax zn sa la tr tc X, zSa K sa f, zSO n so sc D] False (fun E => (E = zE1 ∧ (fX4_wouldAnswer_m D x1 x2).1 = 1) ∨ (E = zE2 ∧ (fX4_wouldAnswer_m D x1 x2).1 = 2) ∨ (E = zE3 ∧ (fX4_wouldAnswer_m D x1 x2).1 = 3)) := by
  refine zMeN.of (cc := cX4_wouldAnswer) (maxL := 4) (ret := (some .int)) (own := RX4) (nm := "wouldAnswer") hl (by decide +kernel) rfl rfl rfl (Nat.le_of_ble_eq_true rfl) (lv := [(0, .ref ax), (1, .int x1), (2, .int x2)]) rfl ?_
  intro p e s m args below meth c A B
  refine z_aload_n B dX4_wouldAnswer_0 0 rfl ?_
  refine z_iload_n B dX4_wouldAnswer_1 1 rfl ?_
  refine z_iload_n B dX4_wouldAnswer_2 2 rfl ?_
  refine z_V1 B (kX4_siteAsked_m l hl K ax zn sa la tr tc X f n so sc D x1 x2 hf1 hf2 hN) [0, 1, 2] [] (br := []) (bs' := [zXo ax zn sa la tr tc X, zSa K sa f, zSO n so sc D]) (st := []) (nA := 2) (zsp rfl rfl rfl) (zsp rfl rfl rfl) 0 0 rfl rfl rfl rfl gX4_wouldAnswer_X4_siteAsked rfl (by decide +kernel) ⟨Nat.le_of_ble_eq_true rfl, Nat.le_of_ble_eq_true rfl⟩ rfl rfl (Nat.le_of_ble_eq_true rfl) ⟨Nat.le_of_ble_eq_true rfl, Nat.le_of_ble_eq_true rfl⟩ dX4_wouldAnswer_3 (fun E hE => ?_) (fun h9 => h9.elim)
  · rcases hE with ⟨rfl, hx⟩ | ⟨rfl, hx⟩ | ⟨rfl, hx⟩
    · have hF : fX4_wouldAnswer_m D x1 x2 = (1, 0) := (show ((fX4_siteAsked_m D x1 x2), 0) = (1, 0) by rw [hx])
      exact z_out B (Or.inl ⟨rfl, by rw [hF]⟩) (Nat.le_of_ble_eq_true rfl) (Nat.le_of_ble_eq_true rfl)
    · have hF : fX4_wouldAnswer_m D x1 x2 = (2, 0) := (show ((fX4_siteAsked_m D x1 x2), 0) = (2, 0) by rw [hx])
      exact z_out B (Or.inr (Or.inl ⟨rfl, by rw [hF]⟩)) (Nat.le_of_ble_eq_true rfl) (Nat.le_of_ble_eq_true rfl)
    · have hF : fX4_wouldAnswer_m D x1 x2 = (3, 0) := (show ((fX4_siteAsked_m D x1 x2), 0) = (3, 0) by rw [hx])
      exact z_out B (Or.inr (Or.inr (⟨rfl, by rw [hF]⟩))) (Nat.le_of_ble_eq_true rfl) (Nat.le_of_ble_eq_true rfl)
end
section
/-- a new cache's rows, a new zone's -/
def zC0 : Nat → Nat → Int32 := va_up (fun _ _ => 0) 0 (fJ7_fill_53178 (fun _ => 0) 3)
def zZ0 : Nat → Nat → Int32 := va_up (va_up (fun _ _ => 0) 0 (fJ7_fill_53178 (fun _ => 0) 2)) 1 (fJ7_fill_53178 (fun _ => 0) (-3))
def zW0 : Nat → Int32 := va_up (va_up (fun _ => 0) 3 30) 4 1
def zX0 : Nat → Int32 := va_up (fun _ => 0) 5 (-3)
theorem hwX0_init_ol : Cond.methodLink RX0 3 objectInit ∈ wsX0_init := by decide +kernel
theorem hwX0_init_oi : Cond.instanceMethod objectInit ∈ wsX0_init := by decide +kernel
theorem hwX0_init_oc : Cond.code objectInit ⟨#[0xb1]⟩ 1 none ∈ wsX0_init := by decide +kernel
theorem hwX0_init_arrint : Cond.arrayClass .int ∈ wsX0_init := by decide +kernel
theorem hiX0_init_0 : ∀ w ∈ wsX00, w ∈ wsX0_init := by decide +kernel
theorem hfX0_init_9 : Cond.fieldLink RX0 9 "ResolverFleet$Cache" "kinds" "[I" ∈ wsX0_init := by decide +kernel
theorem hfX0_init_15 : Cond.fieldLink RX0 15 "ResolverFleet$Cache" "values" "[I" ∈ wsX0_init := by decide +kernel
theorem hfX0_init_18 : Cond.fieldLink RX0 18 "ResolverFleet$Cache" "lives" "[I" ∈ wsX0_init := by decide +kernel
theorem hfX0_init_21 : Cond.fieldLink RX0 21 "ResolverFleet$Cache" "ends" "[I" ∈ wsX0_init := by decide +kernel
theorem hfX0_init_24 : Cond.fieldLink RX0 24 "ResolverFleet$Cache" "hits" "[I" ∈ wsX0_init := by decide +kernel
set_option maxHeartbeats 4000000 in
set_option maxRecDepth 100000 in
theorem kX0_init (l : Launch) (hl : l.stackTraces = false) (K : zK) (a9 : Nat) : zMeN l K yX0_init wsX0_init { frames := 1, cells := 5, slots := 80, locals := 23 } [.ref a9] [[(a9, .inr (0, [.null, .null, .null, .null, .null, .int 0]))]] (fun u : Nat → Nat => ((none : Option Value), ([zCa K u zC0] : zB))) (fun u : Nat → Nat => u 0 = a9) zNo := by
  refine zMeN.of (cc := cX0_init) (maxL := 1) (ret := none) (own := RX0) (nm := "<init>") hl (by decide +kernel) rfl rfl rfl (Nat.le_of_ble_eq_true rfl) (lv := [(0, .ref a9)]) rfl ?_
  intro p e s m args below meth c A B
  refine z_aload_n B dX0_init_0 0 rfl ?_
  refine z_objInit B hwX0_init_ol hwX0_init_oi hwX0_init_oc (Nat.le_of_ble_eq_true rfl) (Nat.le_of_ble_eq_true rfl) dX0_init_1 ?_
  refine z_aload_n B dX0_init_4 0 rfl ?_
  refine z_bipush B (v := 16) dX0_init_5 rfl ?_
  refine z_newI B hwX0_init_arrint (N := 16) (by decide) rfl (by decide) (Nat.le_of_ble_eq_true rfl) (Nat.le_of_ble_eq_true rfl) dX0_init_7 (fun q1 => ?_)
  refine z_putF B 0 0 0 hiX0_init_0 hfX0_init_9 tyX0_ok nmX0 rfl rfl rfl (by decide) rfl rfl rfl rfl rfl rfl rfl rfl rfl (Nat.le_of_ble_eq_true rfl) (bs' := [[(a9, .inr (0, [.ref q1, .null, .null, .null, .null, .int 0]))], [(q1, .inl (zI K, 16, .inl (fun _ => 0)))]]) rfl dX0_init_9 ?_
  refine z_aload_n B dX0_init_12 0 rfl ?_
  refine z_bipush B (v := 16) dX0_init_13 rfl ?_
  refine z_newI B hwX0_init_arrint (N := 16) (by decide) rfl (by decide) (Nat.le_of_ble_eq_true rfl) (Nat.le_of_ble_eq_true rfl) dX0_init_15 (fun q2 => ?_)
  refine z_putF B 0 0 1 hiX0_init_0 hfX0_init_15 tyX0_ok nmX0 rfl rfl rfl (by decide) rfl rfl rfl rfl rfl rfl rfl rfl rfl (Nat.le_of_ble_eq_true rfl) (bs' := [[(a9, .inr (0, [.ref q1, .ref q2, .null, .null, .null, .int 0]))], [(q1, .inl (zI K, 16, .inl (fun _ => 0)))], [(q2, .inl (zI K, 16, .inl (fun _ => 0)))]]) rfl dX0_init_17 ?_
  refine z_aload_n B dX0_init_20 0 rfl ?_
  refine z_bipush B (v := 16) dX0_init_21 rfl ?_
  refine z_newI B hwX0_init_arrint (N := 16) (by decide) rfl (by decide) (Nat.le_of_ble_eq_true rfl) (Nat.le_of_ble_eq_true rfl) dX0_init_23 (fun q3 => ?_)
  refine z_putF B 0 0 2 hiX0_init_0 hfX0_init_18 tyX0_ok nmX0 rfl rfl rfl (by decide) rfl rfl rfl rfl rfl rfl rfl rfl rfl (Nat.le_of_ble_eq_true rfl) (bs' := [[(a9, .inr (0, [.ref q1, .ref q2, .ref q3, .null, .null, .int 0]))], [(q1, .inl (zI K, 16, .inl (fun _ => 0)))], [(q2, .inl (zI K, 16, .inl (fun _ => 0)))], [(q3, .inl (zI K, 16, .inl (fun _ => 0)))]]) rfl dX0_init_25 ?_
  refine z_aload_n B dX0_init_28 0 rfl ?_
  refine z_bipush B (v := 16) dX0_init_29 rfl ?_
  refine z_newI B hwX0_init_arrint (N := 16) (by decide) rfl (by decide) (Nat.le_of_ble_eq_true rfl) (Nat.le_of_ble_eq_true rfl) dX0_init_31 (fun q4 => ?_)
  refine z_putF B 0 0 3 hiX0_init_0 hfX0_init_21 tyX0_ok nmX0 rfl rfl rfl (by decide) rfl rfl rfl rfl rfl rfl rfl rfl rfl (Nat.le_of_ble_eq_true rfl) (bs' := [[(a9, .inr (0, [.ref q1, .ref q2, .ref q3, .ref q4, .null, .int 0]))], [(q1, .inl (zI K, 16, .inl (fun _ => 0)))], [(q2, .inl (zI K, 16, .inl (fun _ => 0)))], [(q3, .inl (zI K, 16, .inl (fun _ => 0)))], [(q4, .inl (zI K, 16, .inl (fun _ => 0)))]]) rfl dX0_init_33 ?_
  refine z_aload_n B dX0_init_36 0 rfl ?_
  refine z_bipush B (v := 16) dX0_init_37 rfl ?_
  refine z_newI B hwX0_init_arrint (N := 16) (by decide) rfl (by decide) (Nat.le_of_ble_eq_true rfl) (Nat.le_of_ble_eq_true rfl) dX0_init_39 (fun q5 => ?_)
  refine z_putF B 0 0 4 hiX0_init_0 hfX0_init_24 tyX0_ok nmX0 rfl rfl rfl (by decide) rfl rfl rfl rfl rfl rfl rfl rfl rfl (Nat.le_of_ble_eq_true rfl) (bs' := [[(a9, .inr (0, [.ref q1, .ref q2, .ref q3, .ref q4, .ref q5, .int 0]))], [(q1, .inl (zI K, 16, .inl (fun _ => 0)))], [(q2, .inl (zI K, 16, .inl (fun _ => 0)))], [(q3, .inl (zI K, 16, .inl (fun _ => 0)))], [(q4, .inl (zI K, 16, .inl (fun _ => 0)))], [(q5, .inl (zI K, 16, .inl (fun _ => 0)))]]) rfl dX0_init_41 ?_
  refine z_aload_n B dX0_init_44 0 rfl ?_
  refine z_get B (v := .ref q1) 0 0 0 hiX0_init_0 hfX0_init_9 rfl rfl rfl (by decide) rfl rfl rfl rfl dX0_init_45 ?_
  refine z_iconst B (v := 3) dX0_init_48 rfl ?_
  refine z_S0 B (kJ7_fill_53178 l hl K q1 (fun _ => 0) 3) [1] [0, 2, 3, 4, 5] (br := [[(a9, .inr (0, [.ref q1, .ref q2, .ref q3, .ref q4, .ref q5, .int 0]))], [(q2, .inl (zI K, 16, .inl (fun _ => 0)))], [(q3, .inl (zI K, 16, .inl (fun _ => 0)))], [(q4, .inl (zI K, 16, .inl (fun _ => 0)))], [(q5, .inl (zI K, 16, .inl (fun _ => 0)))]]) (bs' := [[(a9, .inr (0, [.ref q1, .ref q2, .ref q3, .ref q4, .ref q5, .int 0]))], [(q1, .inl (zI K, 16, .inl (fJ7_fill_53178 (fun _ => 0) 3)))], [(q2, .inl (zI K, 16, .inl (fun _ => 0)))], [(q3, .inl (zI K, 16, .inl (fun _ => 0)))], [(q4, .inl (zI K, 16, .inl (fun _ => 0)))], [(q5, .inl (zI K, 16, .inl (fun _ => 0)))]]) (st := []) (nA := 2) (zsp rfl rfl rfl) (zsp rfl rfl rfl) gX0_init_J7_fill_53178 rfl (by decide +kernel) ⟨Nat.le_of_ble_eq_true rfl, Nat.le_of_ble_eq_true rfl⟩ rfl rfl (Nat.le_of_ble_eq_true rfl) ⟨Nat.le_of_ble_eq_true rfl, Nat.le_of_ble_eq_true rfl⟩ dX0_init_49 z_noX (fun _ => ?_)
  exact z_ret0 B dX0_init_52 (fun i => ([a9, q1, q2, q3, q4, q5] : List Nat).getD i 0) rfl (Nat.le_of_ble_eq_true rfl) (Nat.le_of_ble_eq_true rfl) rfl rfl
theorem hwX1_init_ol : Cond.methodLink RX1 3 objectInit ∈ wsX1_init := by decide +kernel
theorem hwX1_init_oi : Cond.instanceMethod objectInit ∈ wsX1_init := by decide +kernel
theorem hwX1_init_oc : Cond.code objectInit ⟨#[0xb1]⟩ 1 none ∈ wsX1_init := by decide +kernel
theorem hwX1_init_arrint : Cond.arrayClass .int ∈ wsX1_init := by decide +kernel
theorem hiX1_init_1 : ∀ w ∈ wsX10, w ∈ wsX1_init := by decide +kernel
theorem hfX1_init_9 : Cond.fieldLink RX1 9 "ResolverFleet$Course" "freshNames" "[I" ∈ wsX1_init := by decide +kernel
set_option maxHeartbeats 4000000 in
set_option maxRecDepth 100000 in
theorem kX1_init (l : Launch) (hl : l.stackTraces = false) (K : zK) (a9 : Nat) : zMeN l K yX1_init wsX1_init { frames := 1, cells := 1, slots := 5, locals := 12 } [.ref a9] [[(a9, .inr (1, [.null, .int 0, .int 0, .int 0, .int 0, .int 0]))]] (fun u : Nat → Nat => ((none : Option Value), ([zCo K u (fun _ => 0) (fun _ => 0)] : zB))) (fun u : Nat → Nat => u 0 = a9) zNo := by
  refine zMeN.of (cc := cX1_init) (maxL := 1) (ret := none) (own := RX1) (nm := "<init>") hl (by decide +kernel) rfl rfl rfl (Nat.le_of_ble_eq_true rfl) (lv := [(0, .ref a9)]) rfl ?_
  intro p e s m args below meth c A B
  refine z_aload_n B dX1_init_0 0 rfl ?_
  refine z_objInit B hwX1_init_ol hwX1_init_oi hwX1_init_oc (Nat.le_of_ble_eq_true rfl) (Nat.le_of_ble_eq_true rfl) dX1_init_1 ?_
  refine z_aload_n B dX1_init_4 0 rfl ?_
  refine z_iconst B (v := 5) dX1_init_5 rfl ?_
  refine z_newI B hwX1_init_arrint (N := 5) (by decide) rfl (by decide) (Nat.le_of_ble_eq_true rfl) (Nat.le_of_ble_eq_true rfl) dX1_init_6 (fun q1 => ?_)
  refine z_putF B 0 0 0 hiX1_init_1 hfX1_init_9 tyX1_ok nmX1 rfl rfl rfl (by decide) rfl rfl rfl rfl rfl rfl rfl rfl rfl (Nat.le_of_ble_eq_true rfl) (bs' := [[(a9, .inr (1, [.ref q1, .int 0, .int 0, .int 0, .int 0, .int 0]))], [(q1, .inl (zI K, 5, .inl (fun _ => 0)))]]) rfl dX1_init_8 ?_
  exact z_ret0 B dX1_init_11 (fun i => ([a9, q1] : List Nat).getD i 0) rfl (Nat.le_of_ble_eq_true rfl) (Nat.le_of_ble_eq_true rfl) rfl rfl
theorem hwX3_init_ol : Cond.methodLink RX3 3 objectInit ∈ wsX3_init := by decide +kernel
theorem hwX3_init_oi : Cond.instanceMethod objectInit ∈ wsX3_init := by decide +kernel
theorem hwX3_init_oc : Cond.code objectInit ⟨#[0xb1]⟩ 1 none ∈ wsX3_init := by decide +kernel
theorem hwX3_init_arrint : Cond.arrayClass .int ∈ wsX3_init := by decide +kernel
theorem hiX3_init_3 : ∀ w ∈ wsX30, w ∈ wsX3_init := by decide +kernel
theorem hfX3_init_9 : Cond.fieldLink RX3 9 "ResolverFleet$Zone" "kinds" "[I" ∈ wsX3_init := by decide +kernel
theorem hfX3_init_15 : Cond.fieldLink RX3 15 "ResolverFleet$Zone" "values" "[I" ∈ wsX3_init := by decide +kernel
theorem hfX3_init_18 : Cond.fieldLink RX3 18 "ResolverFleet$Zone" "lives" "[I" ∈ wsX3_init := by decide +kernel
theorem hfX3_init_21 : Cond.fieldLink RX3 21 "ResolverFleet$Zone" "bound" "I" ∈ wsX3_init := by decide +kernel
theorem hfX3_init_25 : Cond.fieldLink RX3 25 "ResolverFleet$Zone" "isUp" "Z" ∈ wsX3_init := by decide +kernel
set_option maxHeartbeats 4000000 in
set_option maxRecDepth 100000 in
theorem kX3_init (l : Launch) (hl : l.stackTraces = false) (K : zK) (a9 : Nat) : zMeN l K yX3_init wsX3_init { frames := 1, cells := 3, slots := 48, locals := 23 } [.ref a9] [[(a9, .inr (3, [.null, .null, .null, .int 0, .int 0]))]] (fun u : Nat → Nat => ((none : Option Value), ([zZo K u zZ0 zW0] : zB))) (fun u : Nat → Nat => u 0 = a9) zNo := by
  refine zMeN.of (cc := cX3_init) (maxL := 1) (ret := none) (own := RX3) (nm := "<init>") hl (by decide +kernel) rfl rfl rfl (Nat.le_of_ble_eq_true rfl) (lv := [(0, .ref a9)]) rfl ?_
  intro p e s m args below meth c A B
  refine z_aload_n B dX3_init_0 0 rfl ?_
  refine z_objInit B hwX3_init_ol hwX3_init_oi hwX3_init_oc (Nat.le_of_ble_eq_true rfl) (Nat.le_of_ble_eq_true rfl) dX3_init_1 ?_
  refine z_aload_n B dX3_init_4 0 rfl ?_
  refine z_bipush B (v := 16) dX3_init_5 rfl ?_
  refine z_newI B hwX3_init_arrint (N := 16) (by decide) rfl (by decide) (Nat.le_of_ble_eq_true rfl) (Nat.le_of_ble_eq_true rfl) dX3_init_7 (fun q1 => ?_)
  refine z_putF B 0 0 0 hiX3_init_3 hfX3_init_9 tyX3_ok nmX3 rfl rfl rfl (by decide) rfl rfl rfl rfl rfl rfl rfl rfl rfl (Nat.le_of_ble_eq_true rfl) (bs' := [[(a9, .inr (3, [.ref q1, .null, .null, .int 0, .int 0]))], [(q1, .inl (zI K, 16, .inl (fun _ => 0)))]]) rfl dX3_init_9 ?_
  refine z_aload_n B dX3_init_12 0 rfl ?_
  refine z_bipush B (v := 16) dX3_init_13 rfl ?_
  refine z_newI B hwX3_init_arrint (N := 16) (by decide) rfl (by decide) (Nat.le_of_ble_eq_true rfl) (Nat.le_of_ble_eq_true rfl) dX3_init_15 (fun q2 => ?_)
  refine z_putF B 0 0 1 hiX3_init_3 hfX3_init_15 tyX3_ok nmX3 rfl rfl rfl (by decide) rfl rfl rfl rfl rfl rfl rfl rfl rfl (Nat.le_of_ble_eq_true rfl) (bs' := [[(a9, .inr (3, [.ref q1, .ref q2, .null, .int 0, .int 0]))], [(q1, .inl (zI K, 16, .inl (fun _ => 0)))], [(q2, .inl (zI K, 16, .inl (fun _ => 0)))]]) rfl dX3_init_17 ?_
  refine z_aload_n B dX3_init_20 0 rfl ?_
  refine z_bipush B (v := 16) dX3_init_21 rfl ?_
  refine z_newI B hwX3_init_arrint (N := 16) (by decide) rfl (by decide) (Nat.le_of_ble_eq_true rfl) (Nat.le_of_ble_eq_true rfl) dX3_init_23 (fun q3 => ?_)
  refine z_putF B 0 0 2 hiX3_init_3 hfX3_init_18 tyX3_ok nmX3 rfl rfl rfl (by decide) rfl rfl rfl rfl rfl rfl rfl rfl rfl (Nat.le_of_ble_eq_true rfl) (bs' := [[(a9, .inr (3, [.ref q1, .ref q2, .ref q3, .int 0, .int 0]))], [(q1, .inl (zI K, 16, .inl (fun _ => 0)))], [(q2, .inl (zI K, 16, .inl (fun _ => 0)))], [(q3, .inl (zI K, 16, .inl (fun _ => 0)))]]) rfl dX3_init_25 ?_
  refine z_aload_n B dX3_init_28 0 rfl ?_
  refine z_bipush B (v := 30) dX3_init_29 rfl ?_
  refine z_put B 0 0 3 hiX3_init_3 hfX3_init_21 tyX3_ok nmX3 rfl rfl rfl (by decide) rfl rfl rfl rfl rfl rfl rfl (Nat.le_of_ble_eq_true rfl) (bs' := [[(a9, .inr (3, [.ref q1, .ref q2, .ref q3, .int 30, .int 0]))], [(q1, .inl (zI K, 16, .inl (fun _ => 0)))], [(q2, .inl (zI K, 16, .inl (fun _ => 0)))], [(q3, .inl (zI K, 16, .inl (fun _ => 0)))]]) rfl dX3_init_31 ?_
  refine z_aload_n B dX3_init_34 0 rfl ?_
  refine z_iconst B (v := 1) dX3_init_35 rfl ?_
  refine z_put B 0 0 4 hiX3_init_3 hfX3_init_25 tyX3_ok nmX3 rfl rfl rfl (by decide) rfl rfl rfl rfl rfl rfl rfl (Nat.le_of_ble_eq_true rfl) (bs' := [[(a9, .inr (3, [.ref q1, .ref q2, .ref q3, .int 30, .int 1]))], [(q1, .inl (zI K, 16, .inl (fun _ => 0)))], [(q2, .inl (zI K, 16, .inl (fun _ => 0)))], [(q3, .inl (zI K, 16, .inl (fun _ => 0)))]]) rfl dX3_init_36 ?_
  refine z_aload_n B dX3_init_39 0 rfl ?_
  refine z_get B (v := .ref q1) 0 0 0 hiX3_init_3 hfX3_init_9 rfl rfl rfl (by decide) rfl rfl rfl rfl dX3_init_40 ?_
  refine z_iconst B (v := 2) dX3_init_43 rfl ?_
  refine z_S0 B (kJ7_fill_53178 l hl K q1 (fun _ => 0) 2) [1] [0, 2, 3] (br := [[(a9, .inr (3, [.ref q1, .ref q2, .ref q3, .int 30, .int 1]))], [(q2, .inl (zI K, 16, .inl (fun _ => 0)))], [(q3, .inl (zI K, 16, .inl (fun _ => 0)))]]) (bs' := [[(a9, .inr (3, [.ref q1, .ref q2, .ref q3, .int 30, .int 1]))], [(q1, .inl (zI K, 16, .inl (fJ7_fill_53178 (fun _ => 0) 2)))], [(q2, .inl (zI K, 16, .inl (fun _ => 0)))], [(q3, .inl (zI K, 16, .inl (fun _ => 0)))]]) (st := []) (nA := 2) (zsp rfl rfl rfl) (zsp rfl rfl rfl) gX3_init_J7_fill_53178 rfl (by decide +kernel) ⟨Nat.le_of_ble_eq_true rfl, Nat.le_of_ble_eq_true rfl⟩ rfl rfl (Nat.le_of_ble_eq_true rfl) ⟨Nat.le_of_ble_eq_true rfl, Nat.le_of_ble_eq_true rfl⟩ dX3_init_44 z_noX (fun _ => ?_)
  refine z_aload_n B dX3_init_47 0 rfl ?_
  refine z_get B (v := .ref q2) 0 0 1 hiX3_init_3 hfX3_init_15 rfl rfl rfl (by decide) rfl rfl rfl rfl dX3_init_48 ?_
  refine z_bipush B (v := (-3)) dX3_init_51 rfl ?_
  refine z_S0 B (kJ7_fill_53178 l hl K q2 (fun _ => 0) (-3)) [2] [0, 1, 3] (br := [[(a9, .inr (3, [.ref q1, .ref q2, .ref q3, .int 30, .int 1]))], [(q1, .inl (zI K, 16, .inl (fJ7_fill_53178 (fun _ => 0) 2)))], [(q3, .inl (zI K, 16, .inl (fun _ => 0)))]]) (bs' := [[(a9, .inr (3, [.ref q1, .ref q2, .ref q3, .int 30, .int 1]))], [(q1, .inl (zI K, 16, .inl (fJ7_fill_53178 (fun _ => 0) 2)))], [(q2, .inl (zI K, 16, .inl (fJ7_fill_53178 (fun _ => 0) (-3))))], [(q3, .inl (zI K, 16, .inl (fun _ => 0)))]]) (st := []) (nA := 2) (zsp rfl rfl rfl) (zsp rfl rfl rfl) gX3_init_J7_fill_53178 rfl (by decide +kernel) ⟨Nat.le_of_ble_eq_true rfl, Nat.le_of_ble_eq_true rfl⟩ rfl rfl (Nat.le_of_ble_eq_true rfl) ⟨Nat.le_of_ble_eq_true rfl, Nat.le_of_ble_eq_true rfl⟩ dX3_init_53 z_noX (fun _ => ?_)
  exact z_ret0 B dX3_init_56 (fun i => ([a9, q1, q2, q3] : List Nat).getD i 0) rfl (Nat.le_of_ble_eq_true rfl) (Nat.le_of_ble_eq_true rfl) rfl rfl
theorem hwX2_init_ol : Cond.methodLink RX2 1 objectInit ∈ wsX2_init := by decide +kernel
theorem hwX2_init_oi : Cond.instanceMethod objectInit ∈ wsX2_init := by decide +kernel
theorem hwX2_init_oc : Cond.code objectInit ⟨#[0xb1]⟩ 1 none ∈ wsX2_init := by decide +kernel
theorem hiX2_init_0 : ∀ w ∈ wsX00, w ∈ wsX2_init := by decide +kernel
theorem hwX2_init_cl7 : Cond.classLink RX2 7 RX0 ∈ wsX2_init := by decide +kernel
theorem hwX2_init_ins0 : Cond.instantiable RX0 6 ∈ wsX2_init := by decide +kernel
theorem hwX2_init_init0 : Cond.initialized RX0 ∈ wsX2_init := by decide +kernel
theorem hwX2_init_ml9 : Cond.methodLink RX2 9 yX0_init ∈ wsX2_init := by decide +kernel
theorem hwX2_init_miX0_init : Cond.instanceMethod yX0_init ∈ wsX2_init := by decide +kernel
theorem hwX2_init_inX0_init : Cond.initialized yX0_init.cls ∈ wsX2_init := by decide +kernel
theorem hiX2_init_2 : ∀ w ∈ wsX20, w ∈ wsX2_init := by decide +kernel
theorem hfX2_init_10 : Cond.fieldLink RX2 10 "ResolverFleet$Site" "cache" "LResolverFleet$Cache;" ∈ wsX2_init := by decide +kernel
theorem hfX2_init_16 : Cond.fieldLink RX2 16 "ResolverFleet$Site" "isAnnounced" "Z" ∈ wsX2_init := by decide +kernel
theorem hfX2_init_20 : Cond.fieldLink RX2 20 "ResolverFleet$Site" "number" "I" ∈ wsX2_init := by decide +kernel
theorem hfX2_init_24 : Cond.fieldLink RX2 24 "ResolverFleet$Site" "position" "I" ∈ wsX2_init := by decide +kernel
set_option maxHeartbeats 4000000 in
set_option maxRecDepth 100000 in
theorem kX2_init (l : Launch) (hl : l.stackTraces = false) (K : zK) (a9 : Nat) (x1 : Int32) (x2 : Int32) : zMeN l K yX2_init wsX2_init { frames := 2, cells := 6, slots := 86, locals := 43 } [.ref a9, .int x1, .int x2] [[(a9, .inr (2, [.int 0, .int 0, .null, .int 0]))]] (fun u : Nat → Nat => ((none : Option Value), ([zSi a9 (u 0) (va_up (va_up (va_up (fun _ => 0) 0 x1) 1 x2) 3 1) :: zCa K u zC0] : zB))) (fun u : Nat → Nat => True) zNo := by
  refine zMeN.of (cc := cX2_init) (maxL := 3) (ret := none) (own := RX2) (nm := "<init>") hl (by decide +kernel) rfl rfl rfl (Nat.le_of_ble_eq_true rfl) (lv := [(0, .ref a9), (1, .int x1), (2, .int x2)]) rfl ?_
  intro p e s m args below meth c A B
  refine z_aload_n B dX2_init_0 0 rfl ?_
  refine z_objInit B hwX2_init_ol hwX2_init_oi hwX2_init_oc (Nat.le_of_ble_eq_true rfl) (Nat.le_of_ble_eq_true rfl) dX2_init_1 ?_
  refine z_aload_n B dX2_init_4 0 rfl ?_
  refine z_new B (ci := 0) (fs := [.null, .null, .null, .null, .null, .int 0]) hiX2_init_0 tyX0_ok hwX2_init_cl7 hwX2_init_ins0 hwX2_init_init0 rfl (by decide +kernel) (Nat.le_of_ble_eq_true rfl) (Nat.le_of_ble_eq_true rfl) dX2_init_5 (fun q1 => ?_)
  refine z_dup B dX2_init_8 rfl ?_
  refine z_callI B (kX0_init l hl K q1) [1] [0] (br := [[(a9, .inr (2, [.int 0, .int 0, .null, .int 0]))]]) (bs' := fun u2 => [[(a9, .inr (2, [.int 0, .int 0, .null, .int 0]))], zCa K u2 zC0]) (st := [.ref q1, .ref a9]) (nA := 0) (zsp rfl rfl rfl) (fun _ => zsp rfl rfl rfl) gX2_init_X0_init hwX2_init_ml9 hwX2_init_miX0_init hwX2_init_inX0_init rfl rfl (by decide +kernel) ⟨Nat.le_of_ble_eq_true rfl, Nat.le_of_ble_eq_true rfl⟩ rfl rfl (Nat.le_of_ble_eq_true rfl) ⟨Nat.le_of_ble_eq_true rfl, Nat.le_of_ble_eq_true rfl⟩ dX2_init_9 (fun u2 hu2 => ?_)
  subst hu2
  refine z_putF B 0 0 2 hiX2_init_2 hfX2_init_10 tyX2_ok nmX2 rfl rfl rfl (by decide) rfl rfl rfl rfl rfl rfl rfl rfl rfl (Nat.le_of_ble_eq_true rfl) (bs' := [[(a9, .inr (2, [.int 0, .int 0, .ref (u2 0), .int 0]))], zCa K u2 zC0]) rfl dX2_init_12 ?_
  refine z_aload_n B dX2_init_15 0 rfl ?_
  refine z_iconst B (v := 1) dX2_init_16 rfl ?_
  refine z_put B 0 0 3 hiX2_init_2 hfX2_init_16 tyX2_ok nmX2 rfl rfl rfl (by decide) rfl rfl rfl rfl rfl rfl rfl (Nat.le_of_ble_eq_true rfl) (bs' := [[(a9, .inr (2, [.int 0, .int 0, .ref (u2 0), .int 1]))], zCa K u2 zC0]) rfl dX2_init_17 ?_
  refine z_aload_n B dX2_init_20 0 rfl ?_
  refine z_iload_n B dX2_init_21 1 rfl ?_
  refine z_putF B 0 0 0 hiX2_init_2 hfX2_init_20 tyX2_ok nmX2 rfl rfl rfl (by decide) rfl rfl rfl rfl rfl rfl rfl rfl rfl (Nat.le_of_ble_eq_true rfl) (bs' := [[(a9, .inr (2, [.int x1, .int 0, .ref (u2 0), .int 1]))], zCa K u2 zC0]) rfl dX2_init_22 ?_
  refine z_aload_n B dX2_init_25 0 rfl ?_
  refine z_iload_n B dX2_init_26 2 rfl ?_
  refine z_putF B 0 0 1 hiX2_init_2 hfX2_init_24 tyX2_ok nmX2 rfl rfl rfl (by decide) rfl rfl rfl rfl rfl rfl rfl rfl rfl (Nat.le_of_ble_eq_true rfl) (bs' := [[(a9, .inr (2, [.int x1, .int x2, .ref (u2 0), .int 1]))], zCa K u2 zC0]) rfl dX2_init_27 ?_
  exact z_ret0 B dX2_init_30 u2 trivial (Nat.le_of_ble_eq_true rfl) (Nat.le_of_ble_eq_true rfl) rfl rfl
theorem hwX4_init_ol : Cond.methodLink RX4 1 objectInit ∈ wsX4_init := by decide +kernel
theorem hwX4_init_oi : Cond.instanceMethod objectInit ∈ wsX4_init := by decide +kernel
theorem hwX4_init_oc : Cond.code objectInit ⟨#[0xb1]⟩ 1 none ∈ wsX4_init := by decide +kernel
theorem hiX4_init_3 : ∀ w ∈ wsX30, w ∈ wsX4_init := by decide +kernel
theorem hwX4_init_cl7 : Cond.classLink RX4 7 RX3 ∈ wsX4_init := by decide +kernel
theorem hwX4_init_ins3 : Cond.instantiable RX3 5 ∈ wsX4_init := by decide +kernel
theorem hwX4_init_init3 : Cond.initialized RX3 ∈ wsX4_init := by decide +kernel
theorem hwX4_init_ml9 : Cond.methodLink RX4 9 yX3_init ∈ wsX4_init := by decide +kernel
theorem hwX4_init_miX3_init : Cond.instanceMethod yX3_init ∈ wsX4_init := by decide +kernel
theorem hwX4_init_inX3_init : Cond.initialized yX3_init.cls ∈ wsX4_init := by decide +kernel
theorem hiX4_init_4 : ∀ w ∈ wsX40, w ∈ wsX4_init := by decide +kernel
theorem hfX4_init_10 : Cond.fieldLink RX4 10 "ResolverFleet" "zone" "LResolverFleet$Zone;" ∈ wsX4_init := by decide +kernel
theorem hwX4_init_cl16 : Cond.classLink RX4 16 RX2 ∈ wsX4_init := by decide +kernel
theorem hfX4_init_18 : Cond.fieldLink RX4 18 "ResolverFleet" "sites" "[LResolverFleet$Site;" ∈ wsX4_init := by decide +kernel
theorem hiX4_init_1 : ∀ w ∈ wsX10, w ∈ wsX4_init := by decide +kernel
theorem hwX4_init_cl22 : Cond.classLink RX4 22 RX1 ∈ wsX4_init := by decide +kernel
theorem hwX4_init_ins1 : Cond.instantiable RX1 6 ∈ wsX4_init := by decide +kernel
theorem hwX4_init_init1 : Cond.initialized RX1 ∈ wsX4_init := by decide +kernel
theorem hwX4_init_ml24 : Cond.methodLink RX4 24 yX1_init ∈ wsX4_init := by decide +kernel
theorem hwX4_init_miX1_init : Cond.instanceMethod yX1_init ∈ wsX4_init := by decide +kernel
theorem hwX4_init_inX1_init : Cond.initialized yX1_init.cls ∈ wsX4_init := by decide +kernel
theorem hfX4_init_25 : Cond.fieldLink RX4 25 "ResolverFleet" "last" "LResolverFleet$Course;" ∈ wsX4_init := by decide +kernel
theorem hfX4_init_29 : Cond.fieldLink RX4 29 "ResolverFleet" "lastSiteNumber" "I" ∈ wsX4_init := by decide +kernel
theorem hfX4_init_33 : Cond.fieldLink RX4 33 "ResolverFleet" "trial" "LResolverFleet$Course;" ∈ wsX4_init := by decide +kernel
theorem hiX4_init_0 : ∀ w ∈ wsX00, w ∈ wsX4_init := by decide +kernel
theorem hwX4_init_cl36 : Cond.classLink RX4 36 RX0 ∈ wsX4_init := by decide +kernel
theorem hwX4_init_ins0 : Cond.instantiable RX0 6 ∈ wsX4_init := by decide +kernel
theorem hwX4_init_init0 : Cond.initialized RX0 ∈ wsX4_init := by decide +kernel
theorem hwX4_init_ml38 : Cond.methodLink RX4 38 yX0_init ∈ wsX4_init := by decide +kernel
theorem hwX4_init_miX0_init : Cond.instanceMethod yX0_init ∈ wsX4_init := by decide +kernel
theorem hwX4_init_inX0_init : Cond.initialized yX0_init.cls ∈ wsX4_init := by decide +kernel
theorem hfX4_init_39 : Cond.fieldLink RX4 39 "ResolverFleet" "trialCache" "LResolverFleet$Cache;" ∈ wsX4_init := by decide +kernel
set_option maxHeartbeats 4000000 in
set_option maxRecDepth 100000 in
theorem kX4_init (l : Launch) (hl : l.stackTraces = false) (K : zK) (a9 : Nat) : zMeN l K yX4_init wsX4_init { frames := 2, cells := 15, slots := 165, locals := 43 } [.ref a9] [[(a9, .inr (4, [.null, .null, .int 0, .int 0, .null, .int 0, .null, .null, .int 0, .int 0, .int 0, .int 0, .int 0]))]] (fun u : (Nat → Nat) × Nat × (Nat → Nat) × (Nat → Nat) × (Nat → Nat) => ((none : Option Value), ([zXo a9 (u.1 0) u.2.1 (u.2.2.1 0) (u.2.2.2.1 0) (u.2.2.2.2 0) zX0 ++ (zZo K u.1 zZ0 zW0 ++ (zSa K u.2.1 (fun _ => none) ++ (zCo K u.2.2.1 (fun _ => 0) (fun _ => 0) ++ (zCo K u.2.2.2.1 (fun _ => 0) (fun _ => 0) ++ zCa K u.2.2.2.2 zC0))))] : zB))) (fun u : (Nat → Nat) × Nat × (Nat → Nat) × (Nat → Nat) × (Nat → Nat) => True) zNo := by
  refine zMeN.of (cc := cX4_init) (maxL := 1) (ret := none) (own := RX4) (nm := "<init>") hl (by decide +kernel) rfl rfl rfl (Nat.le_of_ble_eq_true rfl) (lv := [(0, .ref a9)]) rfl ?_
  intro p e s m args below meth c A B
  refine z_aload_n B dX4_init_0 0 rfl ?_
  refine z_objInit B hwX4_init_ol hwX4_init_oi hwX4_init_oc (Nat.le_of_ble_eq_true rfl) (Nat.le_of_ble_eq_true rfl) dX4_init_1 ?_
  refine z_aload_n B dX4_init_4 0 rfl ?_
  refine z_new B (ci := 3) (fs := [.null, .null, .null, .int 0, .int 0]) hiX4_init_3 tyX3_ok hwX4_init_cl7 hwX4_init_ins3 hwX4_init_init3 rfl (by decide +kernel) (Nat.le_of_ble_eq_true rfl) (Nat.le_of_ble_eq_true rfl) dX4_init_5 (fun q1 => ?_)
  refine z_dup B dX4_init_8 rfl ?_
  refine z_callI B (kX3_init l hl K q1) [1] [0] (br := [[(a9, .inr (4, [.null, .null, .int 0, .int 0, .null, .int 0, .null, .null, .int 0, .int 0, .int 0, .int 0, .int 0]))]]) (bs' := fun u2 => [[(a9, .inr (4, [.null, .null, .int 0, .int 0, .null, .int 0, .null, .null, .int 0, .int 0, .int 0, .int 0, .int 0]))], zZo K u2 zZ0 zW0]) (st := [.ref q1, .ref a9]) (nA := 0) (zsp rfl rfl rfl) (fun _ => zsp rfl rfl rfl) gX4_init_X3_init hwX4_init_ml9 hwX4_init_miX3_init hwX4_init_inX3_init rfl rfl (by decide +kernel) ⟨Nat.le_of_ble_eq_true rfl, Nat.le_of_ble_eq_true rfl⟩ rfl rfl (Nat.le_of_ble_eq_true rfl) ⟨Nat.le_of_ble_eq_true rfl, Nat.le_of_ble_eq_true rfl⟩ dX4_init_9 (fun u2 hu2 => ?_)
  subst hu2
  refine z_putF B 0 0 0 hiX4_init_4 hfX4_init_10 tyX4_ok nmX4 rfl rfl rfl (by decide) rfl rfl rfl rfl rfl rfl rfl rfl rfl (Nat.le_of_ble_eq_true rfl) (bs' := [[(a9, .inr (4, [.ref (u2 0), .null, .int 0, .int 0, .null, .int 0, .null, .null, .int 0, .int 0, .int 0, .int 0, .int 0]))], zZo K u2 zZ0 zW0]) rfl dX4_init_12 ?_
  refine z_aload_n B dX4_init_15 0 rfl ?_
  refine z_iconst B (v := 4) dX4_init_16 rfl ?_
  refine z_newA B hwX4_init_cl16 (N := 4) (by decide) rfl (by decide) (Nat.le_of_ble_eq_true rfl) (Nat.le_of_ble_eq_true rfl) dX4_init_17 (fun q3 => ?_)
  refine z_putF B 0 0 1 hiX4_init_4 hfX4_init_18 tyX4_ok nmX4 rfl rfl rfl (by decide) rfl rfl rfl rfl rfl rfl rfl rfl rfl (Nat.le_of_ble_eq_true rfl) (bs' := [[(a9, .inr (4, [.ref (u2 0), .ref q3, .int 0, .int 0, .null, .int 0, .null, .null, .int 0, .int 0, .int 0, .int 0, .int 0]))], zZo K u2 zZ0 zW0, zSa K q3 (fun _ => none)]) rfl dX4_init_20 ?_
  refine z_aload_n B dX4_init_23 0 rfl ?_
  refine z_new B (ci := 1) (fs := [.null, .int 0, .int 0, .int 0, .int 0, .int 0]) hiX4_init_1 tyX1_ok hwX4_init_cl22 hwX4_init_ins1 hwX4_init_init1 rfl (by decide +kernel) (Nat.le_of_ble_eq_true rfl) (Nat.le_of_ble_eq_true rfl) dX4_init_24 (fun q4 => ?_)
  refine z_dup B dX4_init_27 rfl ?_
  refine z_callI B (kX1_init l hl K q4) [3] [0, 1, 2] (br := [[(a9, .inr (4, [.ref (u2 0), .ref q3, .int 0, .int 0, .null, .int 0, .null, .null, .int 0, .int 0, .int 0, .int 0, .int 0]))], zZo K u2 zZ0 zW0, zSa K q3 (fun _ => none)]) (bs' := fun u5 => [[(a9, .inr (4, [.ref (u2 0), .ref q3, .int 0, .int 0, .null, .int 0, .null, .null, .int 0, .int 0, .int 0, .int 0, .int 0]))], zZo K u2 zZ0 zW0, zSa K q3 (fun _ => none), zCo K u5 (fun _ => 0) (fun _ => 0)]) (st := [.ref q4, .ref a9]) (nA := 0) (zsp rfl rfl rfl) (fun _ => zsp rfl rfl rfl) gX4_init_X1_init hwX4_init_ml24 hwX4_init_miX1_init hwX4_init_inX1_init rfl rfl (by decide +kernel) ⟨Nat.le_of_ble_eq_true rfl, Nat.le_of_ble_eq_true rfl⟩ rfl rfl (Nat.le_of_ble_eq_true rfl) ⟨Nat.le_of_ble_eq_true rfl, Nat.le_of_ble_eq_true rfl⟩ dX4_init_28 (fun u5 hu5 => ?_)
  subst hu5
  refine z_putF B 0 0 4 hiX4_init_4 hfX4_init_25 tyX4_ok nmX4 rfl rfl rfl (by decide) rfl rfl rfl rfl rfl rfl rfl rfl rfl (Nat.le_of_ble_eq_true rfl) (bs' := [[(a9, .inr (4, [.ref (u2 0), .ref q3, .int 0, .int 0, .ref (u5 0), .int 0, .null, .null, .int 0, .int 0, .int 0, .int 0, .int 0]))], zZo K u2 zZ0 zW0, zSa K q3 (fun _ => none), zCo K u5 (fun _ => 0) (fun _ => 0)]) rfl dX4_init_31 ?_
  refine z_aload_n B dX4_init_34 0 rfl ?_
  refine z_bipush B (v := (-3)) dX4_init_35 rfl ?_
  refine z_put B 0 0 5 hiX4_init_4 hfX4_init_29 tyX4_ok nmX4 rfl rfl rfl (by decide) rfl rfl rfl rfl rfl rfl rfl (Nat.le_of_ble_eq_true rfl) (bs' := [[(a9, .inr (4, [.ref (u2 0), .ref q3, .int 0, .int 0, .ref (u5 0), .int (-3), .null, .null, .int 0, .int 0, .int 0, .int 0, .int 0]))], zZo K u2 zZ0 zW0, zSa K q3 (fun _ => none), zCo K u5 (fun _ => 0) (fun _ => 0)]) rfl dX4_init_37 ?_
  refine z_aload_n B dX4_init_40 0 rfl ?_
  refine z_new B (ci := 1) (fs := [.null, .int 0, .int 0, .int 0, .int 0, .int 0]) hiX4_init_1 tyX1_ok hwX4_init_cl22 hwX4_init_ins1 hwX4_init_init1 rfl (by decide +kernel) (Nat.le_of_ble_eq_true rfl) (Nat.le_of_ble_eq_true rfl) dX4_init_41 (fun q6 => ?_)
  refine z_dup B dX4_init_44 rfl ?_
  refine z_callI B (kX1_init l hl K q6) [4] [0, 1, 2, 3] (br := [[(a9, .inr (4, [.ref (u2 0), .ref q3, .int 0, .int 0, .ref (u5 0), .int (-3), .null, .null, .int 0, .int 0, .int 0, .int 0, .int 0]))], zZo K u2 zZ0 zW0, zSa K q3 (fun _ => none), zCo K u5 (fun _ => 0) (fun _ => 0)]) (bs' := fun u7 => [[(a9, .inr (4, [.ref (u2 0), .ref q3, .int 0, .int 0, .ref (u5 0), .int (-3), .null, .null, .int 0, .int 0, .int 0, .int 0, .int 0]))], zZo K u2 zZ0 zW0, zSa K q3 (fun _ => none), zCo K u5 (fun _ => 0) (fun _ => 0), zCo K u7 (fun _ => 0) (fun _ => 0)]) (st := [.ref q6, .ref a9]) (nA := 0) (zsp rfl rfl rfl) (fun _ => zsp rfl rfl rfl) gX4_init_X1_init hwX4_init_ml24 hwX4_init_miX1_init hwX4_init_inX1_init rfl rfl (by decide +kernel) ⟨Nat.le_of_ble_eq_true rfl, Nat.le_of_ble_eq_true rfl⟩ rfl rfl (Nat.le_of_ble_eq_true rfl) ⟨Nat.le_of_ble_eq_true rfl, Nat.le_of_ble_eq_true rfl⟩ dX4_init_45 (fun u7 hu7 => ?_)
  subst hu7
  refine z_putF B 0 0 6 hiX4_init_4 hfX4_init_33 tyX4_ok nmX4 rfl rfl rfl (by decide) rfl rfl rfl rfl rfl rfl rfl rfl rfl (Nat.le_of_ble_eq_true rfl) (bs' := [[(a9, .inr (4, [.ref (u2 0), .ref q3, .int 0, .int 0, .ref (u5 0), .int (-3), .ref (u7 0), .null, .int 0, .int 0, .int 0, .int 0, .int 0]))], zZo K u2 zZ0 zW0, zSa K q3 (fun _ => none), zCo K u5 (fun _ => 0) (fun _ => 0), zCo K u7 (fun _ => 0) (fun _ => 0)]) rfl dX4_init_48 ?_
  refine z_aload_n B dX4_init_51 0 rfl ?_
  refine z_new B (ci := 0) (fs := [.null, .null, .null, .null, .null, .int 0]) hiX4_init_0 tyX0_ok hwX4_init_cl36 hwX4_init_ins0 hwX4_init_init0 rfl (by decide +kernel) (Nat.le_of_ble_eq_true rfl) (Nat.le_of_ble_eq_true rfl) dX4_init_52 (fun q8 => ?_)
  refine z_dup B dX4_init_55 rfl ?_
  refine z_callI B (kX0_init l hl K q8) [5] [0, 1, 2, 3, 4] (br := [[(a9, .inr (4, [.ref (u2 0), .ref q3, .int 0, .int 0, .ref (u5 0), .int (-3), .ref (u7 0), .null, .int 0, .int 0, .int 0, .int 0, .int 0]))], zZo K u2 zZ0 zW0, zSa K q3 (fun _ => none), zCo K u5 (fun _ => 0) (fun _ => 0), zCo K u7 (fun _ => 0) (fun _ => 0)]) (bs' := fun u9 => [[(a9, .inr (4, [.ref (u2 0), .ref q3, .int 0, .int 0, .ref (u5 0), .int (-3), .ref (u7 0), .null, .int 0, .int 0, .int 0, .int 0, .int 0]))], zZo K u2 zZ0 zW0, zSa K q3 (fun _ => none), zCo K u5 (fun _ => 0) (fun _ => 0), zCo K u7 (fun _ => 0) (fun _ => 0), zCa K u9 zC0]) (st := [.ref q8, .ref a9]) (nA := 0) (zsp rfl rfl rfl) (fun _ => zsp rfl rfl rfl) gX4_init_X0_init hwX4_init_ml38 hwX4_init_miX0_init hwX4_init_inX0_init rfl rfl (by decide +kernel) ⟨Nat.le_of_ble_eq_true rfl, Nat.le_of_ble_eq_true rfl⟩ rfl rfl (Nat.le_of_ble_eq_true rfl) ⟨Nat.le_of_ble_eq_true rfl, Nat.le_of_ble_eq_true rfl⟩ dX4_init_56 (fun u9 hu9 => ?_)
  subst hu9
  refine z_putF B 0 0 7 hiX4_init_4 hfX4_init_39 tyX4_ok nmX4 rfl rfl rfl (by decide) rfl rfl rfl rfl rfl rfl rfl rfl rfl (Nat.le_of_ble_eq_true rfl) (bs' := [[(a9, .inr (4, [.ref (u2 0), .ref q3, .int 0, .int 0, .ref (u5 0), .int (-3), .ref (u7 0), .ref (u9 0), .int 0, .int 0, .int 0, .int 0, .int 0]))], zZo K u2 zZ0 zW0, zSa K q3 (fun _ => none), zCo K u5 (fun _ => 0) (fun _ => 0), zCo K u7 (fun _ => 0) (fun _ => 0), zCa K u9 zC0]) rfl dX4_init_59 ?_
  exact z_ret0 B dX4_init_62 (u2, q3, u5, u7, u9) trivial (Nat.le_of_ble_eq_true rfl) (Nat.le_of_ble_eq_true rfl) rfl rfl
end
section
/-! ADDSITE: the lists grow by one -/
theorem zSO_push {n q : Nat} {u so : Nat → Nat} {sc : Nat → Nat → Nat} {D : Nat → Nat → Int32} {d : Nat → Int32} : zSO (n + 1) (va_up so n q) (va_up sc n u) (va_up D n d) = zSO n so sc D ++ [zSi q (u 0) d] := by
  unfold zSO
  rw [List.range_succ, List.map_append]
  congr 1
  · refine List.map_congr_left fun i hi => ?_
    have : i ≠ n := by have := List.mem_range.mp hi; omega
    rw [va_up_ne _ _ this, va_up_ne _ _ this, va_up_ne _ _ this]
  · simp only [List.map_cons, List.map_nil, va_up_self]
theorem zSC_push {K : zK} {n : Nat} {u : Nat → Nat} {sc : Nat → Nat → Nat} {Cs : Nat → Nat → Nat → Int32} {C : Nat → Nat → Int32} : zSC K (n + 1) (va_up sc n u) (va_up Cs n C) = zSC K n sc Cs ++ zCa K u C := by
  unfold zSC
  rw [List.range_succ, List.map_append, List.flatten_append]
  congr 1
  · refine congrArg List.flatten (List.map_congr_left fun i hi => ?_)
    have : i ≠ n := by have := List.mem_range.mp hi; omega
    rw [va_up_ne _ _ this, va_up_ne _ _ this]
  · simp only [List.map_cons, List.map_nil, va_up_self, List.flatten_cons, List.flatten_nil, List.append_nil]
theorem z_permA {α : Type} (a b c d : List α) (x : α) (y : List α) : ([a, b, c, d, x :: y] : List (List α)).flatten.Perm ([a, b, c ++ [x], d ++ y] : List (List α)).flatten := by
  simp only [List.flatten_cons, List.flatten_nil, List.append_nil]
  refine List.Perm.append_left _ (List.Perm.append_left _ ?_)
  rw [List.append_assoc]
  refine List.Perm.append_left _ ?_
  exact List.perm_middle
theorem z_permS {K : zK} {n q : Nat} {u so : Nat → Nat} {sc : Nat → Nat → Nat} {D : Nat → Nat → Int32} {Cs : Nat → Nat → Nat → Int32} {d : Nat → Int32} {C : Nat → Nat → Int32} {a b : va_W} : ([a, b, zSO n so sc D, zSC K n sc Cs, zSi q (u 0) d :: zCa K u C] : zB).flatten.Perm ([a, b, zSO (n + 1) (va_up so n q) (va_up sc n u) (va_up D n d), zSC K (n + 1) (va_up sc n u) (va_up Cs n C)] : zB).flatten := by
  rw [zSO_push, zSC_push]
  exact z_permA _ _ _ _ _ _
theorem z_cl4 {n : Nat} (h : n ≤ 4) : (nI n).toNatClampNeg = n := nI_clamp (by omega)

def fX4_addSite (X : Nat → Int32) (x1 : Int32) : Nat × Int32 × (Nat → Int32) :=
  if (fX4_requireWithin x1 0 99) = 0 then
    if (X 2) < 4 then
      (0, (X 2), (va_up X 2 ((X 2) + 1)))
    else
      (3, 0, X)
  else
    ((fX4_requireWithin x1 0 99), 0, X)
theorem hiX4_addSite_4 : ∀ w ∈ wsX40, w ∈ wsX4_addSite := by decide +kernel
theorem hfX4_addSite_76 : Cond.fieldLink RX4 76 "ResolverFleet" "siteCount" "I" ∈ wsX4_addSite := by decide +kernel
theorem hfX4_addSite_18 : Cond.fieldLink RX4 18 "ResolverFleet" "sites" "[LResolverFleet$Site;" ∈ wsX4_addSite := by decide +kernel
theorem hiX4_addSite_2 : ∀ w ∈ wsX20, w ∈ wsX4_addSite := by decide +kernel
theorem hwX4_addSite_cl16 : Cond.classLink RX4 16 RX2 ∈ wsX4_addSite := by decide +kernel
theorem hwX4_addSite_ins2 : Cond.instantiable RX2 4 ∈ wsX4_addSite := by decide +kernel
theorem hwX4_addSite_init2 : Cond.initialized RX2 ∈ wsX4_addSite := by decide +kernel
theorem hwX4_addSite_ml84 : Cond.methodLink RX4 84 yX2_init ∈ wsX4_addSite := by decide +kernel
theorem hwX4_addSite_miX2_init : Cond.instanceMethod yX2_init ∈ wsX4_addSite := by decide +kernel
theorem hwX4_addSite_inX2_init : Cond.initialized yX2_init.cls ∈ wsX4_addSite := by decide +kernel
theorem haX4_addSite_83 : ∀ w ∈ (vx_atS RX4 83 "java/lang/IllegalStateException" ["java/lang/RuntimeException", "java/lang/Exception"]).filter goodWord, w ∈ wsX4_addSite := by decide +kernel
theorem hgX4_addSite_83 : ∀ w ∈ (vx_atS RX4 83 "java/lang/IllegalStateException" ["java/lang/RuntimeException", "java/lang/Exception"]).filter (fun w => !goodWord w), w ∈ zNw := by decide +kernel
theorem hoX4_addSite_83 : ∀ w ∈ Cond.classLink RX4 79 "java/lang/IllegalStateException" :: Cond.initialized "java/lang/IllegalStateException" :: vx_atS RX4 83 "java/lang/IllegalStateException" ["java/lang/RuntimeException", "java/lang/Exception"], vx_ot w = true := by decide +kernel
theorem hwX4_addSite_cl79 : Cond.classLink RX4 79 "java/lang/IllegalStateException" ∈ wsX4_addSite := by decide +kernel
theorem hwX4_addSite_ini79 : Cond.initialized "java/lang/IllegalStateException" ∈ wsX4_addSite := by decide +kernel
set_option maxHeartbeats 4000000 in
set_option maxRecDepth 100000 in
theorem kX4_addSite (l : Launch) (hl : l.stackTraces = false) (K : zK) (ax : Nat) (zn : Nat) (sa : Nat) (la : Nat) (tr : Nat) (tc : Nat) (X : Nat → Int32) (f : Nat → Option Nat) (n : Nat) (so : Nat → Nat) (sc : Nat → Nat → Nat) (D : Nat → Nat → Int32) (Cs : Nat → Nat → Nat → Int32) (x1 : Int32) (hX2 : (X 2) = nI n) (hn4 : n ≤ 4) : zMeN l K yX4_addSite wsX4_addSite { frames := 7, cells := 8, slots := 96, locals := 104 } [.ref ax, .int x1] [zXo ax zn sa la tr tc X, zSa K sa f, zSO n so sc D, zSC K n sc Cs] (fun u : Nat × (Nat → Nat) => (some (.int (fX4_addSite X x1).2.1), ([zXo ax zn sa la tr tc (fX4_addSite X x1).2.2, zSa K sa (va_up f n (some u.1)), zSO (n + 1) (va_up so n u.1) (va_up sc n u.2) (va_up D n (va_up (va_up (va_up (fun _ => 0) 0 (X 2)) 1 x1) 3 1)), zSC K (n + 1) (va_up sc n u.2) (va_up Cs n zC0)] : zB))) (fun u : Nat × (Nat → Nat) => (fX4_addSite X x1).1 = 0) (fun E => (E = zE2 ∧ (fX4_addSite X x1).1 = 2) ∨ (E = zE3 ∧ (fX4_addSite X x1).1 = 3)) := by
  refine zMeN.of (cc := cX4_addSite) (maxL := 3) (ret := (some .int)) (own := RX4) (nm := "addSite") hl (by decide +kernel) rfl rfl rfl (Nat.le_of_ble_eq_true rfl) (lv := [(0, .ref ax), (1, .int x1)]) rfl ?_
  intro p e s m args below meth c A B
  refine z_iload_n B dX4_addSite_0 1 rfl ?_
  refine z_iconst B (v := 0) dX4_addSite_1 rfl ?_
  refine z_bipush B (v := 99) dX4_addSite_2 rfl ?_
  refine z_S0 B (kX4_requireWithin l hl K x1 0 99) [] [0, 1, 2, 3] (br := [zXo ax zn sa la tr tc X, zSa K sa f, zSO n so sc D, zSC K n sc Cs]) (bs' := [zXo ax zn sa la tr tc X, zSa K sa f, zSO n so sc D, zSC K n sc Cs]) (st := []) (nA := 3) (zsp rfl rfl rfl) (zsp rfl rfl rfl) gX4_addSite_X4_requireWithin rfl (by decide +kernel) ⟨Nat.le_of_ble_eq_true rfl, Nat.le_of_ble_eq_true rfl⟩ rfl rfl (Nat.le_of_ble_eq_true rfl) ⟨Nat.le_of_ble_eq_true rfl, Nat.le_of_ble_eq_true rfl⟩ dX4_addSite_4 (fun E hE => ?_) (fun h1 => ?_)
  · rcases hE with ⟨rfl, hx⟩
    · have hF : fX4_addSite X x1 = (2, 0, X) := (if_neg (show ¬ (fX4_requireWithin x1 0 99) = 0 by rw [hx]; decide)).trans ((show ((fX4_requireWithin x1 0 99), 0, X) = (2, 0, X) by rw [hx]))
      exact z_out B (Or.inl ⟨rfl, by rw [hF]⟩) (Nat.le_of_ble_eq_true rfl) (Nat.le_of_ble_eq_true rfl)
  refine z_aload_n B dX4_addSite_7 0 rfl ?_
  refine z_get B (v := .int (X 2)) 0 0 2 hiX4_addSite_4 hfX4_addSite_76 rfl rfl rfl (by decide) rfl rfl rfl rfl dX4_addSite_8 ?_
  refine z_aload_n B dX4_addSite_11 0 rfl ?_
  refine z_get B (v := .ref sa) 0 0 1 hiX4_addSite_4 hfX4_addSite_18 rfl rfl rfl (by decide) rfl rfl rfl rfl dX4_addSite_12 ?_
  refine z_alen B (v := 4) 1 0 2 rfl rfl rfl rfl dX4_addSite_15 ?_
  refine z_iclt B 29 dX4_addSite_16 (by decide) (fun c2 => ?_) (fun c2 => ?_)
  · refine z_aload_n B dX4_addSite_29 0 rfl ?_
    refine z_get B (v := .int (X 2)) 0 0 2 hiX4_addSite_4 hfX4_addSite_76 rfl rfl rfl (by decide) rfl rfl rfl rfl dX4_addSite_30 ?_
    refine z_istore_n B (lv' := [(2, .int (X 2)), (0, .ref ax), (1, .int x1)]) dX4_addSite_33 (by decide) rfl ?_
    refine z_aload_n B dX4_addSite_34 1 rfl ?_
    refine z_get B (v := .ref sa) 0 0 1 hiX4_addSite_4 hfX4_addSite_18 rfl rfl rfl (by decide) rfl rfl rfl rfl dX4_addSite_35 ?_
    refine z_iload_n B dX4_addSite_38 0 rfl ?_
    refine z_new B (ci := 2) (fs := [.int 0, .int 0, .null, .int 0]) hiX4_addSite_2 tyX2_ok hwX4_addSite_cl16 hwX4_addSite_ins2 hwX4_addSite_init2 rfl (by decide +kernel) (Nat.le_of_ble_eq_true rfl) (Nat.le_of_ble_eq_true rfl) dX4_addSite_39 (fun q3 => ?_)
    refine z_dup B dX4_addSite_42 rfl ?_
    refine z_iload_n B dX4_addSite_43 0 rfl ?_
    refine z_iload_n B dX4_addSite_44 2 rfl ?_
    refine z_callI B (kX2_init l hl K q3 (X 2) x1) [4] [0, 1, 2, 3] (br := [zXo ax zn sa la tr tc X, zSa K sa f, zSO n so sc D, zSC K n sc Cs]) (bs' := fun u4 => [zXo ax zn sa la tr tc X, zSa K sa f, zSO n so sc D, zSC K n sc Cs, (zSi q3 (u4 0) (va_up (va_up (va_up (fun _ => 0) 0 (X 2)) 1 x1) 3 1) :: zCa K u4 zC0)]) (st := [.ref q3, .int (X 2), .ref sa]) (nA := 2) (zsp rfl rfl rfl) (fun _ => zsp rfl rfl rfl) gX4_addSite_X2_init hwX4_addSite_ml84 hwX4_addSite_miX2_init hwX4_addSite_inX2_init rfl rfl (by decide +kernel) ⟨Nat.le_of_ble_eq_true rfl, Nat.le_of_ble_eq_true rfl⟩ rfl rfl (Nat.le_of_ble_eq_true rfl) ⟨Nat.le_of_ble_eq_true rfl, Nat.le_of_ble_eq_true rfl⟩ dX4_addSite_45 (fun u4 hu4 => ?_)
    refine z_aast B (N := 4) (f := f) 1 0 4 0 rfl rfl rfl rfl (z_vp2 (M := 4) rfl (show ¬ X 2 < 0 by rw [hX2]; exact nI_pos (by omega)) c2) (bs' := [zXo ax zn sa la tr tc X, zSa K sa (va_up f (X 2).toNatClampNeg (some q3)), zSO n so sc D, zSC K n sc Cs, (zSi q3 (u4 0) (va_up (va_up (va_up (fun _ => 0) 0 (X 2)) 1 x1) 3 1) :: zCa K u4 zC0)]) rfl dX4_addSite_48 ?_
    refine z_aload_n B dX4_addSite_49 1 rfl ?_
    refine z_dup B dX4_addSite_50 rfl ?_
    refine z_get B (v := .int (X 2)) 0 0 2 hiX4_addSite_4 hfX4_addSite_76 rfl rfl rfl (by decide) rfl rfl rfl rfl dX4_addSite_51 ?_
    refine z_iconst B (v := 1) dX4_addSite_54 rfl ?_
    refine z_iadd B dX4_addSite_55 ?_
    refine z_put B 0 0 2 hiX4_addSite_4 hfX4_addSite_76 tyX4_ok nmX4 rfl rfl rfl (by decide) rfl rfl rfl rfl rfl rfl rfl (Nat.le_of_ble_eq_true rfl) (bs' := [zXo ax zn sa la tr tc (va_up X 2 ((X 2) + 1)), zSa K sa (va_up f (X 2).toNatClampNeg (some q3)), zSO n so sc D, zSC K n sc Cs, (zSi q3 (u4 0) (va_up (va_up (va_up (fun _ => 0) 0 (X 2)) 1 x1) 3 1) :: zCa K u4 zC0)]) rfl dX4_addSite_56 ?_
    refine z_iload_n B dX4_addSite_59 0 rfl ?_
    have hF : fX4_addSite X x1 = (0, (X 2), (va_up X 2 ((X 2) + 1))) := (if_pos h1).trans (if_pos c2)
    rw [show (X 2).toNatClampNeg = n from by rw [hX2]; exact z_cl4 hn4]
    refine z_perm (bs' := [zXo ax zn sa la tr tc (va_up X 2 ((X 2) + 1)), zSa K sa (va_up f n (some q3)), zSO (n + 1) (va_up so n q3) (va_up sc n u4) (va_up D n (va_up (va_up (va_up (fun _ => 0) 0 (X 2)) 1 x1) 3 1)), zSC K (n + 1) (va_up sc n u4) (va_up Cs n zC0)]) z_permS ?_
    exact z_ret1 B rfl dX4_addSite_60 (q3, u4) (by rw [hF]) (Nat.le_of_ble_eq_true rfl) (Nat.le_of_ble_eq_true rfl) (by rw [hF]) (by rw [hF])
  · have hF : fX4_addSite X x1 = (3, 0, X) := (if_pos h1).trans (if_neg c2)
    exact z_throw B rfl ["java/lang/RuntimeException", "java/lang/Exception"] (by decide +kernel) (by decide +kernel) hwX4_addSite_cl79 hwX4_addSite_ini79 (text := "there is no room for another site") (by decide +kernel) haX4_addSite_83 hgX4_addSite_83 hoX4_addSite_83 dX4_addSite_19 dX4_addSite_22 dX4_addSite_23 dX4_addSite_25 dX4_addSite_28 (by decide) (Nat.le_of_ble_eq_true rfl) (Nat.le_of_ble_eq_true rfl) (Nat.le_of_ble_eq_true rfl) (Or.inr (⟨rfl, by rw [hF]⟩)) (Nat.le_of_ble_eq_true rfl) (Nat.le_of_ble_eq_true rfl)
end
section
/-! IN RANGE: the calls of the class that throw nothing; no new cell -/
def fX4_requireName_o (x1 : Int32) : Unit :=
  ()
set_option maxHeartbeats 4000000 in
set_option maxRecDepth 100000 in
theorem kX4_requireName_o (l : Launch) (hl : l.stackTraces = false) (K : zK) (x1 : Int32) (q0 : ¬ x1 < 0) (q1 : x1 < 16) : zMet l K yX4_requireName wsX4_requireName { frames := 0, cells := 0, slots := 0, locals := 0 } [.int x1] [] none [] True zNo := by
  refine zMeN.of (cc := cX4_requireName) (maxL := 1) (ret := none) (own := RX4) (nm := "requireName") hl (by decide +kernel) rfl rfl rfl (Nat.le_of_ble_eq_true rfl) (lv := [(0, .int x1)]) rfl ?_
  intro p e s m args below meth c A B
  refine z_iload_n B dX4_requireName_0 0 rfl ?_
  refine z_iflt B 10 dX4_requireName_1 (by decide) (fun h => absurd h q0) (fun _ => ?_)
  refine z_iload_n B dX4_requireName_4 0 rfl ?_
  refine z_bipush B (v := 16) dX4_requireName_5 rfl ?_
  refine z_iclt B 20 dX4_requireName_7 (by decide) (fun _ => ?_) (fun h => absurd q1 h)
  have hF : fX4_requireName_o x1 = () := rfl
  exact z_ret0 B dX4_requireName_20 () (trivial) (Nat.le_of_ble_eq_true rfl) (Nat.le_of_ble_eq_true rfl) rfl (by rfl)
def fX4_requireWithin_o (x1 : Int32) (x2 : Int32) (x3 : Int32) : Unit :=
  ()
set_option maxHeartbeats 4000000 in
set_option maxRecDepth 100000 in
theorem kX4_requireWithin_o (l : Launch) (hl : l.stackTraces = false) (K : zK) (x1 : Int32) (x2 : Int32) (x3 : Int32) (r0 : ¬ x1 < x2) (r1 : x1 ≤ x3) : zMet l K yX4_requireWithin wsX4_requireWithin { frames := 0, cells := 0, slots := 0, locals := 0 } [.int x1, .int x2, .int x3] [] none [] True zNo := by
  refine zMeN.of (cc := cX4_requireWithin) (maxL := 3) (ret := none) (own := RX4) (nm := "requireWithin") hl (by decide +kernel) rfl rfl rfl (Nat.le_of_ble_eq_true rfl) (lv := [(0, .int x1), (1, .int x2), (2, .int x3)]) rfl ?_
  intro p e s m args below meth c A B
  refine z_iload_n B dX4_requireWithin_0 0 rfl ?_
  refine z_iload_n B dX4_requireWithin_1 1 rfl ?_
  refine z_iclt B 10 dX4_requireWithin_2 (by decide) (fun h => absurd h r0) (fun _ => ?_)
  refine z_iload_n B dX4_requireWithin_5 0 rfl ?_
  refine z_iload_n B dX4_requireWithin_6 2 rfl ?_
  refine z_icle B 20 dX4_requireWithin_7 (by decide) (fun _ => ?_) (fun h => absurd r1 h)
  have hF : fX4_requireWithin_o x1 x2 x3 = () := rfl
  exact z_ret0 B dX4_requireWithin_20 () (trivial) (Nat.le_of_ble_eq_true rfl) (Nat.le_of_ble_eq_true rfl) rfl (by rfl)
def fX4_setAddress_s1 (X : Nat → Int32) (Z : Nat → Nat → Int32) (W : Nat → Int32) (x1 : Int32) (x2 : Int32) (x3 : Int32) (o1 : (Nat → Nat → Int32)) : (Nat → Nat → Int32) :=
  o1
def fX4_setAddress_o (X : Nat → Int32) (Z : Nat → Nat → Int32) (W : Nat → Int32) (x1 : Int32) (x2 : Int32) (x3 : Int32) : (Nat → Nat → Int32) :=
  fX4_setAddress_s1 X Z W x1 x2 x3 (fX3_put Z W x1 0 x2 x3)
set_option maxHeartbeats 4000000 in
set_option maxRecDepth 100000 in
theorem kX4_setAddress_o (l : Launch) (hl : l.stackTraces = false) (K : zK) (ax : Nat) (az : Nat → Nat) (sa : Nat) (la : Nat) (tr : Nat) (tc : Nat) (X : Nat → Int32) (Z : Nat → Nat → Int32) (W : Nat → Int32) (x1 : Int32) (x2 : Int32) (x3 : Int32) (q0 : ¬ x1 < 0) (q1 : x1 < 16) (r0a : ¬ x2 < 1) (r1a : x2 ≤ 9999) (r0b : ¬ x3 < 1) (r1b : x3 ≤ 1000) : zMet l K yX4_setAddress wsX4_setAddress { frames := 1, cells := 0, slots := 0, locals := 24 } [.ref ax, .int x1, .int x2, .int x3] [zXo ax (az 0) sa la tr tc X, zZo K az Z W] none [zXo ax (az 0) sa la tr tc X, zZo K az (fX4_setAddress_o X Z W x1 x2 x3) W] True zNo := by
  refine zMeN.of (cc := cX4_setAddress) (maxL := 4) (ret := none) (own := RX4) (nm := "setAddress") hl (by decide +kernel) rfl rfl rfl (Nat.le_of_ble_eq_true rfl) (lv := [(0, .ref ax), (1, .int x1), (2, .int x2), (3, .int x3)]) rfl ?_
  intro p e s m args below meth c A B
  refine z_iload_n B dX4_setAddress_0 1 rfl ?_
  refine z_S0 B (kX4_requireName_o l hl K x1 q0 q1) [] [0, 1] (br := [zXo ax (az 0) sa la tr tc X, zZo K az Z W]) (bs' := [zXo ax (az 0) sa la tr tc X, zZo K az Z W]) (st := []) (nA := 1) (zsp rfl rfl rfl) (zsp rfl rfl rfl) gX4_setAddress_X4_requireName rfl (by decide +kernel) ⟨Nat.le_of_ble_eq_true rfl, Nat.le_of_ble_eq_true rfl⟩ rfl rfl (Nat.le_of_ble_eq_true rfl) ⟨Nat.le_of_ble_eq_true rfl, Nat.le_of_ble_eq_true rfl⟩ dX4_setAddress_1 z_noX (fun _ => ?_)
  refine z_iload_n B dX4_setAddress_4 2 rfl ?_
  refine z_iconst B (v := 1) dX4_setAddress_5 rfl ?_
  refine z_sipush B (v := 9999) dX4_setAddress_6 rfl ?_
  refine z_S0 B (kX4_requireWithin_o l hl K x2 1 9999 r0a r1a) [] [0, 1] (br := [zXo ax (az 0) sa la tr tc X, zZo K az Z W]) (bs' := [zXo ax (az 0) sa la tr tc X, zZo K az Z W]) (st := []) (nA := 3) (zsp rfl rfl rfl) (zsp rfl rfl rfl) gX4_setAddress_X4_requireWithin rfl (by decide +kernel) ⟨Nat.le_of_ble_eq_true rfl, Nat.le_of_ble_eq_true rfl⟩ rfl rfl (Nat.le_of_ble_eq_true rfl) ⟨Nat.le_of_ble_eq_true rfl, Nat.le_of_ble_eq_true rfl⟩ dX4_setAddress_9 z_noX (fun _ => ?_)
  refine z_iload_n B dX4_setAddress_12 3 rfl ?_
  refine z_iconst B (v := 1) dX4_setAddress_13 rfl ?_
  refine z_sipush B (v := 1000) dX4_setAddress_14 rfl ?_
  refine z_S0 B (kX4_requireWithin_o l hl K x3 1 1000 r0b r1b) [] [0, 1] (br := [zXo ax (az 0) sa la tr tc X, zZo K az Z W]) (bs' := [zXo ax (az 0) sa la tr tc X, zZo K az Z W]) (st := []) (nA := 3) (zsp rfl rfl rfl) (zsp rfl rfl rfl) gX4_setAddress_X4_requireWithin rfl (by decide +kernel) ⟨Nat.le_of_ble_eq_true rfl, Nat.le_of_ble_eq_true rfl⟩ rfl rfl (Nat.le_of_ble_eq_true rfl) ⟨Nat.le_of_ble_eq_true rfl, Nat.le_of_ble_eq_true rfl⟩ dX4_setAddress_17 z_noX (fun _ => ?_)
  refine z_aload_n B dX4_setAddress_20 0 rfl ?_
  refine z_get B (v := .ref (az 0)) 0 0 0 hiX4_setAddress_4 hfX4_setAddress_10 rfl rfl rfl (by decide) rfl rfl rfl rfl dX4_setAddress_21 ?_
  refine z_iload_n B dX4_setAddress_24 1 rfl ?_
  refine z_iconst B (v := 0) dX4_setAddress_25 rfl ?_
  refine z_iload_n B dX4_setAddress_26 2 rfl ?_
  refine z_iload_n B dX4_setAddress_27 3 rfl ?_
  refine z_V0 B (kX3_put l hl K az Z W x1 0 x2 x3) [1] [0] (br := [zXo ax (az 0) sa la tr tc X]) (bs' := [zXo ax (az 0) sa la tr tc X, zZo K az (fX3_put Z W x1 0 x2 x3) W]) (st := []) (nA := 4) (zsp rfl rfl rfl) (zsp rfl rfl rfl) 1 0 rfl rfl rfl rfl gX4_setAddress_X3_put rfl (by decide +kernel) ⟨Nat.le_of_ble_eq_true rfl, Nat.le_of_ble_eq_true rfl⟩ rfl rfl (Nat.le_of_ble_eq_true rfl) ⟨Nat.le_of_ble_eq_true rfl, Nat.le_of_ble_eq_true rfl⟩ dX4_setAddress_28 z_noX (fun _ => ?_)
  generalize ho1 : (fX3_put Z W x1 0 x2 x3) = o1
  have hF : fX4_setAddress_o X Z W x1 x2 x3 = o1 := congrArg (fun o => fX4_setAddress_s1 X Z W x1 x2 x3 o) ho1
  exact z_ret0 B dX4_setAddress_31 () (trivial) (Nat.le_of_ble_eq_true rfl) (Nat.le_of_ble_eq_true rfl) rfl (by rw [hF])
def fX4_setAlias_s1 (X : Nat → Int32) (Z : Nat → Nat → Int32) (W : Nat → Int32) (x1 : Int32) (x2 : Int32) (x3 : Int32) (o1 : (Nat → Nat → Int32)) : (Nat → Nat → Int32) :=
  o1
def fX4_setAlias_o (X : Nat → Int32) (Z : Nat → Nat → Int32) (W : Nat → Int32) (x1 : Int32) (x2 : Int32) (x3 : Int32) : (Nat → Nat → Int32) :=
  fX4_setAlias_s1 X Z W x1 x2 x3 (fX3_put Z W x1 1 x2 x3)
set_option maxHeartbeats 4000000 in
set_option maxRecDepth 100000 in
theorem kX4_setAlias_o (l : Launch) (hl : l.stackTraces = false) (K : zK) (ax : Nat) (az : Nat → Nat) (sa : Nat) (la : Nat) (tr : Nat) (tc : Nat) (X : Nat → Int32) (Z : Nat → Nat → Int32) (W : Nat → Int32) (x1 : Int32) (x2 : Int32) (x3 : Int32) (q0 : ¬ x1 < 0) (q1 : x1 < 16) (q0a : ¬ x2 < 0) (q1a : x2 < 16) (qn : ¬ x2 = x1) (r0b : ¬ x3 < 1) (r1b : x3 ≤ 1000) : zMet l K yX4_setAlias wsX4_setAlias { frames := 1, cells := 0, slots := 0, locals := 24 } [.ref ax, .int x1, .int x2, .int x3] [zXo ax (az 0) sa la tr tc X, zZo K az Z W] none [zXo ax (az 0) sa la tr tc X, zZo K az (fX4_setAlias_o X Z W x1 x2 x3) W] True zNo := by
  refine zMeN.of (cc := cX4_setAlias) (maxL := 4) (ret := none) (own := RX4) (nm := "setAlias") hl (by decide +kernel) rfl rfl rfl (Nat.le_of_ble_eq_true rfl) (lv := [(0, .ref ax), (1, .int x1), (2, .int x2), (3, .int x3)]) rfl ?_
  intro p e s m args below meth c A B
  refine z_iload_n B dX4_setAlias_0 1 rfl ?_
  refine z_S0 B (kX4_requireName_o l hl K x1 q0 q1) [] [0, 1] (br := [zXo ax (az 0) sa la tr tc X, zZo K az Z W]) (bs' := [zXo ax (az 0) sa la tr tc X, zZo K az Z W]) (st := []) (nA := 1) (zsp rfl rfl rfl) (zsp rfl rfl rfl) gX4_setAlias_X4_requireName rfl (by decide +kernel) ⟨Nat.le_of_ble_eq_true rfl, Nat.le_of_ble_eq_true rfl⟩ rfl rfl (Nat.le_of_ble_eq_true rfl) ⟨Nat.le_of_ble_eq_true rfl, Nat.le_of_ble_eq_true rfl⟩ dX4_setAlias_1 z_noX (fun _ => ?_)
  refine z_iload_n B dX4_setAlias_4 2 rfl ?_
  refine z_S0 B (kX4_requireName_o l hl K x2 q0a q1a) [] [0, 1] (br := [zXo ax (az 0) sa la tr tc X, zZo K az Z W]) (bs' := [zXo ax (az 0) sa la tr tc X, zZo K az Z W]) (st := []) (nA := 1) (zsp rfl rfl rfl) (zsp rfl rfl rfl) gX4_setAlias_X4_requireName rfl (by decide +kernel) ⟨Nat.le_of_ble_eq_true rfl, Nat.le_of_ble_eq_true rfl⟩ rfl rfl (Nat.le_of_ble_eq_true rfl) ⟨Nat.le_of_ble_eq_true rfl, Nat.le_of_ble_eq_true rfl⟩ dX4_setAlias_5 z_noX (fun _ => ?_)
  refine z_iload_n B dX4_setAlias_8 2 rfl ?_
  refine z_iload_n B dX4_setAlias_9 1 rfl ?_
  refine z_icne B 23 dX4_setAlias_10 (by decide) (fun h => absurd h qn) (fun _ => ?_)
  refine z_iload_n B dX4_setAlias_23 3 rfl ?_
  refine z_iconst B (v := 1) dX4_setAlias_24 rfl ?_
  refine z_sipush B (v := 1000) dX4_setAlias_25 rfl ?_
  refine z_S0 B (kX4_requireWithin_o l hl K x3 1 1000 r0b r1b) [] [0, 1] (br := [zXo ax (az 0) sa la tr tc X, zZo K az Z W]) (bs' := [zXo ax (az 0) sa la tr tc X, zZo K az Z W]) (st := []) (nA := 3) (zsp rfl rfl rfl) (zsp rfl rfl rfl) gX4_setAlias_X4_requireWithin rfl (by decide +kernel) ⟨Nat.le_of_ble_eq_true rfl, Nat.le_of_ble_eq_true rfl⟩ rfl rfl (Nat.le_of_ble_eq_true rfl) ⟨Nat.le_of_ble_eq_true rfl, Nat.le_of_ble_eq_true rfl⟩ dX4_setAlias_28 z_noX (fun _ => ?_)
  refine z_aload_n B dX4_setAlias_31 0 rfl ?_
  refine z_get B (v := .ref (az 0)) 0 0 0 hiX4_setAlias_4 hfX4_setAlias_10 rfl rfl rfl (by decide) rfl rfl rfl rfl dX4_setAlias_32 ?_
  refine z_iload_n B dX4_setAlias_35 1 rfl ?_
  refine z_iconst B (v := 1) dX4_setAlias_36 rfl ?_
  refine z_iload_n B dX4_setAlias_37 2 rfl ?_
  refine z_iload_n B dX4_setAlias_38 3 rfl ?_
  refine z_V0 B (kX3_put l hl K az Z W x1 1 x2 x3) [1] [0] (br := [zXo ax (az 0) sa la tr tc X]) (bs' := [zXo ax (az 0) sa la tr tc X, zZo K az (fX3_put Z W x1 1 x2 x3) W]) (st := []) (nA := 4) (zsp rfl rfl rfl) (zsp rfl rfl rfl) 1 0 rfl rfl rfl rfl gX4_setAlias_X3_put rfl (by decide +kernel) ⟨Nat.le_of_ble_eq_true rfl, Nat.le_of_ble_eq_true rfl⟩ rfl rfl (Nat.le_of_ble_eq_true rfl) ⟨Nat.le_of_ble_eq_true rfl, Nat.le_of_ble_eq_true rfl⟩ dX4_setAlias_39 z_noX (fun _ => ?_)
  generalize ho1 : (fX3_put Z W x1 1 x2 x3) = o1
  have hF : fX4_setAlias_o X Z W x1 x2 x3 = o1 := congrArg (fun o => fX4_setAlias_s1 X Z W x1 x2 x3 o) ho1
  exact z_ret0 B dX4_setAlias_42 () (trivial) (Nat.le_of_ble_eq_true rfl) (Nat.le_of_ble_eq_true rfl) rfl (by rw [hF])
def fX4_remove_s2 (X : Nat → Int32) (Z : Nat → Nat → Int32) (W : Nat → Int32) (x1 : Int32) (o2 : (Nat → Nat → Int32)) : Int32 × (Nat → Nat → Int32) :=
  (0, o2)
def fX4_remove_s3 (X : Nat → Int32) (Z : Nat → Nat → Int32) (W : Nat → Int32) (x1 : Int32) (o3 : (Nat → Nat → Int32)) : Int32 × (Nat → Nat → Int32) :=
  (1, o3)
def fX4_remove_o (X : Nat → Int32) (Z : Nat → Nat → Int32) (W : Nat → Int32) (x1 : Int32) : Int32 × (Nat → Nat → Int32) :=
  if (fX3_kindOf Z W x1) = 2 then
    fX4_remove_s2 X Z W x1 (fX3_put Z W x1 2 (-3) 0)
  else
    fX4_remove_s3 X Z W x1 (fX3_put Z W x1 2 (-3) 0)
set_option maxHeartbeats 4000000 in
set_option maxRecDepth 100000 in
theorem kX4_remove_o (l : Launch) (hl : l.stackTraces = false) (K : zK) (ax : Nat) (az : Nat → Nat) (sa : Nat) (la : Nat) (tr : Nat) (tc : Nat) (X : Nat → Int32) (Z : Nat → Nat → Int32) (W : Nat → Int32) (x1 : Int32) (q0 : ¬ x1 < 0) (q1 : x1 < 16) : zMet l K yX4_remove wsX4_remove { frames := 1, cells := 0, slots := 0, locals := 24 } [.ref ax, .int x1] [zXo ax (az 0) sa la tr tc X, zZo K az Z W] (some (.int ((fX4_remove_o X Z W x1).1))) [zXo ax (az 0) sa la tr tc X, zZo K az ((fX4_remove_o X Z W x1).2) W] True zNo := by
  refine zMeN.of (cc := cX4_remove) (maxL := 3) (ret := (some .boolean)) (own := RX4) (nm := "remove") hl (by decide +kernel) rfl rfl rfl (Nat.le_of_ble_eq_true rfl) (lv := [(0, .ref ax), (1, .int x1)]) rfl ?_
  intro p e s m args below meth c A B
  refine z_iload_n B dX4_remove_0 1 rfl ?_
  refine z_S0 B (kX4_requireName_o l hl K x1 q0 q1) [] [0, 1] (br := [zXo ax (az 0) sa la tr tc X, zZo K az Z W]) (bs' := [zXo ax (az 0) sa la tr tc X, zZo K az Z W]) (st := []) (nA := 1) (zsp rfl rfl rfl) (zsp rfl rfl rfl) gX4_remove_X4_requireName rfl (by decide +kernel) ⟨Nat.le_of_ble_eq_true rfl, Nat.le_of_ble_eq_true rfl⟩ rfl rfl (Nat.le_of_ble_eq_true rfl) ⟨Nat.le_of_ble_eq_true rfl, Nat.le_of_ble_eq_true rfl⟩ dX4_remove_1 z_noX (fun _ => ?_)
  refine z_aload_n B dX4_remove_4 0 rfl ?_
  refine z_get B (v := .ref (az 0)) 0 0 0 hiX4_remove_4 hfX4_remove_10 rfl rfl rfl (by decide) rfl rfl rfl rfl dX4_remove_5 ?_
  refine z_iload_n B dX4_remove_8 1 rfl ?_
  refine z_V1 B (kX3_kindOf l hl K az Z W x1) [1] [0] (br := [zXo ax (az 0) sa la tr tc X]) (bs' := [zXo ax (az 0) sa la tr tc X, zZo K az Z W]) (st := []) (nA := 1) (zsp rfl rfl rfl) (zsp rfl rfl rfl) 1 0 rfl rfl rfl rfl gX4_remove_X3_kindOf rfl (by decide +kernel) ⟨Nat.le_of_ble_eq_true rfl, Nat.le_of_ble_eq_true rfl⟩ rfl rfl (Nat.le_of_ble_eq_true rfl) ⟨Nat.le_of_ble_eq_true rfl, Nat.le_of_ble_eq_true rfl⟩ dX4_remove_9 z_noX (fun _ => ?_)
  refine z_iconst B (v := 2) dX4_remove_12 rfl ?_
  refine z_iceq B 20 dX4_remove_13 (by decide) (fun c1 => ?_) (fun c1 => ?_)
  · refine z_iconst B (v := 0) dX4_remove_20 rfl ?_
    refine z_istore_n B (lv' := [(2, .int 0), (0, .ref ax), (1, .int x1)]) dX4_remove_21 (by decide) rfl ?_
    refine z_aload_n B dX4_remove_22 1 rfl ?_
    refine z_get B (v := .ref (az 0)) 0 0 0 hiX4_remove_4 hfX4_remove_10 rfl rfl rfl (by decide) rfl rfl rfl rfl dX4_remove_23 ?_
    refine z_iload_n B dX4_remove_26 2 rfl ?_
    refine z_iconst B (v := 2) dX4_remove_27 rfl ?_
    refine z_bipush B (v := (-3)) dX4_remove_28 rfl ?_
    refine z_iconst B (v := 0) dX4_remove_30 rfl ?_
    refine z_V0 B (kX3_put l hl K az Z W x1 2 (-3) 0) [1] [0] (br := [zXo ax (az 0) sa la tr tc X]) (bs' := [zXo ax (az 0) sa la tr tc X, zZo K az (fX3_put Z W x1 2 (-3) 0) W]) (st := []) (nA := 4) (zsp rfl rfl rfl) (zsp rfl rfl rfl) 1 0 rfl rfl rfl rfl gX4_remove_X3_put rfl (by decide +kernel) ⟨Nat.le_of_ble_eq_true rfl, Nat.le_of_ble_eq_true rfl⟩ rfl rfl (Nat.le_of_ble_eq_true rfl) ⟨Nat.le_of_ble_eq_true rfl, Nat.le_of_ble_eq_true rfl⟩ dX4_remove_31 z_noX (fun _ => ?_)
    generalize ho2 : (fX3_put Z W x1 2 (-3) 0) = o2
    refine z_iload_n B dX4_remove_34 0 rfl ?_
    have hF : fX4_remove_o X Z W x1 = (0, o2) := (if_pos c1).trans (congrArg (fun o => fX4_remove_s2 X Z W x1 o) ho2)
    exact z_ret1 B rfl dX4_remove_35 () (trivial) (Nat.le_of_ble_eq_true rfl) (Nat.le_of_ble_eq_true rfl) (by rw [hF]) (by rw [hF])
  · refine z_iconst B (v := 1) dX4_remove_16 rfl ?_
    refine z_goto B (tgt := 21) dX4_remove_17 (by decide) ?_
    refine z_istore_n B (lv' := [(2, .int 1), (0, .ref ax), (1, .int x1)]) dX4_remove_21 (by decide) rfl ?_
    refine z_aload_n B dX4_remove_22 1 rfl ?_
    refine z_get B (v := .ref (az 0)) 0 0 0 hiX4_remove_4 hfX4_remove_10 rfl rfl rfl (by decide) rfl rfl rfl rfl dX4_remove_23 ?_
    refine z_iload_n B dX4_remove_26 2 rfl ?_
    refine z_iconst B (v := 2) dX4_remove_27 rfl ?_
    refine z_bipush B (v := (-3)) dX4_remove_28 rfl ?_
    refine z_iconst B (v := 0) dX4_remove_30 rfl ?_
    refine z_V0 B (kX3_put l hl K az Z W x1 2 (-3) 0) [1] [0] (br := [zXo ax (az 0) sa la tr tc X]) (bs' := [zXo ax (az 0) sa la tr tc X, zZo K az (fX3_put Z W x1 2 (-3) 0) W]) (st := []) (nA := 4) (zsp rfl rfl rfl) (zsp rfl rfl rfl) 1 0 rfl rfl rfl rfl gX4_remove_X3_put rfl (by decide +kernel) ⟨Nat.le_of_ble_eq_true rfl, Nat.le_of_ble_eq_true rfl⟩ rfl rfl (Nat.le_of_ble_eq_true rfl) ⟨Nat.le_of_ble_eq_true rfl, Nat.le_of_ble_eq_true rfl⟩ dX4_remove_31 z_noX (fun _ => ?_)
    generalize ho3 : (fX3_put Z W x1 2 (-3) 0) = o3
    refine z_iload_n B dX4_remove_34 0 rfl ?_
    have hF : fX4_remove_o X Z W x1 = (1, o3) := (if_neg c1).trans (congrArg (fun o => fX4_remove_s3 X Z W x1 o) ho3)
    exact z_ret1 B rfl dX4_remove_35 () (trivial) (Nat.le_of_ble_eq_true rfl) (Nat.le_of_ble_eq_true rfl) (by rw [hF]) (by rw [hF])
def fX4_setBound_o (X : Nat → Int32) (Z : Nat → Nat → Int32) (W : Nat → Int32) (x1 : Int32) : Int32 × (Nat → Int32) :=
  ((W 3), (va_up W 3 x1))
set_option maxHeartbeats 4000000 in
set_option maxRecDepth 100000 in
theorem kX4_setBound_o (l : Launch) (hl : l.stackTraces = false) (K : zK) (ax : Nat) (az : Nat → Nat) (sa : Nat) (la : Nat) (tr : Nat) (tc : Nat) (X : Nat → Int32) (Z : Nat → Nat → Int32) (W : Nat → Int32) (x1 : Int32) (r0 : ¬ x1 < 1) (r1 : x1 ≤ 300) : zMet l K yX4_setBound wsX4_setBound { frames := 1, cells := 0, slots := 0, locals := 22 } [.ref ax, .int x1] [zXo ax (az 0) sa la tr tc X, zZo K az Z W] (some (.int ((fX4_setBound_o X Z W x1).1))) [zXo ax (az 0) sa la tr tc X, zZo K az Z ((fX4_setBound_o X Z W x1).2)] True zNo := by
  refine zMeN.of (cc := cX4_setBound) (maxL := 3) (ret := (some .int)) (own := RX4) (nm := "setBound") hl (by decide +kernel) rfl rfl rfl (Nat.le_of_ble_eq_true rfl) (lv := [(0, .ref ax), (1, .int x1)]) rfl ?_
  intro p e s m args below meth c A B
  refine z_iload_n B dX4_setBound_0 1 rfl ?_
  refine z_iconst B (v := 1) dX4_setBound_1 rfl ?_
  refine z_sipush B (v := 300) dX4_setBound_2 rfl ?_
  refine z_S0 B (kX4_requireWithin_o l hl K x1 1 300 r0 r1) [] [0, 1] (br := [zXo ax (az 0) sa la tr tc X, zZo K az Z W]) (bs' := [zXo ax (az 0) sa la tr tc X, zZo K az Z W]) (st := []) (nA := 3) (zsp rfl rfl rfl) (zsp rfl rfl rfl) gX4_setBound_X4_requireWithin rfl (by decide +kernel) ⟨Nat.le_of_ble_eq_true rfl, Nat.le_of_ble_eq_true rfl⟩ rfl rfl (Nat.le_of_ble_eq_true rfl) ⟨Nat.le_of_ble_eq_true rfl, Nat.le_of_ble_eq_true rfl⟩ dX4_setBound_5 z_noX (fun _ => ?_)
  refine z_aload_n B dX4_setBound_8 0 rfl ?_
  refine z_get B (v := .ref (az 0)) 0 0 0 hiX4_setBound_4 hfX4_setBound_10 rfl rfl rfl (by decide) rfl rfl rfl rfl dX4_setBound_9 ?_
  refine z_get B (v := .int (W 3)) 1 0 3 hiX4_setBound_3 hfX4_setBound_66 rfl rfl rfl (by decide) rfl rfl rfl rfl dX4_setBound_12 ?_
  refine z_istore_n B (lv' := [(2, .int (W 3)), (0, .ref ax), (1, .int x1)]) dX4_setBound_15 (by decide) rfl ?_
  refine z_aload_n B dX4_setBound_16 1 rfl ?_
  refine z_get B (v := .ref (az 0)) 0 0 0 hiX4_setBound_4 hfX4_setBound_10 rfl rfl rfl (by decide) rfl rfl rfl rfl dX4_setBound_17 ?_
  refine z_iload_n B dX4_setBound_20 2 rfl ?_
  refine z_put B 1 0 3 hiX4_setBound_3 hfX4_setBound_66 tyX3_ok nmX3 rfl rfl rfl (by decide) rfl rfl rfl rfl rfl rfl rfl (Nat.le_of_ble_eq_true rfl) (bs' := [zXo ax (az 0) sa la tr tc X, zZo K az Z (va_up W 3 x1)]) rfl dX4_setBound_21 ?_
  refine z_iload_n B dX4_setBound_24 0 rfl ?_
  have hF : fX4_setBound_o X Z W x1 = ((W 3), (va_up W 3 x1)) := rfl
  exact z_ret1 B rfl dX4_setBound_25 () (trivial) (Nat.le_of_ble_eq_true rfl) (Nat.le_of_ble_eq_true rfl) (by rw [hF]) (by rw [hF])
def fX4_truth_o_L8 (X : Nat → Int32) (Z : Nat → Nat → Int32) (W : Nat → Int32) (x1 : Int32) : Nat → Nat → (Int32) → Int32
  | 0, a, cur =>
    (-2)
  | n + 1, a, cur =>
    if (fX3_kindOf Z W cur) = 1 then
      fX4_truth_o_L8 X Z W x1 n (a + 1) (fX3_valueOf Z W cur)
    else
      if (fX3_kindOf Z W cur) = 0 then
        (fX3_valueOf Z W cur)
      else
        (-1)
def fX4_truth_o (X : Nat → Int32) (Z : Nat → Nat → Int32) (W : Nat → Int32) (x1 : Int32) : Int32 :=
  fX4_truth_o_L8 X Z W x1 5 0 x1
set_option maxHeartbeats 4000000 in
set_option maxRecDepth 100000 in
theorem kX4_truth_o_L8 (l : Launch) (hl : l.stackTraces = false) (K : zK) (ax : Nat) (az : Nat → Nat) (sa : Nat) (la : Nat) (tr : Nat) (tc : Nat) (X : Nat → Int32) (Z : Nat → Nat → Int32) (W : Nat → Int32) (x1 : Int32) (q0 : ¬ x1 < 0) (q1 : x1 < 16) {p : Program} {e : Env} {s : State} {m : MethodId} {args : Array Value} {below : List Frame} {meth : Method} {c : Code} {A : Nat → Prop} (B : zF K p l s m args meth c A cX4_truth 6 RX4 "truth" wsX4_truth (some .int) []) : ∀ (n a : Nat) (cur : Int32), a + n = 5 → fX4_truth_o X Z W x1 = fX4_truth_o_L8 X Z W x1 n a cur → zW K p l e { frames := 1, cells := 0, slots := 0, locals := 21 } s m args below meth c A (vx_MQ below (zQ K A (fun _ : Unit => ((some (.int (fX4_truth_o X Z W x1))), [zXo ax (az 0) sa la tr tc X, zZo K az Z W])) (fun _ => True)) (zX K A [zXo ax (az 0) sa la tr tc X, zZo K az Z W] zNo) args s 0 0 A) 0 0 [zXo ax (az 0) sa la tr tc X, zZo K az Z W] [(0, .ref ax), (1, .int x1), (3, .int (nI a)), (2, .int cur)] [] 8 := by
  intro n
  induction n with
  | zero =>
    intro a cur ha  hF0
    refine z_iload_n B dX4_truth_8 2 rfl ?_
    refine z_iconst B (v := 4) dX4_truth_9 rfl ?_
    refine z_icgt B 60 dX4_truth_10 (by decide) (fun _ => ?_) (fun h => absurd (z_lgt0 ha (by decide)) h)
    refine z_bipush B (v := (-2)) dX4_truth_60 rfl ?_
    have hF : fX4_truth_o X Z W x1 = (-2) := hF0
    exact z_ret1 B rfl dX4_truth_62 () (trivial) (Nat.le_of_ble_eq_true rfl) (Nat.le_of_ble_eq_true rfl) (by rw [hF]) (by rw [hF])
  | succ n ih =>
    intro a cur ha  hF0
    refine z_iload_n B dX4_truth_8 2 rfl ?_
    refine z_iconst B (v := 4) dX4_truth_9 rfl ?_
    refine z_icgt B 60 dX4_truth_10 (by decide) (fun h => absurd h (z_lgtS ha (by decide))) (fun _ => ?_)
    refine z_aload_n B dX4_truth_13 0 rfl ?_
    refine z_get B (v := .ref (az 0)) 0 0 0 hiX4_truth_4 hfX4_truth_10 rfl rfl rfl (by decide) rfl rfl rfl rfl dX4_truth_14 ?_
    refine z_iload_n B dX4_truth_17 3 rfl ?_
    refine z_V1 B (kX3_kindOf l hl K az Z W cur) [1] [0] (br := [zXo ax (az 0) sa la tr tc X]) (bs' := [zXo ax (az 0) sa la tr tc X, zZo K az Z W]) (st := []) (nA := 1) (zsp rfl rfl rfl) (zsp rfl rfl rfl) 1 0 rfl rfl rfl rfl gX4_truth_X3_kindOf rfl (by decide +kernel) ⟨Nat.le_of_ble_eq_true rfl, Nat.le_of_ble_eq_true rfl⟩ rfl rfl (Nat.le_of_ble_eq_true rfl) ⟨Nat.le_of_ble_eq_true rfl, Nat.le_of_ble_eq_true rfl⟩ dX4_truth_18 z_noX (fun _ => ?_)
    refine z_istore B (lv' := [(4, .int (fX3_kindOf Z W cur)), (0, .ref ax), (1, .int x1), (3, .int (nI a)), (2, .int cur)]) dX4_truth_21 (by decide) rfl ?_
    refine z_aload_n B dX4_truth_23 1 rfl ?_
    refine z_get B (v := .ref (az 0)) 0 0 0 hiX4_truth_4 hfX4_truth_10 rfl rfl rfl (by decide) rfl rfl rfl rfl dX4_truth_24 ?_
    refine z_iload_n B dX4_truth_27 4 rfl ?_
    refine z_V1 B (kX3_valueOf l hl K az Z W cur) [1] [0] (br := [zXo ax (az 0) sa la tr tc X]) (bs' := [zXo ax (az 0) sa la tr tc X, zZo K az Z W]) (st := []) (nA := 1) (zsp rfl rfl rfl) (zsp rfl rfl rfl) 1 0 rfl rfl rfl rfl gX4_truth_X3_valueOf rfl (by decide +kernel) ⟨Nat.le_of_ble_eq_true rfl, Nat.le_of_ble_eq_true rfl⟩ rfl rfl (Nat.le_of_ble_eq_true rfl) ⟨Nat.le_of_ble_eq_true rfl, Nat.le_of_ble_eq_true rfl⟩ dX4_truth_28 z_noX (fun _ => ?_)
    refine z_istore B (lv' := [(5, .int (fX3_valueOf Z W cur)), (4, .int (fX3_kindOf Z W cur)), (0, .ref ax), (1, .int x1), (3, .int (nI a)), (2, .int cur)]) dX4_truth_31 (by decide) rfl ?_
    refine z_iload B dX4_truth_33 1 rfl ?_
    refine z_iconst B (v := 1) dX4_truth_35 rfl ?_
    refine z_iceq B 51 dX4_truth_36 (by decide) (fun c1 => ?_) (fun c1 => ?_)
    · refine z_iload B dX4_truth_51 0 rfl ?_
      refine z_istore_n B (lv' := [(2, .int (fX3_valueOf Z W cur)), (5, .int (fX3_valueOf Z W cur)), (4, .int (fX3_kindOf Z W cur)), (0, .ref ax), (1, .int x1), (3, .int (nI a))]) dX4_truth_53 (by decide) rfl ?_
      refine z_iinc B (v := nI (a + 1)) (lv' := [(3, .int (nI (a + 1))), (2, .int (fX3_valueOf Z W cur)), (5, .int (fX3_valueOf Z W cur)), (4, .int (fX3_kindOf Z W cur)), (0, .ref ax), (1, .int x1)]) dX4_truth_54 5 rfl (nI_1 a) (by decide) rfl ?_
      refine z_goto B (tgt := 8) dX4_truth_57 (by decide) ?_
      refine z_lsub [4, 5, 0, 1] rfl ?_
      have hF : fX4_truth_o X Z W x1 = fX4_truth_o_L8 X Z W x1 n (a + 1) (fX3_valueOf Z W cur) := (hF0).trans (if_pos c1)
      exact ih (a + 1) (fX3_valueOf Z W cur) (by omega)  hF
    · refine z_iload B dX4_truth_39 1 rfl ?_
      refine z_ifne B 49 dX4_truth_41 (by decide) (fun c2 => ?_) (fun c2 => ?_)
      · refine z_iload B dX4_truth_44 0 rfl ?_
        refine z_goto B (tgt := 50) dX4_truth_46 (by decide) ?_
        have hF : fX4_truth_o X Z W x1 = (fX3_valueOf Z W cur) := (hF0).trans ((if_neg c1).trans (if_pos c2))
        exact z_ret1 B rfl dX4_truth_50 () (trivial) (Nat.le_of_ble_eq_true rfl) (Nat.le_of_ble_eq_true rfl) (by rw [hF]) (by rw [hF])
      · refine z_iconst B (v := (-1)) dX4_truth_49 rfl ?_
        have hF : fX4_truth_o X Z W x1 = (-1) := (hF0).trans ((if_neg c1).trans (if_neg c2))
        exact z_ret1 B rfl dX4_truth_50 () (trivial) (Nat.le_of_ble_eq_true rfl) (Nat.le_of_ble_eq_true rfl) (by rw [hF]) (by rw [hF])
set_option maxHeartbeats 4000000 in
set_option maxRecDepth 100000 in
theorem kX4_truth_o (l : Launch) (hl : l.stackTraces = false) (K : zK) (ax : Nat) (az : Nat → Nat) (sa : Nat) (la : Nat) (tr : Nat) (tc : Nat) (X : Nat → Int32) (Z : Nat → Nat → Int32) (W : Nat → Int32) (x1 : Int32) (q0 : ¬ x1 < 0) (q1 : x1 < 16) : zMet l K yX4_truth wsX4_truth { frames := 1, cells := 0, slots := 0, locals := 21 } [.ref ax, .int x1] [zXo ax (az 0) sa la tr tc X, zZo K az Z W] (some (.int (fX4_truth_o X Z W x1))) [zXo ax (az 0) sa la tr tc X, zZo K az Z W] True zNo := by
  refine zMeN.of (cc := cX4_truth) (maxL := 6) (ret := (some .int)) (own := RX4) (nm := "truth") hl (by decide +kernel) rfl rfl rfl (Nat.le_of_ble_eq_true rfl) (lv := [(0, .ref ax), (1, .int x1)]) rfl ?_
  intro p e s m args below meth c A B
  refine z_iload_n B dX4_truth_0 1 rfl ?_
  refine z_S0 B (kX4_requireName_o l hl K x1 q0 q1) [] [0, 1] (br := [zXo ax (az 0) sa la tr tc X, zZo K az Z W]) (bs' := [zXo ax (az 0) sa la tr tc X, zZo K az Z W]) (st := []) (nA := 1) (zsp rfl rfl rfl) (zsp rfl rfl rfl) gX4_truth_X4_requireName rfl (by decide +kernel) ⟨Nat.le_of_ble_eq_true rfl, Nat.le_of_ble_eq_true rfl⟩ rfl rfl (Nat.le_of_ble_eq_true rfl) ⟨Nat.le_of_ble_eq_true rfl, Nat.le_of_ble_eq_true rfl⟩ dX4_truth_1 z_noX (fun _ => ?_)
  refine z_iload_n B dX4_truth_4 1 rfl ?_
  refine z_istore_n B (lv' := [(2, .int x1), (0, .ref ax), (1, .int x1)]) dX4_truth_5 (by decide) rfl ?_
  refine z_iconst B (v := 0) dX4_truth_6 rfl ?_
  refine z_istore_n B (lv' := [(3, .int 0), (2, .int x1), (0, .ref ax), (1, .int x1)]) dX4_truth_7 (by decide) rfl ?_
  refine z_lsub [2, 3, 0, 1] rfl ?_
  have hF : fX4_truth_o X Z W x1 = fX4_truth_o_L8 X Z W x1 5 0 x1 := rfl
  exact kX4_truth_o_L8 l hl K ax az sa la tr tc X Z W x1 q0 q1 B 5 0 x1 (by omega)  hF
def fX4_pass_o (X : Nat → Int32) (x1 : Int32) : Int32 × (Nat → Int32) :=
  (((X 3) + x1), (va_up X 3 ((X 3) + x1)))
set_option maxHeartbeats 4000000 in
set_option maxRecDepth 100000 in
theorem kX4_pass_o (l : Launch) (hl : l.stackTraces = false) (K : zK) (ax : Nat) (zn : Nat) (sa : Nat) (la : Nat) (tr : Nat) (tc : Nat) (X : Nat → Int32) (x1 : Int32) (r0 : ¬ x1 < 1) (r1 : x1 ≤ 1000) : zMet l K yX4_pass wsX4_pass { frames := 1, cells := 0, slots := 0, locals := 22 } [.ref ax, .int x1] [zXo ax zn sa la tr tc X] (some (.int ((fX4_pass_o X x1).1))) [zXo ax zn sa la tr tc ((fX4_pass_o X x1).2)] True zNo := by
  refine zMeN.of (cc := cX4_pass) (maxL := 2) (ret := (some .int)) (own := RX4) (nm := "pass") hl (by decide +kernel) rfl rfl rfl (Nat.le_of_ble_eq_true rfl) (lv := [(0, .ref ax), (1, .int x1)]) rfl ?_
  intro p e s m args below meth c A B
  refine z_iload_n B dX4_pass_0 1 rfl ?_
  refine z_iconst B (v := 1) dX4_pass_1 rfl ?_
  refine z_sipush B (v := 1000) dX4_pass_2 rfl ?_
  refine z_S0 B (kX4_requireWithin_o l hl K x1 1 1000 r0 r1) [] [0] (br := [zXo ax zn sa la tr tc X]) (bs' := [zXo ax zn sa la tr tc X]) (st := []) (nA := 3) (zsp rfl rfl rfl) (zsp rfl rfl rfl) gX4_pass_X4_requireWithin rfl (by decide +kernel) ⟨Nat.le_of_ble_eq_true rfl, Nat.le_of_ble_eq_true rfl⟩ rfl rfl (Nat.le_of_ble_eq_true rfl) ⟨Nat.le_of_ble_eq_true rfl, Nat.le_of_ble_eq_true rfl⟩ dX4_pass_5 z_noX (fun _ => ?_)
  refine z_aload_n B dX4_pass_8 0 rfl ?_
  refine z_dup B dX4_pass_9 rfl ?_
  refine z_get B (v := .int (X 3)) 0 0 3 hiX4_pass_4 hfX4_pass_108 rfl rfl rfl (by decide) rfl rfl rfl rfl dX4_pass_10 ?_
  refine z_iload_n B dX4_pass_13 1 rfl ?_
  refine z_iadd B dX4_pass_14 ?_
  refine z_put B 0 0 3 hiX4_pass_4 hfX4_pass_108 tyX4_ok nmX4 rfl rfl rfl (by decide) rfl rfl rfl rfl rfl rfl rfl (Nat.le_of_ble_eq_true rfl) (bs' := [zXo ax zn sa la tr tc (va_up X 3 ((X 3) + x1))]) rfl dX4_pass_15 ?_
  refine z_aload_n B dX4_pass_18 0 rfl ?_
  refine z_get B (v := .int ((X 3) + x1)) 0 0 3 hiX4_pass_4 hfX4_pass_108 rfl rfl rfl (by decide) rfl rfl rfl rfl dX4_pass_19 ?_
  have hF : fX4_pass_o X x1 = (((X 3) + x1), (va_up X 3 ((X 3) + x1))) := rfl
  exact z_ret1 B rfl dX4_pass_22 () (trivial) (Nat.le_of_ble_eq_true rfl) (Nat.le_of_ble_eq_true rfl) (by rw [hF]) (by rw [hF])
def fX4_cacheAsked_o (x2 : Int32) : Unit :=
  ()
set_option maxHeartbeats 4000000 in
set_option maxRecDepth 100000 in
theorem kX4_cacheAsked_o (l : Launch) (hl : l.stackTraces = false) (K : zK) (ax : Nat) (zn : Nat) (sa : Nat) (la : Nat) (tr : Nat) (tc : Nat) (X : Nat → Int32) (f : Nat → Option Nat) (n : Nat) (so : Nat → Nat) (sc : Nat → Nat → Nat) (D : Nat → Nat → Int32) (i : Nat) (x2 : Int32) (hi4 : i < 4) (hi : i < n) (hfi : f (nI i).toNatClampNeg = some (so i)) (q0 : ¬ x2 < 0) (q1 : x2 < 16) : zMet l K yX4_cacheAsked wsX4_cacheAsked { frames := 1, cells := 0, slots := 0, locals := 22 } [.ref ax, .int (nI i), .int x2] [zXo ax zn sa la tr tc X, zSa K sa f, zSO n so sc D] (some (.ref ((sc i) 0))) [zXo ax zn sa la tr tc X, zSa K sa f, zSO n so sc D] True zNo := by
  refine zMeN.of (cc := cX4_cacheAsked) (maxL := 4) (ret := (some (.object "ResolverFleet$Cache"))) (own := RX4) (nm := "cacheAsked") hl (by decide +kernel) rfl rfl rfl (Nat.le_of_ble_eq_true rfl) (lv := [(0, .ref ax), (1, .int (nI i)), (2, .int x2)]) rfl ?_
  intro p e s m args below meth c A B
  refine z_aload_n B dX4_cacheAsked_0 0 rfl ?_
  refine z_iload_n B dX4_cacheAsked_1 1 rfl ?_
  refine z_V1 B (kX4_siteNumbered_h l hl K ax zn sa la tr tc X f so i hi4 hfi) [0, 1] [2] (br := [zSO n so sc D]) (bs' := [zXo ax zn sa la tr tc X, zSa K sa f, zSO n so sc D]) (st := []) (nA := 1) (zsp rfl rfl rfl) (zsp rfl rfl rfl) 0 0 rfl rfl rfl rfl gX4_cacheAsked_X4_siteNumbered rfl (by decide +kernel) ⟨Nat.le_of_ble_eq_true rfl, Nat.le_of_ble_eq_true rfl⟩ rfl rfl (Nat.le_of_ble_eq_true rfl) ⟨Nat.le_of_ble_eq_true rfl, Nat.le_of_ble_eq_true rfl⟩ dX4_cacheAsked_2 z_noX (fun _ => ?_)
  refine z_astore_n B (lv' := [(3, .ref (so i)), (0, .ref ax), (1, .int (nI i)), (2, .int x2)]) dX4_cacheAsked_5 (by decide) rfl ?_
  refine z_iload_n B dX4_cacheAsked_6 3 rfl ?_
  refine z_S0 B (kX4_requireName_o l hl K x2 q0 q1) [] [0, 1, 2] (br := [zXo ax zn sa la tr tc X, zSa K sa f, zSO n so sc D]) (bs' := [zXo ax zn sa la tr tc X, zSa K sa f, zSO n so sc D]) (st := []) (nA := 1) (zsp rfl rfl rfl) (zsp rfl rfl rfl) gX4_cacheAsked_X4_requireName rfl (by decide +kernel) ⟨Nat.le_of_ble_eq_true rfl, Nat.le_of_ble_eq_true rfl⟩ rfl rfl (Nat.le_of_ble_eq_true rfl) ⟨Nat.le_of_ble_eq_true rfl, Nat.le_of_ble_eq_true rfl⟩ dX4_cacheAsked_7 z_noX (fun _ => ?_)
  refine z_aload_n B dX4_cacheAsked_10 0 rfl ?_
  refine z_get B (v := .ref ((sc i) 0)) 2 i 2 hiX4_cacheAsked_2 hfX4_cacheAsked_115 rfl (zSO_get hi) rfl (by decide) rfl rfl rfl rfl dX4_cacheAsked_11 ?_
  have hF : fX4_cacheAsked_o x2 = () := rfl
  exact z_reta B (Or.inr ⟨_, rfl⟩) dX4_cacheAsked_14 () (trivial) (Nat.le_of_ble_eq_true rfl) (Nat.le_of_ble_eq_true rfl) rfl rfl
def fX4_flush_o (C : Nat → Nat → Int32) (x2 : Int32) : Int32 × (Nat → Nat → Int32) :=
  (((fX0_drop C x2).1), ((fX0_drop C x2).2))
set_option maxHeartbeats 4000000 in
set_option maxRecDepth 100000 in
theorem kX4_flush_o (l : Launch) (hl : l.stackTraces = false) (K : zK) (ax : Nat) (zn : Nat) (sa : Nat) (la : Nat) (tr : Nat) (tc : Nat) (X : Nat → Int32) (f : Nat → Option Nat) (n : Nat) (so : Nat → Nat) (sc : Nat → Nat → Nat) (D : Nat → Nat → Int32) (i : Nat) (C : Nat → Nat → Int32) (x2 : Int32) (hi4 : i < 4) (hi : i < n) (hfi : f (nI i).toNatClampNeg = some (so i)) (q0 : ¬ x2 < 0) (q1 : x2 < 16) : zMet l K yX4_flush wsX4_flush { frames := 2, cells := 0, slots := 0, locals := 45 } [.ref ax, .int (nI i), .int x2] [zXo ax zn sa la tr tc X, zSa K sa f, zSO n so sc D, zCa K (sc i) C] (some (.int ((fX4_flush_o C x2).1))) [zXo ax zn sa la tr tc X, zSa K sa f, zSO n so sc D, zCa K (sc i) ((fX4_flush_o C x2).2)] True zNo := by
  refine zMeN.of (cc := cX4_flush) (maxL := 3) (ret := (some .boolean)) (own := RX4) (nm := "flush") hl (by decide +kernel) rfl rfl rfl (Nat.le_of_ble_eq_true rfl) (lv := [(0, .ref ax), (1, .int (nI i)), (2, .int x2)]) rfl ?_
  intro p e s m args below meth c A B
  refine z_aload_n B dX4_flush_0 0 rfl ?_
  refine z_iload_n B dX4_flush_1 1 rfl ?_
  refine z_iload_n B dX4_flush_2 2 rfl ?_
  refine z_V1 B (kX4_cacheAsked_o l hl K ax zn sa la tr tc X f n so sc D i x2 hi4 hi hfi q0 q1) [0, 1, 2] [3] (br := [zCa K (sc i) C]) (bs' := [zXo ax zn sa la tr tc X, zSa K sa f, zSO n so sc D, zCa K (sc i) C]) (st := []) (nA := 2) (zsp rfl rfl rfl) (zsp rfl rfl rfl) 0 0 rfl rfl rfl rfl gX4_flush_X4_cacheAsked rfl (by decide +kernel) ⟨Nat.le_of_ble_eq_true rfl, Nat.le_of_ble_eq_true rfl⟩ rfl rfl (Nat.le_of_ble_eq_true rfl) ⟨Nat.le_of_ble_eq_true rfl, Nat.le_of_ble_eq_true rfl⟩ dX4_flush_3 z_noX (fun _ => ?_)
  refine z_iload_n B dX4_flush_6 2 rfl ?_
  refine z_V1 B (kX0_drop l hl K (sc i) C x2) [3] [0, 1, 2] (br := [zXo ax zn sa la tr tc X, zSa K sa f, zSO n so sc D]) (bs' := [zXo ax zn sa la tr tc X, zSa K sa f, zSO n so sc D, zCa K (sc i) ((fX0_drop C x2).2)]) (st := []) (nA := 1) (zsp rfl rfl rfl) (zsp rfl rfl rfl) 3 0 rfl rfl rfl rfl gX4_flush_X0_drop rfl (by decide +kernel) ⟨Nat.le_of_ble_eq_true rfl, Nat.le_of_ble_eq_true rfl⟩ rfl rfl (Nat.le_of_ble_eq_true rfl) ⟨Nat.le_of_ble_eq_true rfl, Nat.le_of_ble_eq_true rfl⟩ dX4_flush_7 z_noX (fun _ => ?_)
  have hF : fX4_flush_o C x2 = (((fX0_drop C x2).1), ((fX0_drop C x2).2)) := rfl
  exact z_ret1 B (z_nz z_drop01) dX4_flush_10 () (trivial) (Nat.le_of_ble_eq_true rfl) (Nat.le_of_ble_eq_true rfl) (by rw [hF]) (by rw [hF])
def fX4_cachedKind_o (C : Nat → Nat → Int32) (x2 : Int32) : Int32 :=
  (fX0_kindOf C x2)
set_option maxHeartbeats 4000000 in
set_option maxRecDepth 100000 in
theorem kX4_cachedKind_o (l : Launch) (hl : l.stackTraces = false) (K : zK) (ax : Nat) (zn : Nat) (sa : Nat) (la : Nat) (tr : Nat) (tc : Nat) (X : Nat → Int32) (f : Nat → Option Nat) (n : Nat) (so : Nat → Nat) (sc : Nat → Nat → Nat) (D : Nat → Nat → Int32) (i : Nat) (C : Nat → Nat → Int32) (x2 : Int32) (hi4 : i < 4) (hi : i < n) (hfi : f (nI i).toNatClampNeg = some (so i)) (q0 : ¬ x2 < 0) (q1 : x2 < 16) : zMet l K yX4_cachedKind wsX4_cachedKind { frames := 2, cells := 0, slots := 0, locals := 45 } [.ref ax, .int (nI i), .int x2] [zXo ax zn sa la tr tc X, zSa K sa f, zSO n so sc D, zCa K (sc i) C] (some (.int (fX4_cachedKind_o C x2))) [zXo ax zn sa la tr tc X, zSa K sa f, zSO n so sc D, zCa K (sc i) C] True zNo := by
  refine zMeN.of (cc := cX4_cachedKind) (maxL := 3) (ret := (some .int)) (own := RX4) (nm := "cachedKind") hl (by decide +kernel) rfl rfl rfl (Nat.le_of_ble_eq_true rfl) (lv := [(0, .ref ax), (1, .int (nI i)), (2, .int x2)]) rfl ?_
  intro p e s m args below meth c A B
  refine z_aload_n B dX4_cachedKind_0 0 rfl ?_
  refine z_iload_n B dX4_cachedKind_1 1 rfl ?_
  refine z_iload_n B dX4_cachedKind_2 2 rfl ?_
  refine z_V1 B (kX4_cacheAsked_o l hl K ax zn sa la tr tc X f n so sc D i x2 hi4 hi hfi q0 q1) [0, 1, 2] [3] (br := [zCa K (sc i) C]) (bs' := [zXo ax zn sa la tr tc X, zSa K sa f, zSO n so sc D, zCa K (sc i) C]) (st := []) (nA := 2) (zsp rfl rfl rfl) (zsp rfl rfl rfl) 0 0 rfl rfl rfl rfl gX4_cachedKind_X4_cacheAsked rfl (by decide +kernel) ⟨Nat.le_of_ble_eq_true rfl, Nat.le_of_ble_eq_true rfl⟩ rfl rfl (Nat.le_of_ble_eq_true rfl) ⟨Nat.le_of_ble_eq_true rfl, Nat.le_of_ble_eq_true rfl⟩ dX4_cachedKind_3 z_noX (fun _ => ?_)
  refine z_iload_n B dX4_cachedKind_6 2 rfl ?_
  refine z_V1 B (kX0_kindOf l hl K (sc i) C x2) [3] [0, 1, 2] (br := [zXo ax zn sa la tr tc X, zSa K sa f, zSO n so sc D]) (bs' := [zXo ax zn sa la tr tc X, zSa K sa f, zSO n so sc D, zCa K (sc i) C]) (st := []) (nA := 1) (zsp rfl rfl rfl) (zsp rfl rfl rfl) 3 0 rfl rfl rfl rfl gX4_cachedKind_X0_kindOf rfl (by decide +kernel) ⟨Nat.le_of_ble_eq_true rfl, Nat.le_of_ble_eq_true rfl⟩ rfl rfl (Nat.le_of_ble_eq_true rfl) ⟨Nat.le_of_ble_eq_true rfl, Nat.le_of_ble_eq_true rfl⟩ dX4_cachedKind_7 z_noX (fun _ => ?_)
  have hF : fX4_cachedKind_o C x2 = (fX0_kindOf C x2) := rfl
  exact z_ret1 B rfl dX4_cachedKind_10 () (trivial) (Nat.le_of_ble_eq_true rfl) (Nat.le_of_ble_eq_true rfl) (by rw [hF]) (by rw [hF])
def fX4_cachedValue_o (C : Nat → Nat → Int32) (x2 : Int32) : Int32 :=
  (fX0_valueOf C x2)
set_option maxHeartbeats 4000000 in
set_option maxRecDepth 100000 in
theorem kX4_cachedValue_o (l : Launch) (hl : l.stackTraces = false) (K : zK) (ax : Nat) (zn : Nat) (sa : Nat) (la : Nat) (tr : Nat) (tc : Nat) (X : Nat → Int32) (f : Nat → Option Nat) (n : Nat) (so : Nat → Nat) (sc : Nat → Nat → Nat) (D : Nat → Nat → Int32) (i : Nat) (C : Nat → Nat → Int32) (x2 : Int32) (hi4 : i < 4) (hi : i < n) (hfi : f (nI i).toNatClampNeg = some (so i)) (q0 : ¬ x2 < 0) (q1 : x2 < 16) : zMet l K yX4_cachedValue wsX4_cachedValue { frames := 2, cells := 0, slots := 0, locals := 45 } [.ref ax, .int (nI i), .int x2] [zXo ax zn sa la tr tc X, zSa K sa f, zSO n so sc D, zCa K (sc i) C] (some (.int (fX4_cachedValue_o C x2))) [zXo ax zn sa la tr tc X, zSa K sa f, zSO n so sc D, zCa K (sc i) C] True zNo := by
  refine zMeN.of (cc := cX4_cachedValue) (maxL := 3) (ret := (some .int)) (own := RX4) (nm := "cachedValue") hl (by decide +kernel) rfl rfl rfl (Nat.le_of_ble_eq_true rfl) (lv := [(0, .ref ax), (1, .int (nI i)), (2, .int x2)]) rfl ?_
  intro p e s m args below meth c A B
  refine z_aload_n B dX4_cachedValue_0 0 rfl ?_
  refine z_iload_n B dX4_cachedValue_1 1 rfl ?_
  refine z_iload_n B dX4_cachedValue_2 2 rfl ?_
  refine z_V1 B (kX4_cacheAsked_o l hl K ax zn sa la tr tc X f n so sc D i x2 hi4 hi hfi q0 q1) [0, 1, 2] [3] (br := [zCa K (sc i) C]) (bs' := [zXo ax zn sa la tr tc X, zSa K sa f, zSO n so sc D, zCa K (sc i) C]) (st := []) (nA := 2) (zsp rfl rfl rfl) (zsp rfl rfl rfl) 0 0 rfl rfl rfl rfl gX4_cachedValue_X4_cacheAsked rfl (by decide +kernel) ⟨Nat.le_of_ble_eq_true rfl, Nat.le_of_ble_eq_true rfl⟩ rfl rfl (Nat.le_of_ble_eq_true rfl) ⟨Nat.le_of_ble_eq_true rfl, Nat.le_of_ble_eq_true rfl⟩ dX4_cachedValue_3 z_noX (fun _ => ?_)
  refine z_iload_n B dX4_cachedValue_6 2 rfl ?_
  refine z_V1 B (kX0_valueOf l hl K (sc i) C x2) [3] [0, 1, 2] (br := [zXo ax zn sa la tr tc X, zSa K sa f, zSO n so sc D]) (bs' := [zXo ax zn sa la tr tc X, zSa K sa f, zSO n so sc D, zCa K (sc i) C]) (st := []) (nA := 1) (zsp rfl rfl rfl) (zsp rfl rfl rfl) 3 0 rfl rfl rfl rfl gX4_cachedValue_X0_valueOf rfl (by decide +kernel) ⟨Nat.le_of_ble_eq_true rfl, Nat.le_of_ble_eq_true rfl⟩ rfl rfl (Nat.le_of_ble_eq_true rfl) ⟨Nat.le_of_ble_eq_true rfl, Nat.le_of_ble_eq_true rfl⟩ dX4_cachedValue_7 z_noX (fun _ => ?_)
  have hF : fX4_cachedValue_o C x2 = (fX0_valueOf C x2) := rfl
  exact z_ret1 B rfl dX4_cachedValue_10 () (trivial) (Nat.le_of_ble_eq_true rfl) (Nat.le_of_ble_eq_true rfl) (by rw [hF]) (by rw [hF])
def fX4_hitsOf_o (C : Nat → Nat → Int32) (x2 : Int32) : Int32 :=
  (fX0_hitsFor C x2)
set_option maxHeartbeats 4000000 in
set_option maxRecDepth 100000 in
theorem kX4_hitsOf_o (l : Launch) (hl : l.stackTraces = false) (K : zK) (ax : Nat) (zn : Nat) (sa : Nat) (la : Nat) (tr : Nat) (tc : Nat) (X : Nat → Int32) (f : Nat → Option Nat) (n : Nat) (so : Nat → Nat) (sc : Nat → Nat → Nat) (D : Nat → Nat → Int32) (i : Nat) (C : Nat → Nat → Int32) (x2 : Int32) (hi4 : i < 4) (hi : i < n) (hfi : f (nI i).toNatClampNeg = some (so i)) (q0 : ¬ x2 < 0) (q1 : x2 < 16) : zMet l K yX4_hitsOf wsX4_hitsOf { frames := 2, cells := 0, slots := 0, locals := 45 } [.ref ax, .int (nI i), .int x2] [zXo ax zn sa la tr tc X, zSa K sa f, zSO n so sc D, zCa K (sc i) C] (some (.int (fX4_hitsOf_o C x2))) [zXo ax zn sa la tr tc X, zSa K sa f, zSO n so sc D, zCa K (sc i) C] True zNo := by
  refine zMeN.of (cc := cX4_hitsOf) (maxL := 3) (ret := (some .int)) (own := RX4) (nm := "hitsOf") hl (by decide +kernel) rfl rfl rfl (Nat.le_of_ble_eq_true rfl) (lv := [(0, .ref ax), (1, .int (nI i)), (2, .int x2)]) rfl ?_
  intro p e s m args below meth c A B
  refine z_aload_n B dX4_hitsOf_0 0 rfl ?_
  refine z_iload_n B dX4_hitsOf_1 1 rfl ?_
  refine z_iload_n B dX4_hitsOf_2 2 rfl ?_
  refine z_V1 B (kX4_cacheAsked_o l hl K ax zn sa la tr tc X f n so sc D i x2 hi4 hi hfi q0 q1) [0, 1, 2] [3] (br := [zCa K (sc i) C]) (bs' := [zXo ax zn sa la tr tc X, zSa K sa f, zSO n so sc D, zCa K (sc i) C]) (st := []) (nA := 2) (zsp rfl rfl rfl) (zsp rfl rfl rfl) 0 0 rfl rfl rfl rfl gX4_hitsOf_X4_cacheAsked rfl (by decide +kernel) ⟨Nat.le_of_ble_eq_true rfl, Nat.le_of_ble_eq_true rfl⟩ rfl rfl (Nat.le_of_ble_eq_true rfl) ⟨Nat.le_of_ble_eq_true rfl, Nat.le_of_ble_eq_true rfl⟩ dX4_hitsOf_3 z_noX (fun _ => ?_)
  refine z_iload_n B dX4_hitsOf_6 2 rfl ?_
  refine z_V1 B (kX0_hitsFor l hl K (sc i) C x2) [3] [0, 1, 2] (br := [zXo ax zn sa la tr tc X, zSa K sa f, zSO n so sc D]) (bs' := [zXo ax zn sa la tr tc X, zSa K sa f, zSO n so sc D, zCa K (sc i) C]) (st := []) (nA := 1) (zsp rfl rfl rfl) (zsp rfl rfl rfl) 3 0 rfl rfl rfl rfl gX4_hitsOf_X0_hitsFor rfl (by decide +kernel) ⟨Nat.le_of_ble_eq_true rfl, Nat.le_of_ble_eq_true rfl⟩ rfl rfl (Nat.le_of_ble_eq_true rfl) ⟨Nat.le_of_ble_eq_true rfl, Nat.le_of_ble_eq_true rfl⟩ dX4_hitsOf_7 z_noX (fun _ => ?_)
  have hF : fX4_hitsOf_o C x2 = (fX0_hitsFor C x2) := rfl
  exact z_ret1 B rfl dX4_hitsOf_10 () (trivial) (Nat.le_of_ble_eq_true rfl) (Nat.le_of_ble_eq_true rfl) (by rw [hF]) (by rw [hF])
def fX4_left_o (X : Nat → Int32) (C : Nat → Nat → Int32) (x2 : Int32) : Int32 :=
  ((fX0_endOf C x2) - (X 3))
set_option maxHeartbeats 4000000 in
set_option maxRecDepth 100000 in
theorem kX4_left_o (l : Launch) (hl : l.stackTraces = false) (K : zK) (ax : Nat) (zn : Nat) (sa : Nat) (la : Nat) (tr : Nat) (tc : Nat) (X : Nat → Int32) (f : Nat → Option Nat) (n : Nat) (so : Nat → Nat) (sc : Nat → Nat → Nat) (D : Nat → Nat → Int32) (i : Nat) (C : Nat → Nat → Int32) (x2 : Int32) (hi4 : i < 4) (hi : i < n) (hfi : f (nI i).toNatClampNeg = some (so i)) (q0 : ¬ x2 < 0) (q1 : x2 < 16) (qh : ¬ (fX0_has C x2) = 0) : zMet l K yX4_left wsX4_left { frames := 2, cells := 0, slots := 0, locals := 45 } [.ref ax, .int (nI i), .int x2] [zXo ax zn sa la tr tc X, zSa K sa f, zSO n so sc D, zCa K (sc i) C] (some (.int (fX4_left_o X C x2))) [zXo ax zn sa la tr tc X, zSa K sa f, zSO n so sc D, zCa K (sc i) C] True zNo := by
  refine zMeN.of (cc := cX4_left) (maxL := 4) (ret := (some .int)) (own := RX4) (nm := "left") hl (by decide +kernel) rfl rfl rfl (Nat.le_of_ble_eq_true rfl) (lv := [(0, .ref ax), (1, .int (nI i)), (2, .int x2)]) rfl ?_
  intro p e s m args below meth c A B
  refine z_aload_n B dX4_left_0 0 rfl ?_
  refine z_iload_n B dX4_left_1 1 rfl ?_
  refine z_iload_n B dX4_left_2 2 rfl ?_
  refine z_V1 B (kX4_cacheAsked_o l hl K ax zn sa la tr tc X f n so sc D i x2 hi4 hi hfi q0 q1) [0, 1, 2] [3] (br := [zCa K (sc i) C]) (bs' := [zXo ax zn sa la tr tc X, zSa K sa f, zSO n so sc D, zCa K (sc i) C]) (st := []) (nA := 2) (zsp rfl rfl rfl) (zsp rfl rfl rfl) 0 0 rfl rfl rfl rfl gX4_left_X4_cacheAsked rfl (by decide +kernel) ⟨Nat.le_of_ble_eq_true rfl, Nat.le_of_ble_eq_true rfl⟩ rfl rfl (Nat.le_of_ble_eq_true rfl) ⟨Nat.le_of_ble_eq_true rfl, Nat.le_of_ble_eq_true rfl⟩ dX4_left_3 z_noX (fun _ => ?_)
  refine z_astore_n B (lv' := [(3, .ref ((sc i) 0)), (0, .ref ax), (1, .int (nI i)), (2, .int x2)]) dX4_left_6 (by decide) rfl ?_
  refine z_aload_n B dX4_left_7 0 rfl ?_
  refine z_iload_n B dX4_left_8 3 rfl ?_
  refine z_V1 B (kX0_has l hl K (sc i) C x2) [3] [0, 1, 2] (br := [zXo ax zn sa la tr tc X, zSa K sa f, zSO n so sc D]) (bs' := [zXo ax zn sa la tr tc X, zSa K sa f, zSO n so sc D, zCa K (sc i) C]) (st := []) (nA := 1) (zsp rfl rfl rfl) (zsp rfl rfl rfl) 3 0 rfl rfl rfl rfl gX4_left_X0_has rfl (by decide +kernel) ⟨Nat.le_of_ble_eq_true rfl, Nat.le_of_ble_eq_true rfl⟩ rfl rfl (Nat.le_of_ble_eq_true rfl) ⟨Nat.le_of_ble_eq_true rfl, Nat.le_of_ble_eq_true rfl⟩ dX4_left_9 z_noX (fun _ => ?_)
  refine z_ifne B 25 dX4_left_12 (by decide) (fun h => absurd h qh) (fun _ => ?_)
  refine z_aload_n B dX4_left_25 0 rfl ?_
  refine z_iload_n B dX4_left_26 3 rfl ?_
  refine z_V1 B (kX0_endOf l hl K (sc i) C x2) [3] [0, 1, 2] (br := [zXo ax zn sa la tr tc X, zSa K sa f, zSO n so sc D]) (bs' := [zXo ax zn sa la tr tc X, zSa K sa f, zSO n so sc D, zCa K (sc i) C]) (st := []) (nA := 1) (zsp rfl rfl rfl) (zsp rfl rfl rfl) 3 0 rfl rfl rfl rfl gX4_left_X0_endOf rfl (by decide +kernel) ⟨Nat.le_of_ble_eq_true rfl, Nat.le_of_ble_eq_true rfl⟩ rfl rfl (Nat.le_of_ble_eq_true rfl) ⟨Nat.le_of_ble_eq_true rfl, Nat.le_of_ble_eq_true rfl⟩ dX4_left_27 z_noX (fun _ => ?_)
  refine z_aload_n B dX4_left_30 1 rfl ?_
  refine z_get B (v := .int (X 3)) 0 0 3 hiX4_left_4 hfX4_left_108 rfl rfl rfl (by decide) rfl rfl rfl rfl dX4_left_31 ?_
  refine z_isub B dX4_left_34 ?_
  have hF : fX4_left_o X C x2 = ((fX0_endOf C x2) - (X 3)) := rfl
  exact z_ret1 B rfl dX4_left_35 () (trivial) (Nat.le_of_ble_eq_true rfl) (Nat.le_of_ble_eq_true rfl) (by rw [hF]) (by rw [hF])
def fX4_siteFor_oh (D : Nat → Nat → Int32) (i : Nat) (x1 : Int32) : Int32 :=
  (D i 0)
set_option maxHeartbeats 4000000 in
set_option maxRecDepth 100000 in
theorem kX4_siteFor_oh (l : Launch) (hl : l.stackTraces = false) (K : zK) (ax : Nat) (zn : Nat) (sa : Nat) (la : Nat) (tr : Nat) (tc : Nat) (X : Nat → Int32) (f : Nat → Option Nat) (n : Nat) (so : Nat → Nat) (sc : Nat → Nat → Nat) (D : Nat → Nat → Int32) (i : Nat) (x1 : Int32) (hf1 : ∀ a, a < n → f a = some (so a)) (hf2 : ∀ a, n ≤ a → a < 4 → f a = none) (hi : i < n) (hN : fX4_near n D x1 = some i) (r0 : ¬ x1 < 0) (r1 : x1 ≤ 99) : zMet l K yX4_siteFor wsX4_siteFor { frames := 3, cells := 0, slots := 0, locals := 60 } [.ref ax, .int x1] [zXo ax zn sa la tr tc X, zSa K sa f, zSO n so sc D] (some (.int (fX4_siteFor_oh D i x1))) [zXo ax zn sa la tr tc X, zSa K sa f, zSO n so sc D] True zNo := by
  refine zMeN.of (cc := cX4_siteFor) (maxL := 3) (ret := (some .int)) (own := RX4) (nm := "siteFor") hl (by decide +kernel) rfl rfl rfl (Nat.le_of_ble_eq_true rfl) (lv := [(0, .ref ax), (1, .int x1)]) rfl ?_
  intro p e s m args below meth c A B
  refine z_iload_n B dX4_siteFor_0 1 rfl ?_
  refine z_iconst B (v := 0) dX4_siteFor_1 rfl ?_
  refine z_bipush B (v := 99) dX4_siteFor_2 rfl ?_
  refine z_S0 B (kX4_requireWithin_o l hl K x1 0 99 r0 r1) [] [0, 1, 2] (br := [zXo ax zn sa la tr tc X, zSa K sa f, zSO n so sc D]) (bs' := [zXo ax zn sa la tr tc X, zSa K sa f, zSO n so sc D]) (st := []) (nA := 3) (zsp rfl rfl rfl) (zsp rfl rfl rfl) gX4_siteFor_X4_requireWithin rfl (by decide +kernel) ⟨Nat.le_of_ble_eq_true rfl, Nat.le_of_ble_eq_true rfl⟩ rfl rfl (Nat.le_of_ble_eq_true rfl) ⟨Nat.le_of_ble_eq_true rfl, Nat.le_of_ble_eq_true rfl⟩ dX4_siteFor_4 z_noX (fun _ => ?_)
  refine z_aload_n B dX4_siteFor_7 0 rfl ?_
  refine z_iload_n B dX4_siteFor_8 1 rfl ?_
  refine z_V1 B (kX4_nearestSite_h l hl K ax zn sa la tr tc X f n so sc D i x1 hf1 hf2 hN) [0, 1, 2] [] (br := []) (bs' := [zXo ax zn sa la tr tc X, zSa K sa f, zSO n so sc D]) (st := []) (nA := 1) (zsp rfl rfl rfl) (zsp rfl rfl rfl) 0 0 rfl rfl rfl rfl gX4_siteFor_X4_nearestSite rfl (by decide +kernel) ⟨Nat.le_of_ble_eq_true rfl, Nat.le_of_ble_eq_true rfl⟩ rfl rfl (Nat.le_of_ble_eq_true rfl) ⟨Nat.le_of_ble_eq_true rfl, Nat.le_of_ble_eq_true rfl⟩ dX4_siteFor_9 z_noX (fun _ => ?_)
  refine z_astore_n B (lv' := [(2, .ref (so i)), (0, .ref ax), (1, .int x1)]) dX4_siteFor_12 (by decide) rfl ?_
  refine z_aload_n B dX4_siteFor_13 0 rfl ?_
  refine z_ifnonnull B 22 dX4_siteFor_14 (by decide) ?_
  refine z_aload_n B dX4_siteFor_22 0 rfl ?_
  refine z_get B (v := .int (D i 0)) 2 i 0 hiX4_siteFor_2 hfX4_siteFor_97 rfl (zSO_get hi) rfl (by decide) rfl rfl rfl rfl dX4_siteFor_23 ?_
  have hF : fX4_siteFor_oh D i x1 = (D i 0) := rfl
  exact z_ret1 B rfl dX4_siteFor_26 () (trivial) (Nat.le_of_ble_eq_true rfl) (Nat.le_of_ble_eq_true rfl) (by rw [hF]) (by rw [hF])
def fX4_siteFor_om (D : Nat → Nat → Int32) (x1 : Int32) : Int32 :=
  (-3)
set_option maxHeartbeats 4000000 in
set_option maxRecDepth 100000 in
theorem kX4_siteFor_om (l : Launch) (hl : l.stackTraces = false) (K : zK) (ax : Nat) (zn : Nat) (sa : Nat) (la : Nat) (tr : Nat) (tc : Nat) (X : Nat → Int32) (f : Nat → Option Nat) (n : Nat) (so : Nat → Nat) (sc : Nat → Nat → Nat) (D : Nat → Nat → Int32) (x1 : Int32) (hf1 : ∀ a, a < n → f a = some (so a)) (hf2 : ∀ a, n ≤ a → a < 4 → f a = none) (hN : fX4_near n D x1 = none) (r0 : ¬ x1 < 0) (r1 : x1 ≤ 99) : zMet l K yX4_siteFor wsX4_siteFor { frames := 3, cells := 0, slots := 0, locals := 60 } [.ref ax, .int x1] [zXo ax zn sa la tr tc X, zSa K sa f, zSO n so sc D] (some (.int (fX4_siteFor_om D x1))) [zXo ax zn sa la tr tc X, zSa K sa f, zSO n so sc D] True zNo := by
  refine zMeN.of (cc := cX4_siteFor) (maxL := 3) (ret := (some .int)) (own := RX4) (nm := "siteFor") hl (by decide +kernel) rfl rfl rfl (Nat.le_of_ble_eq_true rfl) (lv := [(0, .ref ax), (1, .int x1)]) rfl ?_
  intro p e s m args below meth c A B
  refine z_iload_n B dX4_siteFor_0 1 rfl ?_
  refine z_iconst B (v := 0) dX4_siteFor_1 rfl ?_
  refine z_bipush B (v := 99) dX4_siteFor_2 rfl ?_
  refine z_S0 B (kX4_requireWithin_o l hl K x1 0 99 r0 r1) [] [0, 1, 2] (br := [zXo ax zn sa la tr tc X, zSa K sa f, zSO n so sc D]) (bs' := [zXo ax zn sa la tr tc X, zSa K sa f, zSO n so sc D]) (st := []) (nA := 3) (zsp rfl rfl rfl) (zsp rfl rfl rfl) gX4_siteFor_X4_requireWithin rfl (by decide +kernel) ⟨Nat.le_of_ble_eq_true rfl, Nat.le_of_ble_eq_true rfl⟩ rfl rfl (Nat.le_of_ble_eq_true rfl) ⟨Nat.le_of_ble_eq_true rfl, Nat.le_of_ble_eq_true rfl⟩ dX4_siteFor_4 z_noX (fun _ => ?_)
  refine z_aload_n B dX4_siteFor_7 0 rfl ?_
  refine z_iload_n B dX4_siteFor_8 1 rfl ?_
  refine z_V1 B (kX4_nearestSite_m l hl K ax zn sa la tr tc X f n so sc D x1 hf1 hf2 hN) [0, 1, 2] [] (br := []) (bs' := [zXo ax zn sa la tr tc X, zSa K sa f, zSO n so sc D]) (st := []) (nA := 1) (zsp rfl rfl rfl) (zsp rfl rfl rfl) 0 0 rfl rfl rfl rfl gX4_siteFor_X4_nearestSite rfl (by decide +kernel) ⟨Nat.le_of_ble_eq_true rfl, Nat.le_of_ble_eq_true rfl⟩ rfl rfl (Nat.le_of_ble_eq_true rfl) ⟨Nat.le_of_ble_eq_true rfl, Nat.le_of_ble_eq_true rfl⟩ dX4_siteFor_9 z_noX (fun _ => ?_)
  refine z_astore_nN B (lv' := [(2, .null), (0, .ref ax), (1, .int x1)]) dX4_siteFor_12 (by decide) rfl ?_
  refine z_aload_nN B dX4_siteFor_13 0 rfl ?_
  refine z_ifnonnullN B dX4_siteFor_14 ?_
  refine z_bipush B (v := (-3)) dX4_siteFor_17 rfl ?_
  refine z_goto B (tgt := 26) dX4_siteFor_19 (by decide) ?_
  have hF : fX4_siteFor_om D x1 = (-3) := rfl
  exact z_ret1 B rfl dX4_siteFor_26 () (trivial) (Nat.le_of_ble_eq_true rfl) (Nat.le_of_ble_eq_true rfl) (by rw [hF]) (by rw [hF])
def fX4_siteAsked_oh (D : Nat → Nat → Int32) (i : Nat) (x1 : Int32) (x2 : Int32) : Unit :=
  ()
set_option maxHeartbeats 4000000 in
set_option maxRecDepth 100000 in
theorem kX4_siteAsked_oh (l : Launch) (hl : l.stackTraces = false) (K : zK) (ax : Nat) (zn : Nat) (sa : Nat) (la : Nat) (tr : Nat) (tc : Nat) (X : Nat → Int32) (f : Nat → Option Nat) (n : Nat) (so : Nat → Nat) (sc : Nat → Nat → Nat) (D : Nat → Nat → Int32) (i : Nat) (x1 : Int32) (x2 : Int32) (hf1 : ∀ a, a < n → f a = some (so a)) (hf2 : ∀ a, n ≤ a → a < 4 → f a = none) (hi : i < n) (hN : fX4_near n D x1 = some i) (q0 : ¬ x2 < 0) (q1 : x2 < 16) (r0 : ¬ x1 < 0) (r1 : x1 ≤ 99) : zMet l K yX4_siteAsked wsX4_siteAsked { frames := 3, cells := 0, slots := 0, locals := 60 } [.ref ax, .int x1, .int x2] [zXo ax zn sa la tr tc X, zSa K sa f, zSO n so sc D] (some (.ref (so i))) [zXo ax zn sa la tr tc X, zSa K sa f, zSO n so sc D] True zNo := by
  refine zMeN.of (cc := cX4_siteAsked) (maxL := 4) (ret := (some (.object "ResolverFleet$Site"))) (own := RX4) (nm := "siteAsked") hl (by decide +kernel) rfl rfl rfl (Nat.le_of_ble_eq_true rfl) (lv := [(0, .ref ax), (1, .int x1), (2, .int x2)]) rfl ?_
  intro p e s m args below meth c A B
  refine z_iload_n B dX4_siteAsked_0 2 rfl ?_
  refine z_S0 B (kX4_requireName_o l hl K x2 q0 q1) [] [0, 1, 2] (br := [zXo ax zn sa la tr tc X, zSa K sa f, zSO n so sc D]) (bs' := [zXo ax zn sa la tr tc X, zSa K sa f, zSO n so sc D]) (st := []) (nA := 1) (zsp rfl rfl rfl) (zsp rfl rfl rfl) gX4_siteAsked_X4_requireName rfl (by decide +kernel) ⟨Nat.le_of_ble_eq_true rfl, Nat.le_of_ble_eq_true rfl⟩ rfl rfl (Nat.le_of_ble_eq_true rfl) ⟨Nat.le_of_ble_eq_true rfl, Nat.le_of_ble_eq_true rfl⟩ dX4_siteAsked_1 z_noX (fun _ => ?_)
  refine z_iload_n B dX4_siteAsked_4 1 rfl ?_
  refine z_iconst B (v := 0) dX4_siteAsked_5 rfl ?_
  refine z_bipush B (v := 99) dX4_siteAsked_6 rfl ?_
  refine z_S0 B (kX4_requireWithin_o l hl K x1 0 99 r0 r1) [] [0, 1, 2] (br := [zXo ax zn sa la tr tc X, zSa K sa f, zSO n so sc D]) (bs' := [zXo ax zn sa la tr tc X, zSa K sa f, zSO n so sc D]) (st := []) (nA := 3) (zsp rfl rfl rfl) (zsp rfl rfl rfl) gX4_siteAsked_X4_requireWithin rfl (by decide +kernel) ⟨Nat.le_of_ble_eq_true rfl, Nat.le_of_ble_eq_true rfl⟩ rfl rfl (Nat.le_of_ble_eq_true rfl) ⟨Nat.le_of_ble_eq_true rfl, Nat.le_of_ble_eq_true rfl⟩ dX4_siteAsked_8 z_noX (fun _ => ?_)
  refine z_aload_n B dX4_siteAsked_11 0 rfl ?_
  refine z_iload_n B dX4_siteAsked_12 1 rfl ?_
  refine z_V1 B (kX4_nearestSite_h l hl K ax zn sa la tr tc X f n so sc D i x1 hf1 hf2 hN) [0, 1, 2] [] (br := []) (bs' := [zXo ax zn sa la tr tc X, zSa K sa f, zSO n so sc D]) (st := []) (nA := 1) (zsp rfl rfl rfl) (zsp rfl rfl rfl) 0 0 rfl rfl rfl rfl gX4_siteAsked_X4_nearestSite rfl (by decide +kernel) ⟨Nat.le_of_ble_eq_true rfl, Nat.le_of_ble_eq_true rfl⟩ rfl rfl (Nat.le_of_ble_eq_true rfl) ⟨Nat.le_of_ble_eq_true rfl, Nat.le_of_ble_eq_true rfl⟩ dX4_siteAsked_13 z_noX (fun _ => ?_)
  refine z_astore_n B (lv' := [(3, .ref (so i)), (0, .ref ax), (1, .int x1), (2, .int x2)]) dX4_siteAsked_16 (by decide) rfl ?_
  refine z_aload_n B dX4_siteAsked_17 0 rfl ?_
  refine z_ifnonnull B 31 dX4_siteAsked_18 (by decide) ?_
  refine z_aload_n B dX4_siteAsked_31 0 rfl ?_
  have hF : fX4_siteAsked_oh D i x1 x2 = () := rfl
  exact z_reta B (Or.inr ⟨_, rfl⟩) dX4_siteAsked_32 () (trivial) (Nat.le_of_ble_eq_true rfl) (Nat.le_of_ble_eq_true rfl) rfl rfl
def fX4_siteAsked_om (D : Nat → Nat → Int32) (x1 : Int32) (x2 : Int32) : Nat :=
  3
set_option maxHeartbeats 4000000 in
set_option maxRecDepth 100000 in
theorem kX4_siteAsked_om (l : Launch) (hl : l.stackTraces = false) (K : zK) (ax : Nat) (zn : Nat) (sa : Nat) (la : Nat) (tr : Nat) (tc : Nat) (X : Nat → Int32) (f : Nat → Option Nat) (n : Nat) (so : Nat → Nat) (sc : Nat → Nat → Nat) (D : Nat → Nat → Int32) (x1 : Int32) (x2 : Int32) (hf1 : ∀ a, a < n → f a = some (so a)) (hf2 : ∀ a, n ≤ a → a < 4 → f a = none) (hN : fX4_near n D x1 = none) (q0 : ¬ x2 < 0) (q1 : x2 < 16) (r0 : ¬ x1 < 0) (r1 : x1 ≤ 99) : zMet l K yX4_siteAsked wsX4_siteAsked { frames := 6, cells := 1, slots := 6, locals := 82 } [.ref ax, .int x1, .int x2] [zXo ax zn sa la tr tc X, zSa K sa f, zSO n so sc D] (some .null) [zXo ax zn sa la tr tc X, zSa K sa f, zSO n so sc D] False (fun E => (E = zE3 ∧ (fX4_siteAsked_om D x1 x2) = 3)) := by
  refine zMeN.of (cc := cX4_siteAsked) (maxL := 4) (ret := (some (.object "ResolverFleet$Site"))) (own := RX4) (nm := "siteAsked") hl (by decide +kernel) rfl rfl rfl (Nat.le_of_ble_eq_true rfl) (lv := [(0, .ref ax), (1, .int x1), (2, .int x2)]) rfl ?_
  intro p e s m args below meth c A B
  refine z_iload_n B dX4_siteAsked_0 2 rfl ?_
  refine z_S0 B (kX4_requireName_o l hl K x2 q0 q1) [] [0, 1, 2] (br := [zXo ax zn sa la tr tc X, zSa K sa f, zSO n so sc D]) (bs' := [zXo ax zn sa la tr tc X, zSa K sa f, zSO n so sc D]) (st := []) (nA := 1) (zsp rfl rfl rfl) (zsp rfl rfl rfl) gX4_siteAsked_X4_requireName rfl (by decide +kernel) ⟨Nat.le_of_ble_eq_true rfl, Nat.le_of_ble_eq_true rfl⟩ rfl rfl (Nat.le_of_ble_eq_true rfl) ⟨Nat.le_of_ble_eq_true rfl, Nat.le_of_ble_eq_true rfl⟩ dX4_siteAsked_1 z_noX (fun _ => ?_)
  refine z_iload_n B dX4_siteAsked_4 1 rfl ?_
  refine z_iconst B (v := 0) dX4_siteAsked_5 rfl ?_
  refine z_bipush B (v := 99) dX4_siteAsked_6 rfl ?_
  refine z_S0 B (kX4_requireWithin_o l hl K x1 0 99 r0 r1) [] [0, 1, 2] (br := [zXo ax zn sa la tr tc X, zSa K sa f, zSO n so sc D]) (bs' := [zXo ax zn sa la tr tc X, zSa K sa f, zSO n so sc D]) (st := []) (nA := 3) (zsp rfl rfl rfl) (zsp rfl rfl rfl) gX4_siteAsked_X4_requireWithin rfl (by decide +kernel) ⟨Nat.le_of_ble_eq_true rfl, Nat.le_of_ble_eq_true rfl⟩ rfl rfl (Nat.le_of_ble_eq_true rfl) ⟨Nat.le_of_ble_eq_true rfl, Nat.le_of_ble_eq_true rfl⟩ dX4_siteAsked_8 z_noX (fun _ => ?_)
  refine z_aload_n B dX4_siteAsked_11 0 rfl ?_
  refine z_iload_n B dX4_siteAsked_12 1 rfl ?_
  refine z_V1 B (kX4_nearestSite_m l hl K ax zn sa la tr tc X f n so sc D x1 hf1 hf2 hN) [0, 1, 2] [] (br := []) (bs' := [zXo ax zn sa la tr tc X, zSa K sa f, zSO n so sc D]) (st := []) (nA := 1) (zsp rfl rfl rfl) (zsp rfl rfl rfl) 0 0 rfl rfl rfl rfl gX4_siteAsked_X4_nearestSite rfl (by decide +kernel) ⟨Nat.le_of_ble_eq_true rfl, Nat.le_of_ble_eq_true rfl⟩ rfl rfl (Nat.le_of_ble_eq_true rfl) ⟨Nat.le_of_ble_eq_true rfl, Nat.le_of_ble_eq_true rfl⟩ dX4_siteAsked_13 z_noX (fun _ => ?_)
  refine z_astore_nN B (lv' := [(3, .null), (0, .ref ax), (1, .int x1), (2, .int x2)]) dX4_siteAsked_16 (by decide) rfl ?_
  refine z_aload_nN B dX4_siteAsked_17 0 rfl ?_
  refine z_ifnonnullN B dX4_siteAsked_18 ?_
  have hF : fX4_siteAsked_om D x1 x2 = 3 := rfl
  exact z_throw B rfl ["java/lang/RuntimeException", "java/lang/Exception"] (by decide +kernel) (by decide +kernel) hwX4_siteAsked_cl79 hwX4_siteAsked_ini79 (text := "no site is announced") (by decide +kernel) haX4_siteAsked_83 hgX4_siteAsked_83 hoX4_siteAsked_83 dX4_siteAsked_21 dX4_siteAsked_24 dX4_siteAsked_25 dX4_siteAsked_27 dX4_siteAsked_30 (by decide) (Nat.le_of_ble_eq_true rfl) (Nat.le_of_ble_eq_true rfl) (Nat.le_of_ble_eq_true rfl) (⟨rfl, by rw [hF]⟩) (Nat.le_of_ble_eq_true rfl) (Nat.le_of_ble_eq_true rfl)
def fX4_query_oh (X : Nat → Int32) (D : Nat → Nat → Int32) (i : Nat) (C : Nat → Nat → Int32) (Z : Nat → Nat → Int32) (W : Nat → Int32) (F : Nat → Int32) (O : Nat → Int32) (x1 : Int32) (x2 : Int32) : Int32 × (Nat → Int32) × (Nat → Nat → Int32) × (Nat → Int32) × (Nat → Int32) :=
  (((fX4_resolve X Z W C F O x2).1), (fX4_countQuery (va_up X 5 (D i 0)) ((fX4_resolve X Z W C F O x2).2.2.1) ((fX4_fetchHotAnew X Z W ((fX4_resolve X Z W C F O x2).2.1) ((fX4_resolve X Z W C F O x2).2.2.1) ((fX4_resolve X Z W C F O x2).2.2.2)).2) ((fX4_resolve X Z W C F O x2).1)), ((fX4_fetchHotAnew X Z W ((fX4_resolve X Z W C F O x2).2.1) ((fX4_resolve X Z W C F O x2).2.2.1) ((fX4_resolve X Z W C F O x2).2.2.2)).1), ((fX4_resolve X Z W C F O x2).2.2.1), ((fX4_fetchHotAnew X Z W ((fX4_resolve X Z W C F O x2).2.1) ((fX4_resolve X Z W C F O x2).2.2.1) ((fX4_resolve X Z W C F O x2).2.2.2)).2))
set_option maxHeartbeats 4000000 in
set_option maxRecDepth 100000 in
theorem kX4_query_oh (l : Launch) (hl : l.stackTraces = false) (K : zK) (ax : Nat) (az : Nat → Nat) (sa : Nat) (ak : Nat → Nat) (tr : Nat) (tc : Nat) (X : Nat → Int32) (f : Nat → Option Nat) (n : Nat) (so : Nat → Nat) (sc : Nat → Nat → Nat) (D : Nat → Nat → Int32) (i : Nat) (C : Nat → Nat → Int32) (Z : Nat → Nat → Int32) (W : Nat → Int32) (F : Nat → Int32) (O : Nat → Int32) (x1 : Int32) (x2 : Int32) (hf1 : ∀ a, a < n → f a = some (so a)) (hf2 : ∀ a, n ≤ a → a < 4 → f a = none) (hi : i < n) (hN : fX4_near n D x1 = some i) (q0 : ¬ x2 < 0) (q1 : x2 < 16) (r0 : ¬ x1 < 0) (r1 : x1 ≤ 99) : zMet l K yX4_query wsX4_query { frames := 6, cells := 0, slots := 0, locals := 140 } [.ref ax, .int x1, .int x2] [zXo ax (az 0) sa (ak 0) tr tc X, zSa K sa f, zSO n so sc D, zCa K (sc i) C, zZo K az Z W, zCo K ak F O] (some (.int ((fX4_query_oh X D i C Z W F O x1 x2).1))) [zXo ax (az 0) sa (ak 0) tr tc ((fX4_query_oh X D i C Z W F O x1 x2).2.1), zSa K sa f, zSO n so sc D, zCa K (sc i) ((fX4_query_oh X D i C Z W F O x1 x2).2.2.1), zZo K az Z W, zCo K ak ((fX4_query_oh X D i C Z W F O x1 x2).2.2.2.1) ((fX4_query_oh X D i C Z W F O x1 x2).2.2.2.2)] True zNo := by
  refine zMeN.of (cc := cX4_query) (maxL := 5) (ret := (some .int)) (own := RX4) (nm := "query") hl (by decide +kernel) rfl rfl rfl (Nat.le_of_ble_eq_true rfl) (lv := [(0, .ref ax), (1, .int x1), (2, .int x2)]) rfl ?_
  intro p e s m args below meth c A B
  refine z_aload_n B dX4_query_0 0 rfl ?_
  refine z_iload_n B dX4_query_1 1 rfl ?_
  refine z_iload_n B dX4_query_2 2 rfl ?_
  refine z_V1 B (kX4_siteAsked_oh l hl K ax (az 0) sa (ak 0) tr tc X f n so sc D i x1 x2 hf1 hf2 hi hN q0 q1 r0 r1) [0, 1, 2] [3, 4, 5] (br := [zCa K (sc i) C, zZo K az Z W, zCo K ak F O]) (bs' := [zXo ax (az 0) sa (ak 0) tr tc X, zSa K sa f, zSO n so sc D, zCa K (sc i) C, zZo K az Z W, zCo K ak F O]) (st := []) (nA := 2) (zsp rfl rfl rfl) (zsp rfl rfl rfl) 0 0 rfl rfl rfl rfl gX4_query_X4_siteAsked rfl (by decide +kernel) ⟨Nat.le_of_ble_eq_true rfl, Nat.le_of_ble_eq_true rfl⟩ rfl rfl (Nat.le_of_ble_eq_true rfl) ⟨Nat.le_of_ble_eq_true rfl, Nat.le_of_ble_eq_true rfl⟩ dX4_query_3 z_noX (fun _ => ?_)
  refine z_astore_n B (lv' := [(3, .ref (so i)), (0, .ref ax), (1, .int x1), (2, .int x2)]) dX4_query_6 (by decide) rfl ?_
  refine z_aload_n B dX4_query_7 1 rfl ?_
  refine z_aload_n B dX4_query_8 0 rfl ?_
  refine z_get B (v := .ref ((sc i) 0)) 2 i 2 hiX4_query_2 hfX4_query_115 rfl (zSO_get hi) rfl (by decide) rfl rfl rfl rfl dX4_query_9 ?_
  refine z_iload_n B dX4_query_12 3 rfl ?_
  refine z_aload_n B dX4_query_13 1 rfl ?_
  refine z_get B (v := .ref (ak 0)) 0 0 4 hiX4_query_4 hfX4_query_25 rfl rfl rfl (by decide) rfl rfl rfl rfl dX4_query_14 ?_
  refine z_V1 B (kX4_resolve l hl K ax az sa (ak 0) tr tc X Z W (sc i) C ak F O x2) [0, 4, 3, 5] [1, 2] (br := [zSa K sa f, zSO n so sc D]) (bs' := [zXo ax (az 0) sa (ak 0) tr tc X, zSa K sa f, zSO n so sc D, zCa K (sc i) ((fX4_resolve X Z W C F O x2).2.1), zZo K az Z W, zCo K ak ((fX4_resolve X Z W C F O x2).2.2.1) ((fX4_resolve X Z W C F O x2).2.2.2)]) (st := []) (nA := 3) (zsp rfl rfl rfl) (zsp rfl rfl rfl) 0 0 rfl rfl rfl rfl gX4_query_X4_resolve rfl (by decide +kernel) ⟨Nat.le_of_ble_eq_true rfl, Nat.le_of_ble_eq_true rfl⟩ rfl rfl (Nat.le_of_ble_eq_true rfl) ⟨Nat.le_of_ble_eq_true rfl, Nat.le_of_ble_eq_true rfl⟩ dX4_query_17 z_noX (fun _ => ?_)
  refine z_istore B (lv' := [(4, .int ((fX4_resolve X Z W C F O x2).1)), (3, .ref (so i)), (0, .ref ax), (1, .int x1), (2, .int x2)]) dX4_query_20 (by decide) rfl ?_
  refine z_aload_n B dX4_query_22 2 rfl ?_
  refine z_aload_n B dX4_query_23 1 rfl ?_
  refine z_get B (v := .ref ((sc i) 0)) 2 i 2 hiX4_query_2 hfX4_query_115 rfl (zSO_get hi) rfl (by decide) rfl rfl rfl rfl dX4_query_24 ?_
  refine z_aload_n B dX4_query_27 2 rfl ?_
  refine z_get B (v := .ref (ak 0)) 0 0 4 hiX4_query_4 hfX4_query_25 rfl rfl rfl (by decide) rfl rfl rfl rfl dX4_query_28 ?_
  refine z_V0 B (kX4_fetchHotAnew l hl K ax az sa (ak 0) tr tc X Z W (sc i) ((fX4_resolve X Z W C F O x2).2.1) ak ((fX4_resolve X Z W C F O x2).2.2.1) ((fX4_resolve X Z W C F O x2).2.2.2) z_resO) [0, 4, 3, 5] [1, 2] (br := [zSa K sa f, zSO n so sc D]) (bs' := [zXo ax (az 0) sa (ak 0) tr tc X, zSa K sa f, zSO n so sc D, zCa K (sc i) ((fX4_fetchHotAnew X Z W ((fX4_resolve X Z W C F O x2).2.1) ((fX4_resolve X Z W C F O x2).2.2.1) ((fX4_resolve X Z W C F O x2).2.2.2)).1), zZo K az Z W, zCo K ak ((fX4_resolve X Z W C F O x2).2.2.1) ((fX4_fetchHotAnew X Z W ((fX4_resolve X Z W C F O x2).2.1) ((fX4_resolve X Z W C F O x2).2.2.1) ((fX4_resolve X Z W C F O x2).2.2.2)).2)]) (st := []) (nA := 2) (zsp rfl rfl rfl) (zsp rfl rfl rfl) 0 0 rfl rfl rfl rfl gX4_query_X4_fetchHotAnew rfl (by decide +kernel) ⟨Nat.le_of_ble_eq_true rfl, Nat.le_of_ble_eq_true rfl⟩ rfl rfl (Nat.le_of_ble_eq_true rfl) ⟨Nat.le_of_ble_eq_true rfl, Nat.le_of_ble_eq_true rfl⟩ dX4_query_31 z_noX (fun _ => ?_)
  refine z_aload_n B dX4_query_34 2 rfl ?_
  refine z_aload_n B dX4_query_35 1 rfl ?_
  refine z_get B (v := .int (D i 0)) 2 i 0 hiX4_query_2 hfX4_query_97 rfl (zSO_get hi) rfl (by decide) rfl rfl rfl rfl dX4_query_36 ?_
  refine z_put B 0 0 5 hiX4_query_4 hfX4_query_29 tyX4_ok nmX4 rfl rfl rfl (by decide) rfl rfl rfl rfl rfl rfl rfl (Nat.le_of_ble_eq_true rfl) (bs' := [zXo ax (az 0) sa (ak 0) tr tc (va_up X 5 (D i 0)), zSa K sa f, zSO n so sc D, zCa K (sc i) ((fX4_fetchHotAnew X Z W ((fX4_resolve X Z W C F O x2).2.1) ((fX4_resolve X Z W C F O x2).2.2.1) ((fX4_resolve X Z W C F O x2).2.2.2)).1), zZo K az Z W, zCo K ak ((fX4_resolve X Z W C F O x2).2.2.1) ((fX4_fetchHotAnew X Z W ((fX4_resolve X Z W C F O x2).2.1) ((fX4_resolve X Z W C F O x2).2.2.1) ((fX4_resolve X Z W C F O x2).2.2.2)).2)]) rfl dX4_query_39 ?_
  refine z_aload_n B dX4_query_42 2 rfl ?_
  refine z_iload B dX4_query_43 0 rfl ?_
  refine z_V0 B (kX4_countQuery l hl K ax (az 0) sa ak tr tc (va_up X 5 (D i 0)) ((fX4_resolve X Z W C F O x2).2.2.1) ((fX4_fetchHotAnew X Z W ((fX4_resolve X Z W C F O x2).2.1) ((fX4_resolve X Z W C F O x2).2.2.1) ((fX4_resolve X Z W C F O x2).2.2.2)).2) ((fX4_resolve X Z W C F O x2).1)) [0, 5] [1, 2, 3, 4] (br := [zSa K sa f, zSO n so sc D, zCa K (sc i) ((fX4_fetchHotAnew X Z W ((fX4_resolve X Z W C F O x2).2.1) ((fX4_resolve X Z W C F O x2).2.2.1) ((fX4_resolve X Z W C F O x2).2.2.2)).1), zZo K az Z W]) (bs' := [zXo ax (az 0) sa (ak 0) tr tc (fX4_countQuery (va_up X 5 (D i 0)) ((fX4_resolve X Z W C F O x2).2.2.1) ((fX4_fetchHotAnew X Z W ((fX4_resolve X Z W C F O x2).2.1) ((fX4_resolve X Z W C F O x2).2.2.1) ((fX4_resolve X Z W C F O x2).2.2.2)).2) ((fX4_resolve X Z W C F O x2).1)), zSa K sa f, zSO n so sc D, zCa K (sc i) ((fX4_fetchHotAnew X Z W ((fX4_resolve X Z W C F O x2).2.1) ((fX4_resolve X Z W C F O x2).2.2.1) ((fX4_resolve X Z W C F O x2).2.2.2)).1), zZo K az Z W, zCo K ak ((fX4_resolve X Z W C F O x2).2.2.1) ((fX4_fetchHotAnew X Z W ((fX4_resolve X Z W C F O x2).2.1) ((fX4_resolve X Z W C F O x2).2.2.1) ((fX4_resolve X Z W C F O x2).2.2.2)).2)]) (st := []) (nA := 1) (zsp rfl rfl rfl) (zsp rfl rfl rfl) 0 0 rfl rfl rfl rfl gX4_query_X4_countQuery rfl (by decide +kernel) ⟨Nat.le_of_ble_eq_true rfl, Nat.le_of_ble_eq_true rfl⟩ rfl rfl (Nat.le_of_ble_eq_true rfl) ⟨Nat.le_of_ble_eq_true rfl, Nat.le_of_ble_eq_true rfl⟩ dX4_query_45 z_noX (fun _ => ?_)
  refine z_iload B dX4_query_48 0 rfl ?_
  have hF : fX4_query_oh X D i C Z W F O x1 x2 = (((fX4_resolve X Z W C F O x2).1), (fX4_countQuery (va_up X 5 (D i 0)) ((fX4_resolve X Z W C F O x2).2.2.1) ((fX4_fetchHotAnew X Z W ((fX4_resolve X Z W C F O x2).2.1) ((fX4_resolve X Z W C F O x2).2.2.1) ((fX4_resolve X Z W C F O x2).2.2.2)).2) ((fX4_resolve X Z W C F O x2).1)), ((fX4_fetchHotAnew X Z W ((fX4_resolve X Z W C F O x2).2.1) ((fX4_resolve X Z W C F O x2).2.2.1) ((fX4_resolve X Z W C F O x2).2.2.2)).1), ((fX4_resolve X Z W C F O x2).2.2.1), ((fX4_fetchHotAnew X Z W ((fX4_resolve X Z W C F O x2).2.1) ((fX4_resolve X Z W C F O x2).2.2.1) ((fX4_resolve X Z W C F O x2).2.2.2)).2)) := rfl
  exact z_ret1 B rfl dX4_query_50 () (trivial) (Nat.le_of_ble_eq_true rfl) (Nat.le_of_ble_eq_true rfl) (by rw [hF]) (by rw [hF])
def fX4_query_om (D : Nat → Nat → Int32) (x1 : Int32) (x2 : Int32) : Nat × Int32 :=
  ((fX4_siteAsked_om D x1 x2), 0)
set_option maxHeartbeats 4000000 in
set_option maxRecDepth 100000 in
theorem kX4_query_om (l : Launch) (hl : l.stackTraces = false) (K : zK) (ax : Nat) (zn : Nat) (sa : Nat) (la : Nat) (tr : Nat) (tc : Nat) (X : Nat → Int32) (f : Nat → Option Nat) (n : Nat) (so : Nat → Nat) (sc : Nat → Nat → Nat) (D : Nat → Nat → Int32) (x1 : Int32) (x2 : Int32) (hf1 : ∀ a, a < n → f a = some (so a)) (hf2 : ∀ a, n ≤ a → a < 4 → f a = none) (hN : fX4_near n D x1 = none) (q0 : ¬ x2 < 0) (q1 : x2 < 16) (r0 : ¬ x1 < 0) (r1 : x1 ≤ 99) : zMet l K yX4_query wsX4_query { frames := 7, cells := 1, slots := 6, locals := 105 } [.ref ax, .int x1, .int x2] [zXo ax zn sa la tr tc X, zSa K sa f, zSO n so sc D] (some (.int ((fX4_query_om D x1 x2).2))) [zXo ax zn sa la tr tc X, zSa K sa f, zSO n so sc D] False (fun E => (E = zE3 ∧ (fX4_query_om D x1 x2).1 = 3)) := by
  refine zMeN.of (cc := cX4_query) (maxL := 5) (ret := (some .int)) (own := RX4) (nm := "query") hl (by decide +kernel) rfl rfl rfl (Nat.le_of_ble_eq_true rfl) (lv := [(0, .ref ax), (1, .int x1), (2, .int x2)]) rfl ?_
  intro p e s m args below meth c A B
  refine z_aload_n B dX4_query_0 0 rfl ?_
  refine z_iload_n B dX4_query_1 1 rfl ?_
  refine z_iload_n B dX4_query_2 2 rfl ?_
  refine z_V1 B (kX4_siteAsked_om l hl K ax zn sa la tr tc X f n so sc D x1 x2 hf1 hf2 hN q0 q1 r0 r1) [0, 1, 2] [] (br := []) (bs' := [zXo ax zn sa la tr tc X, zSa K sa f, zSO n so sc D]) (st := []) (nA := 2) (zsp rfl rfl rfl) (zsp rfl rfl rfl) 0 0 rfl rfl rfl rfl gX4_query_X4_siteAsked rfl (by decide +kernel) ⟨Nat.le_of_ble_eq_true rfl, Nat.le_of_ble_eq_true rfl⟩ rfl rfl (Nat.le_of_ble_eq_true rfl) ⟨Nat.le_of_ble_eq_true rfl, Nat.le_of_ble_eq_true rfl⟩ dX4_query_3 (fun E hE => ?_) (fun h9 => h9.elim)
  · rcases hE with ⟨rfl, hx⟩
    · have hF : fX4_query_om D x1 x2 = (3, 0) := (show ((fX4_siteAsked_om D x1 x2), 0) = (3, 0) by rw [hx])
      exact z_out B (⟨rfl, by rw [hF]⟩) (Nat.le_of_ble_eq_true rfl) (Nat.le_of_ble_eq_true rfl)
def fX4_wouldAnswer_oh (X : Nat → Int32) (D : Nat → Nat → Int32) (i : Nat) (C : Nat → Nat → Int32) (Z : Nat → Nat → Int32) (W : Nat → Int32) (F : Nat → Int32) (O : Nat → Int32) (Tc : Nat → Nat → Int32) (x1 : Int32) (x2 : Int32) : Int32 × (Nat → Int32) × (Nat → Int32) × (Nat → Nat → Int32) :=
  (((fX4_resolve X Z W (fX0_copyFrom Tc C) F O x2).1), ((fX4_resolve X Z W (fX0_copyFrom Tc C) F O x2).2.2.1), ((fX4_resolve X Z W (fX0_copyFrom Tc C) F O x2).2.2.2), ((fX4_resolve X Z W (fX0_copyFrom Tc C) F O x2).2.1))
set_option maxHeartbeats 4000000 in
set_option maxRecDepth 100000 in
theorem kX4_wouldAnswer_oh (l : Launch) (hl : l.stackTraces = false) (K : zK) (ax : Nat) (az : Nat → Nat) (sa : Nat) (la : Nat) (ak : Nat → Nat) (ad : Nat → Nat) (X : Nat → Int32) (f : Nat → Option Nat) (n : Nat) (so : Nat → Nat) (sc : Nat → Nat → Nat) (D : Nat → Nat → Int32) (i : Nat) (C : Nat → Nat → Int32) (Z : Nat → Nat → Int32) (W : Nat → Int32) (F : Nat → Int32) (O : Nat → Int32) (Tc : Nat → Nat → Int32) (x1 : Int32) (x2 : Int32) (hf1 : ∀ a, a < n → f a = some (so a)) (hf2 : ∀ a, n ≤ a → a < 4 → f a = none) (hi : i < n) (hN : fX4_near n D x1 = some i) (q0 : ¬ x2 < 0) (q1 : x2 < 16) (r0 : ¬ x1 < 0) (r1 : x1 ≤ 99) : zMet l K yX4_wouldAnswer wsX4_wouldAnswer { frames := 6, cells := 0, slots := 0, locals := 140 } [.ref ax, .int x1, .int x2] [zXo ax (az 0) sa la (ak 0) (ad 0) X, zSa K sa f, zSO n so sc D, zCa K (sc i) C, zZo K az Z W, zCo K ak F O, zCa K ad Tc] (some (.int ((fX4_wouldAnswer_oh X D i C Z W F O Tc x1 x2).1))) [zXo ax (az 0) sa la (ak 0) (ad 0) X, zSa K sa f, zSO n so sc D, zCa K (sc i) C, zZo K az Z W, zCo K ak ((fX4_wouldAnswer_oh X D i C Z W F O Tc x1 x2).2.1) ((fX4_wouldAnswer_oh X D i C Z W F O Tc x1 x2).2.2.1), zCa K ad ((fX4_wouldAnswer_oh X D i C Z W F O Tc x1 x2).2.2.2)] True zNo := by
  refine zMeN.of (cc := cX4_wouldAnswer) (maxL := 4) (ret := (some .int)) (own := RX4) (nm := "wouldAnswer") hl (by decide +kernel) rfl rfl rfl (Nat.le_of_ble_eq_true rfl) (lv := [(0, .ref ax), (1, .int x1), (2, .int x2)]) rfl ?_
  intro p e s m args below meth c A B
  refine z_aload_n B dX4_wouldAnswer_0 0 rfl ?_
  refine z_iload_n B dX4_wouldAnswer_1 1 rfl ?_
  refine z_iload_n B dX4_wouldAnswer_2 2 rfl ?_
  refine z_V1 B (kX4_siteAsked_oh l hl K ax (az 0) sa la (ak 0) (ad 0) X f n so sc D i x1 x2 hf1 hf2 hi hN q0 q1 r0 r1) [0, 1, 2] [3, 4, 5, 6] (br := [zCa K (sc i) C, zZo K az Z W, zCo K ak F O, zCa K ad Tc]) (bs' := [zXo ax (az 0) sa la (ak 0) (ad 0) X, zSa K sa f, zSO n so sc D, zCa K (sc i) C, zZo K az Z W, zCo K ak F O, zCa K ad Tc]) (st := []) (nA := 2) (zsp rfl rfl rfl) (zsp rfl rfl rfl) 0 0 rfl rfl rfl rfl gX4_wouldAnswer_X4_siteAsked rfl (by decide +kernel) ⟨Nat.le_of_ble_eq_true rfl, Nat.le_of_ble_eq_true rfl⟩ rfl rfl (Nat.le_of_ble_eq_true rfl) ⟨Nat.le_of_ble_eq_true rfl, Nat.le_of_ble_eq_true rfl⟩ dX4_wouldAnswer_3 z_noX (fun _ => ?_)
  refine z_astore_n B (lv' := [(3, .ref (so i)), (0, .ref ax), (1, .int x1), (2, .int x2)]) dX4_wouldAnswer_6 (by decide) rfl ?_
  refine z_aload_n B dX4_wouldAnswer_7 1 rfl ?_
  refine z_get B (v := .ref (ad 0)) 0 0 7 hiX4_wouldAnswer_4 hfX4_wouldAnswer_39 rfl rfl rfl (by decide) rfl rfl rfl rfl dX4_wouldAnswer_8 ?_
  refine z_aload_n B dX4_wouldAnswer_11 0 rfl ?_
  refine z_get B (v := .ref ((sc i) 0)) 2 i 2 hiX4_wouldAnswer_2 hfX4_wouldAnswer_115 rfl (zSO_get hi) rfl (by decide) rfl rfl rfl rfl dX4_wouldAnswer_12 ?_
  refine z_V0 B (kX0_copyFrom l hl K ad Tc (sc i) C) [6, 3] [0, 1, 2, 4, 5] (br := [zXo ax (az 0) sa la (ak 0) (ad 0) X, zSa K sa f, zSO n so sc D, zZo K az Z W, zCo K ak F O]) (bs' := [zXo ax (az 0) sa la (ak 0) (ad 0) X, zSa K sa f, zSO n so sc D, zCa K (sc i) C, zZo K az Z W, zCo K ak F O, zCa K ad (fX0_copyFrom Tc C)]) (st := []) (nA := 1) (zsp rfl rfl rfl) (zsp rfl rfl rfl) 6 0 rfl rfl rfl rfl gX4_wouldAnswer_X0_copyFrom rfl (by decide +kernel) ⟨Nat.le_of_ble_eq_true rfl, Nat.le_of_ble_eq_true rfl⟩ rfl rfl (Nat.le_of_ble_eq_true rfl) ⟨Nat.le_of_ble_eq_true rfl, Nat.le_of_ble_eq_true rfl⟩ dX4_wouldAnswer_15 z_noX (fun _ => ?_)
  refine z_aload_n B dX4_wouldAnswer_18 1 rfl ?_
  refine z_aload_n B dX4_wouldAnswer_19 1 rfl ?_
  refine z_get B (v := .ref (ad 0)) 0 0 7 hiX4_wouldAnswer_4 hfX4_wouldAnswer_39 rfl rfl rfl (by decide) rfl rfl rfl rfl dX4_wouldAnswer_20 ?_
  refine z_iload_n B dX4_wouldAnswer_23 3 rfl ?_
  refine z_aload_n B dX4_wouldAnswer_24 1 rfl ?_
  refine z_get B (v := .ref (ak 0)) 0 0 6 hiX4_wouldAnswer_4 hfX4_wouldAnswer_33 rfl rfl rfl (by decide) rfl rfl rfl rfl dX4_wouldAnswer_25 ?_
  refine z_V1 B (kX4_resolve l hl K ax az sa la (ak 0) (ad 0) X Z W ad (fX0_copyFrom Tc C) ak F O x2) [0, 4, 6, 5] [1, 2, 3] (br := [zSa K sa f, zSO n so sc D, zCa K (sc i) C]) (bs' := [zXo ax (az 0) sa la (ak 0) (ad 0) X, zSa K sa f, zSO n so sc D, zCa K (sc i) C, zZo K az Z W, zCo K ak ((fX4_resolve X Z W (fX0_copyFrom Tc C) F O x2).2.2.1) ((fX4_resolve X Z W (fX0_copyFrom Tc C) F O x2).2.2.2), zCa K ad ((fX4_resolve X Z W (fX0_copyFrom Tc C) F O x2).2.1)]) (st := []) (nA := 3) (zsp rfl rfl rfl) (zsp rfl rfl rfl) 0 0 rfl rfl rfl rfl gX4_wouldAnswer_X4_resolve rfl (by decide +kernel) ⟨Nat.le_of_ble_eq_true rfl, Nat.le_of_ble_eq_true rfl⟩ rfl rfl (Nat.le_of_ble_eq_true rfl) ⟨Nat.le_of_ble_eq_true rfl, Nat.le_of_ble_eq_true rfl⟩ dX4_wouldAnswer_28 z_noX (fun _ => ?_)
  have hF : fX4_wouldAnswer_oh X D i C Z W F O Tc x1 x2 = (((fX4_resolve X Z W (fX0_copyFrom Tc C) F O x2).1), ((fX4_resolve X Z W (fX0_copyFrom Tc C) F O x2).2.2.1), ((fX4_resolve X Z W (fX0_copyFrom Tc C) F O x2).2.2.2), ((fX4_resolve X Z W (fX0_copyFrom Tc C) F O x2).2.1)) := rfl
  exact z_ret1 B rfl dX4_wouldAnswer_31 () (trivial) (Nat.le_of_ble_eq_true rfl) (Nat.le_of_ble_eq_true rfl) (by rw [hF]) (by rw [hF])
def fX4_wouldAnswer_om (D : Nat → Nat → Int32) (x1 : Int32) (x2 : Int32) : Nat × Int32 :=
  ((fX4_siteAsked_om D x1 x2), 0)
set_option maxHeartbeats 4000000 in
set_option maxRecDepth 100000 in
theorem kX4_wouldAnswer_om (l : Launch) (hl : l.stackTraces = false) (K : zK) (ax : Nat) (zn : Nat) (sa : Nat) (la : Nat) (tr : Nat) (tc : Nat) (X : Nat → Int32) (f : Nat → Option Nat) (n : Nat) (so : Nat → Nat) (sc : Nat → Nat → Nat) (D : Nat → Nat → Int32) (x1 : Int32) (x2 : Int32) (hf1 : ∀ a, a < n → f a = some (so a)) (hf2 : ∀ a, n ≤ a → a < 4 → f a = none) (hN : fX4_near n D x1 = none) (q0 : ¬ x2 < 0) (q1 : x2 < 16) (r0 : ¬ x1 < 0) (r1 : x1 ≤ 99) : zMet l K yX4_wouldAnswer wsX4_wouldAnswer { frames := 7, cells := 1, slots := 6, locals := 105 } [.ref ax, .int x1, .int x2] [zXo ax zn sa la tr tc X, zSa K sa f, zSO n so sc D] (some (.int ((fX4_wouldAnswer_om D x1 x2).2))) [zXo ax zn sa la tr tc X, zSa K sa f, zSO n so sc D] False (fun E => (E = zE3 ∧ (fX4_wouldAnswer_om D x1 x2).1 = 3)) := by
  refine zMeN.of (cc := cX4_wouldAnswer) (maxL := 4) (ret := (some .int)) (own := RX4) (nm := "wouldAnswer") hl (by decide +kernel) rfl rfl rfl (Nat.le_of_ble_eq_true rfl) (lv := [(0, .ref ax), (1, .int x1), (2, .int x2)]) rfl ?_
  intro p e s m args below meth c A B
  refine z_aload_n B dX4_wouldAnswer_0 0 rfl ?_
  refine z_iload_n B dX4_wouldAnswer_1 1 rfl ?_
  refine z_iload_n B dX4_wouldAnswer_2 2 rfl ?_
  refine z_V1 B (kX4_siteAsked_om l hl K ax zn sa la tr tc X f n so sc D x1 x2 hf1 hf2 hN q0 q1 r0 r1) [0, 1, 2] [] (br := []) (bs' := [zXo ax zn sa la tr tc X, zSa K sa f, zSO n so sc D]) (st := []) (nA := 2) (zsp rfl rfl rfl) (zsp rfl rfl rfl) 0 0 rfl rfl rfl rfl gX4_wouldAnswer_X4_siteAsked rfl (by decide +kernel) ⟨Nat.le_of_ble_eq_true rfl, Nat.le_of_ble_eq_true rfl⟩ rfl rfl (Nat.le_of_ble_eq_true rfl) ⟨Nat.le_of_ble_eq_true rfl, Nat.le_of_ble_eq_true rfl⟩ dX4_wouldAnswer_3 (fun E hE => ?_) (fun h9 => h9.elim)
  · rcases hE with ⟨rfl, hx⟩
    · have hF : fX4_wouldAnswer_om D x1 x2 = (3, 0) := (show ((fX4_siteAsked_om D x1 x2), 0) = (3, 0) by rw [hx])
      exact z_out B (⟨rfl, by rw [hF]⟩) (Nat.le_of_ble_eq_true rfl) (Nat.le_of_ble_eq_true rfl)
end
