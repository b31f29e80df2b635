/-! THE LAYER: one judgement 'zW' over a world that is a list of blocks of cells; rows a kind of instruction; contracts 'zMet' (returns or throws, the blocks in the same order before and behind). -/
abbrev zK : Type := va_G × (ClassId × ClassId × ClassId × ClassId)
abbrev zI (K : zK) : ClassId := K.2.1
abbrev zZ (K : zK) : ClassId := K.2.2.1
abbrev zS (K : zK) : ClassId := K.2.2.2.1
abbrev zJ (K : zK) : ClassId := K.2.2.2.2
abbrev zty (K : zK) : List (ClassId × FieldType) := [(zI K, .int), (zI K, .int), (zS K, .object "ResolverFleet$Site"), (zI K, .int)]
abbrev zB : Type := List va_W
-- worlds as sets of cells
theorem z_P {D : va_G} {cl : List vw_C} {ws : va_W} {H : Heap} : va_P D cl ws H ↔ ∀ q ∈ ws, va_at D cl q H :=
  ⟨fun h q hq => by obtain ⟨i, hi⟩ := List.mem_iff_getElem?.mp hq; exact h i q hi, fun h k q hk => h q (List.mem_of_getElem? hk)⟩
theorem z_D {A : Nat → Prop} {ws : va_W} : va_D A ws ↔ (ws.map Prod.fst).Nodup ∧ ∀ q ∈ ws, A q.1 := by
  constructor
  · intro h
    refine ⟨?_, fun q hq => by obtain ⟨i, hi⟩ := List.mem_iff_getElem?.mp hq; exact h.2 i q hi⟩
    rw [List.nodup_iff_pairwise_ne, List.pairwise_iff_getElem]
    intro i j hi hj hij he
    rw [List.getElem_map, List.getElem_map] at he
    have := h.1 i j _ _ (List.getElem?_eq_getElem (by simpa using hi)) (List.getElem?_eq_getElem (by simpa using hj)) he
    omega
  · intro h
    refine ⟨fun i j p q hi hj hpq => ?_, fun k q hk => h.2 q (List.mem_of_getElem? hk)⟩
    have hl : i < (ws.map Prod.fst).length := by
      rw [List.length_map]; exact (List.getElem?_eq_some_iff.mp hi).1
    refine (List.getElem?_inj hl h.1).mp ?_
    rw [List.getElem?_map, List.getElem?_map, hi, hj]
    exact congrArg some hpq
theorem z_Pp {D : va_G} {cl : List vw_C} {ws ws' : va_W} {H : Heap} (hp : ws.Perm ws') (h : va_P D cl ws H) : va_P D cl ws' H := z_P.mpr fun q hq => z_P.mp h q (hp.mem_iff.mpr hq)
theorem z_Dp {A : Nat → Prop} {ws ws' : va_W} (hp : ws.Perm ws') (h : va_D A ws) : va_D A ws' := by
  have h1 := z_D.mp h
  exact z_D.mpr ⟨(hp.map Prod.fst).nodup_iff.mp h1.1, fun q hq => h1.2 q (hp.mem_iff.mpr hq)⟩
theorem z_A {ws : va_W} {sz q : Nat} : va_A ws sz q ↔ (∃ e : va_E, (q, e) ∈ ws) ∨ sz ≤ q := by
  constructor
  · rintro (⟨k, e, h⟩ | h)
    · exact Or.inl ⟨e, List.mem_of_getElem? h⟩
    · exact Or.inr h
  · rintro (⟨e, h⟩ | h)
    · obtain ⟨k, hk⟩ := List.mem_iff_getElem?.mp h
      exact Or.inl ⟨k, e, hk⟩
    · exact Or.inr h
theorem z_take {α : Type} (l : List α) : ∀ n, (List.range n).filterMap (fun i => l[i]?) = l.take n
  | 0 => rfl
  | n + 1 => by
    rw [List.range_succ, List.filterMap_append, z_take l n, List.take_succ]
    congr 1
theorem z_pm {bs bs' : zB} (is : List Nat) (hp : is.isPerm (List.range bs.length) = true) (hs : is.filterMap (fun i => bs[i]?) = bs') : bs.flatten.Perm bs'.flatten := by
  have h1 : is.Perm (List.range bs.length) := List.isPerm_iff.mp hp
  have h2 := h1.filterMap (fun i => bs[i]?)
  rw [z_take, List.take_length, hs] at h2
  exact h2.symm.flatten
theorem z_fl : ∀ (bs : zB) (q j : Nat) (b : va_W) (x y : Nat × va_E), bs[q]? = some b → b[j]? = some x → ∃ P : Nat, bs.flatten[P]? = some x ∧ (bs.set q (b.set j y)).flatten = bs.flatten.set P y
  | [], q, j, b, x, y, h, _ => by simp at h
  | c :: t, 0, j, b, x, y, h, hj => by
    rw [List.getElem?_cons_zero] at h
    cases h
    have hl := (List.getElem?_eq_some_iff.mp hj).1
    refine ⟨j, ?_, ?_⟩
    · rw [List.flatten_cons, List.getElem?_append_left hl]; exact hj
    · rw [List.set_cons_zero, List.flatten_cons, List.flatten_cons, List.set_append_left _ _ hl]
  | c :: t, q + 1, j, b, x, y, h, hj => by
    rw [List.getElem?_cons_succ] at h
    obtain ⟨P, h1, h2⟩ := z_fl t q j b x y h hj
    refine ⟨c.length + P, ?_, ?_⟩
    · rw [List.flatten_cons, List.getElem?_append_right (Nat.le_add_right _ _), Nat.add_sub_cancel_left]; exact h1
    · rw [List.set_cons_succ, List.flatten_cons, List.flatten_cons, List.set_append_right _ _ (Nat.le_add_right _ _), Nat.add_sub_cancel_left, h2]
theorem z_at {bs : zB} {q j : Nat} {b : va_W} {x : Nat × va_E} (h : bs[q]? = some b) (hj : b[j]? = some x) : ∃ P : Nat, bs.flatten[P]? = some x := by
  obtain ⟨P, h1, -⟩ := z_fl bs q j b x x h hj
  exact ⟨P, h1⟩
-- what throwing needs of the start: the two statics of Throwable, the texts (which exceptions are no others isn't needed here: the law's one table has one row)
def zE1 : String := "java/lang/IndexOutOfBoundsException"
def zE2 : String := "java/lang/IllegalArgumentException"
def zE3 : String := "java/lang/IllegalStateException"
def zTx : List (Nat × String) := [(217, "there is no such name"), (220, "an argument is out of its range"), (57, "a name is no alias for itself"), (81, "there is no room for another site"), (222, "there is no such site"), (224, "no site is announced"), (150, "there is no entry for this name")]
def zNw : List Cond := [.castable zE1 zE1, .castable zE2 zE2, .castable zE3 zE3, .declares (Bundle.initS "java/lang/RuntimeException"), .declares (Bundle.initS "java/lang/Exception"), .declares (Bundle.initS Bundle.tN)]
theorem zNw_warm {w : Cond} {s U : State} (hw : w ∈ zNw) (hW : s.WarmedH U.vm) (h : va_Nw w s) : va_Nw w U := by
  simp only [zNw, List.mem_cons, List.not_mem_nil, or_false] at hw
  rcases hw with rfl | rfl | rfl | rfl | rfl | rfl
  · exact va_Nw.warmC hW h
  · exact va_Nw.warmC hW h
  · exact va_Nw.warmC hW h
  · exact va_Nw.warmD hW h
  · exact va_Nw.warmD hW h
  · exact va_Nw.warmD hW h
theorem zNw_tab {w : Cond} (hw : w ∈ zNw) : w.onTables = true := by
  simp only [zNw, List.mem_cons, List.not_mem_nil, or_false] at hw
  rcases hw with rfl | rfl | rfl | rfl | rfl | rfl <;> rfl
def zT (A : Nat → Prop) (U : State) (H : Heap) : Prop := vx_Zq Bundle.tN "UNASSIGNED_STACK" Bundle.steD A U H ∧ vx_Zq Bundle.tN "SUPPRESSED_SENTINEL" Bundle.listD A U H ∧ (∀ t ∈ zTx, ∃ sa : Nat, vk_R RX4 t.1 t.2 sa U) ∧ True ∧ True ∧ True ∧ va_AO RX2 U ∧ ∀ w ∈ zNw, va_Nw w U
theorem zT.to {A B : Nat → Prop} {s U : State} {H : Heap} {locs : List Loc} (h : zT A s s.heap) (hS : va_S A s.heap H locs) (hU : U.heap = H) (hW : s.WarmedH U.vm) (hAB : ∀ q, B q → A q) : zT B U U.heap := by
  obtain ⟨h1, h2, h3, h4, h5, h6, h7, h8⟩ := h
  subst hU
  exact ⟨vx_Zq.moved hW.alike ((h1.kept hS.2.1).narrow hAB), vx_Zq.moved hW.alike ((h2.kept hS.2.1).narrow hAB), fun t ht => by obtain ⟨sa, hsa⟩ := h3 t ht; exact ⟨sa, vk_R.warm hW hsa⟩, h4, h5, h6, va_AO.moved hW.alike h7, fun w hw => zNw_warm hw hW (h8 w hw)⟩
theorem zT.same {A : Nat → Prop} {u U : State} {H : Heap} (hv : U.vm = u.vm) (h : zT A u H) : zT A U H := by
  obtain ⟨h1, h2, h3, h4, h5, h6, h7, h8⟩ := h
  have ha : u.vm.Alike U.vm := by rw [hv]; exact Vm.Alike.refl _
  exact ⟨vx_Zq.moved ha h1, vx_Zq.moved ha h2, fun t ht => by obtain ⟨sa, hsa⟩ := h3 t ht; exact ⟨sa, vk_R.same hv hsa⟩, h4, h5, h6, va_AO.moved ha h7, fun w hw => va_tabs (zNw_tab hw) hv.symm (h8 w hw)⟩
-- contracts
def zPre (K : zK) (as : List Value) (bs : zB) (sz : Nat) : Array Value → State → Prop := va_Pc as (fun U => U.heap.size = sz ∧ va_P K.1 vwCl bs.flatten U.heap ∧ va_K K.1 vwCl (zty K) U ∧ va_D (fun _ => True) bs.flatten ∧ zT (va_A bs.flatten sz) U U.heap)
def zQ (K : zK) (A : Nat → Prop) {S : Type} (f : S → Option Value × zB) (post : S → Prop) : Array Value → State → Outcome → State → Prop := fun _ st oc t => (∃ u : S, oc = .returned (f u).1 ∧ post u ∧ va_P K.1 vwCl (f u).2.flatten t.heap ∧ va_D A (f u).2.flatten) ∧ va_F A st t
def zX (K : zK) (A : Nat → Prop) (bs : zB) (xc : String → Prop) : String → State → State → Prop := fun E st t => xc E ∧ va_P K.1 vwCl bs.flatten t.heap ∧ va_D A bs.flatten ∧ va_F A st t
/-- the method returns, with some u, or throws an E with xc E and changes nothing -/
def zMeN (l : Launch) (K : zK) (y : MethodName) (Ts : List Cond) (rm : Room) (as : List Value) (bs : zB) {S : Type} (f : S → Option Value × zB) (post : S → Prop) (xc : String → Prop) : Prop :=
  ∀ sz : Nat, vx_Met l y Ts rm (zPre K as bs sz) (zQ K (va_A bs.flatten sz) f post) (zX K (va_A bs.flatten sz) bs xc) rm.cells rm.slots (va_A bs.flatten sz)
/-- with one end: the answer r, the blocks w, if cond -/
def zMet (l : Launch) (K : zK) (y : MethodName) (Ts : List Cond) (rm : Room) (as : List Value) (bs : zB) (r : Option Value) (w : zB) (cond : Prop) (xc : String → Prop) : Prop :=
  zMeN l K y Ts rm as bs (fun _ : Unit => (r, w)) (fun _ => cond) xc
def zNo : String → Prop := fun _ => False
theorem zPre.blind {K : zK} {as : List Value} {bs : zB} {sz : Nat} : FrameBlind (zPre K as bs sz) := by
  intro a U g mk h
  obtain ⟨h1, h2, h3, h4, h5, h6⟩ := h
  exact ⟨h1, h2, h3, va_K.moved (u := U) (U := U.calling g mk a) (Vm.Alike.refl U.vm) h4, h5, zT.same (u := U) (U := U.calling g mk a) rfl h6⟩
/-- what a walk knows of its method -/
def zF (K : zK) (p : Program) (l : Launch) (s : State) (m : MethodId) (args : Array Value) (meth : Method) (c : Code) (A : Nat → Prop) (cc : ByteArray) (nL : Nat) (own nm : String) (Ts : List Cond) (ret : Option FieldType) (tb : List ExceptionTableEntry) : Prop :=
  CallFix p m c cc nL s args Ts own ∧ va_K K.1 vwCl (zty K) s ∧ (∀ q, s.heap.size ≤ q → A q) ∧ meth.locks = false ∧ meth.sig.returnType = ret ∧ meth.name = nm ∧ c.exceptionTable.toList = tb ∧ l.stackTraces = false ∧ zT A s s.heap
def zW (K : zK) (p : Program) (l : Launch) (e : Env) (R : Room) (s : State) (m : MethodId) (args : Array Value) (below : List Frame) (meth : Method) (c : Code) (A : Nat → Prop) (Q : State → Prop) (k n : Nat) (bs : zB) (lv : List (Nat × Value)) (st : List Value) (pc : Nat) : Prop :=
  ∀ (H : Heap) (locs : List Loc) (ls : Array Slot), va_P K.1 vwCl bs.flatten H → va_D A bs.flatten → va_S A s.heap H locs → lv_has ls c.maxLocals lv → W p l e R s m args below meth c H locs k n Q (F0 m pc ls st)
/-- the same with an E thrown there -/
def zXW (K : zK) (p : Program) (l : Launch) (e : Env) (R : Room) (s : State) (m : MethodId) (args : Array Value) (below : List Frame) (meth : Method) (c : Code) (A : Nat → Prop) (Q : State → Prop) (k n : Nat) (bs : zB) (lv : List (Nat × Value)) (st : List Value) (pc : Nat) (E : String) : Prop :=
  ∀ (H : Heap) (locs : List Loc) (ls : Array Slot) (q : Addr) (ce : Cell), va_P K.1 vwCl bs.flatten H → va_D A bs.flatten → va_S A s.heap H locs → lv_has ls c.maxLocals lv → H[q]? = some ce → ce.vm = .none → s.vm.findClass E = some ce.cls → vx_W p l e R s m args below meth c H locs k n Q (F0 m pc ls st) q
theorem zMeN.of {l : Launch} {K : zK} {y : MethodName} {Ts ws' : List Cond} {rm : Room} {as : List Value} {bs : zB} {S : Type} {f : S → Option Value × zB} {post : S → Prop} {xc : String → Prop} {cc : ByteArray} {maxL : Nat} {ret : Option FieldType} {own nm : String} {lv : List (Nat × Value)} (hl : l.stackTraces = false)
    (hy : plainName y.cls = true) (hw : Ts = Cond.code y cc maxL ret :: ws') (ho : y.cls = own) (hn : y.name = nm) (hnl : (lg_sl as).length ≤ maxL) (hlv : lv_args 0 as = lv)
    (body : ∀ (p : Program) (e : Env) (s : State) (m : MethodId) (args : Array Value) (below : List Frame) (meth : Method) (c : Code) (A : Nat → Prop), zF K p l s m args meth c A cc maxL own nm Ts ret [] →
      zW K p l e rm s m args below meth c A (vx_MQ below (zQ K A f post) (zX K A bs xc) args s rm.cells rm.slots A) 0 0 bs lv [] 0) : zMeN l K y Ts rm as bs f post xc := by
  intro sz
  refine vx_ofW (cc := cc) (maxL := maxL) (ret := ret) hy hw ?_
  intro p e s m args below meth c s₁ B hml htb hv
  obtain ⟨rfl, rfl, hP, hK, hD, hT⟩ := hv
  subst ho hn hlv
  have hown : s.vm.findClass y.cls = some m.cls := findClass_of_methodNamed B.named
  have htb' : c.exceptionTable.toList = [] := List.eq_nil_iff_forall_not_mem.mpr fun x hx => htb x hx
  have hl9 := lv_entry as (n := maxL) hnl
  rw [lg_entry_eq]
  exact body p e s m as.toArray below meth c (va_A bs.flatten s.heap.size) ⟨⟨B.exec, B.bytes, hml, hown, atoms_spec (ws := Ts) B.pre⟩, hK, fun q h => Or.inr h, B.notSynchronized, B.returns, (name_of_methodNamed B.named B.method).1, htb', hl, hT⟩ s.heap [] _ hP hD.self va_S.rf (by rw [hml]; exact hl9)
theorem zMeN.ofH {l : Launch} {K : zK} {y : MethodName} {Ts ws' : List Cond} {rm : Room} {as : List Value} {bs : zB} {S : Type} {f : S → Option Value × zB} {post : S → Prop} {xc : String → Prop} {cc : ByteArray} {maxL : Nat} {ret : Option FieldType} {own nm : String} {lv : List (Nat × Value)} {hh : List (Nat × Nat × Nat × Nat)} (hl : l.stackTraces = false)
    (hy : plainName y.cls = true) (hw : Ts = Cond.codeWith y cc maxL ret hh :: ws') (ho : y.cls = own) (hn : y.name = nm) (hnl : (lg_sl as).length ≤ maxL) (hlv : lv_args 0 as = lv)
    (body : ∀ (p : Program) (e : Env) (s : State) (m : MethodId) (args : Array Value) (below : List Frame) (meth : Method) (c : Code) (A : Nat → Prop), zF K p l s m args meth c A cc maxL own nm Ts ret (tableOf hh) →
      zW K p l e rm s m args below meth c A (vx_MQ below (zQ K A f post) (zX K A bs xc) args s rm.cells rm.slots A) 0 0 bs lv [] 0) : zMeN l K y Ts rm as bs f post xc := by
  intro sz
  refine vx_ofWH (cc := cc) (maxL := maxL) (ret := ret) (hh := hh) hy hw ?_
  intro p e s m args below meth c s₁ B hml hv
  obtain ⟨rfl, rfl, hP, hK, hD, hT⟩ := hv
  subst ho hn hlv
  have hown : s.vm.findClass y.cls = some m.cls := findClass_of_methodNamed B.named
  have hts := atoms_spec (ws := Ts) B.pre
  have htb' : c.exceptionTable.toList = tableOf hh := vx_table (x := y) B (hts _ (by rw [hw]; exact List.mem_cons_self))
  have hl9 := lv_entry as (n := maxL) hnl
  rw [lg_entry_eq]
  exact body p e s m as.toArray below meth c (va_A bs.flatten s.heap.size) ⟨⟨B.exec, B.bytes, hml, hown, hts⟩, hK, fun q h => Or.inr h, B.notSynchronized, B.returns, (name_of_methodNamed B.named B.method).1, htb', hl, hT⟩ s.heap [] _ hP hD.self va_S.rf (by rw [hml]; exact hl9)
section ZR
variable {K : zK} {p : Program} {l : Launch} {e : Env} {R : Room} {s : State} {m : MethodId} {args : Array Value} {below : List Frame} {meth : Method} {c : Code} {A : Nat → Prop} {Q : State → Prop} {k n : Nat} {bs : zB} {lv : List (Nat × Value)} {st : List Value} {pc : Nat}
variable {cc : ByteArray} {nL : Nat} {own nm : String} {Ts : List Cond} {ret : Option FieldType} {tb : List ExceptionTableEntry}
theorem z_iconst (B : zF K p l s m args meth c A cc nL own nm Ts ret tb) {i : Int} {v : Int32} (d : decode cc pc = .ok (.iconst i, 1)) (hv : Int32.ofInt i = v) (kk : zW K p l e R s m args below meth c A Q k n bs lv (.int v :: st) (pc + 1)) : zW K p l e R s m args below meth c A Q k n bs lv st pc :=
  fun H locs ls hP hD hS h => lv_iconst B.1.1 B.1.2.1 d hv (kk H locs ls hP hD hS h)
theorem z_bipush (B : zF K p l s m args meth c A cc nL own nm Ts ret tb) {i : Int} {v : Int32} (d : decode cc pc = .ok (.bipush i, 2)) (hv : (Int8.ofInt i).toInt32 = v) (kk : zW K p l e R s m args below meth c A Q k n bs lv (.int v :: st) (pc + 2)) : zW K p l e R s m args below meth c A Q k n bs lv st pc :=
  fun H locs ls hP hD hS h => lv_bipush B.1.1 B.1.2.1 d hv (kk H locs ls hP hD hS h)
theorem z_sipush (B : zF K p l s m args meth c A cc nL own nm Ts ret tb) {i : Int} {v : Int32} (d : decode cc pc = .ok (.sipush i, 3)) (hv : (Int16.ofInt i).toInt32 = v) (kk : zW K p l e R s m args below meth c A Q k n bs lv (.int v :: st) (pc + 3)) : zW K p l e R s m args below meth c A Q k n bs lv st pc :=
  fun H locs ls hP hD hS h => lv_sipush B.1.1 B.1.2.1 d hv (kk H locs ls hP hD hS h)
theorem z_lconst (B : zF K p l s m args meth c A cc nL own nm Ts ret tb) {i : Fin 2} {v : Int64} (d : decode cc pc = .ok (.lconst i, 1)) (hv : Int64.ofNat (i : Nat) = v) (kk : zW K p l e R s m args below meth c A Q k n bs lv (.long v :: st) (pc + 1)) : zW K p l e R s m args below meth c A Q k n bs lv st pc :=
  fun H locs ls hP hD hS h => lv_lconst B.1.1 B.1.2.1 d hv (kk H locs ls hP hD hS h)
theorem z_null (B : zF K p l s m args meth c A cc nL own nm Ts ret tb) (d : decode cc pc = .ok (.aconst_null, 1)) (kk : zW K p l e R s m args below meth c A Q k n bs lv (.null :: st) (pc + 1)) : zW K p l e R s m args below meth c A Q k n bs lv st pc :=
  fun H locs ls hP hD hS h => lv_null B.1.1 B.1.2.1 d (kk H locs ls hP hD hS h)
theorem z_iload_n (B : zF K p l s m args meth c A cc nL own nm Ts ret tb) {i : Fin 4} {x : Int32} (d : decode cc pc = .ok (.iload_n i, 1)) (j : Nat) (hj : lv[j]? = some ((i : Nat), .int x)) (kk : zW K p l e R s m args below meth c A Q k n bs lv (.int x :: st) (pc + 1)) : zW K p l e R s m args below meth c A Q k n bs lv st pc :=
  fun H locs ls hP hD hS h => lv_iload_n B.1.1 B.1.2.1 d rfl (lv_at h j hj) (kk H locs ls hP hD hS h)
theorem z_iload (B : zF K p l s m args meth c A cc nL own nm Ts ret tb) {i : Nat} {x : Int32} (d : decode cc pc = .ok (.iload i, 2)) (j : Nat) (hj : lv[j]? = some (i, .int x)) (kk : zW K p l e R s m args below meth c A Q k n bs lv (.int x :: st) (pc + 2)) : zW K p l e R s m args below meth c A Q k n bs lv st pc :=
  fun H locs ls hP hD hS h => lv_iload B.1.1 B.1.2.1 d (lv_at h j hj) (kk H locs ls hP hD hS h)
theorem z_aload_n (B : zF K p l s m args meth c A cc nL own nm Ts ret tb) {i : Fin 4} {x : Nat} (d : decode cc pc = .ok (.aload_n i, 1)) (j : Nat) (hj : lv[j]? = some ((i : Nat), .ref x)) (kk : zW K p l e R s m args below meth c A Q k n bs lv (.ref x :: st) (pc + 1)) : zW K p l e R s m args below meth c A Q k n bs lv st pc :=
  fun H locs ls hP hD hS h => lv_aload_n B.1.1 B.1.2.1 d rfl (lv_at h j hj) (kk H locs ls hP hD hS h)
theorem z_aload (B : zF K p l s m args meth c A cc nL own nm Ts ret tb) {i : Nat} {x : Nat} (d : decode cc pc = .ok (.aload i, 2)) (j : Nat) (hj : lv[j]? = some (i, .ref x)) (kk : zW K p l e R s m args below meth c A Q k n bs lv (.ref x :: st) (pc + 2)) : zW K p l e R s m args below meth c A Q k n bs lv st pc :=
  fun H locs ls hP hD hS h => lv_aload B.1.1 B.1.2.1 d (lv_at h j hj) (kk H locs ls hP hD hS h)
theorem z_aload_nN (B : zF K p l s m args meth c A cc nL own nm Ts ret tb) {i : Fin 4} (d : decode cc pc = .ok (.aload_n i, 1)) (j : Nat) (hj : lv[j]? = some ((i : Nat), .null)) (kk : zW K p l e R s m args below meth c A Q k n bs lv (.null :: st) (pc + 1)) : zW K p l e R s m args below meth c A Q k n bs lv st pc :=
  fun H locs ls hP hD hS h => lv_aload_nN B.1.1 B.1.2.1 d rfl (lv_at h j hj) (kk H locs ls hP hD hS h)
theorem z_aloadN (B : zF K p l s m args meth c A cc nL own nm Ts ret tb) {i : Nat} (d : decode cc pc = .ok (.aload i, 2)) (j : Nat) (hj : lv[j]? = some (i, .null)) (kk : zW K p l e R s m args below meth c A Q k n bs lv (.null :: st) (pc + 2)) : zW K p l e R s m args below meth c A Q k n bs lv st pc :=
  fun H locs ls hP hD hS h => lv_aloadN B.1.1 B.1.2.1 d (lv_at h j hj) (kk H locs ls hP hD hS h)
theorem z_istore_n (B : zF K p l s m args meth c A cc nL own nm Ts ret tb) {i : Fin 4} {x : Int32} {lv' : List (Nat × Value)} (d : decode cc pc = .ok (.istore_n i, 1)) (hn : (i : Nat) < nL) (hl : ((i : Nat), Value.int x) :: lv.filter (fun q => !(q.1 == (i : Nat)) && !(q.1 + 1 == (i : Nat) && q.2.category == 2)) = lv') (kk : zW K p l e R s m args below meth c A Q k n bs lv' st (pc + 1)) : zW K p l e R s m args below meth c A Q k n bs lv (.int x :: st) pc :=
  fun H locs ls hP hD hS h => lv_istore_n B.1.1 B.1.2.1 d rfl h (by rw [B.1.2.2.1]; exact hn) hl (fun ls' h' => kk H locs ls' hP hD hS h')
theorem z_istore (B : zF K p l s m args meth c A cc nL own nm Ts ret tb) {i : Nat} {x : Int32} {lv' : List (Nat × Value)} (d : decode cc pc = .ok (.istore i, 2)) (hn : i < nL) (hl : (i, Value.int x) :: lv.filter (fun q => !(q.1 == i) && !(q.1 + 1 == i && q.2.category == 2)) = lv') (kk : zW K p l e R s m args below meth c A Q k n bs lv' st (pc + 2)) : zW K p l e R s m args below meth c A Q k n bs lv (.int x :: st) pc :=
  fun H locs ls hP hD hS h => lv_istore B.1.1 B.1.2.1 d h (by rw [B.1.2.2.1]; exact hn) hl (fun ls' h' => kk H locs ls' hP hD hS h')
theorem z_astore_n (B : zF K p l s m args meth c A cc nL own nm Ts ret tb) {i : Fin 4} {x : Nat} {lv' : List (Nat × Value)} (d : decode cc pc = .ok (.astore_n i, 1)) (hn : (i : Nat) < nL) (hl : ((i : Nat), Value.ref x) :: lv.filter (fun q => !(q.1 == (i : Nat)) && !(q.1 + 1 == (i : Nat) && q.2.category == 2)) = lv') (kk : zW K p l e R s m args below meth c A Q k n bs lv' st (pc + 1)) : zW K p l e R s m args below meth c A Q k n bs lv (.ref x :: st) pc :=
  fun H locs ls hP hD hS h => lv_astore_n B.1.1 B.1.2.1 d rfl h (by rw [B.1.2.2.1]; exact hn) hl (fun ls' h' => kk H locs ls' hP hD hS h')
theorem z_astore (B : zF K p l s m args meth c A cc nL own nm Ts ret tb) {i : Nat} {x : Nat} {lv' : List (Nat × Value)} (d : decode cc pc = .ok (.astore i, 2)) (hn : i < nL) (hl : (i, Value.ref x) :: lv.filter (fun q => !(q.1 == i) && !(q.1 + 1 == i && q.2.category == 2)) = lv') (kk : zW K p l e R s m args below meth c A Q k n bs lv' st (pc + 2)) : zW K p l e R s m args below meth c A Q k n bs lv (.ref x :: st) pc :=
  fun H locs ls hP hD hS h => lv_astore B.1.1 B.1.2.1 d h (by rw [B.1.2.2.1]; exact hn) hl (fun ls' h' => kk H locs ls' hP hD hS h')
theorem z_astore_nN (B : zF K p l s m args meth c A cc nL own nm Ts ret tb) {i : Fin 4} {lv' : List (Nat × Value)} (d : decode cc pc = .ok (.astore_n i, 1)) (hn : (i : Nat) < nL) (hl : ((i : Nat), Value.null) :: lv.filter (fun q => !(q.1 == (i : Nat)) && !(q.1 + 1 == (i : Nat) && q.2.category == 2)) = lv') (kk : zW K p l e R s m args below meth c A Q k n bs lv' st (pc + 1)) : zW K p l e R s m args below meth c A Q k n bs lv (.null :: st) pc :=
  fun H locs ls hP hD hS h => lv_astore_nN B.1.1 B.1.2.1 d rfl h (by rw [B.1.2.2.1]; exact hn) hl (fun ls' h' => kk H locs ls' hP hD hS h')
theorem z_astoreN (B : zF K p l s m args meth c A cc nL own nm Ts ret tb) {i : Nat} {lv' : List (Nat × Value)} (d : decode cc pc = .ok (.astore i, 2)) (hn : i < nL) (hl : (i, Value.null) :: lv.filter (fun q => !(q.1 == i) && !(q.1 + 1 == i && q.2.category == 2)) = lv') (kk : zW K p l e R s m args below meth c A Q k n bs lv' st (pc + 2)) : zW K p l e R s m args below meth c A Q k n bs lv (.null :: st) pc :=
  fun H locs ls hP hD hS h => lv_astoreN B.1.1 B.1.2.1 d h (by rw [B.1.2.2.1]; exact hn) hl (fun ls' h' => kk H locs ls' hP hD hS h')
theorem z_iinc (B : zF K p l s m args meth c A cc nL own nm Ts ret tb) {i : Nat} {z : Int} {x v : Int32} {lv' : List (Nat × Value)} (d : decode cc pc = .ok (.iinc i z, 3)) (j : Nat) (hj : lv[j]? = some (i, .int x)) (hv : x + Int32.ofInt z = v) (hn : i < nL) (hl : (i, Value.int v) :: lv.filter (fun q => !(q.1 == i) && !(q.1 + 1 == i && q.2.category == 2)) = lv') (kk : zW K p l e R s m args below meth c A Q k n bs lv' st (pc + 3)) : zW K p l e R s m args below meth c A Q k n bs lv st pc :=
  fun H locs ls hP hD hS h => lv_iinc B.1.1 B.1.2.1 d h (k := j) hj hv (by rw [B.1.2.2.1]; exact hn) hl (fun ls' h' => kk H locs ls' hP hD hS h')
theorem z_iadd (B : zF K p l s m args meth c A cc nL own nm Ts ret tb) {x y : Int32} (d : decode cc pc = .ok (.iadd, 1)) (kk : zW K p l e R s m args below meth c A Q k n bs lv (.int (x + y) :: st) (pc + 1)) : zW K p l e R s m args below meth c A Q k n bs lv (.int y :: .int x :: st) pc :=
  fun H locs ls hP hD hS h => lv_iadd B.1.1 B.1.2.1 d (kk H locs ls hP hD hS h)
theorem z_isub (B : zF K p l s m args meth c A cc nL own nm Ts ret tb) {x y : Int32} (d : decode cc pc = .ok (.isub, 1)) (kk : zW K p l e R s m args below meth c A Q k n bs lv (.int (x - y) :: st) (pc + 1)) : zW K p l e R s m args below meth c A Q k n bs lv (.int y :: .int x :: st) pc :=
  fun H locs ls hP hD hS h => lv_isub B.1.1 B.1.2.1 d (kk H locs ls hP hD hS h)
theorem z_imul (B : zF K p l s m args meth c A cc nL own nm Ts ret tb) {x y : Int32} (d : decode cc pc = .ok (.imul, 1)) (kk : zW K p l e R s m args below meth c A Q k n bs lv (.int (x * y) :: st) (pc + 1)) : zW K p l e R s m args below meth c A Q k n bs lv (.int y :: .int x :: st) pc :=
  fun H locs ls hP hD hS h => lv_imul B.1.1 B.1.2.1 d (kk H locs ls hP hD hS h)
theorem z_iand (B : zF K p l s m args meth c A cc nL own nm Ts ret tb) {x y : Int32} (d : decode cc pc = .ok (.iand, 1)) (kk : zW K p l e R s m args below meth c A Q k n bs lv (.int (x &&& y) :: st) (pc + 1)) : zW K p l e R s m args below meth c A Q k n bs lv (.int y :: .int x :: st) pc :=
  fun H locs ls hP hD hS h => lv_iand B.1.1 B.1.2.1 d (kk H locs ls hP hD hS h)
theorem z_i2l (B : zF K p l s m args meth c A cc nL own nm Ts ret tb) {x : Int32} (d : decode cc pc = .ok (.i2l, 1)) (kk : zW K p l e R s m args below meth c A Q k n bs lv (.long x.toInt64 :: st) (pc + 1)) : zW K p l e R s m args below meth c A Q k n bs lv (.int x :: st) pc :=
  fun H locs ls hP hD hS h => lv_i2l B.1.1 B.1.2.1 d rfl (kk H locs ls hP hD hS h)
theorem z_lcmp (B : zF K p l s m args meth c A cc nL own nm Ts ret tb) {x y : Int64} (d : decode cc pc = .ok (.lcmp, 1)) (kk : zW K p l e R s m args below meth c A Q k n bs lv (.int (lg_cmp x y) :: st) (pc + 1)) : zW K p l e R s m args below meth c A Q k n bs lv (.long y :: .long x :: st) pc :=
  fun H locs ls hP hD hS h => W.lcmp B.1.1 B.1.2.1 d (kk H locs ls hP hD hS h)
theorem z_dup (B : zF K p l s m args meth c A cc nL own nm Ts ret tb) {v : Value} (d : decode cc pc = .ok (.dup, 1)) (hv : v.category = 1) (kk : zW K p l e R s m args below meth c A Q k n bs lv (v :: v :: st) (pc + 1)) : zW K p l e R s m args below meth c A Q k n bs lv (v :: st) pc :=
  fun H locs ls hP hD hS h => lv_dup B.1.1 B.1.2.1 d hv (kk H locs ls hP hD hS h)
theorem z_dup2 (B : zF K p l s m args meth c A cc nL own nm Ts ret tb) {v w : Value} (d : decode cc pc = .ok (.dup2, 1)) (hv : v.category = 1) (hw : w.category = 1) (kk : zW K p l e R s m args below meth c A Q k n bs lv (v :: w :: v :: w :: st) (pc + 1)) : zW K p l e R s m args below meth c A Q k n bs lv (v :: w :: st) pc :=
  fun H locs ls hP hD hS h => lv_dup2_11 B.1.1 B.1.2.1 d hv hw (kk H locs ls hP hD hS h)
theorem z_pop (B : zF K p l s m args meth c A cc nL own nm Ts ret tb) {v : Value} (d : decode cc pc = .ok (.pop, 1)) (hv : v.category = 1) (kk : zW K p l e R s m args below meth c A Q k n bs lv st (pc + 1)) : zW K p l e R s m args below meth c A Q k n bs lv (v :: st) pc :=
  fun H locs ls hP hD hS h => lv_pop B.1.1 B.1.2.1 d hv (kk H locs ls hP hD hS h)
theorem z_goto (B : zF K p l s m args meth c A cc nL own nm Ts ret tb) {off : Int} {tgt : Nat} (d : decode cc pc = .ok (.goto off, 3)) (ht : (pc : Int) + off = (tgt : Int)) (kk : zW K p l e R s m args below meth c A Q k n bs lv st tgt) : zW K p l e R s m args below meth c A Q k n bs lv st pc :=
  fun H locs ls hP hD hS h => lv_goto B.1.1 B.1.2.1 d ht (kk H locs ls hP hD hS h)
theorem z_ifeq (B : zF K p l s m args meth c A cc nL own nm Ts ret tb) {x : Int32} {off : Int} (tgt : Nat) (d : decode cc pc = .ok (.ifCond .eq off, 3)) (ht : (pc : Int) + off = (tgt : Int)) (kt : x = 0 → zW K p l e R s m args below meth c A Q k n bs lv st tgt) (kf : ¬ x = 0 → zW K p l e R s m args below meth c A Q k n bs lv st (pc + 3)) : zW K p l e R s m args below meth c A Q k n bs lv (.int x :: st) pc :=
  fun H locs ls hP hD hS h => lv_if_eq B.1.1 B.1.2.1 d ht (fun q => kt q H locs ls hP hD hS h) (fun q => kf q H locs ls hP hD hS h)
theorem z_ifne (B : zF K p l s m args meth c A cc nL own nm Ts ret tb) {x : Int32} {off : Int} (tgt : Nat) (d : decode cc pc = .ok (.ifCond .ne off, 3)) (ht : (pc : Int) + off = (tgt : Int)) (kf : x = 0 → zW K p l e R s m args below meth c A Q k n bs lv st (pc + 3)) (kt : ¬ x = 0 → zW K p l e R s m args below meth c A Q k n bs lv st tgt) : zW K p l e R s m args below meth c A Q k n bs lv (.int x :: st) pc :=
  fun H locs ls hP hD hS h => lv_if_ne B.1.1 B.1.2.1 d ht (fun q => kt q H locs ls hP hD hS h) (fun q => kf q H locs ls hP hD hS h)
theorem z_iflt (B : zF K p l s m args meth c A cc nL own nm Ts ret tb) {x : Int32} {off : Int} (tgt : Nat) (d : decode cc pc = .ok (.ifCond .lt off, 3)) (ht : (pc : Int) + off = (tgt : Int)) (kt : x < 0 → zW K p l e R s m args below meth c A Q k n bs lv st tgt) (kf : ¬ x < 0 → zW K p l e R s m args below meth c A Q k n bs lv st (pc + 3)) : zW K p l e R s m args below meth c A Q k n bs lv (.int x :: st) pc :=
  fun H locs ls hP hD hS h => lv_if_lt B.1.1 B.1.2.1 d ht (fun q => kt q H locs ls hP hD hS h) (fun q => kf q H locs ls hP hD hS h)
theorem z_ifge (B : zF K p l s m args meth c A cc nL own nm Ts ret tb) {x : Int32} {off : Int} (tgt : Nat) (d : decode cc pc = .ok (.ifCond .ge off, 3)) (ht : (pc : Int) + off = (tgt : Int)) (kt : 0 ≤ x → zW K p l e R s m args below meth c A Q k n bs lv st tgt) (kf : ¬ 0 ≤ x → zW K p l e R s m args below meth c A Q k n bs lv st (pc + 3)) : zW K p l e R s m args below meth c A Q k n bs lv (.int x :: st) pc :=
  fun H locs ls hP hD hS h => lv_if_ge B.1.1 B.1.2.1 d ht (fun q => kt q H locs ls hP hD hS h) (fun q => kf q H locs ls hP hD hS h)
theorem z_ifle (B : zF K p l s m args meth c A cc nL own nm Ts ret tb) {x : Int32} {off : Int} (tgt : Nat) (d : decode cc pc = .ok (.ifCond .le off, 3)) (ht : (pc : Int) + off = (tgt : Int)) (kt : x ≤ 0 → zW K p l e R s m args below meth c A Q k n bs lv st tgt) (kf : ¬ x ≤ 0 → zW K p l e R s m args below meth c A Q k n bs lv st (pc + 3)) : zW K p l e R s m args below meth c A Q k n bs lv (.int x :: st) pc :=
  fun H locs ls hP hD hS h => lv_if_le B.1.1 B.1.2.1 d ht (fun q => kt q H locs ls hP hD hS h) (fun q => kf q H locs ls hP hD hS h)
theorem z_iceq (B : zF K p l s m args meth c A cc nL own nm Ts ret tb) {x y : Int32} {off : Int} (tgt : Nat) (d : decode cc pc = .ok (.if_icmp .eq off, 3)) (ht : (pc : Int) + off = (tgt : Int)) (kt : x = y → zW K p l e R s m args below meth c A Q k n bs lv st tgt) (kf : ¬ x = y → zW K p l e R s m args below meth c A Q k n bs lv st (pc + 3)) : zW K p l e R s m args below meth c A Q k n bs lv (.int y :: .int x :: st) pc :=
  fun H locs ls hP hD hS h => lv_icmp_eq B.1.1 B.1.2.1 d ht (fun q => kt q H locs ls hP hD hS h) (fun q => kf q H locs ls hP hD hS h)
theorem z_icne (B : zF K p l s m args meth c A cc nL own nm Ts ret tb) {x y : Int32} {off : Int} (tgt : Nat) (d : decode cc pc = .ok (.if_icmp .ne off, 3)) (ht : (pc : Int) + off = (tgt : Int)) (kf : x = y → zW K p l e R s m args below meth c A Q k n bs lv st (pc + 3)) (kt : ¬ x = y → zW K p l e R s m args below meth c A Q k n bs lv st tgt) : zW K p l e R s m args below meth c A Q k n bs lv (.int y :: .int x :: st) pc :=
  fun H locs ls hP hD hS h => lv_icmp_ne B.1.1 B.1.2.1 d ht (fun q => kt q H locs ls hP hD hS h) (fun q => kf q H locs ls hP hD hS h)
theorem z_iclt (B : zF K p l s m args meth c A cc nL own nm Ts ret tb) {x y : Int32} {off : Int} (tgt : Nat) (d : decode cc pc = .ok (.if_icmp .lt off, 3)) (ht : (pc : Int) + off = (tgt : Int)) (kt : x < y → zW K p l e R s m args below meth c A Q k n bs lv st tgt) (kf : ¬ x < y → zW K p l e R s m args below meth c A Q k n bs lv st (pc + 3)) : zW K p l e R s m args below meth c A Q k n bs lv (.int y :: .int x :: st) pc :=
  fun H locs ls hP hD hS h => lv_icmp_lt B.1.1 B.1.2.1 d ht (fun q => kt q H locs ls hP hD hS h) (fun q => kf q H locs ls hP hD hS h)
theorem z_icge (B : zF K p l s m args meth c A cc nL own nm Ts ret tb) {x y : Int32} {off : Int} (tgt : Nat) (d : decode cc pc = .ok (.if_icmp .ge off, 3)) (ht : (pc : Int) + off = (tgt : Int)) (kt : y ≤ x → zW K p l e R s m args below meth c A Q k n bs lv st tgt) (kf : ¬ y ≤ x → zW K p l e R s m args below meth c A Q k n bs lv st (pc + 3)) : zW K p l e R s m args below meth c A Q k n bs lv (.int y :: .int x :: st) pc :=
  fun H locs ls hP hD hS h => lv_icmp_ge B.1.1 B.1.2.1 d ht (fun q => kt q H locs ls hP hD hS h) (fun q => kf q H locs ls hP hD hS h)
theorem z_icgt (B : zF K p l s m args meth c A cc nL own nm Ts ret tb) {x y : Int32} {off : Int} (tgt : Nat) (d : decode cc pc = .ok (.if_icmp .gt off, 3)) (ht : (pc : Int) + off = (tgt : Int)) (kt : y < x → zW K p l e R s m args below meth c A Q k n bs lv st tgt) (kf : ¬ y < x → zW K p l e R s m args below meth c A Q k n bs lv st (pc + 3)) : zW K p l e R s m args below meth c A Q k n bs lv (.int y :: .int x :: st) pc :=
  fun H locs ls hP hD hS h => lv_icmp_gt B.1.1 B.1.2.1 d ht (fun q => kt q H locs ls hP hD hS h) (fun q => kf q H locs ls hP hD hS h)
theorem z_icle (B : zF K p l s m args meth c A cc nL own nm Ts ret tb) {x y : Int32} {off : Int} (tgt : Nat) (d : decode cc pc = .ok (.if_icmp .le off, 3)) (ht : (pc : Int) + off = (tgt : Int)) (kt : x ≤ y → zW K p l e R s m args below meth c A Q k n bs lv st tgt) (kf : ¬ x ≤ y → zW K p l e R s m args below meth c A Q k n bs lv st (pc + 3)) : zW K p l e R s m args below meth c A Q k n bs lv (.int y :: .int x :: st) pc :=
  fun H locs ls hP hD hS h => lv_icmp_le B.1.1 B.1.2.1 d ht (fun q => kt q H locs ls hP hD hS h) (fun q => kf q H locs ls hP hD hS h)
theorem z_ifnonnull (B : zF K p l s m args meth c A cc nL own nm Ts ret tb) {a : Nat} {off : Int} (tgt : Nat) (d : decode cc pc = .ok (.ifnonnull off, 3)) (ht : (pc : Int) + off = (tgt : Int)) (kk : zW K p l e R s m args below meth c A Q k n bs lv st tgt) : zW K p l e R s m args below meth c A Q k n bs lv (.ref a :: st) pc :=
  fun H locs ls hP hD hS h => lv_ifnonnull B.1.1 B.1.2.1 d ht (kk H locs ls hP hD hS h)
theorem z_ifnonnullN (B : zF K p l s m args meth c A cc nL own nm Ts ret tb) {off : Int} (d : decode cc pc = .ok (.ifnonnull off, 3)) (kk : zW K p l e R s m args below meth c A Q k n bs lv st (pc + 3)) : zW K p l e R s m args below meth c A Q k n bs lv (.null :: st) pc :=
  fun H locs ls hP hD hS h => lv_ifnonnullN B.1.1 B.1.2.1 d (kk H locs ls hP hD hS h)
theorem z_ifnull (B : zF K p l s m args meth c A cc nL own nm Ts ret tb) {a : Nat} {off : Int} (d : decode cc pc = .ok (.ifnull off, 3)) (kk : zW K p l e R s m args below meth c A Q k n bs lv st (pc + 3)) : zW K p l e R s m args below meth c A Q k n bs lv (.ref a :: st) pc :=
  fun H locs ls hP hD hS h => lv_ifnull B.1.1 B.1.2.1 d (kk H locs ls hP hD hS h)
theorem z_ifnullN (B : zF K p l s m args meth c A cc nL own nm Ts ret tb) {off : Int} (tgt : Nat) (d : decode cc pc = .ok (.ifnull off, 3)) (ht : (pc : Int) + off = (tgt : Int)) (kk : zW K p l e R s m args below meth c A Q k n bs lv st tgt) : zW K p l e R s m args below meth c A Q k n bs lv (.null :: st) pc :=
  fun H locs ls hP hD hS h => lv_ifnullN B.1.1 B.1.2.1 d ht (kk H locs ls hP hD hS h)
-- fields
theorem z_get (B : zF K p l s m args meth c A cc nL own nm Ts ret tb) {a : Nat} {ref C fn fd : String} {T : u_T} {N ci index : Nat} {fs : List Value} {b : va_W} {v : Value} (q j i : Nat) (hin : ∀ w ∈ u_ws C T N, w ∈ Ts) (hlink : Cond.fieldLink own index ref fn fd ∈ Ts) (hb : bs[q]? = some b) (he : b[j]? = some (a, .inr (ci, fs))) (hc : vwCl[ci]? = some (C, T, N)) (hi : i < N) (hT1 : (T i).1 = ref) (hT2 : (T i).2.1 = fn) (hT3 : (T i).2.2.1 = fd) (hv : fs[i]? = some v) (d : decode cc pc = .ok (.getfield index, 3))
    (kk : zW K p l e R s m args below meth c A Q k n bs lv (v :: st) (pc + 3)) : zW K p l e R s m args below meth c A Q k n bs lv (.ref a :: st) pc := by
  subst hT1 hT2 hT3
  intro H locs ls hP hD hS h
  obtain ⟨P, hq⟩ := z_at hb he
  exact va_get (D := K.1) B.1.1 B.1.2.1 B.1.2.2.2.2 hin B.1.2.2.2.1 B.2.1 hP P hq hc i hi (B.1.2.2.2.2 _ hlink) (fun _ h9 => h9) hv d (kk H locs ls hP hD hS h)
theorem z_put (B : zF K p l s m args meth c A cc nL own nm Ts ret tb) {a : Nat} {ref C fn fd : String} {T : u_T} {N ci index : Nat} {fs : List Value} {b : va_W} {v : Value} {ty : FieldType} {ty0 : Nat → FieldType} (q j i : Nat) (hin : ∀ w ∈ u_ws C T N, w ∈ Ts) (hlink : Cond.fieldLink own index ref fn fd ∈ Ts) (hty : ∀ k, k < N → parseFieldDescriptor (T k).2.2.1 = some (ty0 k)) (hnm : ∀ a, a < N → ∀ b, b < N → a ≠ b → (T a).2.1 ≠ (T b).2.1) (hb : bs[q]? = some b) (he : b[j]? = some (a, .inr (ci, fs))) (hc : vwCl[ci]? = some (C, T, N)) (hi : i < N) (hT1 : (T i).1 = ref) (hT2 : (T i).2.1 = fn) (hT3 : (T i).2.2.1 = fd) (hfin : (T i).2.2.2 = false) (hd : ty0 i = ty) (hn : narrow ty v = v) (hfit : fits ty v = true) (hl : i < fs.length) {bs' : zB} (hbs : bs.set q (b.set j (a, .inr (ci, fs.set i v))) = bs') (d : decode cc pc = .ok (.putfield index, 3))
    (kk : zW K p l e R s m args below meth c A Q k n bs' lv st (pc + 3)) : zW K p l e R s m args below meth c A Q k n bs lv (v :: .ref a :: st) pc := by
  subst hT1 hT2 hT3 hbs
  intro H locs ls hP hD hS h
  obtain ⟨P, hq, hset⟩ := z_fl bs q j b _ (a, .inr (ci, fs.set i v)) hb he
  refine va_put (D := K.1) (ty := ty) B.1.1 B.1.2.1 B.1.2.2.2.2 hin ty0 hty hnm B.1.2.2.2.1 B.2.1 hP hD hS P hq hc i hi (B.1.2.2.2.2 _ hlink) (fun _ h9 => h9) hfin (by rw [hty i hi, hd]) hn hfit hl d (fun H1 locs1 hP1 hD1 hS1 => ?_)
  rw [← hset] at hP1 hD1
  exact kk H1 locs1 ls hP1 hD1 hS1 h
theorem z_putF (B : zF K p l s m args meth c A cc nL own nm Ts ret tb) {a : Nat} {ref C fn fd : String} {T : u_T} {N ci index : Nat} {fs : List Value} {b : va_W} {v : Value} {ty : FieldType} {ty0 : Nat → FieldType} (q j i : Nat) (hin : ∀ w ∈ u_ws C T N, w ∈ Ts) (hlink : Cond.fieldLink own index ref fn fd ∈ Ts) (hty : ∀ k, k < N → parseFieldDescriptor (T k).2.2.1 = some (ty0 k)) (hnm : ∀ a, a < N → ∀ b, b < N → a ≠ b → (T a).2.1 ≠ (T b).2.1) (hb : bs[q]? = some b) (he : b[j]? = some (a, .inr (ci, fs))) (hc : vwCl[ci]? = some (C, T, N)) (hi : i < N) (hT1 : (T i).1 = ref) (hT2 : (T i).2.1 = fn) (hT3 : (T i).2.2.1 = fd) (hfin : (T i).2.2.2 = true) (hinit : nm = "<init>") (hdecl : ref = own) (hd : ty0 i = ty) (hn : narrow ty v = v) (hfit : fits ty v = true) (hl : i < fs.length) {bs' : zB} (hbs : bs.set q (b.set j (a, .inr (ci, fs.set i v))) = bs') (d : decode cc pc = .ok (.putfield index, 3))
    (kk : zW K p l e R s m args below meth c A Q k n bs' lv st (pc + 3)) : zW K p l e R s m args below meth c A Q k n bs lv (v :: .ref a :: st) pc := by
  subst hT1 hT2 hT3 hbs
  intro H locs ls hP hD hS h
  obtain ⟨P, hq, hset⟩ := z_fl bs q j b _ (a, .inr (ci, fs.set i v)) hb he
  refine va_putF (D := K.1) (ty := ty) B.1.1 B.1.2.1 B.1.2.2.2.2 hin ty0 hty hnm B.1.2.2.2.1 B.2.1 hP hD hS P hq hc i hi (B.1.2.2.2.2 _ hlink) (fun _ h9 => h9) hfin (B.2.2.2.2.2.1.trans hinit) hdecl (by rw [hty i hi, hd]) hn hfit hl d (fun H1 locs1 hP1 hD1 hS1 => ?_)
  rw [← hset] at hP1 hD1
  exact kk H1 locs1 ls hP1 hD1 hS1 h
-- arrays
theorem z_iald (B : zF K p l s m args meth c A cc nL own nm Ts ret tb) {a N : Nat} {f : Nat → Int32} {b : va_W} (q j : Nat) (hb : bs[q]? = some b) (he : b[j]? = some (a, .inl (zI K, N, .inl f))) {i : Int32} (hin : vp_in i N) (d : decode cc pc = .ok (.iaload, 1))
    (kk : zW K p l e R s m args below meth c A Q k n bs lv (.int (f i.toNatClampNeg) :: st) (pc + 1)) : zW K p l e R s m args below meth c A Q k n bs lv (.int i :: .ref a :: st) pc := by
  intro H locs ls hP hD hS h
  obtain ⟨P, hq⟩ := z_at hb he
  exact va_iald (D := K.1) B.1.1 B.1.2.1 B.2.1 hP P 0 hq rfl hin d (kk H locs ls hP hD hS h)
theorem z_aald (B : zF K p l s m args meth c A cc nL own nm Ts ret tb) {a N : Nat} {f : Nat → Option Nat} {b : va_W} (q j : Nat) (hb : bs[q]? = some b) (he : b[j]? = some (a, .inl (zS K, N, .inr (.inr (.inr (.inr f)))))) {i : Int32} (hin : vp_in i N) (d : decode cc pc = .ok (.aaload, 1))
    (kk : zW K p l e R s m args below meth c A Q k n bs lv (va_rf (f i.toNatClampNeg) :: st) (pc + 1)) : zW K p l e R s m args below meth c A Q k n bs lv (.int i :: .ref a :: st) pc := by
  intro H locs ls hP hD hS h
  obtain ⟨P, hq⟩ := z_at hb he
  exact va_aldq (D := K.1) B.1.1 B.1.2.1 B.2.1 hP P 2 hq rfl hin d (kk H locs ls hP hD hS h)
theorem z_iast (B : zF K p l s m args meth c A cc nL own nm Ts ret tb) {a N : Nat} {f : Nat → Int32} {b : va_W} (q j : Nat) (hb : bs[q]? = some b) (he : b[j]? = some (a, .inl (zI K, N, .inl f))) {i x : Int32} (hin : vp_in i N) {bs' : zB} (hbs : bs.set q (b.set j (a, .inl (zI K, N, .inl (upd f i.toNatClampNeg x)))) = bs') (d : decode cc pc = .ok (.iastore, 1))
    (kk : zW K p l e R s m args below meth c A Q k n bs' lv st (pc + 1)) : zW K p l e R s m args below meth c A Q k n bs lv (.int x :: .int i :: .ref a :: st) pc := by
  subst hbs
  intro H locs ls hP hD hS h
  obtain ⟨P, hq, hset⟩ := z_fl bs q j b _ (a, .inl (zI K, N, .inl (upd f i.toNatClampNeg x))) hb he
  refine va_iast (D := K.1) B.1.1 B.1.2.1 B.2.1 hP hD hS P 0 hq rfl hin d (fun H1 locs1 hP1 hD1 hS1 => ?_)
  rw [← hset] at hP1 hD1
  exact kk H1 locs1 ls hP1 hD1 hS1 h
theorem z_aast (B : zF K p l s m args meth c A cc nL own nm Ts ret tb) {a N v : Nat} {f : Nat → Option Nat} {b b2 : va_W} {vs : List Value} (q j q2 j2 : Nat) (hb : bs[q]? = some b) (he : b[j]? = some (a, .inl (zS K, N, .inr (.inr (.inr (.inr f)))))) (hb2 : bs[q2]? = some b2) (he2 : b2[j2]? = some (v, .inr (2, vs))) {i : Int32} (hin : vp_in i N) {bs' : zB} (hbs : bs.set q (b.set j (a, .inl (zS K, N, .inr (.inr (.inr (.inr (va_up f i.toNatClampNeg (some v)))))))) = bs') (d : decode cc pc = .ok (.aastore, 1))
    (kk : zW K p l e R s m args below meth c A Q k n bs' lv st (pc + 1)) : zW K p l e R s m args below meth c A Q k n bs lv (.ref v :: .int i :: .ref a :: st) pc := by
  subst hbs
  intro H locs ls hP hD hS h
  obtain ⟨P, hq, hset⟩ := z_fl bs q j b _ (a, .inl (zS K, N, .inr (.inr (.inr (.inr (va_up f i.toNatClampNeg (some v))))))) hb he
  obtain ⟨P2, hq2⟩ := z_at hb2 he2
  refine va_astq (D := K.1) (r := (RX2, TX2, 4)) B.1.1 B.1.2.1 B.2.1 hP hD hS P 2 P2 2 hq rfl hq2 rfl hin d (fun H1 locs1 hP1 hD1 hS1 => ?_)
  rw [← hset] at hP1 hD1
  exact kk H1 locs1 ls hP1 hD1 hS1 h
theorem z_alen (B : zF K p l s m args meth c A cc nL own nm Ts ret tb) {a : Nat} {cA : ClassId} {x : vp_A} {ty : FieldType} {b : va_W} {v : Int32} (q j t0 : Nat) (hb : bs[q]? = some b) (he : b[j]? = some (a, .inl (cA, x))) (ht : (zty K)[t0]? = some (cA, ty)) (hv : Int32.ofNat x.1 = v) (d : decode cc pc = .ok (.arraylength, 1))
    (kk : zW K p l e R s m args below meth c A Q k n bs lv (.int v :: st) (pc + 1)) : zW K p l e R s m args below meth c A Q k n bs lv (.ref a :: st) pc := by
  intro H locs ls hP hD hS h
  obtain ⟨P, hq⟩ := z_at hb he
  exact va_alen (D := K.1) B.1.1 B.1.2.1 B.2.1 hP P t0 hq ht hv d (kk H locs ls hP hD hS h)
-- the same world, the same locals in another order; more room
theorem z_perm {bs' : zB} (hp : bs.flatten.Perm bs'.flatten) (kk : zW K p l e R s m args below meth c A Q k n bs' lv st pc) : zW K p l e R s m args below meth c A Q k n bs lv st pc :=
  fun H locs ls hP hD hS h => kk H locs ls (z_Pp hp hP) (z_Dp hp hD) hS h
theorem z_lsub {lv' : List (Nat × Value)} (ks : List Nat) (hl : lv_pick lv ks = lv') (kk : zW K p l e R s m args below meth c A Q k n bs lv' st pc) : zW K p l e R s m args below meth c A Q k n bs lv st pc :=
  fun H locs ls hP hD hS h => kk H locs ls hP hD hS (lv_sub h ks hl)
theorem z_widen {k' n' : Nat} (h1 : k ≤ k') (h2 : n ≤ n') (kk : zW K p l e R s m args below meth c A Q k' n' bs lv st pc) : zW K p l e R s m args below meth c A Q k n bs lv st pc :=
  fun H locs ls hP hD hS h => W.widen h1 h2 (kk H locs ls hP hD hS h)
-- ends
theorem z_ret1 {S : Type} {f : S → Option Value × zB} {post : S → Prop} {XC : String → State → State → Prop} {mc ms : Nat} {ty : FieldType} {v : Int32} (B : zF K p l s m args meth c A cc nL own nm Ts (some ty) tb) (hn : narrow ty (.int v) = .int v) (d : decode cc pc = .ok (.ireturn, 1)) (u : S) (hp : post u) (hk : k ≤ mc) (hm : n ≤ ms) (hv : (f u).1 = some (.int v)) (hw : (f u).2 = bs) : zW K p l e R s m args below meth c A (vx_MQ below (zQ K A f post) XC args s mc ms A) k n bs lv [.int v] pc := by
  intro H locs ls hP hD hS h
  refine W.widen hk hm (vx_ret (W.zret B.1.1 B.1.2.1 B.2.2.2.2.1 hn (fun t ht hW => ⟨⟨u, by rw [hv], hp, by rw [hw, ht]; exact hP, by rw [hw]; exact hD⟩, hS.F ht⟩) hS.2.2 d B.2.2.2.1))
theorem z_reta {S : Type} {f : S → Option Value × zB} {post : S → Prop} {XC : String → State → State → Prop} {mc ms : Nat} {cn : String} {v : Value} (B : zF K p l s m args meth c A cc nL own nm Ts (some (.object cn)) tb) (hvr : v = .null ∨ ∃ a, v = .ref a) (d : decode cc pc = .ok (.areturn, 1)) (u : S) (hp : post u) (hk : k ≤ mc) (hm : n ≤ ms) (hv : (f u).1 = some v) (hw : (f u).2 = bs) : zW K p l e R s m args below meth c A (vx_MQ below (zQ K A f post) XC args s mc ms A) k n bs lv [v] pc := by
  intro H locs ls hP hD hS h
  refine W.widen hk hm (vx_ret (W.aret B.1.1 B.1.2.1 B.2.2.2.2.1 (Or.inl ⟨cn, rfl⟩) hvr (fun t ht hW => ⟨⟨u, by rw [hv], hp, by rw [hw, ht]; exact hP, by rw [hw]; exact hD⟩, hS.F ht⟩) hS.2.2 d B.2.2.2.1))
theorem z_ret0 {S : Type} {f : S → Option Value × zB} {post : S → Prop} {XC : String → State → State → Prop} {mc ms : Nat} (B : zF K p l s m args meth c A cc nL own nm Ts none tb) (d : decode cc pc = .ok (.return_, 1)) (u : S) (hp : post u) (hk : k ≤ mc) (hm : n ≤ ms) (hv : (f u).1 = none) (hw : (f u).2.flatten = bs.flatten) : zW K p l e R s m args below meth c A (vx_MQ below (zQ K A f post) XC args s mc ms A) k n bs lv [] pc := by
  intro H locs ls hP hD hS h
  refine W.widen hk hm (vx_ret (W.vret B.1.1 B.1.2.1 B.2.2.2.2.1 (fun t ht hW => ⟨⟨u, by rw [hv], hp, by rw [hw, ht]; exact hP, by rw [hw]; exact hD⟩, hS.F ht⟩) hS.2.2 d B.2.2.2.1))
/-- an exception of a callee goes on to the caller (no table) -/
theorem z_out {Qc : Array Value → State → Outcome → State → Prop} {xc : String → Prop} {mc ms : Nat} {E : String} (B : zF K p l s m args meth c A cc nL own nm Ts ret []) (hx : xc E) (hk : k ≤ mc) (hm : n ≤ ms) : zXW K p l e R s m args below meth c A (vx_MQ below Qc (zX K A bs xc) args s mc ms A) k n bs lv st pc E := by
  intro H locs ls q ce hP hD hS h hce hcv hcl
  refine vx_out (fun x hx' => by rw [B.2.2.2.2.2.2.1] at hx'; cases hx') B.2.2.2.1 hce hcv hcl (fun t ht hal => ⟨hx, by rw [ht]; exact hP, hD, hS.F ht⟩) hS.2.2 hk hm
-- calls
theorem z_after {D : va_G} {cl : List vw_C} {bc br w1 bs' : zB} {H H1 : Heap} (hpm : bs.flatten.Perm (bc ++ br).flatten) (hpm' : (w1 ++ br).flatten.Perm bs'.flatten) (hP : va_P D cl bs.flatten H) (hD : va_D A bs.flatten) (hF : ∀ q, va_A bc.flatten H.size q → A q) (hk : ∀ q : Nat, q < H.size → ¬ va_A bc.flatten H.size q → H1[q]? = H[q]?) (h1 : va_P D cl w1.flatten H1) (h2 : va_D (va_A bc.flatten H.size) w1.flatten) : va_P D cl bs'.flatten H1 ∧ va_D A bs'.flatten := by
  have hP' := z_Pp hpm hP
  have hD' := z_Dp hpm hD
  rw [List.flatten_append] at hP' hD'
  have hd := z_D.mp hD'
  have hnd := hd.1
  rw [List.map_append, List.nodup_append] at hnd
  have hd2 := z_D.mp h2
  have apart : ∀ q ∈ br.flatten, q.1 < H.size ∧ ¬ va_A bc.flatten H.size q.1 := by
    intro q hq
    have hl : q.1 < H.size := (z_P.mp hP' q (List.mem_append_right _ hq)).lt
    refine ⟨hl, fun h => ?_⟩
    rcases z_A.mp h with ⟨e, he⟩ | h
    · exact hnd.2.2 q.1 (List.mem_map.mpr ⟨_, he, rfl⟩) q.1 (List.mem_map.mpr ⟨_, hq, rfl⟩) rfl
    · omega
  refine ⟨z_Pp hpm' ?_, z_Dp hpm' ?_⟩
  · rw [List.flatten_append]
    exact h1.app (z_P.mpr fun q hq => (z_P.mp hP' q (List.mem_append_right _ hq)).kept (hk q.1 (apart q hq).1 (apart q hq).2))
  · rw [List.flatten_append]
    refine z_D.mpr ⟨?_, fun q hq => ?_⟩
    · rw [List.map_append, List.nodup_append]
      refine ⟨hd2.1, hnd.2.1, fun a ha b hb hab => ?_⟩
      obtain ⟨x, hx, rfl⟩ := List.mem_map.mp ha
      obtain ⟨y, hy, rfl⟩ := List.mem_map.mp hb
      exact (apart y hy).2 (hab ▸ hd2.2 x hx)
    · rcases List.mem_append.mp hq with h | h
      · exact hF q.1 (hd2.2 q h)
      · exact hd.2 q (List.mem_append_right _ h)
theorem z_sub {bc br : zB} {H : Heap} {locs : List Loc} (hpm : bs.flatten.Perm (bc ++ br).flatten) (hD : va_D A bs.flatten) (hS : va_S A s.heap H locs) (hA : ∀ q, s.heap.size ≤ q → A q) : ∀ q, va_A bc.flatten H.size q → A q := by
  intro q h
  rcases z_A.mp h with ⟨e, he⟩ | h
  · refine (z_D.mp hD).2 (q, e) (hpm.mem_iff.mpr ?_)
    rw [List.flatten_append]
    exact List.mem_append_left _ he
  · exact hA q (Nat.le_trans hS.1 h)
theorem z_cut {D : va_G} {cl : List vw_C} {bc br : zB} {H : Heap} (hpm : bs.flatten.Perm (bc ++ br).flatten) (hP : va_P D cl bs.flatten H) (hD : va_D A bs.flatten) : va_P D cl bc.flatten H ∧ va_D (fun _ => True) bc.flatten := by
  have hP' := z_Pp hpm hP
  have hD' := z_D.mp (z_Dp hpm hD)
  rw [List.flatten_append] at hP' hD'
  refine ⟨z_P.mpr fun q hq => z_P.mp hP' q (List.mem_append_left _ hq), z_D.mpr ⟨?_, fun _ _ => trivial⟩⟩
  have := hD'.1
  rw [List.map_append, List.nodup_append] at this
  exact this.1
theorem z_run (B : zF K p l s m args meth c A cc nL own nm Ts ret tb) {S : Type} {f : S → Option Value × zB} {post : S → Prop} {xc : String → Prop} {a : Array Value} {mc ms : Nat} {bc br : zB} {bs' : S → zB} {st0 : List Value} (hpm : bs.flatten.Perm (bc ++ br).flatten) (hpm' : ∀ u, ((f u).2 ++ br).flatten.Perm (bs' u).flatten)
    (hr : ∀ (H : Heap) (locs : List Loc) (ls : Array Slot), va_P K.1 vwCl bs.flatten H → va_D A bs.flatten → va_S A s.heap H locs → lv_has ls c.maxLocals lv → vx_Run p l e R s m args below meth c H locs k n mc ms (F0 m pc ls st0) st (zQ K (va_A bc.flatten H.size) f post a) (zX K (va_A bc.flatten H.size) bc xc) (va_A bc.flatten H.size))
    (kx : ∀ E : String, xc E → zXW K p l e R s m args below meth c A Q (k + mc) (n + ms) bs lv st pc E)
    (kk : ∀ u : S, post u → zW K p l e R s m args below meth c A Q (k + mc) (n + ms) (bs' u) lv ((f u).1.toList ++ st) (pc + 3)) : zW K p l e R s m args below meth c A Q k n bs lv st0 pc := by
  intro H locs ls hP hD hS h T hT X
  have hF := z_sub hpm hD hS B.2.2.1
  rcases hr H locs ls hP hD hS h T hT X with ⟨v, st₀, t, T', L, h0, X', hL, e1, e2, ⟨⟨u, hv, hp, hb1, hb2⟩, hFr⟩, sg⟩ | ⟨q, st₀, t, T', L, E, ce, h0, X', hL, e1, e2, ⟨hp, hb1, hb2, hFr⟩, hce, hcv, hcl, sg⟩
  · cases hv
    obtain ⟨k1, k2, k3⟩ := vx_keep h0 e1 hS (fun q _ h => hF q h) (fun q h => hF q h) hL hFr
    rw [← e1] at hb1
    obtain ⟨g1, g2⟩ := z_after hpm (hpm' u) hP hD hF k2 hb1 hb2
    obtain ⟨t2, a1, b1⟩ := kk u hp T'.heap (locs ++ L) ls g1 g2 k3 h T' rfl X'
    exact ⟨t2, sg t2 a1, b1⟩
  · obtain ⟨k1, k2, k3⟩ := vx_keep h0 e1 hS (fun q _ h => hF q h) (fun q h => hF q h) hL hFr
    rw [← e1] at hb1
    obtain ⟨g1, g2⟩ := z_after hpm hpm.symm hP hD hF k2 hb1 hb2
    obtain ⟨t2, a1, b1⟩ := kx E hp T'.heap (locs ++ L) ls q ce g1 g2 k3 h (by rw [e1]; exact hce) hcv hcl T' rfl X'
    exact ⟨t2, sg.trans a1, b1⟩
theorem zMeN.met {y : MethodName} {ws' : List Cond} {rm : Room} {as : List Value} {S : Type} {f : S → Option Value × zB} {post : S → Prop} (h : zMeN l K y ws' rm as bs f post zNo) (sz : Nat) : Met l y ws' rm (zPre K as bs sz) (zQ K (va_A bs.flatten sz) f post) rm.cells rm.slots (va_A bs.flatten sz) := by
  intro p e h1 h2 h3 s m args below h4 h5 h6 h7
  obtain ⟨n, o, a1, a2, a3, a4⟩ := h sz p e h1 h2 h3 s m args below h4 h5 h6 h7
  rcases a4 with a4 | ⟨q, -, E, ce, L, hx, -⟩
  · exact ⟨n, o, a1, a2, a3, a4⟩
  · exact absurd hx.1 id
/-- how the blocks of a call lie among the caller's: isC the callee's, isR the rest -/
def zSp (bs bc br : zB) (isC isR : List Nat) : Prop := isC.filterMap (fun i => bs[i]?) = bc ∧ isR.filterMap (fun i => bs[i]?) = br ∧ (isC ++ isR).isPerm (List.range bs.length) = true
theorem zSp.pm {bs bc br : zB} {isC isR : List Nat} (h : zSp bs bc br isC isR) : bs.flatten.Perm (bc ++ br).flatten := by
  obtain ⟨h1, h2, h5⟩ := h
  refine z_pm (isC ++ isR) h5 ?_
  rw [List.filterMap_append, h1, h2]
section ZC
variable {y : MethodName} {C : String} {index maxL nA : Nat} {bytes : ByteArray} {ret' : Option FieldType} {ws' ws'' : List Cond} {rm : Room} {bc br : zB} {xc : String → Prop} {As st0 : List Value}
theorem z_callV (B : zF K p l s m args meth c A cc nL own nm Ts ret tb) {S : Type} {f : S → Option Value × zB} {post : S → Prop} {b : Nat} {bs' : S → zB} (hM : zMeN l K y ws' rm (.ref b :: As) bc f post xc) (isC isR : List Nat) (hs : zSp bs bc br isC isR) (hs' : ∀ u, zSp (bs' u) (f u).2 br isC isR) (q j : Nat) {ci : Nat} {fs : List Value} {bb : va_W} {vc : vw_C} (hb : bs[q]? = some bb) (he : bb[j]? = some (b, .inr (ci, fs))) (hc : vwCl[ci]? = some vc) (hC : vc.1 = C)
    (hG : GoodIn Ts (wsV own index C y ws')) (hw : ws' = Cond.code y bytes maxL ret' :: ws'') (hd : y.cls = C ∧ y.cls ≠ "java/lang/invoke/MethodHandle" ∧ y.cls ≠ "java/lang/invoke/VarHandle" ∧ (parseMethodDescriptor y.desc).map (fun d => d.parameters.length) = some nA) (hR : rm.frames + 1 ≤ R.frames ∧ 8 + (maxL + 11) + rm.locals ≤ R.locals) (hn : As.length = nA) (hst : st0 = As.reverse ++ .ref b :: st) (hW : (st.map fun v => v.category).sum ≤ 8) (hm : k + rm.cells ≤ R.cells ∧ n + rm.slots ≤ R.slots) (d : decode cc pc = .ok (.invokevirtual index, 3))
    (kx : ∀ E : String, xc E → zXW K p l e R s m args below meth c A Q (k + rm.cells) (n + rm.slots) bs lv st pc E)
    (kk : ∀ u : S, post u → zW K p l e R s m args below meth c A Q (k + rm.cells) (n + rm.slots) (bs' u) lv ((f u).1.toList ++ st) (pc + 3)) : zW K p l e R s m args below meth c A Q k n bs lv st0 pc := by
  refine z_run (a := (Value.ref b :: As).toArray) (bs' := bs') B hs.pm (fun u => (hs' u).pm.symm) (fun H locs ls hP hD hS h => ?_) kx kk
  obtain ⟨g1, g2⟩ := z_cut hs.pm hP hD
  obtain ⟨P, hq⟩ := z_at hb he
  subst hC
  exact vx_runV (As := As) (rest := st) B.1 (hM H.size) (cwV nA B.1.2.2.2.2 hG hw rfl rfl hd hR) ⟨zPre.blind, va_recv B.2.1 hP hc hq, fun U hU hW => ⟨rfl, by rw [hU], by rw [hU]; exact g1, va_K.moved hW.alike B.2.1, g2, zT.to B.2.2.2.2.2.2.2.2 hS hU hW (z_sub hs.pm hD hS B.2.2.1)⟩⟩ rfl hn (h.1.trans B.1.2.2.1) hst (lv_room hW) d hm
theorem z_callS (B : zF K p l s m args meth c A cc nL own nm Ts ret tb) {S : Type} {f : S → Option Value × zB} {post : S → Prop} {bs' : S → zB} (hM : zMeN l K y ws' rm As bc f post xc) (isC isR : List Nat) (hs : zSp bs bc br isC isR) (hs' : ∀ u, zSp (bs' u) (f u).2 br isC isR)
    (hG : GoodIn Ts (va_wsS own index y ws')) (hw : ws' = Cond.code y bytes maxL ret' :: ws'') (hd : y.cls ≠ "java/lang/invoke/MethodHandle" ∧ y.cls ≠ "java/lang/invoke/VarHandle" ∧ (parseMethodDescriptor y.desc).map (fun d => d.parameters.length) = some nA) (hR : rm.frames + 1 ≤ R.frames ∧ 8 + (maxL + 11) + rm.locals ≤ R.locals) (hn : As.length = nA) (hst : st0 = As.reverse ++ st) (hW : (st.map fun v => v.category).sum ≤ 8) (hm : k + rm.cells ≤ R.cells ∧ n + rm.slots ≤ R.slots) (d : decode cc pc = .ok (.invokestatic index, 3))
    (kx : ∀ E : String, xc E → zXW K p l e R s m args below meth c A Q (k + rm.cells) (n + rm.slots) bs lv st pc E)
    (kk : ∀ u : S, post u → zW K p l e R s m args below meth c A Q (k + rm.cells) (n + rm.slots) (bs' u) lv ((f u).1.toList ++ st) (pc + 3)) : zW K p l e R s m args below meth c A Q k n bs lv st0 pc := by
  refine z_run (a := As.toArray) (bs' := bs') B hs.pm (fun u => (hs' u).pm.symm) (fun H locs ls hP hD hS h => ?_) kx kk
  obtain ⟨g1, g2⟩ := z_cut hs.pm hP hD
  exact vx_runS (As := As) (rest := st) B.1 (hM H.size) (va_cwS nA B.1.2.2.2.2 hG hw rfl rfl hd hR) ⟨zPre.blind, fun U hU hW => ⟨rfl, by rw [hU], by rw [hU]; exact g1, va_K.moved hW.alike B.2.1, g2, zT.to B.2.2.2.2.2.2.2.2 hS hU hW (z_sub hs.pm hD hS B.2.2.1)⟩⟩ rfl hn (h.1.trans B.1.2.2.1) hst (lv_room hW) d hm
/-- a static method with a table (the law's own) -/
theorem z_callH (B : zF K p l s m args meth c A cc nL own nm Ts ret tb) {S : Type} {f : S → Option Value × zB} {post : S → Prop} {bs' : S → zB} {hh : List (Nat × Nat × Nat × Nat)} (hM : zMeN l K y ws' rm As bc f post xc) (isC isR : List Nat) (hs : zSp bs bc br isC isR) (hs' : ∀ u, zSp (bs' u) (f u).2 br isC isR)
    (hG : GoodIn Ts (va_wsS own index y ws')) (hw : ws' = Cond.codeWith y bytes maxL ret' hh :: ws'') (hd : y.cls ≠ "java/lang/invoke/MethodHandle" ∧ y.cls ≠ "java/lang/invoke/VarHandle" ∧ (parseMethodDescriptor y.desc).map (fun d => d.parameters.length) = some nA) (hR : rm.frames + 1 ≤ R.frames ∧ 8 + (maxL + 11) + rm.locals ≤ R.locals) (hn : As.length = nA) (hst : st0 = As.reverse ++ st) (hW : (st.map fun v => v.category).sum ≤ 8) (hm : k + rm.cells ≤ R.cells ∧ n + rm.slots ≤ R.slots) (d : decode cc pc = .ok (.invokestatic index, 3))
    (kx : ∀ E : String, xc E → zXW K p l e R s m args below meth c A Q (k + rm.cells) (n + rm.slots) bs lv st pc E)
    (kk : ∀ u : S, post u → zW K p l e R s m args below meth c A Q (k + rm.cells) (n + rm.slots) (bs' u) lv ((f u).1.toList ++ st) (pc + 3)) : zW K p l e R s m args below meth c A Q k n bs lv st0 pc := by
  refine z_run (a := As.toArray) (bs' := bs') B hs.pm (fun u => (hs' u).pm.symm) (fun H locs ls hP hD hS h => ?_) kx kk
  obtain ⟨g1, g2⟩ := z_cut hs.pm hP hD
  exact vx_runSX (As := As) (rest := st) B.1 (hM H.size) (vx_cwSW (hh := hh) nA B.1.2.2.2.2 hG hw rfl rfl hd hR) ⟨zPre.blind, fun U hU hW => ⟨rfl, by rw [hU], by rw [hU]; exact g1, va_K.moved hW.alike B.2.1, g2, zT.to B.2.2.2.2.2.2.2.2 hS hU hW (z_sub hs.pm hD hS B.2.2.1)⟩⟩ rfl hn (h.1.trans B.1.2.2.1) hst (lv_room hW) d hm
/-- a constructor -/
theorem z_callI (B : zF K p l s m args meth c A cc nL own nm Ts ret tb) {S : Type} {f : S → Option Value × zB} {post : S → Prop} {b : Nat} {bs' : S → zB} (hM : zMeN l K y ws' rm (.ref b :: As) bc f post zNo) (isC isR : List Nat) (hs : zSp bs bc br isC isR) (hs' : ∀ u, zSp (bs' u) (f u).2 br isC isR)
    (hG : GoodIn Ts ws') (hl : Cond.methodLink own index y ∈ Ts) (hin : Cond.instanceMethod y ∈ Ts) (hini : Cond.initialized y.cls ∈ Ts) (hw : ws' = Cond.code y bytes maxL none :: ws'') (hy1 : y.name = "<init>") (hd : y.cls ≠ "java/lang/invoke/MethodHandle" ∧ y.cls ≠ "java/lang/invoke/VarHandle" ∧ (parseMethodDescriptor y.desc).map (fun d => d.parameters.length) = some nA) (hR : rm.frames + 1 ≤ R.frames ∧ 8 + (maxL + 11) + rm.locals ≤ R.locals) (hn : As.length = nA) (hst : st0 = As.reverse ++ .ref b :: st) (hW : (st.map fun v => v.category).sum ≤ 8) (hm : k + rm.cells ≤ R.cells ∧ n + rm.slots ≤ R.slots) (d : decode cc pc = .ok (.invokespecial index, 3))
    (kk : ∀ u : S, post u → zW K p l e R s m args below meth c A Q (k + rm.cells) (n + rm.slots) (bs' u) lv ((f u).1.toList ++ st) (pc + 3)) : zW K p l e R s m args below meth c A Q k n bs lv st0 pc := by
  refine z_run (a := (Value.ref b :: As).toArray) (xc := zNo) (bs' := bs') B hs.pm (fun u => (hs' u).pm.symm) (fun H locs ls hP hD hS h => ?_) (fun E h => absurd h id) kk
  obtain ⟨g1, g2⟩ := z_cut hs.pm hP hD
  intro T hT X
  exact Or.inl (va_runI (As := As) (rest := st) B.1 (hM.met H.size) (cwI nA B.1.2.2.2.2 hG hw rfl rfl (B.1.2.2.2.2 _ hini) (B.1.2.2.2.2 _ hl) (B.1.2.2.2.2 _ hin) hy1 hd hR) ⟨zPre.blind, fun U hU hW => ⟨rfl, by rw [hU], by rw [hU]; exact g1, va_K.moved hW.alike B.2.1, g2, zT.to B.2.2.2.2.2.2.2.2 hS hU hW (z_sub hs.pm hD hS B.2.2.1)⟩⟩ rfl hn (h.1.trans B.1.2.2.1) hst (lv_room hW) d hm T hT X)
-- the same with one end
theorem z_V1 (B : zF K p l s m args meth c A cc nL own nm Ts ret tb) {v : Value} {w bs' : zB} {cond : Prop} {b : Nat} (hM : zMet l K y ws' rm (.ref b :: As) bc (some v) w cond xc) (isC isR : List Nat) (hs : zSp bs bc br isC isR) (hs' : zSp bs' w br isC isR) (q j : Nat) {ci : Nat} {fs : List Value} {bb : va_W} {vc : vw_C} (hb : bs[q]? = some bb) (he : bb[j]? = some (b, .inr (ci, fs))) (hc : vwCl[ci]? = some vc) (hC : vc.1 = C)
    (hG : GoodIn Ts (wsV own index C y ws')) (hw : ws' = Cond.code y bytes maxL ret' :: ws'') (hd : y.cls = C ∧ y.cls ≠ "java/lang/invoke/MethodHandle" ∧ y.cls ≠ "java/lang/invoke/VarHandle" ∧ (parseMethodDescriptor y.desc).map (fun d => d.parameters.length) = some nA) (hR : rm.frames + 1 ≤ R.frames ∧ 8 + (maxL + 11) + rm.locals ≤ R.locals) (hn : As.length = nA) (hst : st0 = As.reverse ++ .ref b :: st) (hW : (st.map fun v => v.category).sum ≤ 8) (hm : k + rm.cells ≤ R.cells ∧ n + rm.slots ≤ R.slots) (d : decode cc pc = .ok (.invokevirtual index, 3))
    (kx : ∀ E : String, xc E → zXW K p l e R s m args below meth c A Q (k + rm.cells) (n + rm.slots) bs lv st pc E)
    (kk : cond → zW K p l e R s m args below meth c A Q (k + rm.cells) (n + rm.slots) bs' lv (v :: st) (pc + 3)) : zW K p l e R s m args below meth c A Q k n bs lv st0 pc :=
  z_callV (bs' := fun _ => bs') B hM isC isR hs (fun _ => hs') q j hb he hc hC hG hw hd hR hn hst hW hm d kx (fun _ h => kk h)
theorem z_V0 (B : zF K p l s m args meth c A cc nL own nm Ts ret tb) {w bs' : zB} {cond : Prop} {b : Nat} (hM : zMet l K y ws' rm (.ref b :: As) bc none w cond xc) (isC isR : List Nat) (hs : zSp bs bc br isC isR) (hs' : zSp bs' w br isC isR) (q j : Nat) {ci : Nat} {fs : List Value} {bb : va_W} {vc : vw_C} (hb : bs[q]? = some bb) (he : bb[j]? = some (b, .inr (ci, fs))) (hc : vwCl[ci]? = some vc) (hC : vc.1 = C)
    (hG : GoodIn Ts (wsV own index C y ws')) (hw : ws' = Cond.code y bytes maxL ret' :: ws'') (hd : y.cls = C ∧ y.cls ≠ "java/lang/invoke/MethodHandle" ∧ y.cls ≠ "java/lang/invoke/VarHandle" ∧ (parseMethodDescriptor y.desc).map (fun d => d.parameters.length) = some nA) (hR : rm.frames + 1 ≤ R.frames ∧ 8 + (maxL + 11) + rm.locals ≤ R.locals) (hn : As.length = nA) (hst : st0 = As.reverse ++ .ref b :: st) (hW : (st.map fun v => v.category).sum ≤ 8) (hm : k + rm.cells ≤ R.cells ∧ n + rm.slots ≤ R.slots) (d : decode cc pc = .ok (.invokevirtual index, 3))
    (kx : ∀ E : String, xc E → zXW K p l e R s m args below meth c A Q (k + rm.cells) (n + rm.slots) bs lv st pc E)
    (kk : cond → zW K p l e R s m args below meth c A Q (k + rm.cells) (n + rm.slots) bs' lv st (pc + 3)) : zW K p l e R s m args below meth c A Q k n bs lv st0 pc :=
  z_callV (bs' := fun _ => bs') B hM isC isR hs (fun _ => hs') q j hb he hc hC hG hw hd hR hn hst hW hm d kx (fun _ h => kk h)
theorem z_S1 (B : zF K p l s m args meth c A cc nL own nm Ts ret tb) {v : Value} {w bs' : zB} {cond : Prop} (hM : zMet l K y ws' rm As bc (some v) w cond xc) (isC isR : List Nat) (hs : zSp bs bc br isC isR) (hs' : zSp bs' w br isC isR)
    (hG : GoodIn Ts (va_wsS own index y ws')) (hw : ws' = Cond.code y bytes maxL ret' :: ws'') (hd : y.cls ≠ "java/lang/invoke/MethodHandle" ∧ y.cls ≠ "java/lang/invoke/VarHandle" ∧ (parseMethodDescriptor y.desc).map (fun d => d.parameters.length) = some nA) (hR : rm.frames + 1 ≤ R.frames ∧ 8 + (maxL + 11) + rm.locals ≤ R.locals) (hn : As.length = nA) (hst : st0 = As.reverse ++ st) (hW : (st.map fun v => v.category).sum ≤ 8) (hm : k + rm.cells ≤ R.cells ∧ n + rm.slots ≤ R.slots) (d : decode cc pc = .ok (.invokestatic index, 3))
    (kx : ∀ E : String, xc E → zXW K p l e R s m args below meth c A Q (k + rm.cells) (n + rm.slots) bs lv st pc E)
    (kk : cond → zW K p l e R s m args below meth c A Q (k + rm.cells) (n + rm.slots) bs' lv (v :: st) (pc + 3)) : zW K p l e R s m args below meth c A Q k n bs lv st0 pc :=
  z_callS (bs' := fun _ => bs') B hM isC isR hs (fun _ => hs') hG hw hd hR hn hst hW hm d kx (fun _ h => kk h)
theorem z_S0 (B : zF K p l s m args meth c A cc nL own nm Ts ret tb) {w bs' : zB} {cond : Prop} (hM : zMet l K y ws' rm As bc none w cond xc) (isC isR : List Nat) (hs : zSp bs bc br isC isR) (hs' : zSp bs' w br isC isR)
    (hG : GoodIn Ts (va_wsS own index y ws')) (hw : ws' = Cond.code y bytes maxL ret' :: ws'') (hd : y.cls ≠ "java/lang/invoke/MethodHandle" ∧ y.cls ≠ "java/lang/invoke/VarHandle" ∧ (parseMethodDescriptor y.desc).map (fun d => d.parameters.length) = some nA) (hR : rm.frames + 1 ≤ R.frames ∧ 8 + (maxL + 11) + rm.locals ≤ R.locals) (hn : As.length = nA) (hst : st0 = As.reverse ++ st) (hW : (st.map fun v => v.category).sum ≤ 8) (hm : k + rm.cells ≤ R.cells ∧ n + rm.slots ≤ R.slots) (d : decode cc pc = .ok (.invokestatic index, 3))
    (kx : ∀ E : String, xc E → zXW K p l e R s m args below meth c A Q (k + rm.cells) (n + rm.slots) bs lv st pc E)
    (kk : cond → zW K p l e R s m args below meth c A Q (k + rm.cells) (n + rm.slots) bs' lv st (pc + 3)) : zW K p l e R s m args below meth c A Q k n bs lv st0 pc :=
  z_callS (bs' := fun _ => bs') B hM isC isR hs (fun _ => hs') hG hw hd hR hn hst hW hm d kx (fun _ h => kk h)
end ZC
theorem z_noX {lv' : List (Nat × Value)} {st' : List Value} {pc' k' n' : Nat} {bs' : zB} : ∀ E : String, zNo E → zXW K p l e R s m args below meth c A Q k' n' bs' lv' st' pc' E := fun _ h => absurd h id
-- making things
theorem z_new (B : zF K p l s m args meth c A cc nL own nm Ts ret tb) {C : String} {T : u_T} {N ci index : Nat} {ty : Nat → FieldType} {fs : List Value} (hin : ∀ w ∈ u_ws C T N, w ∈ Ts) (hty : ∀ k, k < N → parseFieldDescriptor (T k).2.2.1 = some (ty k)) (hcl : Cond.classLink own index C ∈ Ts) (hinst : Cond.instantiable C N ∈ Ts) (hini : Cond.initialized C ∈ Ts) (hc : vwCl[ci]? = some (C, T, N)) (hfs : ∀ j, j < N → defaultValue (ty j) = vp_V fs j) (hk : k + 1 ≤ R.cells) (hm : n + N ≤ R.slots) (d : decode cc pc = .ok (.new index, 3))
    (kk : ∀ q : Nat, zW K p l e R s m args below meth c A Q (k + 1) (n + N) (bs ++ [[(q, .inr (ci, fs))]]) lv (.ref q :: st) (pc + 3)) : zW K p l e R s m args below meth c A Q k n bs lv st pc := by
  intro H locs ls hP hD hS h
  refine va_new (D := K.1) B.1.1 B.1.2.1 B.1.2.2.2.2 hin ty hty B.1.2.2.2.1 (B.1.2.2.2.2 _ hcl) (B.1.2.2.2.2 _ hinst) (B.1.2.2.2.2 _ hini) B.2.1 hP hD hS B.2.2.1 hc hfs hk hm d (fun q H1 hP1 hD1 hS1 => ?_)
  have e9 : (bs ++ [[(q, Sum.inr (ci, fs))]] : zB).flatten = bs.flatten ++ [(q, Sum.inr (ci, fs))] := by rw [List.flatten_append]; rfl
  exact kk q H1 locs ls (by rw [e9]; exact hP1) (by rw [e9]; exact hD1) hS1 h
theorem z_newI (B : zF K p l s m args meth c A cc nL own nm Ts ret tb) (harr : Cond.arrayClass .int ∈ Ts) {x : Int32} {N : Nat} (hx : ¬ x < 0) (hN : x.toNatClampNeg = N) (hb4 : N * 4 ≤ 536870912) (hk : k + 1 ≤ R.cells) (hm : n + N ≤ R.slots) (d : decode cc pc = .ok (.newarray .int, 2))
    (kk : ∀ q : Nat, zW K p l e R s m args below meth c A Q (k + 1) (n + N) (bs ++ [[(q, .inl (zI K, N, .inl (fun _ => 0)))]]) lv (.ref q :: st) (pc + 2)) : zW K p l e R s m args below meth c A Q k n bs lv (.int x :: st) pc := by
  intro H locs ls hP hD hS h
  refine va_newa (atype := .int) (ty := .int) (a0 := (N, .inl (fun _ => 0))) B.1.1 B.1.2.1 (B.1.2.2.2.2 _ harr) rfl B.2.1 hP hD hS B.2.2.1 (fun _ => rfl) hx hN hb4 hk hm d (fun q cA H1 hK1 hP1 hD1 hS1 => ?_)
  have e1 : cA = zI K := Option.some.inj (((hK1.2 4 (cA, .int) rfl).2 : s.vm.findClass _ = some cA).symm.trans (B.2.1.2 0 (zI K, .int) rfl).2)
  subst e1
  have e9 : (bs ++ [[(q, Sum.inl (zI K, N, Sum.inl (fun _ => 0)))]] : zB).flatten = bs.flatten ++ [(q, Sum.inl (zI K, N, Sum.inl (fun _ => 0)))] := by rw [List.flatten_append]; rfl
  exact kk q H1 locs ls (by rw [e9]; exact hP1) (by rw [e9]; exact hD1) hS1 h
theorem z_newA (B : zF K p l s m args meth c A cc nL own nm Ts ret tb) {index : Nat} (hcl : Cond.classLink own index RX2 ∈ Ts) {x : Int32} {N : Nat} (hx : ¬ x < 0) (hN : x.toNatClampNeg = N) (hb4 : N * 4 ≤ 536870912) (hk : k + 1 ≤ R.cells) (hm : n + N ≤ R.slots) (d : decode cc pc = .ok (.anewarray index, 3))
    (kk : ∀ q : Nat, zW K p l e R s m args below meth c A Q (k + 1) (n + N) (bs ++ [[(q, .inl (zS K, N, .inr (.inr (.inr (.inr (fun _ => none))))))]]) lv (.ref q :: st) (pc + 3)) : zW K p l e R s m args below meth c A Q k n bs lv (.int x :: st) pc := by
  intro H locs ls hP hD hS h
  refine va_newq B.1.1 B.1.2.1 B.1.2.2.2.1 (B.1.2.2.2.2 _ hcl) B.2.2.2.2.2.2.2.2.2.2.2.2.2.2.1 B.2.1 hP hD hS B.2.2.1 hx hN hb4 hk hm d (fun q cA H1 hK1 hP1 hD1 hS1 => ?_)
  have e1 : cA = zS K := by
    obtain ⟨_, _, _, _, _, h4⟩ := (hK1.2 4 (cA, .object RX2) rfl).2
    obtain ⟨_, _, _, _, _, h5⟩ := (B.2.1.2 2 (zS K, .object "ResolverFleet$Site") rfl).2
    exact Option.some.inj (h4.symm.trans h5)
  subst e1
  have e9 : (bs ++ [[(q, Sum.inl (zS K, N, Sum.inr (Sum.inr (Sum.inr (Sum.inr (fun _ => none))))))]] : zB).flatten = bs.flatten ++ [(q, Sum.inl (zS K, N, Sum.inr (Sum.inr (Sum.inr (Sum.inr (fun _ => none))))))] := by rw [List.flatten_append]; rfl
  exact kk q H1 locs ls (by rw [e9]; exact hP1) (by rw [e9]; exact hD1) hS1 h
theorem z_objInit (B : zF K p l s m args meth c A cc nL own nm Ts ret tb) {a idx : Nat} (hlink : Cond.methodLink own idx objectInit ∈ Ts) (hinst : Cond.instanceMethod objectInit ∈ Ts) (hcode : Cond.code objectInit ⟨#[0xb1]⟩ 1 none ∈ Ts) (hf : 1 ≤ R.frames) (hlo : (st.map fun v => v.category).sum + 12 ≤ R.locals) (d : decode cc pc = .ok (.invokespecial idx, 3))
    (kk : zW K p l e R s m args below meth c A Q k n bs lv st (pc + 3)) : zW K p l e R s m args below meth c A Q k n bs lv (.ref a :: st) pc := by
  intro H locs ls hP hD hS h
  refine W.objInit B.1.1 B.1.2.1 B.1.2.2.2.1 (B.1.2.2.2.2 _ hlink) (B.1.2.2.2.2 _ hinst) (B.1.2.2.2.2 _ hcode) rfl h.1 rfl d hf (by show 2 * 0 + _ + 12 ≤ _; omega) ?_
  exact W.eq (g2 := F0 m (pc + 3) ls st) rfl (kk H locs ls hP hD hS h)
-- throwing and catching
theorem z_throw {Qc : Array Value → State → Outcome → State → Prop} {xc : String → Prop} {mc ms : Nat} {cls text : String} {ik is ic : Nat} (B : zF K p l s m args meth c A cc nL own nm Ts ret []) (ho : own = RX4) (names : List String) (hcls : Bundle.fit cls = true) (hnames : ∀ n ∈ names, Bundle.fit n = true) (hk : Cond.classLink own ik cls ∈ Ts) (hini : Cond.initialized cls ∈ Ts) (hstr : (is, text) ∈ zTx) (hat : ∀ w ∈ (vx_atS own ic cls names).filter goodWord, w ∈ Ts) (hng : ∀ w ∈ (vx_atS own ic cls names).filter (fun w => !goodWord w), w ∈ zNw) (hgood : ∀ w ∈ Cond.classLink own ik cls :: Cond.initialized cls :: vx_atS own ic cls names, vx_ot w = true)
    (d0 : decode cc pc = .ok (.new ik, 3)) (d3 : decode cc (pc + 3) = .ok (.dup, 1)) (d4 : decode cc (pc + 4) = .ok (.ldc is, 2)) (d6 : decode cc (pc + 6) = .ok (.invokespecial ic, 3)) (d9 : decode cc (pc + 9) = .ok (.athrow, 1))
    (hRf : names.length + 3 < R.frames) (hRl : (st.map fun v => v.category).sum + (13 * (names.length + 1) + 43) ≤ R.locals) (hRc : k + 1 ≤ R.cells) (hRs : n + 6 ≤ R.slots) (hx : xc cls) (hc : k + 1 ≤ mc) (hm : n + 6 ≤ ms) :
    zW K p l e R s m args below meth c A (vx_MQ below Qc (zX K A bs xc) args s mc ms A) k n bs lv st pc := by
  subst ho
  intro H locs ls hP hD hS h
  obtain ⟨sa, hsa⟩ := B.2.2.2.2.2.2.2.2.2.2.1 _ hstr
  refine vx_throwS B.1.1 B.1.2.1 B.2.2.2.2.2.2.2.1 B.1.2.2.2.1 hcls hnames (B.1.2.2.2.2 _ hk) (B.1.2.2.2.2 _ hini) hsa (vx_hat (B := zNw) (fun w hw => B.1.2.2.2.2 _ (hat w hw)) hng (fun w hw => va_tabs (zNw_tab hw) rfl (B.2.2.2.2.2.2.2.2.2.2.2.2.2.2.2 w hw))) hgood B.2.2.2.2.2.2.2.2.1 B.2.2.2.2.2.2.2.2.2.1 hS h.1 d0 d3 d4 d6 d9 (fun x hx' => by rw [B.2.2.2.2.2.2.1] at hx'; cases hx') hRf hRl hRc hRs B.2.2.2.1 (fun t hal hz hq => ⟨hx, hP.kept (fun k q hk => hq q.1 (hP k q hk).lt), hD, ⟨Nat.le_trans hS.1 hz, fun q h1 h2 => (hq q (Nat.lt_of_lt_of_le h1 hS.1)).trans (hS.2.1 q h1 h2)⟩⟩) hS.2.2 hc hm
/-- caught: the rows ahead name other exceptions -/
theorem z_catch {E name : String} (B : zF K p l s m args meth c A cc nL own nm Ts ret tb) (pre : List ExceptionTableEntry) (x : ExceptionTableEntry) (suf : List ExceptionTableEntry) (hsplit : tb = pre ++ x :: suf)
    (hpass : ∀ z ∈ pre, covers z pc = false ∨ (z.catchType ≠ 0 ∧ ∃ nm : String, Cond.classLink own z.catchType nm ∈ Ts ∧ va_Nc E nm s)) (hx : covers x pc = true) (h0 : x.catchType ≠ 0) (hlink : Cond.classLink own x.catchType name ∈ Ts) (hcast : Cond.castable E name ∈ zNw)
    (kk : ∀ q : Nat, zW K p l e R s m args below meth c A Q k n bs lv [.ref q] x.handlerPc) : zXW K p l e R s m args below meth c A Q k n bs lv st pc E := by
  intro H locs ls q ce hP hD hS h hce hcv hcl
  exact vx_catch B.1.2.2.2.1 pre x suf (B.2.2.2.2.2.2.1.trans hsplit) (fun z hz => (hpass z hz).imp id (fun ⟨h1, nm, h2, h3⟩ => ⟨h1, nm, B.1.2.2.2.2 _ h2, h3⟩)) hx h0 (B.1.2.2.2.2 _ hlink) (va_tabs (zNw_tab hcast) rfl (B.2.2.2.2.2.2.2.2.2.2.2.2.2.2.2 _ hcast)) hce hcv hcl (kk q H locs ls hP hD hS h)
end ZR
