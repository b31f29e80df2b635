/-! THE LAW: its room, its script, its calls of a method with a table -/
def zR : Room := { frames := 12, cells := 600130, slots := 7301080, locals := 450 }
section ZH1
variable {K : zK} {p : Program} {l : Launch} {e : Env} {R : Room} {s : State} {m : MethodId} {args : Array Value} {below : List Frame} {meth : Method} {c : Code} {A : Nat → Prop} {Q : State → Prop} {k n : Nat} {bs bc br : zB} {lv : List (Nat × Value)} {st st0 As : List Value} {pc maxL nA index : Nat} {y : MethodName} {ws' ws'' : List Cond} {rm : Room} {bytes : ByteArray} {ret' : Option FieldType} {xc : String → Prop}
variable {cc : ByteArray} {nL : Nat} {own nm : String} {Ts : List Cond} {ret : Option FieldType} {tb : List ExceptionTableEntry}
theorem z_H1 (B : zF K p l s m args meth c A cc nL own nm Ts ret tb) {v : Value} {w bs' : zB} {cond : Prop} {hh : List (Nat × Nat × Nat × Nat)} (hM : zMet l K y ws' rm As bc (some v) w cond xc) (isC isR : List Nat) (hs : zSp bs bc br isC isR) (hs' : zSp bs' w br isC isR)
    (hG : GoodIn Ts (va_wsS own index y ws')) (hw : ws' = Cond.codeWith y bytes maxL ret' hh :: ws'') (hd : y.cls ≠ "java/lang/invoke/MethodHandle" ∧ y.cls ≠ "java/lang/invoke/VarHandle" ∧ (parseMethodDescriptor y.desc).map (fun d => d.parameters.length) = some nA) (hR : rm.frames + 1 ≤ R.frames ∧ 8 + (maxL + 11) + rm.locals ≤ R.locals) (hn : As.length = nA) (hst : st0 = As.reverse ++ st) (hW : (st.map fun v => v.category).sum ≤ 8) (hm : k + rm.cells ≤ R.cells ∧ n + rm.slots ≤ R.slots) (d : decode cc pc = .ok (.invokestatic index, 3))
    (kx : ∀ E : String, xc E → zXW K p l e R s m args below meth c A Q (k + rm.cells) (n + rm.slots) bs lv st pc E)
    (kk : cond → zW K p l e R s m args below meth c A Q (k + rm.cells) (n + rm.slots) bs' lv (v :: st) (pc + 3)) : zW K p l e R s m args below meth c A Q k n bs lv st0 pc :=
  z_callH (bs' := fun _ => bs') B hM isC isR hs (fun _ => hs') hG hw hd hR hn hst hW hm d kx (fun _ h => kk h)
theorem z_sld (B : zF K p l s m args meth c A cc nL own nm Ts ret tb) {b L : Nat} {xs : Nat → Int32} (hX : va_X b L xs s s.heap) (hbl : b < s.heap.size) (hbA : ¬ A b) {i v : Int32} (hin : vp_in i L) (hv : xs i.toNatClampNeg = v) (d : decode cc pc = .ok (.iaload, 1))
    (kk : zW K p l e R s m args below meth c A Q k n bs lv (.int v :: st) (pc + 1)) : zW K p l e R s m args below meth c A Q k n bs lv (.int i :: .ref b :: st) pc := by
  subst hv
  exact fun H locs ls hP hD hS h => va_sld B.1.1 B.1.2.1 hX hbl hbA hS hin d (kk H locs ls hP hD hS h)
theorem z_slen (B : zF K p l s m args meth c A cc nL own nm Ts ret tb) {b L : Nat} {xs : Nat → Int32} (hX : va_X b L xs s s.heap) (hbl : b < s.heap.size) (hbA : ¬ A b) (d : decode cc pc = .ok (.arraylength, 1))
    (kk : zW K p l e R s m args below meth c A Q k n bs lv (.int (nI L) :: st) (pc + 1)) : zW K p l e R s m args below meth c A Q k n bs lv (.ref b :: st) pc :=
  fun H locs ls hP hD hS h => va_slen B.1.1 B.1.2.1 hX hbl hbA hS d (kk H locs ls hP hD hS h)
end ZH1
theorem told_q {X : Nat → Int32} {D : Nat → Nat → Int32} {i : Nat} {C Z : Nat → Nat → Int32} {W F O : Nat → Int32} {x1 x2 : Int32} : fL_told_qoh X D i C Z W F O x1 x2 = fX4_query_oh X D i C Z W F O x1 x2 := by
  unfold fL_told_qoh
  rfl
theorem told_w {X : Nat → Int32} {D : Nat → Nat → Int32} {i : Nat} {C Z Tc : Nat → Nat → Int32} {W F O : Nat → Int32} {x1 x2 : Int32} : fL_told_woh X D i C Z W F O Tc x1 x2 = fX4_wouldAnswer_oh X D i C Z W F O Tc x1 x2 := by
  unfold fL_told_woh
  rfl
theorem tries_hL {Gz Gn Ge Gv Gl Gx Gh : Nat → Int32} {i : Nat} {x : Int32} : ∀ n a M E V L X H, fL_tries_h_L39 Gz Gn Ge Gv Gl Gx Gh i x n a M E V L X H = (fL_asks_h Gz Gn Ge Gv Gl Gx Gh i x).1
  | 0, a, M, E, V, L, X, H => by rw [fL_tries_h_L39]
  | n + 1, a, M, E, V, L, X, H => by
    rw [fL_tries_h_L39]
    split
    · exact tries_hL n (a + 1) _ _ _ _ _ _
    · exact tries_hL n (a + 1) _ _ _ _ _ _
theorem tries_h {Gz Gn Ge Gv Gl Gx Gh : Nat → Int32} {i : Nat} {x : Int32} : fL_tries_h Gz Gn Ge Gv Gl Gx Gh i x = (fL_asks_h Gz Gn Ge Gv Gl Gx Gh i x).1 := tries_hL 24 0 _ _ _ _ _ _
theorem tries_mL {Gz Gn Ge Gv Gl Gx Gh : Nat → Int32} : ∀ n a M E V L X H, fL_tries_m_L39 Gz Gn Ge Gv Gl Gx Gh n a M E V L X H = (-13)
  | 0, a, M, E, V, L, X, H => by rw [fL_tries_m_L39]; rfl
  | n + 1, a, M, E, V, L, X, H => by
    rw [fL_tries_m_L39]
    split
    · exact tries_mL n (a + 1) _ _ _ _ _ _
    · exact tries_mL n (a + 1) _ _ _ _ _ _
theorem tries_m {Gz Gn Ge Gv Gl Gx Gh : Nat → Int32} : fL_tries_m Gz Gn Ge Gv Gl Gx Gh = (-13) := tries_mL 24 0 _ _ _ _ _ _
theorem q_toldq {T n i j : Nat} {X W F O Gz Gn Ge Gv Gl Gx Gh : Nat → Int32} {Z D : Nat → Nat → Int32} {Cs : Nat → Nat → Nat → Int32} {x1 : Int32} (hT : T ≤ 100000) (h : rA T n X Z W D Cs O Gz Gn Ge Gv Gl Gx Gh) (hi : i < n) (hj : j < 16) :
    (fL_told_qoh X D i (Cs i) Z W F O x1 (nI j)).1 = (fL_asks_h Gz Gn Ge Gv Gl Gx Gh i (nI j)).1 ∧
    rA T n (fL_told_qoh X D i (Cs i) Z W F O x1 (nI j)).2.1 Z W D (va_up Cs i (fL_told_qoh X D i (Cs i) Z W F O x1 (nI j)).2.2.1) (fL_told_qoh X D i (Cs i) Z W F O x1 (nI j)).2.2.2.2 Gz (fL_asks_h Gz Gn Ge Gv Gl Gx Gh i (nI j)).2.1 (fL_asks_h Gz Gn Ge Gv Gl Gx Gh i (nI j)).2.2.1 (fL_asks_h Gz Gn Ge Gv Gl Gx Gh i (nI j)).2.2.2.1 (fL_asks_h Gz Gn Ge Gv Gl Gx Gh i (nI j)).2.2.2.2.1 (fL_asks_h Gz Gn Ge Gv Gl Gx Gh i (nI j)).2.2.2.2.2.1 (fL_asks_h Gz Gn Ge Gv Gl Gx Gh i (nI j)).2.2.2.2.2.2 := by
  rw [told_q]
  exact q_query hT h hi hj
theorem q_toldw {T n i j : Nat} {X W O Gz Gn Ge Gv Gl Gx Gh Ft Ot : Nat → Int32} {Z D Tc : Nat → Nat → Int32} {Cs : Nat → Nat → Nat → Int32} {x1 : Int32} (hT : T ≤ 100000) (h : rA T n X Z W D Cs O Gz Gn Ge Gv Gl Gx Gh) (hi : i < n) (hj : j < 16) : (fL_told_woh X D i (Cs i) Z W Ft Ot Tc x1 (nI j)).1 = (fL_asks_h Gz Gn Ge Gv Gl Gx Gh i (nI j)).1 := by
  rw [told_w]
  exact q_would hT h hi hj
theorem l_ge1 {v : Nat} (h : 1 ≤ v) (h2 : v < 2 ^ 31) : ¬ nI v < 1 := nI_nlt (b := 1) h h2
theorem l_n4 {n : Nat} (h : n < 4) : ¬ nI n = 4 := fun e => by
  have := (nI_eq (b := 4) (by omega) (by decide)).mp e
  omega
theorem l_i4 {i n : Nat} {f : Nat → Option Nat} {so : Nat → Nat} (hf1 : ∀ a, a < n → f a = some (so a)) (hi : i < n) (hn : n ≤ 4) : f (nI i).toNatClampNeg = some (so i) := z_fcl hf1 hi (by omega)
