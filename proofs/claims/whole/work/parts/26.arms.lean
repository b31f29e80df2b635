/-! ARMS: one step of the law, by its op -/
def zR : Room := { frames := 12, cells := 601024, slots := 7293034, locals := 436 }
theorem z_cz {x y : Int64} (h : x = y) : lg_cmp x y = 0 := by
  subst h
  unfold lg_cmp
  rw [if_neg (show ¬ x > x from Int64.lt_irrefl), if_pos rfl]
section ZH1
variable {K : zK} {p : Program} {l : Launch} {e : Env} {R : Room} {s : State} {m : MethodId} {args : Array Value} {below : List Frame} {meth : Method} {c : Code} {A : Nat → Prop} {Q : State → Prop} {k n : Nat} {bs bc br : zB} {lv : List (Nat × Value)} {st st0 As : List Value} {pc maxL nA index : Nat} {y : MethodName} {ws' ws'' : List Cond} {rm : Room} {bytes : ByteArray} {ret' : Option FieldType} {xc : String → Prop}
variable {cc : ByteArray} {nL : Nat} {own nm : String} {Ts : List Cond} {ret : Option FieldType} {tb : List ExceptionTableEntry}
theorem z_H1 (B : zF K p l s m args meth c A cc nL own nm Ts ret tb) {v : Value} {w bs' : zB} {cond : Prop} {hh : List (Nat × Nat × Nat × Nat)} (hM : zMet l K y ws' rm As bc (some v) w cond xc) (isC isR : List Nat) (hs : zSp bs bc br isC isR) (hs' : zSp bs' w br isC isR)
    (hG : GoodIn Ts (va_wsS own index y ws')) (hw : ws' = Cond.codeWith y bytes maxL ret' hh :: ws'') (hd : y.cls ≠ "java/lang/invoke/MethodHandle" ∧ y.cls ≠ "java/lang/invoke/VarHandle" ∧ (parseMethodDescriptor y.desc).map (fun d => d.parameters.length) = some nA) (hR : rm.frames + 1 ≤ R.frames ∧ 8 + (maxL + 11) + rm.locals ≤ R.locals) (hn : As.length = nA) (hst : st0 = As.reverse ++ st) (hW : (st.map fun v => v.category).sum ≤ 8) (hm : k + rm.cells ≤ R.cells ∧ n + rm.slots ≤ R.slots) (d : decode cc pc = .ok (.invokestatic index, 3))
    (kx : ∀ E : String, xc E → zXW K p l e R s m args below meth c A Q (k + rm.cells) (n + rm.slots) bs lv st pc E)
    (kk : cond → zW K p l e R s m args below meth c A Q (k + rm.cells) (n + rm.slots) bs' lv (v :: st) (pc + 3)) : zW K p l e R s m args below meth c A Q k n bs lv st0 pc :=
  z_callH (bs' := fun _ => bs') B hM isC isR hs (fun _ => hs') hG hw hd hR hn hst hW hm d kx (fun _ h => kk h)
end ZH1

set_option maxHeartbeats 4000000 in
set_option maxRecDepth 100000 in
theorem aL_setAddress (l : Launch) (hl : l.stackTraces = false) (ao : Nat) (K : zK) (ax : Nat) (az : Nat → Nat) (sa : Nat) (la : Nat) (tr : Nat) (tc : Nat) (X : Nat → Int32) (Z : Nat → Nat → Int32) (W : Nat → Int32) (x1 : Int32) (x2 : Int32) (x3 : Int32) (am : Nat → Nat) (I : Nat → Int32) (R : Nat → Nat → Int32) (rs : va_W) (hr : ((fX5_setAddress I R x1 x2 x3).1) 9 = (fL_setAddress X Z W x1 x2 x3).1 ∧ True) {p : Program} {e : Env} {s : State} {m : MethodId} {below : List Frame} {meth : Method} {c : Code} {A : Nat → Prop} {Q : State → Prop} {ret9 : Option FieldType} {nm9 : String} {tb9 : List ExceptionTableEntry} {args : Array Value} {b L ii k9 n9 : Nat} {xs : Nat → Int32} (B : zF K p l s m args meth c A cL_law 7 RL nm9 wsL_law ret9 tb9) (hX : va_X b L xs s s.heap) (hbl : b < s.heap.size) (hbA : ¬ A b) (hi1 : vp_in (nI ii + 1) L) (hv1 : xs (nI ii + 1).toNatClampNeg = x1) (hi2 : vp_in (nI ii + 2) L) (hv2 : xs (nI ii + 2).toNatClampNeg = x2) (hi3 : vp_in (nI ii + 3) L) (hv3 : xs (nI ii + 3).toNatClampNeg = x3) (hk9 : k9 + 16 ≤ 601024) (hn9 : n9 + 512 ≤ 7293034)
    (kk : zW K p l e zR s m args below meth c A Q (k9 + 16) (n9 + 512) [zXo ax (az 0) sa la tr tc X, zZo K az ((fL_setAddress X Z W x1 x2 x3).2) W, zMo K am ((fX5_setAddress I R x1 x2 x3).1) ((fX5_setAddress I R x1 x2 x3).2), rs] [(0, .ref b), (1, .ref ax), (2, .ref (am 0)), (3, .ref ao), (4, .int (nI ii))] [] 1428) : zW K p l e zR s m args below meth c A Q k9 n9 [zXo ax (az 0) sa la tr tc X, zZo K az Z W, zMo K am I R, rs] [(0, .ref b), (1, .ref ax), (2, .ref (am 0)), (3, .ref ao), (4, .int (nI ii))] [] 164 := by
  refine z_aload_n B dL_law_164 1 rfl ?_
  refine z_aload_n B dL_law_165 0 rfl ?_
  refine z_iload B dL_law_166 4 rfl ?_
  refine z_iconst B (v := 1) dL_law_168 rfl ?_
  refine z_iadd B dL_law_169 ?_
  refine z_sld B hX hbl hbA hi1 hv1 dL_law_170 ?_
  refine z_aload_n B dL_law_171 0 rfl ?_
  refine z_iload B dL_law_172 4 rfl ?_
  refine z_iconst B (v := 2) dL_law_174 rfl ?_
  refine z_iadd B dL_law_175 ?_
  refine z_sld B hX hbl hbA hi2 hv2 dL_law_176 ?_
  refine z_aload_n B dL_law_177 0 rfl ?_
  refine z_iload B dL_law_178 4 rfl ?_
  refine z_iconst B (v := 3) dL_law_180 rfl ?_
  refine z_iadd B dL_law_181 ?_
  refine z_sld B hX hbl hbA hi3 hv3 dL_law_182 ?_
  refine z_H1 B (kL_setAddress l hl K ax az sa la tr tc X Z W x1 x2 x3) [0, 1] [2, 3] (br := [zMo K am I R, rs]) (bs' := [zXo ax (az 0) sa la tr tc X, zZo K az ((fL_setAddress X Z W x1 x2 x3).2) W, zMo K am I R, rs]) (st := []) (nA := 4) (zsp rfl rfl rfl) (zsp rfl rfl rfl) gL_law_L_setAddress rfl (by decide +kernel) ⟨Nat.le_of_ble_eq_true rfl, Nat.le_of_ble_eq_true rfl⟩ rfl rfl (Nat.le_of_ble_eq_true rfl) ⟨(show k9 + 3 ≤ 601024 by omega), (show n9 + 18 ≤ 7293034 by omega)⟩ dL_law_183 z_noX (fun _ => ?_)
  refine z_istore B (lv' := [(5, .int ((fL_setAddress X Z W x1 x2 x3).1)), (0, .ref b), (1, .ref ax), (2, .ref (am 0)), (3, .ref ao), (4, .int (nI ii))]) dL_law_186 (by decide) rfl ?_
  refine z_aload_n B dL_law_188 3 rfl ?_
  refine z_aload_n B dL_law_189 1 rfl ?_
  refine z_iload B dL_law_190 5 rfl ?_
  refine z_iconst B (v := 1) dL_law_192 rfl ?_
  refine z_iadd B dL_law_193 ?_
  refine z_sld B hX hbl hbA hi1 hv1 dL_law_194 ?_
  refine z_aload_n B dL_law_195 1 rfl ?_
  refine z_iload B dL_law_196 5 rfl ?_
  refine z_iconst B (v := 2) dL_law_198 rfl ?_
  refine z_iadd B dL_law_199 ?_
  refine z_sld B hX hbl hbA hi2 hv2 dL_law_200 ?_
  refine z_aload_n B dL_law_201 1 rfl ?_
  refine z_iload B dL_law_202 5 rfl ?_
  refine z_iconst B (v := 3) dL_law_204 rfl ?_
  refine z_iadd B dL_law_205 ?_
  refine z_sld B hX hbl hbA hi3 hv3 dL_law_206 ?_
  refine z_V0 B (kX5_setAddress l hl K am I R x1 x2 x3) [2] [0, 1, 3] (br := [zXo ax (az 0) sa la tr tc X, zZo K az ((fL_setAddress X Z W x1 x2 x3).2) W, rs]) (bs' := [zXo ax (az 0) sa la tr tc X, zZo K az ((fL_setAddress X Z W x1 x2 x3).2) W, zMo K am ((fX5_setAddress I R x1 x2 x3).1) ((fX5_setAddress I R x1 x2 x3).2), rs]) (st := []) (nA := 3) (zsp rfl rfl rfl) (zsp rfl rfl rfl) 2 0 rfl rfl rfl rfl gL_law_X5_setAddress rfl (by decide +kernel) ⟨Nat.le_of_ble_eq_true rfl, Nat.le_of_ble_eq_true rfl⟩ rfl rfl (Nat.le_of_ble_eq_true rfl) ⟨(show k9 + 3 + 0 ≤ 601024 by omega), (show n9 + 18 + 0 ≤ 7293034 by omega)⟩ dL_law_207 z_noX (fun _ => ?_)
  refine z_aload_n B dL_law_210 3 rfl ?_
  refine z_V1 B (kX5_thrown l hl K am ((fX5_setAddress I R x1 x2 x3).1) ((fX5_setAddress I R x1 x2 x3).2)) [2] [0, 1, 3] (br := [zXo ax (az 0) sa la tr tc X, zZo K az ((fL_setAddress X Z W x1 x2 x3).2) W, rs]) (bs' := [zXo ax (az 0) sa la tr tc X, zZo K az ((fL_setAddress X Z W x1 x2 x3).2) W, zMo K am ((fX5_setAddress I R x1 x2 x3).1) ((fX5_setAddress I R x1 x2 x3).2), rs]) (st := []) (nA := 0) (zsp rfl rfl rfl) (zsp rfl rfl rfl) 2 0 rfl rfl rfl rfl gL_law_X5_thrown rfl (by decide +kernel) ⟨Nat.le_of_ble_eq_true rfl, Nat.le_of_ble_eq_true rfl⟩ rfl rfl (Nat.le_of_ble_eq_true rfl) ⟨(show k9 + 3 + 0 + 0 ≤ 601024 by omega), (show n9 + 18 + 0 + 0 ≤ 7293034 by omega)⟩ dL_law_211 z_noX (fun _ => ?_)
  refine z_iload B dL_law_214 0 rfl ?_
  refine z_iceq B 221 dL_law_216 (by decide) (fun _ => ?_) (fun h => absurd hr.1 h)
  refine z_goto B (tgt := 1428) dL_law_221 (by decide) ?_
  refine z_lsub [1, 2, 3, 4, 5] rfl ?_
  refine z_widen (k' := k9 + 16) (n' := n9 + 512) (show k9 + 3 + 0 + 0 ≤ _ by omega) (show n9 + 18 + 0 + 0 ≤ _ by omega) ?_
  exact kk
set_option maxHeartbeats 4000000 in
set_option maxRecDepth 100000 in
theorem aL_setAlias (l : Launch) (hl : l.stackTraces = false) (ao : Nat) (K : zK) (ax : Nat) (az : Nat → Nat) (sa : Nat) (la : Nat) (tr : Nat) (tc : Nat) (X : Nat → Int32) (Z : Nat → Nat → Int32) (W : Nat → Int32) (x1 : Int32) (x2 : Int32) (x3 : Int32) (am : Nat → Nat) (I : Nat → Int32) (R : Nat → Nat → Int32) (rs : va_W) (hr : ((fX5_setAlias I R x1 x2 x3).1) 9 = (fL_setAlias X Z W x1 x2 x3).1 ∧ True) {p : Program} {e : Env} {s : State} {m : MethodId} {below : List Frame} {meth : Method} {c : Code} {A : Nat → Prop} {Q : State → Prop} {ret9 : Option FieldType} {nm9 : String} {tb9 : List ExceptionTableEntry} {args : Array Value} {b L ii k9 n9 : Nat} {xs : Nat → Int32} (B : zF K p l s m args meth c A cL_law 7 RL nm9 wsL_law ret9 tb9) (hX : va_X b L xs s s.heap) (hbl : b < s.heap.size) (hbA : ¬ A b) (hi1 : vp_in (nI ii + 1) L) (hv1 : xs (nI ii + 1).toNatClampNeg = x1) (hi2 : vp_in (nI ii + 2) L) (hv2 : xs (nI ii + 2).toNatClampNeg = x2) (hi3 : vp_in (nI ii + 3) L) (hv3 : xs (nI ii + 3).toNatClampNeg = x3) (hk9 : k9 + 16 ≤ 601024) (hn9 : n9 + 512 ≤ 7293034)
    (kk : zW K p l e zR s m args below meth c A Q (k9 + 16) (n9 + 512) [zXo ax (az 0) sa la tr tc X, zZo K az ((fL_setAlias X Z W x1 x2 x3).2) W, zMo K am ((fX5_setAlias I R x1 x2 x3).1) ((fX5_setAlias I R x1 x2 x3).2), rs] [(0, .ref b), (1, .ref ax), (2, .ref (am 0)), (3, .ref ao), (4, .int (nI ii))] [] 1428) : zW K p l e zR s m args below meth c A Q k9 n9 [zXo ax (az 0) sa la tr tc X, zZo K az Z W, zMo K am I R, rs] [(0, .ref b), (1, .ref ax), (2, .ref (am 0)), (3, .ref ao), (4, .int (nI ii))] [] 224 := by
  refine z_aload_n B dL_law_224 1 rfl ?_
  refine z_aload_n B dL_law_225 0 rfl ?_
  refine z_iload B dL_law_226 4 rfl ?_
  refine z_iconst B (v := 1) dL_law_228 rfl ?_
  refine z_iadd B dL_law_229 ?_
  refine z_sld B hX hbl hbA hi1 hv1 dL_law_230 ?_
  refine z_aload_n B dL_law_231 0 rfl ?_
  refine z_iload B dL_law_232 4 rfl ?_
  refine z_iconst B (v := 2) dL_law_234 rfl ?_
  refine z_iadd B dL_law_235 ?_
  refine z_sld B hX hbl hbA hi2 hv2 dL_law_236 ?_
  refine z_aload_n B dL_law_237 0 rfl ?_
  refine z_iload B dL_law_238 4 rfl ?_
  refine z_iconst B (v := 3) dL_law_240 rfl ?_
  refine z_iadd B dL_law_241 ?_
  refine z_sld B hX hbl hbA hi3 hv3 dL_law_242 ?_
  refine z_H1 B (kL_setAlias l hl K ax az sa la tr tc X Z W x1 x2 x3) [0, 1] [2, 3] (br := [zMo K am I R, rs]) (bs' := [zXo ax (az 0) sa la tr tc X, zZo K az ((fL_setAlias X Z W x1 x2 x3).2) W, zMo K am I R, rs]) (st := []) (nA := 4) (zsp rfl rfl rfl) (zsp rfl rfl rfl) gL_law_L_setAlias rfl (by decide +kernel) ⟨Nat.le_of_ble_eq_true rfl, Nat.le_of_ble_eq_true rfl⟩ rfl rfl (Nat.le_of_ble_eq_true rfl) ⟨(show k9 + 3 ≤ 601024 by omega), (show n9 + 18 ≤ 7293034 by omega)⟩ dL_law_243 z_noX (fun _ => ?_)
  refine z_istore B (lv' := [(5, .int ((fL_setAlias X Z W x1 x2 x3).1)), (0, .ref b), (1, .ref ax), (2, .ref (am 0)), (3, .ref ao), (4, .int (nI ii))]) dL_law_246 (by decide) rfl ?_
  refine z_aload_n B dL_law_248 3 rfl ?_
  refine z_aload_n B dL_law_249 1 rfl ?_
  refine z_iload B dL_law_250 5 rfl ?_
  refine z_iconst B (v := 1) dL_law_252 rfl ?_
  refine z_iadd B dL_law_253 ?_
  refine z_sld B hX hbl hbA hi1 hv1 dL_law_254 ?_
  refine z_aload_n B dL_law_255 1 rfl ?_
  refine z_iload B dL_law_256 5 rfl ?_
  refine z_iconst B (v := 2) dL_law_258 rfl ?_
  refine z_iadd B dL_law_259 ?_
  refine z_sld B hX hbl hbA hi2 hv2 dL_law_260 ?_
  refine z_aload_n B dL_law_261 1 rfl ?_
  refine z_iload B dL_law_262 5 rfl ?_
  refine z_iconst B (v := 3) dL_law_264 rfl ?_
  refine z_iadd B dL_law_265 ?_
  refine z_sld B hX hbl hbA hi3 hv3 dL_law_266 ?_
  refine z_V0 B (kX5_setAlias l hl K am I R x1 x2 x3) [2] [0, 1, 3] (br := [zXo ax (az 0) sa la tr tc X, zZo K az ((fL_setAlias X Z W x1 x2 x3).2) W, rs]) (bs' := [zXo ax (az 0) sa la tr tc X, zZo K az ((fL_setAlias X Z W x1 x2 x3).2) W, zMo K am ((fX5_setAlias I R x1 x2 x3).1) ((fX5_setAlias I R x1 x2 x3).2), rs]) (st := []) (nA := 3) (zsp rfl rfl rfl) (zsp rfl rfl rfl) 2 0 rfl rfl rfl rfl gL_law_X5_setAlias rfl (by decide +kernel) ⟨Nat.le_of_ble_eq_true rfl, Nat.le_of_ble_eq_true rfl⟩ rfl rfl (Nat.le_of_ble_eq_true rfl) ⟨(show k9 + 3 + 0 ≤ 601024 by omega), (show n9 + 18 + 0 ≤ 7293034 by omega)⟩ dL_law_267 z_noX (fun _ => ?_)
  refine z_aload_n B dL_law_270 3 rfl ?_
  refine z_V1 B (kX5_thrown l hl K am ((fX5_setAlias I R x1 x2 x3).1) ((fX5_setAlias I R x1 x2 x3).2)) [2] [0, 1, 3] (br := [zXo ax (az 0) sa la tr tc X, zZo K az ((fL_setAlias X Z W x1 x2 x3).2) W, rs]) (bs' := [zXo ax (az 0) sa la tr tc X, zZo K az ((fL_setAlias X Z W x1 x2 x3).2) W, zMo K am ((fX5_setAlias I R x1 x2 x3).1) ((fX5_setAlias I R x1 x2 x3).2), rs]) (st := []) (nA := 0) (zsp rfl rfl rfl) (zsp rfl rfl rfl) 2 0 rfl rfl rfl rfl gL_law_X5_thrown rfl (by decide +kernel) ⟨Nat.le_of_ble_eq_true rfl, Nat.le_of_ble_eq_true rfl⟩ rfl rfl (Nat.le_of_ble_eq_true rfl) ⟨(show k9 + 3 + 0 + 0 ≤ 601024 by omega), (show n9 + 18 + 0 + 0 ≤ 7293034 by omega)⟩ dL_law_271 z_noX (fun _ => ?_)
  refine z_iload B dL_law_274 0 rfl ?_
  refine z_iceq B 281 dL_law_276 (by decide) (fun _ => ?_) (fun h => absurd hr.1 h)
  refine z_goto B (tgt := 1428) dL_law_281 (by decide) ?_
  refine z_lsub [1, 2, 3, 4, 5] rfl ?_
  refine z_widen (k' := k9 + 16) (n' := n9 + 512) (show k9 + 3 + 0 + 0 ≤ _ by omega) (show n9 + 18 + 0 + 0 ≤ _ by omega) ?_
  exact kk
set_option maxHeartbeats 4000000 in
set_option maxRecDepth 100000 in
theorem aL_remove (l : Launch) (hl : l.stackTraces = false) (K : zK) (ax : Nat) (az : Nat → Nat) (sa : Nat) (la : Nat) (tr : Nat) (tc : Nat) (X : Nat → Int32) (Z : Nat → Nat → Int32) (W : Nat → Int32) (x1 : Int32) (ao : Nat) (g : Nat → Int64) (am : Nat → Nat) (I : Nat → Int32) (R : Nat → Nat → Int32) (rs : va_W) (hr : rB ((fL_remove X Z W x1 g).1) ((fL_remove X Z W x1 g).2.2) ((fX5_remove I R x1).2.1) ((fX5_remove I R x1).1)) {p : Program} {e : Env} {s : State} {m : MethodId} {below : List Frame} {meth : Method} {c : Code} {A : Nat → Prop} {Q : State → Prop} {ret9 : Option FieldType} {nm9 : String} {tb9 : List ExceptionTableEntry} {args : Array Value} {b L ii k9 n9 : Nat} {xs : Nat → Int32} (B : zF K p l s m args meth c A cL_law 7 RL nm9 wsL_law ret9 tb9) (hX : va_X b L xs s s.heap) (hbl : b < s.heap.size) (hbA : ¬ A b) (hi1 : vp_in (nI ii + 1) L) (hv1 : xs (nI ii + 1).toNatClampNeg = x1) (hk9 : k9 + 16 ≤ 601024) (hn9 : n9 + 512 ≤ 7293034)
    (kk : zW K p l e zR s m args below meth c A Q (k9 + 16) (n9 + 512) [zXo ax (az 0) sa la tr tc X, zZo K az ((fL_remove X Z W x1 g).2.1) W, zOu K ao ((fL_remove X Z W x1 g).2.2), zMo K am ((fX5_remove I R x1).2.1) ((fX5_remove I R x1).2.2), rs] [(0, .ref b), (1, .ref ax), (2, .ref (am 0)), (3, .ref ao), (4, .int (nI ii))] [] 1428) : zW K p l e zR s m args below meth c A Q k9 n9 [zXo ax (az 0) sa la tr tc X, zZo K az Z W, zOu K ao g, zMo K am I R, rs] [(0, .ref b), (1, .ref ax), (2, .ref (am 0)), (3, .ref ao), (4, .int (nI ii))] [] 284 := by
  refine z_aload_n B dL_law_284 1 rfl ?_
  refine z_aload_n B dL_law_285 0 rfl ?_
  refine z_iload B dL_law_286 4 rfl ?_
  refine z_iconst B (v := 1) dL_law_288 rfl ?_
  refine z_iadd B dL_law_289 ?_
  refine z_sld B hX hbl hbA hi1 hv1 dL_law_290 ?_
  refine z_aload_n B dL_law_291 3 rfl ?_
  refine z_H1 B (kL_remove l hl K ax az sa la tr tc X Z W x1 ao g) [0, 1, 2] [3, 4] (br := [zMo K am I R, rs]) (bs' := [zXo ax (az 0) sa la tr tc X, zZo K az ((fL_remove X Z W x1 g).2.1) W, zOu K ao ((fL_remove X Z W x1 g).2.2), zMo K am I R, rs]) (st := []) (nA := 3) (zsp rfl rfl rfl) (zsp rfl rfl rfl) gL_law_L_remove rfl (by decide +kernel) ⟨Nat.le_of_ble_eq_true rfl, Nat.le_of_ble_eq_true rfl⟩ rfl rfl (Nat.le_of_ble_eq_true rfl) ⟨(show k9 + 1 ≤ 601024 by omega), (show n9 + 6 ≤ 7293034 by omega)⟩ dL_law_292 z_noX (fun _ => ?_)
  refine z_istore B (lv' := [(5, .int ((fL_remove X Z W x1 g).1)), (0, .ref b), (1, .ref ax), (2, .ref (am 0)), (3, .ref ao), (4, .int (nI ii))]) dL_law_295 (by decide) rfl ?_
  refine z_aload_n B dL_law_297 3 rfl ?_
  refine z_aload_n B dL_law_298 1 rfl ?_
  refine z_iload B dL_law_299 5 rfl ?_
  refine z_iconst B (v := 1) dL_law_301 rfl ?_
  refine z_iadd B dL_law_302 ?_
  refine z_sld B hX hbl hbA hi1 hv1 dL_law_303 ?_
  refine z_V1 B (kX5_remove l hl K am I R x1) [3] [0, 1, 2, 4] (br := [zXo ax (az 0) sa la tr tc X, zZo K az ((fL_remove X Z W x1 g).2.1) W, zOu K ao ((fL_remove X Z W x1 g).2.2), rs]) (bs' := [zXo ax (az 0) sa la tr tc X, zZo K az ((fL_remove X Z W x1 g).2.1) W, zOu K ao ((fL_remove X Z W x1 g).2.2), zMo K am ((fX5_remove I R x1).2.1) ((fX5_remove I R x1).2.2), rs]) (st := []) (nA := 1) (zsp rfl rfl rfl) (zsp rfl rfl rfl) 3 0 rfl rfl rfl rfl gL_law_X5_remove rfl (by decide +kernel) ⟨Nat.le_of_ble_eq_true rfl, Nat.le_of_ble_eq_true rfl⟩ rfl rfl (Nat.le_of_ble_eq_true rfl) ⟨(show k9 + 1 + 0 ≤ 601024 by omega), (show n9 + 6 + 0 ≤ 7293034 by omega)⟩ dL_law_304 z_noX (fun _ => ?_)
  refine z_istore B (lv' := [(6, .int ((fX5_remove I R x1).1)), (5, .int ((fL_remove X Z W x1 g).1)), (0, .ref b), (1, .ref ax), (2, .ref (am 0)), (3, .ref ao), (4, .int (nI ii))]) dL_law_307 (by decide) rfl ?_
  refine z_aload_n B dL_law_309 4 rfl ?_
  refine z_V1 B (kX5_thrown l hl K am ((fX5_remove I R x1).2.1) ((fX5_remove I R x1).2.2)) [3] [0, 1, 2, 4] (br := [zXo ax (az 0) sa la tr tc X, zZo K az ((fL_remove X Z W x1 g).2.1) W, zOu K ao ((fL_remove X Z W x1 g).2.2), rs]) (bs' := [zXo ax (az 0) sa la tr tc X, zZo K az ((fL_remove X Z W x1 g).2.1) W, zOu K ao ((fL_remove X Z W x1 g).2.2), zMo K am ((fX5_remove I R x1).2.1) ((fX5_remove I R x1).2.2), rs]) (st := []) (nA := 0) (zsp rfl rfl rfl) (zsp rfl rfl rfl) 3 0 rfl rfl rfl rfl gL_law_X5_thrown rfl (by decide +kernel) ⟨Nat.le_of_ble_eq_true rfl, Nat.le_of_ble_eq_true rfl⟩ rfl rfl (Nat.le_of_ble_eq_true rfl) ⟨(show k9 + 1 + 0 + 0 ≤ 601024 by omega), (show n9 + 6 + 0 + 0 ≤ 7293034 by omega)⟩ dL_law_310 z_noX (fun _ => ?_)
  refine z_iload B dL_law_313 1 rfl ?_
  refine z_iceq B 320 dL_law_315 (by decide) (fun _ => ?_) (fun h => absurd hr.1 h)
  refine z_iload B dL_law_320 1 rfl ?_
  refine z_ifne B 344 dL_law_322 (by decide) (fun c1 => ?_) (fun c1 => ?_)
  · refine z_aload_n B dL_law_325 5 rfl ?_
    refine z_iconst B (v := 0) dL_law_326 rfl ?_
    refine z_lald B (N := 1) (f := ((fL_remove X Z W x1 g).2.2)) 2 0 rfl rfl (z_vpc (k := 0) rfl (by decide)) dL_law_327 ?_
    refine z_iload B dL_law_328 0 rfl ?_
    refine z_ifeq B 337 dL_law_330 (by decide) (fun c2 => ?_) (fun c2 => ?_)
    · refine z_lconst B (v := 0) dL_law_337 rfl ?_
      refine z_lcmp B dL_law_338 ?_
      refine z_ifeq B 344 dL_law_339 (by decide) (fun _ => ?_) (fun h => absurd (z_cz ((hr.2 c1).1 c2)) h)
      refine z_goto B (tgt := 1428) dL_law_344 (by decide) ?_
      refine z_lsub [2, 3, 4, 5, 6] rfl ?_
      refine z_widen (k' := k9 + 16) (n' := n9 + 512) (show k9 + 1 + 0 + 0 ≤ _ by omega) (show n9 + 6 + 0 + 0 ≤ _ by omega) ?_
      exact kk
    · refine z_lconst B (v := 1) dL_law_333 rfl ?_
      refine z_goto B (tgt := 338) dL_law_334 (by decide) ?_
      refine z_lcmp B dL_law_338 ?_
      refine z_ifeq B 344 dL_law_339 (by decide) (fun _ => ?_) (fun h => absurd (z_cz ((hr.2 c1).2 c2)) h)
      refine z_goto B (tgt := 1428) dL_law_344 (by decide) ?_
      refine z_lsub [2, 3, 4, 5, 6] rfl ?_
      refine z_widen (k' := k9 + 16) (n' := n9 + 512) (show k9 + 1 + 0 + 0 ≤ _ by omega) (show n9 + 6 + 0 + 0 ≤ _ by omega) ?_
      exact kk
  · refine z_goto B (tgt := 1428) dL_law_344 (by decide) ?_
    refine z_lsub [2, 3, 4, 5, 6] rfl ?_
    refine z_widen (k' := k9 + 16) (n' := n9 + 512) (show k9 + 1 + 0 + 0 ≤ _ by omega) (show n9 + 6 + 0 + 0 ≤ _ by omega) ?_
    exact kk
set_option maxHeartbeats 4000000 in
set_option maxRecDepth 100000 in
theorem aL_setBound (l : Launch) (hl : l.stackTraces = false) (K : zK) (ax : Nat) (az : Nat → Nat) (sa : Nat) (la : Nat) (tr : Nat) (tc : Nat) (X : Nat → Int32) (Z : Nat → Nat → Int32) (W : Nat → Int32) (x1 : Int32) (ao : Nat) (g : Nat → Int64) (am : Nat → Nat) (I : Nat → Int32) (R : Nat → Nat → Int32) (rs : va_W) (hr : rE ((fL_setBound X Z W x1 g).1) ((fL_setBound X Z W x1 g).2.2) ((fX5_setBound I R x1).2) ((fX5_setBound I R x1).1)) {p : Program} {e : Env} {s : State} {m : MethodId} {below : List Frame} {meth : Method} {c : Code} {A : Nat → Prop} {Q : State → Prop} {ret9 : Option FieldType} {nm9 : String} {tb9 : List ExceptionTableEntry} {args : Array Value} {b L ii k9 n9 : Nat} {xs : Nat → Int32} (B : zF K p l s m args meth c A cL_law 7 RL nm9 wsL_law ret9 tb9) (hX : va_X b L xs s s.heap) (hbl : b < s.heap.size) (hbA : ¬ A b) (hi1 : vp_in (nI ii + 1) L) (hv1 : xs (nI ii + 1).toNatClampNeg = x1) (hk9 : k9 + 16 ≤ 601024) (hn9 : n9 + 512 ≤ 7293034)
    (kk : zW K p l e zR s m args below meth c A Q (k9 + 16) (n9 + 512) [zXo ax (az 0) sa la tr tc X, zZo K az Z ((fL_setBound X Z W x1 g).2.1), zOu K ao ((fL_setBound X Z W x1 g).2.2), zMo K am ((fX5_setBound I R x1).2) R, rs] [(0, .ref b), (1, .ref ax), (2, .ref (am 0)), (3, .ref ao), (4, .int (nI ii))] [] 1428) : zW K p l e zR s m args below meth c A Q k9 n9 [zXo ax (az 0) sa la tr tc X, zZo K az Z W, zOu K ao g, zMo K am I R, rs] [(0, .ref b), (1, .ref ax), (2, .ref (am 0)), (3, .ref ao), (4, .int (nI ii))] [] 347 := by
  refine z_aload_n B dL_law_347 1 rfl ?_
  refine z_aload_n B dL_law_348 0 rfl ?_
  refine z_iload B dL_law_349 4 rfl ?_
  refine z_iconst B (v := 1) dL_law_351 rfl ?_
  refine z_iadd B dL_law_352 ?_
  refine z_sld B hX hbl hbA hi1 hv1 dL_law_353 ?_
  refine z_aload_n B dL_law_354 3 rfl ?_
  refine z_H1 B (kL_setBound l hl K ax az sa la tr tc X Z W x1 ao g) [0, 1, 2] [3, 4] (br := [zMo K am I R, rs]) (bs' := [zXo ax (az 0) sa la tr tc X, zZo K az Z ((fL_setBound X Z W x1 g).2.1), zOu K ao ((fL_setBound X Z W x1 g).2.2), zMo K am I R, rs]) (st := []) (nA := 3) (zsp rfl rfl rfl) (zsp rfl rfl rfl) gL_law_L_setBound rfl (by decide +kernel) ⟨Nat.le_of_ble_eq_true rfl, Nat.le_of_ble_eq_true rfl⟩ rfl rfl (Nat.le_of_ble_eq_true rfl) ⟨(show k9 + 1 ≤ 601024 by omega), (show n9 + 6 ≤ 7293034 by omega)⟩ dL_law_355 z_noX (fun _ => ?_)
  refine z_istore B (lv' := [(5, .int ((fL_setBound X Z W x1 g).1)), (0, .ref b), (1, .ref ax), (2, .ref (am 0)), (3, .ref ao), (4, .int (nI ii))]) dL_law_358 (by decide) rfl ?_
  refine z_aload_n B dL_law_360 3 rfl ?_
  refine z_aload_n B dL_law_361 1 rfl ?_
  refine z_iload B dL_law_362 5 rfl ?_
  refine z_iconst B (v := 1) dL_law_364 rfl ?_
  refine z_iadd B dL_law_365 ?_
  refine z_sld B hX hbl hbA hi1 hv1 dL_law_366 ?_
  refine z_V1 B (kX5_setBound l hl K am I R x1) [3] [0, 1, 2, 4] (br := [zXo ax (az 0) sa la tr tc X, zZo K az Z ((fL_setBound X Z W x1 g).2.1), zOu K ao ((fL_setBound X Z W x1 g).2.2), rs]) (bs' := [zXo ax (az 0) sa la tr tc X, zZo K az Z ((fL_setBound X Z W x1 g).2.1), zOu K ao ((fL_setBound X Z W x1 g).2.2), zMo K am ((fX5_setBound I R x1).2) R, rs]) (st := []) (nA := 1) (zsp rfl rfl rfl) (zsp rfl rfl rfl) 3 0 rfl rfl rfl rfl gL_law_X5_setBound rfl (by decide +kernel) ⟨Nat.le_of_ble_eq_true rfl, Nat.le_of_ble_eq_true rfl⟩ rfl rfl (Nat.le_of_ble_eq_true rfl) ⟨(show k9 + 1 + 0 ≤ 601024 by omega), (show n9 + 6 + 0 ≤ 7293034 by omega)⟩ dL_law_367 z_noX (fun _ => ?_)
  refine z_istore B (lv' := [(6, .int ((fX5_setBound I R x1).1)), (5, .int ((fL_setBound X Z W x1 g).1)), (0, .ref b), (1, .ref ax), (2, .ref (am 0)), (3, .ref ao), (4, .int (nI ii))]) dL_law_370 (by decide) rfl ?_
  refine z_aload_n B dL_law_372 4 rfl ?_
  refine z_V1 B (kX5_thrown l hl K am ((fX5_setBound I R x1).2) R) [3] [0, 1, 2, 4] (br := [zXo ax (az 0) sa la tr tc X, zZo K az Z ((fL_setBound X Z W x1 g).2.1), zOu K ao ((fL_setBound X Z W x1 g).2.2), rs]) (bs' := [zXo ax (az 0) sa la tr tc X, zZo K az Z ((fL_setBound X Z W x1 g).2.1), zOu K ao ((fL_setBound X Z W x1 g).2.2), zMo K am ((fX5_setBound I R x1).2) R, rs]) (st := []) (nA := 0) (zsp rfl rfl rfl) (zsp rfl rfl rfl) 3 0 rfl rfl rfl rfl gL_law_X5_thrown rfl (by decide +kernel) ⟨Nat.le_of_ble_eq_true rfl, Nat.le_of_ble_eq_true rfl⟩ rfl rfl (Nat.le_of_ble_eq_true rfl) ⟨(show k9 + 1 + 0 + 0 ≤ 601024 by omega), (show n9 + 6 + 0 + 0 ≤ 7293034 by omega)⟩ dL_law_373 z_noX (fun _ => ?_)
  refine z_iload B dL_law_376 1 rfl ?_
  refine z_iceq B 383 dL_law_378 (by decide) (fun _ => ?_) (fun h => absurd hr.1 h)
  refine z_iload B dL_law_383 1 rfl ?_
  refine z_ifne B 400 dL_law_385 (by decide) (fun c1 => ?_) (fun c1 => ?_)
  · refine z_aload_n B dL_law_388 5 rfl ?_
    refine z_iconst B (v := 0) dL_law_389 rfl ?_
    refine z_lald B (N := 1) (f := ((fL_setBound X Z W x1 g).2.2)) 2 0 rfl rfl (z_vpc (k := 0) rfl (by decide)) dL_law_390 ?_
    refine z_iload B dL_law_391 0 rfl ?_
    refine z_i2l B dL_law_393 ?_
    refine z_lcmp B dL_law_394 ?_
    refine z_ifeq B 400 dL_law_395 (by decide) (fun _ => ?_) (fun h => absurd (z_cz (hr.2 c1)) h)
    refine z_goto B (tgt := 1428) dL_law_400 (by decide) ?_
    refine z_lsub [2, 3, 4, 5, 6] rfl ?_
    refine z_widen (k' := k9 + 16) (n' := n9 + 512) (show k9 + 1 + 0 + 0 ≤ _ by omega) (show n9 + 6 + 0 + 0 ≤ _ by omega) ?_
    exact kk
  · refine z_goto B (tgt := 1428) dL_law_400 (by decide) ?_
    refine z_lsub [2, 3, 4, 5, 6] rfl ?_
    refine z_widen (k' := k9 + 16) (n' := n9 + 512) (show k9 + 1 + 0 + 0 ≤ _ by omega) (show n9 + 6 + 0 + 0 ≤ _ by omega) ?_
    exact kk
set_option maxHeartbeats 4000000 in
set_option maxRecDepth 100000 in
theorem aL_truth (l : Launch) (hl : l.stackTraces = false) (K : zK) (ax : Nat) (az : Nat → Nat) (sa : Nat) (la : Nat) (tr : Nat) (tc : Nat) (X : Nat → Int32) (Z : Nat → Nat → Int32) (W : Nat → Int32) (x1 : Int32) (ao : Nat) (g : Nat → Int64) (am : Nat → Nat) (I : Nat → Int32) (R : Nat → Nat → Int32) (hZ : zwZ R) (rs : va_W) (hr : rE ((fL_truth X Z W x1 g).1) ((fL_truth X Z W x1 g).2) ((fX5_truth I R x1).2) ((fX5_truth I R x1).1)) {p : Program} {e : Env} {s : State} {m : MethodId} {below : List Frame} {meth : Method} {c : Code} {A : Nat → Prop} {Q : State → Prop} {ret9 : Option FieldType} {nm9 : String} {tb9 : List ExceptionTableEntry} {args : Array Value} {b L ii k9 n9 : Nat} {xs : Nat → Int32} (B : zF K p l s m args meth c A cL_law 7 RL nm9 wsL_law ret9 tb9) (hX : va_X b L xs s s.heap) (hbl : b < s.heap.size) (hbA : ¬ A b) (hi1 : vp_in (nI ii + 1) L) (hv1 : xs (nI ii + 1).toNatClampNeg = x1) (hk9 : k9 + 16 ≤ 601024) (hn9 : n9 + 512 ≤ 7293034)
    (kk : zW K p l e zR s m args below meth c A Q (k9 + 16) (n9 + 512) [zXo ax (az 0) sa la tr tc X, zZo K az Z W, zOu K ao ((fL_truth X Z W x1 g).2), zMo K am ((fX5_truth I R x1).2) R, rs] [(0, .ref b), (1, .ref ax), (2, .ref (am 0)), (3, .ref ao), (4, .int (nI ii))] [] 1428) : zW K p l e zR s m args below meth c A Q k9 n9 [zXo ax (az 0) sa la tr tc X, zZo K az Z W, zOu K ao g, zMo K am I R, rs] [(0, .ref b), (1, .ref ax), (2, .ref (am 0)), (3, .ref ao), (4, .int (nI ii))] [] 444 := by
  refine z_aload_n B dL_law_444 1 rfl ?_
  refine z_aload_n B dL_law_445 0 rfl ?_
  refine z_iload B dL_law_446 4 rfl ?_
  refine z_iconst B (v := 1) dL_law_448 rfl ?_
  refine z_iadd B dL_law_449 ?_
  refine z_sld B hX hbl hbA hi1 hv1 dL_law_450 ?_
  refine z_aload_n B dL_law_451 3 rfl ?_
  refine z_H1 B (kL_truth l hl K ax az sa la tr tc X Z W x1 ao g) [0, 1, 2] [3, 4] (br := [zMo K am I R, rs]) (bs' := [zXo ax (az 0) sa la tr tc X, zZo K az Z W, zOu K ao ((fL_truth X Z W x1 g).2), zMo K am I R, rs]) (st := []) (nA := 3) (zsp rfl rfl rfl) (zsp rfl rfl rfl) gL_law_L_truth rfl (by decide +kernel) ⟨Nat.le_of_ble_eq_true rfl, Nat.le_of_ble_eq_true rfl⟩ rfl rfl (Nat.le_of_ble_eq_true rfl) ⟨(show k9 + 1 ≤ 601024 by omega), (show n9 + 6 ≤ 7293034 by omega)⟩ dL_law_452 z_noX (fun _ => ?_)
  refine z_istore B (lv' := [(5, .int ((fL_truth X Z W x1 g).1)), (0, .ref b), (1, .ref ax), (2, .ref (am 0)), (3, .ref ao), (4, .int (nI ii))]) dL_law_455 (by decide) rfl ?_
  refine z_aload_n B dL_law_457 3 rfl ?_
  refine z_aload_n B dL_law_458 1 rfl ?_
  refine z_iload B dL_law_459 5 rfl ?_
  refine z_iconst B (v := 1) dL_law_461 rfl ?_
  refine z_iadd B dL_law_462 ?_
  refine z_sld B hX hbl hbA hi1 hv1 dL_law_463 ?_
  refine z_V1 B (kX5_truth l hl K am I R x1 hZ) [3] [0, 1, 2, 4] (br := [zXo ax (az 0) sa la tr tc X, zZo K az Z W, zOu K ao ((fL_truth X Z W x1 g).2), rs]) (bs' := [zXo ax (az 0) sa la tr tc X, zZo K az Z W, zOu K ao ((fL_truth X Z W x1 g).2), zMo K am ((fX5_truth I R x1).2) R, rs]) (st := []) (nA := 1) (zsp rfl rfl rfl) (zsp rfl rfl rfl) 3 0 rfl rfl rfl rfl gL_law_X5_truth rfl (by decide +kernel) ⟨Nat.le_of_ble_eq_true rfl, Nat.le_of_ble_eq_true rfl⟩ rfl rfl (Nat.le_of_ble_eq_true rfl) ⟨(show k9 + 1 + 0 ≤ 601024 by omega), (show n9 + 6 + 0 ≤ 7293034 by omega)⟩ dL_law_464 z_noX (fun _ => ?_)
  refine z_istore B (lv' := [(6, .int ((fX5_truth I R x1).1)), (5, .int ((fL_truth X Z W x1 g).1)), (0, .ref b), (1, .ref ax), (2, .ref (am 0)), (3, .ref ao), (4, .int (nI ii))]) dL_law_467 (by decide) rfl ?_
  refine z_aload_n B dL_law_469 4 rfl ?_
  refine z_V1 B (kX5_thrown l hl K am ((fX5_truth I R x1).2) R) [3] [0, 1, 2, 4] (br := [zXo ax (az 0) sa la tr tc X, zZo K az Z W, zOu K ao ((fL_truth X Z W x1 g).2), rs]) (bs' := [zXo ax (az 0) sa la tr tc X, zZo K az Z W, zOu K ao ((fL_truth X Z W x1 g).2), zMo K am ((fX5_truth I R x1).2) R, rs]) (st := []) (nA := 0) (zsp rfl rfl rfl) (zsp rfl rfl rfl) 3 0 rfl rfl rfl rfl gL_law_X5_thrown rfl (by decide +kernel) ⟨Nat.le_of_ble_eq_true rfl, Nat.le_of_ble_eq_true rfl⟩ rfl rfl (Nat.le_of_ble_eq_true rfl) ⟨(show k9 + 1 + 0 + 0 ≤ 601024 by omega), (show n9 + 6 + 0 + 0 ≤ 7293034 by omega)⟩ dL_law_470 z_noX (fun _ => ?_)
  refine z_iload B dL_law_473 1 rfl ?_
  refine z_iceq B 480 dL_law_475 (by decide) (fun _ => ?_) (fun h => absurd hr.1 h)
  refine z_iload B dL_law_480 1 rfl ?_
  refine z_ifne B 497 dL_law_482 (by decide) (fun c1 => ?_) (fun c1 => ?_)
  · refine z_aload_n B dL_law_485 5 rfl ?_
    refine z_iconst B (v := 0) dL_law_486 rfl ?_
    refine z_lald B (N := 1) (f := ((fL_truth X Z W x1 g).2)) 2 0 rfl rfl (z_vpc (k := 0) rfl (by decide)) dL_law_487 ?_
    refine z_iload B dL_law_488 0 rfl ?_
    refine z_i2l B dL_law_490 ?_
    refine z_lcmp B dL_law_491 ?_
    refine z_ifeq B 497 dL_law_492 (by decide) (fun _ => ?_) (fun h => absurd (z_cz (hr.2 c1)) h)
    refine z_goto B (tgt := 1428) dL_law_497 (by decide) ?_
    refine z_lsub [2, 3, 4, 5, 6] rfl ?_
    refine z_widen (k' := k9 + 16) (n' := n9 + 512) (show k9 + 1 + 0 + 0 ≤ _ by omega) (show n9 + 6 + 0 + 0 ≤ _ by omega) ?_
    exact kk
  · refine z_goto B (tgt := 1428) dL_law_497 (by decide) ?_
    refine z_lsub [2, 3, 4, 5, 6] rfl ?_
    refine z_widen (k' := k9 + 16) (n' := n9 + 512) (show k9 + 1 + 0 + 0 ≤ _ by omega) (show n9 + 6 + 0 + 0 ≤ _ by omega) ?_
    exact kk
set_option maxHeartbeats 4000000 in
set_option maxRecDepth 100000 in
theorem aL_pass (l : Launch) (hl : l.stackTraces = false) (K : zK) (ax : Nat) (zn : Nat) (sa : Nat) (la : Nat) (tr : Nat) (tc : Nat) (X : Nat → Int32) (x1 : Int32) (ao : Nat) (g : Nat → Int64) (am : Nat → Nat) (I : Nat → Int32) (R : Nat → Nat → Int32) (rs : va_W) (hr : rE ((fL_pass X x1 g).1) ((fL_pass X x1 g).2.2) ((fX5_pass I R x1).2) ((fX5_pass I R x1).1)) {p : Program} {e : Env} {s : State} {m : MethodId} {below : List Frame} {meth : Method} {c : Code} {A : Nat → Prop} {Q : State → Prop} {ret9 : Option FieldType} {nm9 : String} {tb9 : List ExceptionTableEntry} {args : Array Value} {b L ii k9 n9 : Nat} {xs : Nat → Int32} (B : zF K p l s m args meth c A cL_law 7 RL nm9 wsL_law ret9 tb9) (hX : va_X b L xs s s.heap) (hbl : b < s.heap.size) (hbA : ¬ A b) (hi1 : vp_in (nI ii + 1) L) (hv1 : xs (nI ii + 1).toNatClampNeg = x1) (hk9 : k9 + 16 ≤ 601024) (hn9 : n9 + 512 ≤ 7293034)
    (kk : zW K p l e zR s m args below meth c A Q (k9 + 16) (n9 + 512) [zXo ax zn sa la tr tc ((fL_pass X x1 g).2.1), zOu K ao ((fL_pass X x1 g).2.2), zMo K am ((fX5_pass I R x1).2) R, rs] [(0, .ref b), (1, .ref ax), (2, .ref (am 0)), (3, .ref ao), (4, .int (nI ii))] [] 1428) : zW K p l e zR s m args below meth c A Q k9 n9 [zXo ax zn sa la tr tc X, zOu K ao g, zMo K am I R, rs] [(0, .ref b), (1, .ref ax), (2, .ref (am 0)), (3, .ref ao), (4, .int (nI ii))] [] 778 := by
  refine z_aload_n B dL_law_778 1 rfl ?_
  refine z_aload_n B dL_law_779 0 rfl ?_
  refine z_iload B dL_law_780 4 rfl ?_
  refine z_iconst B (v := 1) dL_law_782 rfl ?_
  refine z_iadd B dL_law_783 ?_
  refine z_sld B hX hbl hbA hi1 hv1 dL_law_784 ?_
  refine z_aload_n B dL_law_785 3 rfl ?_
  refine z_H1 B (kL_pass l hl K ax zn sa la tr tc X x1 ao g) [0, 1] [2, 3] (br := [zMo K am I R, rs]) (bs' := [zXo ax zn sa la tr tc ((fL_pass X x1 g).2.1), zOu K ao ((fL_pass X x1 g).2.2), zMo K am I R, rs]) (st := []) (nA := 3) (zsp rfl rfl rfl) (zsp rfl rfl rfl) gL_law_L_pass rfl (by decide +kernel) ⟨Nat.le_of_ble_eq_true rfl, Nat.le_of_ble_eq_true rfl⟩ rfl rfl (Nat.le_of_ble_eq_true rfl) ⟨(show k9 + 1 ≤ 601024 by omega), (show n9 + 6 ≤ 7293034 by omega)⟩ dL_law_786 z_noX (fun _ => ?_)
  refine z_istore B (lv' := [(5, .int ((fL_pass X x1 g).1)), (0, .ref b), (1, .ref ax), (2, .ref (am 0)), (3, .ref ao), (4, .int (nI ii))]) dL_law_789 (by decide) rfl ?_
  refine z_aload_n B dL_law_791 3 rfl ?_
  refine z_aload_n B dL_law_792 1 rfl ?_
  refine z_iload B dL_law_793 5 rfl ?_
  refine z_iconst B (v := 1) dL_law_795 rfl ?_
  refine z_iadd B dL_law_796 ?_
  refine z_sld B hX hbl hbA hi1 hv1 dL_law_797 ?_
  refine z_V1 B (kX5_pass l hl K am I R x1) [2] [0, 1, 3] (br := [zXo ax zn sa la tr tc ((fL_pass X x1 g).2.1), zOu K ao ((fL_pass X x1 g).2.2), rs]) (bs' := [zXo ax zn sa la tr tc ((fL_pass X x1 g).2.1), zOu K ao ((fL_pass X x1 g).2.2), zMo K am ((fX5_pass I R x1).2) R, rs]) (st := []) (nA := 1) (zsp rfl rfl rfl) (zsp rfl rfl rfl) 2 0 rfl rfl rfl rfl gL_law_X5_pass rfl (by decide +kernel) ⟨Nat.le_of_ble_eq_true rfl, Nat.le_of_ble_eq_true rfl⟩ rfl rfl (Nat.le_of_ble_eq_true rfl) ⟨(show k9 + 1 + 0 ≤ 601024 by omega), (show n9 + 6 + 0 ≤ 7293034 by omega)⟩ dL_law_798 z_noX (fun _ => ?_)
  refine z_istore B (lv' := [(6, .int ((fX5_pass I R x1).1)), (5, .int ((fL_pass X x1 g).1)), (0, .ref b), (1, .ref ax), (2, .ref (am 0)), (3, .ref ao), (4, .int (nI ii))]) dL_law_801 (by decide) rfl ?_
  refine z_aload_n B dL_law_803 4 rfl ?_
  refine z_V1 B (kX5_thrown l hl K am ((fX5_pass I R x1).2) R) [2] [0, 1, 3] (br := [zXo ax zn sa la tr tc ((fL_pass X x1 g).2.1), zOu K ao ((fL_pass X x1 g).2.2), rs]) (bs' := [zXo ax zn sa la tr tc ((fL_pass X x1 g).2.1), zOu K ao ((fL_pass X x1 g).2.2), zMo K am ((fX5_pass I R x1).2) R, rs]) (st := []) (nA := 0) (zsp rfl rfl rfl) (zsp rfl rfl rfl) 2 0 rfl rfl rfl rfl gL_law_X5_thrown rfl (by decide +kernel) ⟨Nat.le_of_ble_eq_true rfl, Nat.le_of_ble_eq_true rfl⟩ rfl rfl (Nat.le_of_ble_eq_true rfl) ⟨(show k9 + 1 + 0 + 0 ≤ 601024 by omega), (show n9 + 6 + 0 + 0 ≤ 7293034 by omega)⟩ dL_law_804 z_noX (fun _ => ?_)
  refine z_iload B dL_law_807 1 rfl ?_
  refine z_iceq B 814 dL_law_809 (by decide) (fun _ => ?_) (fun h => absurd hr.1 h)
  refine z_iload B dL_law_814 1 rfl ?_
  refine z_ifne B 831 dL_law_816 (by decide) (fun c1 => ?_) (fun c1 => ?_)
  · refine z_aload_n B dL_law_819 5 rfl ?_
    refine z_iconst B (v := 0) dL_law_820 rfl ?_
    refine z_lald B (N := 1) (f := ((fL_pass X x1 g).2.2)) 1 0 rfl rfl (z_vpc (k := 0) rfl (by decide)) dL_law_821 ?_
    refine z_iload B dL_law_822 0 rfl ?_
    refine z_i2l B dL_law_824 ?_
    refine z_lcmp B dL_law_825 ?_
    refine z_ifeq B 831 dL_law_826 (by decide) (fun _ => ?_) (fun h => absurd (z_cz (hr.2 c1)) h)
    refine z_goto B (tgt := 1428) dL_law_831 (by decide) ?_
    refine z_lsub [2, 3, 4, 5, 6] rfl ?_
    refine z_widen (k' := k9 + 16) (n' := n9 + 512) (show k9 + 1 + 0 + 0 ≤ _ by omega) (show n9 + 6 + 0 + 0 ≤ _ by omega) ?_
    exact kk
  · refine z_goto B (tgt := 1428) dL_law_831 (by decide) ?_
    refine z_lsub [2, 3, 4, 5, 6] rfl ?_
    refine z_widen (k' := k9 + 16) (n' := n9 + 512) (show k9 + 1 + 0 + 0 ≤ _ by omega) (show n9 + 6 + 0 + 0 ≤ _ by omega) ?_
    exact kk
set_option maxHeartbeats 4000000 in
set_option maxRecDepth 100000 in
theorem aL_flush_h (l : Launch) (hl : l.stackTraces = false) (K : zK) (ax : Nat) (zn : Nat) (sa : Nat) (la : Nat) (tr : Nat) (tc : Nat) (X : Nat → Int32) (f : Nat → Option Nat) (n : Nat) (so : Nat → Nat) (sc : Nat → Nat → Nat) (D : Nat → Nat → Int32) (i : Nat) (C : Nat → Nat → Int32) (x2 : Int32) (ao : Nat) (g : Nat → Int64) (am : Nat → Nat) (I : Nat → Int32) (R : Nat → Nat → Int32) (hi4 : i < 4) (hi : i < n) (hfi : f (nI i).toNatClampNeg = some (so i)) (h5 : ¬ (I 5) < 0) (h6 : (I 5).toNatClampNeg ≤ 4) (rs : va_W) (hr : rB ((fL_flush_h D i C x2 g).1) ((fL_flush_h D i C x2 g).2.2) ((fX5_flush I R (nI i) x2).2.1) ((fX5_flush I R (nI i) x2).1)) {p : Program} {e : Env} {s : State} {m : MethodId} {below : List Frame} {meth : Method} {c : Code} {A : Nat → Prop} {Q : State → Prop} {ret9 : Option FieldType} {nm9 : String} {tb9 : List ExceptionTableEntry} {args : Array Value} {b L ii k9 n9 : Nat} {xs : Nat → Int32} (B : zF K p l s m args meth c A cL_law 7 RL nm9 wsL_law ret9 tb9) (hX : va_X b L xs s s.heap) (hbl : b < s.heap.size) (hbA : ¬ A b) (hi1 : vp_in (nI ii + 1) L) (hv1 : xs (nI ii + 1).toNatClampNeg = (nI i)) (hi2 : vp_in (nI ii + 2) L) (hv2 : xs (nI ii + 2).toNatClampNeg = x2) (hk9 : k9 + 16 ≤ 601024) (hn9 : n9 + 512 ≤ 7293034)
    (kk : zW K p l e zR s m args below meth c A Q (k9 + 16) (n9 + 512) [zXo ax zn sa la tr tc X, zSa K sa f, zSO n so sc D, zCa K (sc i) ((fL_flush_h D i C x2 g).2.1), zOu K ao ((fL_flush_h D i C x2 g).2.2), zMo K am ((fX5_flush I R (nI i) x2).2.1) ((fX5_flush I R (nI i) x2).2.2), rs] [(0, .ref b), (1, .ref ax), (2, .ref (am 0)), (3, .ref ao), (4, .int (nI ii))] [] 1428) : zW K p l e zR s m args below meth c A Q k9 n9 [zXo ax zn sa la tr tc X, zSa K sa f, zSO n so sc D, zCa K (sc i) C, zOu K ao g, zMo K am I R, rs] [(0, .ref b), (1, .ref ax), (2, .ref (am 0)), (3, .ref ao), (4, .int (nI ii))] [] 703 := by
  refine z_aload_n B dL_law_703 1 rfl ?_
  refine z_aload_n B dL_law_704 0 rfl ?_
  refine z_iload B dL_law_705 4 rfl ?_
  refine z_iconst B (v := 1) dL_law_707 rfl ?_
  refine z_iadd B dL_law_708 ?_
  refine z_sld B hX hbl hbA hi1 hv1 dL_law_709 ?_
  refine z_aload_n B dL_law_710 0 rfl ?_
  refine z_iload B dL_law_711 4 rfl ?_
  refine z_iconst B (v := 2) dL_law_713 rfl ?_
  refine z_iadd B dL_law_714 ?_
  refine z_sld B hX hbl hbA hi2 hv2 dL_law_715 ?_
  refine z_aload_n B dL_law_716 3 rfl ?_
  refine z_H1 B (kL_flush_h l hl K ax zn sa la tr tc X f n so sc D i C x2 ao g hi4 hi hfi) [0, 1, 2, 3, 4] [5, 6] (br := [zMo K am I R, rs]) (bs' := [zXo ax zn sa la tr tc X, zSa K sa f, zSO n so sc D, zCa K (sc i) ((fL_flush_h D i C x2 g).2.1), zOu K ao ((fL_flush_h D i C x2 g).2.2), zMo K am I R, rs]) (st := []) (nA := 4) (zsp rfl rfl rfl) (zsp rfl rfl rfl) gL_law_L_flush rfl (by decide +kernel) ⟨Nat.le_of_ble_eq_true rfl, Nat.le_of_ble_eq_true rfl⟩ rfl rfl (Nat.le_of_ble_eq_true rfl) ⟨(show k9 + 1 ≤ 601024 by omega), (show n9 + 6 ≤ 7293034 by omega)⟩ dL_law_717 z_noX (fun _ => ?_)
  refine z_istore B (lv' := [(5, .int ((fL_flush_h D i C x2 g).1)), (0, .ref b), (1, .ref ax), (2, .ref (am 0)), (3, .ref ao), (4, .int (nI ii))]) dL_law_720 (by decide) rfl ?_
  refine z_aload_n B dL_law_722 3 rfl ?_
  refine z_aload_n B dL_law_723 1 rfl ?_
  refine z_iload B dL_law_724 5 rfl ?_
  refine z_iconst B (v := 1) dL_law_726 rfl ?_
  refine z_iadd B dL_law_727 ?_
  refine z_sld B hX hbl hbA hi1 hv1 dL_law_728 ?_
  refine z_aload_n B dL_law_729 1 rfl ?_
  refine z_iload B dL_law_730 5 rfl ?_
  refine z_iconst B (v := 2) dL_law_732 rfl ?_
  refine z_iadd B dL_law_733 ?_
  refine z_sld B hX hbl hbA hi2 hv2 dL_law_734 ?_
  refine z_V1 B (kX5_flush l hl K am I R (nI i) x2 h5 h6) [5] [0, 1, 2, 3, 4, 6] (br := [zXo ax zn sa la tr tc X, zSa K sa f, zSO n so sc D, zCa K (sc i) ((fL_flush_h D i C x2 g).2.1), zOu K ao ((fL_flush_h D i C x2 g).2.2), rs]) (bs' := [zXo ax zn sa la tr tc X, zSa K sa f, zSO n so sc D, zCa K (sc i) ((fL_flush_h D i C x2 g).2.1), zOu K ao ((fL_flush_h D i C x2 g).2.2), zMo K am ((fX5_flush I R (nI i) x2).2.1) ((fX5_flush I R (nI i) x2).2.2), rs]) (st := []) (nA := 2) (zsp rfl rfl rfl) (zsp rfl rfl rfl) 5 0 rfl rfl rfl rfl gL_law_X5_flush rfl (by decide +kernel) ⟨Nat.le_of_ble_eq_true rfl, Nat.le_of_ble_eq_true rfl⟩ rfl rfl (Nat.le_of_ble_eq_true rfl) ⟨(show k9 + 1 + 0 ≤ 601024 by omega), (show n9 + 6 + 0 ≤ 7293034 by omega)⟩ dL_law_735 z_noX (fun _ => ?_)
  refine z_istore B (lv' := [(6, .int ((fX5_flush I R (nI i) x2).1)), (5, .int ((fL_flush_h D i C x2 g).1)), (0, .ref b), (1, .ref ax), (2, .ref (am 0)), (3, .ref ao), (4, .int (nI ii))]) dL_law_738 (by decide) rfl ?_
  refine z_aload_n B dL_law_740 4 rfl ?_
  refine z_V1 B (kX5_thrown l hl K am ((fX5_flush I R (nI i) x2).2.1) ((fX5_flush I R (nI i) x2).2.2)) [5] [0, 1, 2, 3, 4, 6] (br := [zXo ax zn sa la tr tc X, zSa K sa f, zSO n so sc D, zCa K (sc i) ((fL_flush_h D i C x2 g).2.1), zOu K ao ((fL_flush_h D i C x2 g).2.2), rs]) (bs' := [zXo ax zn sa la tr tc X, zSa K sa f, zSO n so sc D, zCa K (sc i) ((fL_flush_h D i C x2 g).2.1), zOu K ao ((fL_flush_h D i C x2 g).2.2), zMo K am ((fX5_flush I R (nI i) x2).2.1) ((fX5_flush I R (nI i) x2).2.2), rs]) (st := []) (nA := 0) (zsp rfl rfl rfl) (zsp rfl rfl rfl) 5 0 rfl rfl rfl rfl gL_law_X5_thrown rfl (by decide +kernel) ⟨Nat.le_of_ble_eq_true rfl, Nat.le_of_ble_eq_true rfl⟩ rfl rfl (Nat.le_of_ble_eq_true rfl) ⟨(show k9 + 1 + 0 + 0 ≤ 601024 by omega), (show n9 + 6 + 0 + 0 ≤ 7293034 by omega)⟩ dL_law_741 z_noX (fun _ => ?_)
  refine z_iload B dL_law_744 1 rfl ?_
  refine z_iceq B 751 dL_law_746 (by decide) (fun _ => ?_) (fun h => absurd hr.1 h)
  refine z_iload B dL_law_751 1 rfl ?_
  refine z_ifne B 775 dL_law_753 (by decide) (fun c1 => ?_) (fun c1 => ?_)
  · refine z_aload_n B dL_law_756 5 rfl ?_
    refine z_iconst B (v := 0) dL_law_757 rfl ?_
    refine z_lald B (N := 1) (f := ((fL_flush_h D i C x2 g).2.2)) 4 0 rfl rfl (z_vpc (k := 0) rfl (by decide)) dL_law_758 ?_
    refine z_iload B dL_law_759 0 rfl ?_
    refine z_ifeq B 768 dL_law_761 (by decide) (fun c2 => ?_) (fun c2 => ?_)
    · refine z_lconst B (v := 0) dL_law_768 rfl ?_
      refine z_lcmp B dL_law_769 ?_
      refine z_ifeq B 775 dL_law_770 (by decide) (fun _ => ?_) (fun h => absurd (z_cz ((hr.2 c1).1 c2)) h)
      refine z_goto B (tgt := 1428) dL_law_775 (by decide) ?_
      refine z_lsub [2, 3, 4, 5, 6] rfl ?_
      refine z_widen (k' := k9 + 16) (n' := n9 + 512) (show k9 + 1 + 0 + 0 ≤ _ by omega) (show n9 + 6 + 0 + 0 ≤ _ by omega) ?_
      exact kk
    · refine z_lconst B (v := 1) dL_law_764 rfl ?_
      refine z_goto B (tgt := 769) dL_law_765 (by decide) ?_
      refine z_lcmp B dL_law_769 ?_
      refine z_ifeq B 775 dL_law_770 (by decide) (fun _ => ?_) (fun h => absurd (z_cz ((hr.2 c1).2 c2)) h)
      refine z_goto B (tgt := 1428) dL_law_775 (by decide) ?_
      refine z_lsub [2, 3, 4, 5, 6] rfl ?_
      refine z_widen (k' := k9 + 16) (n' := n9 + 512) (show k9 + 1 + 0 + 0 ≤ _ by omega) (show n9 + 6 + 0 + 0 ≤ _ by omega) ?_
      exact kk
  · refine z_goto B (tgt := 1428) dL_law_775 (by decide) ?_
    refine z_lsub [2, 3, 4, 5, 6] rfl ?_
    refine z_widen (k' := k9 + 16) (n' := n9 + 512) (show k9 + 1 + 0 + 0 ≤ _ by omega) (show n9 + 6 + 0 + 0 ≤ _ by omega) ?_
    exact kk
set_option maxHeartbeats 4000000 in
set_option maxRecDepth 100000 in
theorem aL_flush_m (l : Launch) (hl : l.stackTraces = false) (K : zK) (ax : Nat) (zn : Nat) (sa : Nat) (la : Nat) (tr : Nat) (tc : Nat) (X : Nat → Int32) (f : Nat → Option Nat) (x1 : Int32) (x2 : Int32) (ao : Nat) (g : Nat → Int64) (am : Nat → Nat) (I : Nat → Int32) (R : Nat → Nat → Int32) (hfn : x1 < 4 → ¬ x1 < 0 → f x1.toNatClampNeg = none) (h5 : ¬ (I 5) < 0) (h6 : (I 5).toNatClampNeg ≤ 4) (rs : va_W) (hr : rB (fL_flush_m x1 x2 g) g ((fX5_flush I R x1 x2).2.1) ((fX5_flush I R x1 x2).1)) {p : Program} {e : Env} {s : State} {m : MethodId} {below : List Frame} {meth : Method} {c : Code} {A : Nat → Prop} {Q : State → Prop} {ret9 : Option FieldType} {nm9 : String} {tb9 : List ExceptionTableEntry} {args : Array Value} {b L ii k9 n9 : Nat} {xs : Nat → Int32} (B : zF K p l s m args meth c A cL_law 7 RL nm9 wsL_law ret9 tb9) (hX : va_X b L xs s s.heap) (hbl : b < s.heap.size) (hbA : ¬ A b) (hi1 : vp_in (nI ii + 1) L) (hv1 : xs (nI ii + 1).toNatClampNeg = x1) (hi2 : vp_in (nI ii + 2) L) (hv2 : xs (nI ii + 2).toNatClampNeg = x2) (hk9 : k9 + 16 ≤ 601024) (hn9 : n9 + 512 ≤ 7293034)
    (kk : zW K p l e zR s m args below meth c A Q (k9 + 16) (n9 + 512) [zXo ax zn sa la tr tc X, zSa K sa f, zOu K ao g, zMo K am ((fX5_flush I R x1 x2).2.1) ((fX5_flush I R x1 x2).2.2), rs] [(0, .ref b), (1, .ref ax), (2, .ref (am 0)), (3, .ref ao), (4, .int (nI ii))] [] 1428) : zW K p l e zR s m args below meth c A Q k9 n9 [zXo ax zn sa la tr tc X, zSa K sa f, zOu K ao g, zMo K am I R, rs] [(0, .ref b), (1, .ref ax), (2, .ref (am 0)), (3, .ref ao), (4, .int (nI ii))] [] 703 := by
  refine z_aload_n B dL_law_703 1 rfl ?_
  refine z_aload_n B dL_law_704 0 rfl ?_
  refine z_iload B dL_law_705 4 rfl ?_
  refine z_iconst B (v := 1) dL_law_707 rfl ?_
  refine z_iadd B dL_law_708 ?_
  refine z_sld B hX hbl hbA hi1 hv1 dL_law_709 ?_
  refine z_aload_n B dL_law_710 0 rfl ?_
  refine z_iload B dL_law_711 4 rfl ?_
  refine z_iconst B (v := 2) dL_law_713 rfl ?_
  refine z_iadd B dL_law_714 ?_
  refine z_sld B hX hbl hbA hi2 hv2 dL_law_715 ?_
  refine z_aload_n B dL_law_716 3 rfl ?_
  refine z_H1 B (kL_flush_m l hl K ax zn sa la tr tc X f x1 x2 ao g hfn) [0, 1, 2] [3, 4] (br := [zMo K am I R, rs]) (bs' := [zXo ax zn sa la tr tc X, zSa K sa f, zOu K ao g, zMo K am I R, rs]) (st := []) (nA := 4) (zsp rfl rfl rfl) (zsp rfl rfl rfl) gL_law_L_flush rfl (by decide +kernel) ⟨Nat.le_of_ble_eq_true rfl, Nat.le_of_ble_eq_true rfl⟩ rfl rfl (Nat.le_of_ble_eq_true rfl) ⟨(show k9 + 1 ≤ 601024 by omega), (show n9 + 6 ≤ 7293034 by omega)⟩ dL_law_717 z_noX (fun _ => ?_)
  refine z_istore B (lv' := [(5, .int (fL_flush_m x1 x2 g)), (0, .ref b), (1, .ref ax), (2, .ref (am 0)), (3, .ref ao), (4, .int (nI ii))]) dL_law_720 (by decide) rfl ?_
  refine z_aload_n B dL_law_722 3 rfl ?_
  refine z_aload_n B dL_law_723 1 rfl ?_
  refine z_iload B dL_law_724 5 rfl ?_
  refine z_iconst B (v := 1) dL_law_726 rfl ?_
  refine z_iadd B dL_law_727 ?_
  refine z_sld B hX hbl hbA hi1 hv1 dL_law_728 ?_
  refine z_aload_n B dL_law_729 1 rfl ?_
  refine z_iload B dL_law_730 5 rfl ?_
  refine z_iconst B (v := 2) dL_law_732 rfl ?_
  refine z_iadd B dL_law_733 ?_
  refine z_sld B hX hbl hbA hi2 hv2 dL_law_734 ?_
  refine z_V1 B (kX5_flush l hl K am I R x1 x2 h5 h6) [3] [0, 1, 2, 4] (br := [zXo ax zn sa la tr tc X, zSa K sa f, zOu K ao g, rs]) (bs' := [zXo ax zn sa la tr tc X, zSa K sa f, zOu K ao g, zMo K am ((fX5_flush I R x1 x2).2.1) ((fX5_flush I R x1 x2).2.2), rs]) (st := []) (nA := 2) (zsp rfl rfl rfl) (zsp rfl rfl rfl) 3 0 rfl rfl rfl rfl gL_law_X5_flush rfl (by decide +kernel) ⟨Nat.le_of_ble_eq_true rfl, Nat.le_of_ble_eq_true rfl⟩ rfl rfl (Nat.le_of_ble_eq_true rfl) ⟨(show k9 + 1 + 0 ≤ 601024 by omega), (show n9 + 6 + 0 ≤ 7293034 by omega)⟩ dL_law_735 z_noX (fun _ => ?_)
  refine z_istore B (lv' := [(6, .int ((fX5_flush I R x1 x2).1)), (5, .int (fL_flush_m x1 x2 g)), (0, .ref b), (1, .ref ax), (2, .ref (am 0)), (3, .ref ao), (4, .int (nI ii))]) dL_law_738 (by decide) rfl ?_
  refine z_aload_n B dL_law_740 4 rfl ?_
  refine z_V1 B (kX5_thrown l hl K am ((fX5_flush I R x1 x2).2.1) ((fX5_flush I R x1 x2).2.2)) [3] [0, 1, 2, 4] (br := [zXo ax zn sa la tr tc X, zSa K sa f, zOu K ao g, rs]) (bs' := [zXo ax zn sa la tr tc X, zSa K sa f, zOu K ao g, zMo K am ((fX5_flush I R x1 x2).2.1) ((fX5_flush I R x1 x2).2.2), rs]) (st := []) (nA := 0) (zsp rfl rfl rfl) (zsp rfl rfl rfl) 3 0 rfl rfl rfl rfl gL_law_X5_thrown rfl (by decide +kernel) ⟨Nat.le_of_ble_eq_true rfl, Nat.le_of_ble_eq_true rfl⟩ rfl rfl (Nat.le_of_ble_eq_true rfl) ⟨(show k9 + 1 + 0 + 0 ≤ 601024 by omega), (show n9 + 6 + 0 + 0 ≤ 7293034 by omega)⟩ dL_law_741 z_noX (fun _ => ?_)
  refine z_iload B dL_law_744 1 rfl ?_
  refine z_iceq B 751 dL_law_746 (by decide) (fun _ => ?_) (fun h => absurd hr.1 h)
  refine z_iload B dL_law_751 1 rfl ?_
  refine z_ifne B 775 dL_law_753 (by decide) (fun c1 => ?_) (fun c1 => ?_)
  · refine z_aload_n B dL_law_756 5 rfl ?_
    refine z_iconst B (v := 0) dL_law_757 rfl ?_
    refine z_lald B (N := 1) (f := g) 2 0 rfl rfl (z_vpc (k := 0) rfl (by decide)) dL_law_758 ?_
    refine z_iload B dL_law_759 0 rfl ?_
    refine z_ifeq B 768 dL_law_761 (by decide) (fun c2 => ?_) (fun c2 => ?_)
    · refine z_lconst B (v := 0) dL_law_768 rfl ?_
      refine z_lcmp B dL_law_769 ?_
      refine z_ifeq B 775 dL_law_770 (by decide) (fun _ => ?_) (fun h => absurd (z_cz ((hr.2 c1).1 c2)) h)
      refine z_goto B (tgt := 1428) dL_law_775 (by decide) ?_
      refine z_lsub [2, 3, 4, 5, 6] rfl ?_
      refine z_widen (k' := k9 + 16) (n' := n9 + 512) (show k9 + 1 + 0 + 0 ≤ _ by omega) (show n9 + 6 + 0 + 0 ≤ _ by omega) ?_
      exact kk
    · refine z_lconst B (v := 1) dL_law_764 rfl ?_
      refine z_goto B (tgt := 769) dL_law_765 (by decide) ?_
      refine z_lcmp B dL_law_769 ?_
      refine z_ifeq B 775 dL_law_770 (by decide) (fun _ => ?_) (fun h => absurd (z_cz ((hr.2 c1).2 c2)) h)
      refine z_goto B (tgt := 1428) dL_law_775 (by decide) ?_
      refine z_lsub [2, 3, 4, 5, 6] rfl ?_
      refine z_widen (k' := k9 + 16) (n' := n9 + 512) (show k9 + 1 + 0 + 0 ≤ _ by omega) (show n9 + 6 + 0 + 0 ≤ _ by omega) ?_
      exact kk
  · refine z_goto B (tgt := 1428) dL_law_775 (by decide) ?_
    refine z_lsub [2, 3, 4, 5, 6] rfl ?_
    refine z_widen (k' := k9 + 16) (n' := n9 + 512) (show k9 + 1 + 0 + 0 ≤ _ by omega) (show n9 + 6 + 0 + 0 ≤ _ by omega) ?_
    exact kk
set_option maxHeartbeats 4000000 in
set_option maxRecDepth 100000 in
theorem aL_cachedKind_h (l : Launch) (hl : l.stackTraces = false) (K : zK) (ax : Nat) (zn : Nat) (sa : Nat) (la : Nat) (tr : Nat) (tc : Nat) (X : Nat → Int32) (f : Nat → Option Nat) (n : Nat) (so : Nat → Nat) (sc : Nat → Nat → Nat) (D : Nat → Nat → Int32) (i : Nat) (C : Nat → Nat → Int32) (x2 : Int32) (ao : Nat) (g : Nat → Int64) (am : Nat → Nat) (I : Nat → Int32) (R : Nat → Nat → Int32) (hi4 : i < 4) (hi : i < n) (hfi : f (nI i).toNatClampNeg = some (so i)) (h5 : ¬ (I 5) < 0) (h6 : (I 5).toNatClampNeg ≤ 4) (rs : va_W) (hr : rE ((fL_cachedKind_h D i C x2 g).1) ((fL_cachedKind_h D i C x2 g).2) ((fX5_cachedKind I R (nI i) x2).2) ((fX5_cachedKind I R (nI i) x2).1)) {p : Program} {e : Env} {s : State} {m : MethodId} {below : List Frame} {meth : Method} {c : Code} {A : Nat → Prop} {Q : State → Prop} {ret9 : Option FieldType} {nm9 : String} {tb9 : List ExceptionTableEntry} {args : Array Value} {b L ii k9 n9 : Nat} {xs : Nat → Int32} (B : zF K p l s m args meth c A cL_law 7 RL nm9 wsL_law ret9 tb9) (hX : va_X b L xs s s.heap) (hbl : b < s.heap.size) (hbA : ¬ A b) (hi1 : vp_in (nI ii + 1) L) (hv1 : xs (nI ii + 1).toNatClampNeg = (nI i)) (hi2 : vp_in (nI ii + 2) L) (hv2 : xs (nI ii + 2).toNatClampNeg = x2) (hk9 : k9 + 16 ≤ 601024) (hn9 : n9 + 512 ≤ 7293034)
    (kk : zW K p l e zR s m args below meth c A Q (k9 + 16) (n9 + 512) [zXo ax zn sa la tr tc X, zSa K sa f, zSO n so sc D, zCa K (sc i) C, zOu K ao ((fL_cachedKind_h D i C x2 g).2), zMo K am ((fX5_cachedKind I R (nI i) x2).2) R, rs] [(0, .ref b), (1, .ref ax), (2, .ref (am 0)), (3, .ref ao), (4, .int (nI ii))] [] 1428) : zW K p l e zR s m args below meth c A Q k9 n9 [zXo ax zn sa la tr tc X, zSa K sa f, zSO n so sc D, zCa K (sc i) C, zOu K ao g, zMo K am I R, rs] [(0, .ref b), (1, .ref ax), (2, .ref (am 0)), (3, .ref ao), (4, .int (nI ii))] [] 1091 := by
  refine z_aload_n B dL_law_1091 1 rfl ?_
  refine z_aload_n B dL_law_1092 0 rfl ?_
  refine z_iload B dL_law_1093 4 rfl ?_
  refine z_iconst B (v := 1) dL_law_1095 rfl ?_
  refine z_iadd B dL_law_1096 ?_
  refine z_sld B hX hbl hbA hi1 hv1 dL_law_1097 ?_
  refine z_aload_n B dL_law_1098 0 rfl ?_
  refine z_iload B dL_law_1099 4 rfl ?_
  refine z_iconst B (v := 2) dL_law_1101 rfl ?_
  refine z_iadd B dL_law_1102 ?_
  refine z_sld B hX hbl hbA hi2 hv2 dL_law_1103 ?_
  refine z_aload_n B dL_law_1104 3 rfl ?_
  refine z_H1 B (kL_cachedKind_h l hl K ax zn sa la tr tc X f n so sc D i C x2 ao g hi4 hi hfi) [0, 1, 2, 3, 4] [5, 6] (br := [zMo K am I R, rs]) (bs' := [zXo ax zn sa la tr tc X, zSa K sa f, zSO n so sc D, zCa K (sc i) C, zOu K ao ((fL_cachedKind_h D i C x2 g).2), zMo K am I R, rs]) (st := []) (nA := 4) (zsp rfl rfl rfl) (zsp rfl rfl rfl) gL_law_L_cachedKind rfl (by decide +kernel) ⟨Nat.le_of_ble_eq_true rfl, Nat.le_of_ble_eq_true rfl⟩ rfl rfl (Nat.le_of_ble_eq_true rfl) ⟨(show k9 + 1 ≤ 601024 by omega), (show n9 + 6 ≤ 7293034 by omega)⟩ dL_law_1105 z_noX (fun _ => ?_)
  refine z_istore B (lv' := [(5, .int ((fL_cachedKind_h D i C x2 g).1)), (0, .ref b), (1, .ref ax), (2, .ref (am 0)), (3, .ref ao), (4, .int (nI ii))]) dL_law_1108 (by decide) rfl ?_
  refine z_aload_n B dL_law_1110 3 rfl ?_
  refine z_aload_n B dL_law_1111 1 rfl ?_
  refine z_iload B dL_law_1112 5 rfl ?_
  refine z_iconst B (v := 1) dL_law_1114 rfl ?_
  refine z_iadd B dL_law_1115 ?_
  refine z_sld B hX hbl hbA hi1 hv1 dL_law_1116 ?_
  refine z_aload_n B dL_law_1117 1 rfl ?_
  refine z_iload B dL_law_1118 5 rfl ?_
  refine z_iconst B (v := 2) dL_law_1120 rfl ?_
  refine z_iadd B dL_law_1121 ?_
  refine z_sld B hX hbl hbA hi2 hv2 dL_law_1122 ?_
  refine z_V1 B (kX5_cachedKind l hl K am I R (nI i) x2 h5 h6) [5] [0, 1, 2, 3, 4, 6] (br := [zXo ax zn sa la tr tc X, zSa K sa f, zSO n so sc D, zCa K (sc i) C, zOu K ao ((fL_cachedKind_h D i C x2 g).2), rs]) (bs' := [zXo ax zn sa la tr tc X, zSa K sa f, zSO n so sc D, zCa K (sc i) C, zOu K ao ((fL_cachedKind_h D i C x2 g).2), zMo K am ((fX5_cachedKind I R (nI i) x2).2) R, rs]) (st := []) (nA := 2) (zsp rfl rfl rfl) (zsp rfl rfl rfl) 5 0 rfl rfl rfl rfl gL_law_X5_cachedKind rfl (by decide +kernel) ⟨Nat.le_of_ble_eq_true rfl, Nat.le_of_ble_eq_true rfl⟩ rfl rfl (Nat.le_of_ble_eq_true rfl) ⟨(show k9 + 1 + 0 ≤ 601024 by omega), (show n9 + 6 + 0 ≤ 7293034 by omega)⟩ dL_law_1123 z_noX (fun _ => ?_)
  refine z_istore B (lv' := [(6, .int ((fX5_cachedKind I R (nI i) x2).1)), (5, .int ((fL_cachedKind_h D i C x2 g).1)), (0, .ref b), (1, .ref ax), (2, .ref (am 0)), (3, .ref ao), (4, .int (nI ii))]) dL_law_1126 (by decide) rfl ?_
  refine z_aload_n B dL_law_1128 4 rfl ?_
  refine z_V1 B (kX5_thrown l hl K am ((fX5_cachedKind I R (nI i) x2).2) R) [5] [0, 1, 2, 3, 4, 6] (br := [zXo ax zn sa la tr tc X, zSa K sa f, zSO n so sc D, zCa K (sc i) C, zOu K ao ((fL_cachedKind_h D i C x2 g).2), rs]) (bs' := [zXo ax zn sa la tr tc X, zSa K sa f, zSO n so sc D, zCa K (sc i) C, zOu K ao ((fL_cachedKind_h D i C x2 g).2), zMo K am ((fX5_cachedKind I R (nI i) x2).2) R, rs]) (st := []) (nA := 0) (zsp rfl rfl rfl) (zsp rfl rfl rfl) 5 0 rfl rfl rfl rfl gL_law_X5_thrown rfl (by decide +kernel) ⟨Nat.le_of_ble_eq_true rfl, Nat.le_of_ble_eq_true rfl⟩ rfl rfl (Nat.le_of_ble_eq_true rfl) ⟨(show k9 + 1 + 0 + 0 ≤ 601024 by omega), (show n9 + 6 + 0 + 0 ≤ 7293034 by omega)⟩ dL_law_1129 z_noX (fun _ => ?_)
  refine z_iload B dL_law_1132 1 rfl ?_
  refine z_iceq B 1139 dL_law_1134 (by decide) (fun _ => ?_) (fun h => absurd hr.1 h)
  refine z_iload B dL_law_1139 1 rfl ?_
  refine z_ifne B 1156 dL_law_1141 (by decide) (fun c1 => ?_) (fun c1 => ?_)
  · refine z_aload_n B dL_law_1144 5 rfl ?_
    refine z_iconst B (v := 0) dL_law_1145 rfl ?_
    refine z_lald B (N := 1) (f := ((fL_cachedKind_h D i C x2 g).2)) 4 0 rfl rfl (z_vpc (k := 0) rfl (by decide)) dL_law_1146 ?_
    refine z_iload B dL_law_1147 0 rfl ?_
    refine z_i2l B dL_law_1149 ?_
    refine z_lcmp B dL_law_1150 ?_
    refine z_ifeq B 1156 dL_law_1151 (by decide) (fun _ => ?_) (fun h => absurd (z_cz (hr.2 c1)) h)
    refine z_goto B (tgt := 1428) dL_law_1156 (by decide) ?_
    refine z_lsub [2, 3, 4, 5, 6] rfl ?_
    refine z_widen (k' := k9 + 16) (n' := n9 + 512) (show k9 + 1 + 0 + 0 ≤ _ by omega) (show n9 + 6 + 0 + 0 ≤ _ by omega) ?_
    exact kk
  · refine z_goto B (tgt := 1428) dL_law_1156 (by decide) ?_
    refine z_lsub [2, 3, 4, 5, 6] rfl ?_
    refine z_widen (k' := k9 + 16) (n' := n9 + 512) (show k9 + 1 + 0 + 0 ≤ _ by omega) (show n9 + 6 + 0 + 0 ≤ _ by omega) ?_
    exact kk
set_option maxHeartbeats 4000000 in
set_option maxRecDepth 100000 in
theorem aL_cachedKind_m (l : Launch) (hl : l.stackTraces = false) (K : zK) (ax : Nat) (zn : Nat) (sa : Nat) (la : Nat) (tr : Nat) (tc : Nat) (X : Nat → Int32) (f : Nat → Option Nat) (x1 : Int32) (x2 : Int32) (ao : Nat) (g : Nat → Int64) (am : Nat → Nat) (I : Nat → Int32) (R : Nat → Nat → Int32) (hfn : x1 < 4 → ¬ x1 < 0 → f x1.toNatClampNeg = none) (h5 : ¬ (I 5) < 0) (h6 : (I 5).toNatClampNeg ≤ 4) (rs : va_W) (hr : rE (fL_cachedKind_m x1 x2 g) g ((fX5_cachedKind I R x1 x2).2) ((fX5_cachedKind I R x1 x2).1)) {p : Program} {e : Env} {s : State} {m : MethodId} {below : List Frame} {meth : Method} {c : Code} {A : Nat → Prop} {Q : State → Prop} {ret9 : Option FieldType} {nm9 : String} {tb9 : List ExceptionTableEntry} {args : Array Value} {b L ii k9 n9 : Nat} {xs : Nat → Int32} (B : zF K p l s m args meth c A cL_law 7 RL nm9 wsL_law ret9 tb9) (hX : va_X b L xs s s.heap) (hbl : b < s.heap.size) (hbA : ¬ A b) (hi1 : vp_in (nI ii + 1) L) (hv1 : xs (nI ii + 1).toNatClampNeg = x1) (hi2 : vp_in (nI ii + 2) L) (hv2 : xs (nI ii + 2).toNatClampNeg = x2) (hk9 : k9 + 16 ≤ 601024) (hn9 : n9 + 512 ≤ 7293034)
    (kk : zW K p l e zR s m args below meth c A Q (k9 + 16) (n9 + 512) [zXo ax zn sa la tr tc X, zSa K sa f, zOu K ao g, zMo K am ((fX5_cachedKind I R x1 x2).2) R, rs] [(0, .ref b), (1, .ref ax), (2, .ref (am 0)), (3, .ref ao), (4, .int (nI ii))] [] 1428) : zW K p l e zR s m args below meth c A Q k9 n9 [zXo ax zn sa la tr tc X, zSa K sa f, zOu K ao g, zMo K am I R, rs] [(0, .ref b), (1, .ref ax), (2, .ref (am 0)), (3, .ref ao), (4, .int (nI ii))] [] 1091 := by
  refine z_aload_n B dL_law_1091 1 rfl ?_
  refine z_aload_n B dL_law_1092 0 rfl ?_
  refine z_iload B dL_law_1093 4 rfl ?_
  refine z_iconst B (v := 1) dL_law_1095 rfl ?_
  refine z_iadd B dL_law_1096 ?_
  refine z_sld B hX hbl hbA hi1 hv1 dL_law_1097 ?_
  refine z_aload_n B dL_law_1098 0 rfl ?_
  refine z_iload B dL_law_1099 4 rfl ?_
  refine z_iconst B (v := 2) dL_law_1101 rfl ?_
  refine z_iadd B dL_law_1102 ?_
  refine z_sld B hX hbl hbA hi2 hv2 dL_law_1103 ?_
  refine z_aload_n B dL_law_1104 3 rfl ?_
  refine z_H1 B (kL_cachedKind_m l hl K ax zn sa la tr tc X f x1 x2 ao g hfn) [0, 1, 2] [3, 4] (br := [zMo K am I R, rs]) (bs' := [zXo ax zn sa la tr tc X, zSa K sa f, zOu K ao g, zMo K am I R, rs]) (st := []) (nA := 4) (zsp rfl rfl rfl) (zsp rfl rfl rfl) gL_law_L_cachedKind rfl (by decide +kernel) ⟨Nat.le_of_ble_eq_true rfl, Nat.le_of_ble_eq_true rfl⟩ rfl rfl (Nat.le_of_ble_eq_true rfl) ⟨(show k9 + 1 ≤ 601024 by omega), (show n9 + 6 ≤ 7293034 by omega)⟩ dL_law_1105 z_noX (fun _ => ?_)
  refine z_istore B (lv' := [(5, .int (fL_cachedKind_m x1 x2 g)), (0, .ref b), (1, .ref ax), (2, .ref (am 0)), (3, .ref ao), (4, .int (nI ii))]) dL_law_1108 (by decide) rfl ?_
  refine z_aload_n B dL_law_1110 3 rfl ?_
  refine z_aload_n B dL_law_1111 1 rfl ?_
  refine z_iload B dL_law_1112 5 rfl ?_
  refine z_iconst B (v := 1) dL_law_1114 rfl ?_
  refine z_iadd B dL_law_1115 ?_
  refine z_sld B hX hbl hbA hi1 hv1 dL_law_1116 ?_
  refine z_aload_n B dL_law_1117 1 rfl ?_
  refine z_iload B dL_law_1118 5 rfl ?_
  refine z_iconst B (v := 2) dL_law_1120 rfl ?_
  refine z_iadd B dL_law_1121 ?_
  refine z_sld B hX hbl hbA hi2 hv2 dL_law_1122 ?_
  refine z_V1 B (kX5_cachedKind l hl K am I R x1 x2 h5 h6) [3] [0, 1, 2, 4] (br := [zXo ax zn sa la tr tc X, zSa K sa f, zOu K ao g, rs]) (bs' := [zXo ax zn sa la tr tc X, zSa K sa f, zOu K ao g, zMo K am ((fX5_cachedKind I R x1 x2).2) R, rs]) (st := []) (nA := 2) (zsp rfl rfl rfl) (zsp rfl rfl rfl) 3 0 rfl rfl rfl rfl gL_law_X5_cachedKind rfl (by decide +kernel) ⟨Nat.le_of_ble_eq_true rfl, Nat.le_of_ble_eq_true rfl⟩ rfl rfl (Nat.le_of_ble_eq_true rfl) ⟨(show k9 + 1 + 0 ≤ 601024 by omega), (show n9 + 6 + 0 ≤ 7293034 by omega)⟩ dL_law_1123 z_noX (fun _ => ?_)
  refine z_istore B (lv' := [(6, .int ((fX5_cachedKind I R x1 x2).1)), (5, .int (fL_cachedKind_m x1 x2 g)), (0, .ref b), (1, .ref ax), (2, .ref (am 0)), (3, .ref ao), (4, .int (nI ii))]) dL_law_1126 (by decide) rfl ?_
  refine z_aload_n B dL_law_1128 4 rfl ?_
  refine z_V1 B (kX5_thrown l hl K am ((fX5_cachedKind I R x1 x2).2) R) [3] [0, 1, 2, 4] (br := [zXo ax zn sa la tr tc X, zSa K sa f, zOu K ao g, rs]) (bs' := [zXo ax zn sa la tr tc X, zSa K sa f, zOu K ao g, zMo K am ((fX5_cachedKind I R x1 x2).2) R, rs]) (st := []) (nA := 0) (zsp rfl rfl rfl) (zsp rfl rfl rfl) 3 0 rfl rfl rfl rfl gL_law_X5_thrown rfl (by decide +kernel) ⟨Nat.le_of_ble_eq_true rfl, Nat.le_of_ble_eq_true rfl⟩ rfl rfl (Nat.le_of_ble_eq_true rfl) ⟨(show k9 + 1 + 0 + 0 ≤ 601024 by omega), (show n9 + 6 + 0 + 0 ≤ 7293034 by omega)⟩ dL_law_1129 z_noX (fun _ => ?_)
  refine z_iload B dL_law_1132 1 rfl ?_
  refine z_iceq B 1139 dL_law_1134 (by decide) (fun _ => ?_) (fun h => absurd hr.1 h)
  refine z_iload B dL_law_1139 1 rfl ?_
  refine z_ifne B 1156 dL_law_1141 (by decide) (fun c1 => ?_) (fun c1 => ?_)
  · refine z_aload_n B dL_law_1144 5 rfl ?_
    refine z_iconst B (v := 0) dL_law_1145 rfl ?_
    refine z_lald B (N := 1) (f := g) 2 0 rfl rfl (z_vpc (k := 0) rfl (by decide)) dL_law_1146 ?_
    refine z_iload B dL_law_1147 0 rfl ?_
    refine z_i2l B dL_law_1149 ?_
    refine z_lcmp B dL_law_1150 ?_
    refine z_ifeq B 1156 dL_law_1151 (by decide) (fun _ => ?_) (fun h => absurd (z_cz (hr.2 c1)) h)
    refine z_goto B (tgt := 1428) dL_law_1156 (by decide) ?_
    refine z_lsub [2, 3, 4, 5, 6] rfl ?_
    refine z_widen (k' := k9 + 16) (n' := n9 + 512) (show k9 + 1 + 0 + 0 ≤ _ by omega) (show n9 + 6 + 0 + 0 ≤ _ by omega) ?_
    exact kk
  · refine z_goto B (tgt := 1428) dL_law_1156 (by decide) ?_
    refine z_lsub [2, 3, 4, 5, 6] rfl ?_
    refine z_widen (k' := k9 + 16) (n' := n9 + 512) (show k9 + 1 + 0 + 0 ≤ _ by omega) (show n9 + 6 + 0 + 0 ≤ _ by omega) ?_
    exact kk
set_option maxHeartbeats 4000000 in
set_option maxRecDepth 100000 in
theorem aL_cachedValue_h (l : Launch) (hl : l.stackTraces = false) (K : zK) (ax : Nat) (zn : Nat) (sa : Nat) (la : Nat) (tr : Nat) (tc : Nat) (X : Nat → Int32) (f : Nat → Option Nat) (n : Nat) (so : Nat → Nat) (sc : Nat → Nat → Nat) (D : Nat → Nat → Int32) (i : Nat) (C : Nat → Nat → Int32) (x2 : Int32) (ao : Nat) (g : Nat → Int64) (am : Nat → Nat) (I : Nat → Int32) (R : Nat → Nat → Int32) (hi4 : i < 4) (hi : i < n) (hfi : f (nI i).toNatClampNeg = some (so i)) (h5 : ¬ (I 5) < 0) (h6 : (I 5).toNatClampNeg ≤ 4) (rs : va_W) (hr : rE ((fL_cachedValue_h D i C x2 g).1) ((fL_cachedValue_h D i C x2 g).2) ((fX5_cachedValue I R (nI i) x2).2) ((fX5_cachedValue I R (nI i) x2).1)) {p : Program} {e : Env} {s : State} {m : MethodId} {below : List Frame} {meth : Method} {c : Code} {A : Nat → Prop} {Q : State → Prop} {ret9 : Option FieldType} {nm9 : String} {tb9 : List ExceptionTableEntry} {args : Array Value} {b L ii k9 n9 : Nat} {xs : Nat → Int32} (B : zF K p l s m args meth c A cL_law 7 RL nm9 wsL_law ret9 tb9) (hX : va_X b L xs s s.heap) (hbl : b < s.heap.size) (hbA : ¬ A b) (hi1 : vp_in (nI ii + 1) L) (hv1 : xs (nI ii + 1).toNatClampNeg = (nI i)) (hi2 : vp_in (nI ii + 2) L) (hv2 : xs (nI ii + 2).toNatClampNeg = x2) (hk9 : k9 + 16 ≤ 601024) (hn9 : n9 + 512 ≤ 7293034)
    (kk : zW K p l e zR s m args below meth c A Q (k9 + 16) (n9 + 512) [zXo ax zn sa la tr tc X, zSa K sa f, zSO n so sc D, zCa K (sc i) C, zOu K ao ((fL_cachedValue_h D i C x2 g).2), zMo K am ((fX5_cachedValue I R (nI i) x2).2) R, rs] [(0, .ref b), (1, .ref ax), (2, .ref (am 0)), (3, .ref ao), (4, .int (nI ii))] [] 1428) : zW K p l e zR s m args below meth c A Q k9 n9 [zXo ax zn sa la tr tc X, zSa K sa f, zSO n so sc D, zCa K (sc i) C, zOu K ao g, zMo K am I R, rs] [(0, .ref b), (1, .ref ax), (2, .ref (am 0)), (3, .ref ao), (4, .int (nI ii))] [] 1159 := by
  refine z_aload_n B dL_law_1159 1 rfl ?_
  refine z_aload_n B dL_law_1160 0 rfl ?_
  refine z_iload B dL_law_1161 4 rfl ?_
  refine z_iconst B (v := 1) dL_law_1163 rfl ?_
  refine z_iadd B dL_law_1164 ?_
  refine z_sld B hX hbl hbA hi1 hv1 dL_law_1165 ?_
  refine z_aload_n B dL_law_1166 0 rfl ?_
  refine z_iload B dL_law_1167 4 rfl ?_
  refine z_iconst B (v := 2) dL_law_1169 rfl ?_
  refine z_iadd B dL_law_1170 ?_
  refine z_sld B hX hbl hbA hi2 hv2 dL_law_1171 ?_
  refine z_aload_n B dL_law_1172 3 rfl ?_
  refine z_H1 B (kL_cachedValue_h l hl K ax zn sa la tr tc X f n so sc D i C x2 ao g hi4 hi hfi) [0, 1, 2, 3, 4] [5, 6] (br := [zMo K am I R, rs]) (bs' := [zXo ax zn sa la tr tc X, zSa K sa f, zSO n so sc D, zCa K (sc i) C, zOu K ao ((fL_cachedValue_h D i C x2 g).2), zMo K am I R, rs]) (st := []) (nA := 4) (zsp rfl rfl rfl) (zsp rfl rfl rfl) gL_law_L_cachedValue rfl (by decide +kernel) ⟨Nat.le_of_ble_eq_true rfl, Nat.le_of_ble_eq_true rfl⟩ rfl rfl (Nat.le_of_ble_eq_true rfl) ⟨(show k9 + 1 ≤ 601024 by omega), (show n9 + 6 ≤ 7293034 by omega)⟩ dL_law_1173 z_noX (fun _ => ?_)
  refine z_istore B (lv' := [(5, .int ((fL_cachedValue_h D i C x2 g).1)), (0, .ref b), (1, .ref ax), (2, .ref (am 0)), (3, .ref ao), (4, .int (nI ii))]) dL_law_1176 (by decide) rfl ?_
  refine z_aload_n B dL_law_1178 3 rfl ?_
  refine z_aload_n B dL_law_1179 1 rfl ?_
  refine z_iload B dL_law_1180 5 rfl ?_
  refine z_iconst B (v := 1) dL_law_1182 rfl ?_
  refine z_iadd B dL_law_1183 ?_
  refine z_sld B hX hbl hbA hi1 hv1 dL_law_1184 ?_
  refine z_aload_n B dL_law_1185 1 rfl ?_
  refine z_iload B dL_law_1186 5 rfl ?_
  refine z_iconst B (v := 2) dL_law_1188 rfl ?_
  refine z_iadd B dL_law_1189 ?_
  refine z_sld B hX hbl hbA hi2 hv2 dL_law_1190 ?_
  refine z_V1 B (kX5_cachedValue l hl K am I R (nI i) x2 h5 h6) [5] [0, 1, 2, 3, 4, 6] (br := [zXo ax zn sa la tr tc X, zSa K sa f, zSO n so sc D, zCa K (sc i) C, zOu K ao ((fL_cachedValue_h D i C x2 g).2), rs]) (bs' := [zXo ax zn sa la tr tc X, zSa K sa f, zSO n so sc D, zCa K (sc i) C, zOu K ao ((fL_cachedValue_h D i C x2 g).2), zMo K am ((fX5_cachedValue I R (nI i) x2).2) R, rs]) (st := []) (nA := 2) (zsp rfl rfl rfl) (zsp rfl rfl rfl) 5 0 rfl rfl rfl rfl gL_law_X5_cachedValue rfl (by decide +kernel) ⟨Nat.le_of_ble_eq_true rfl, Nat.le_of_ble_eq_true rfl⟩ rfl rfl (Nat.le_of_ble_eq_true rfl) ⟨(show k9 + 1 + 0 ≤ 601024 by omega), (show n9 + 6 + 0 ≤ 7293034 by omega)⟩ dL_law_1191 z_noX (fun _ => ?_)
  refine z_istore B (lv' := [(6, .int ((fX5_cachedValue I R (nI i) x2).1)), (5, .int ((fL_cachedValue_h D i C x2 g).1)), (0, .ref b), (1, .ref ax), (2, .ref (am 0)), (3, .ref ao), (4, .int (nI ii))]) dL_law_1194 (by decide) rfl ?_
  refine z_aload_n B dL_law_1196 4 rfl ?_
  refine z_V1 B (kX5_thrown l hl K am ((fX5_cachedValue I R (nI i) x2).2) R) [5] [0, 1, 2, 3, 4, 6] (br := [zXo ax zn sa la tr tc X, zSa K sa f, zSO n so sc D, zCa K (sc i) C, zOu K ao ((fL_cachedValue_h D i C x2 g).2), rs]) (bs' := [zXo ax zn sa la tr tc X, zSa K sa f, zSO n so sc D, zCa K (sc i) C, zOu K ao ((fL_cachedValue_h D i C x2 g).2), zMo K am ((fX5_cachedValue I R (nI i) x2).2) R, rs]) (st := []) (nA := 0) (zsp rfl rfl rfl) (zsp rfl rfl rfl) 5 0 rfl rfl rfl rfl gL_law_X5_thrown rfl (by decide +kernel) ⟨Nat.le_of_ble_eq_true rfl, Nat.le_of_ble_eq_true rfl⟩ rfl rfl (Nat.le_of_ble_eq_true rfl) ⟨(show k9 + 1 + 0 + 0 ≤ 601024 by omega), (show n9 + 6 + 0 + 0 ≤ 7293034 by omega)⟩ dL_law_1197 z_noX (fun _ => ?_)
  refine z_iload B dL_law_1200 1 rfl ?_
  refine z_iceq B 1207 dL_law_1202 (by decide) (fun _ => ?_) (fun h => absurd hr.1 h)
  refine z_iload B dL_law_1207 1 rfl ?_
  refine z_ifne B 1224 dL_law_1209 (by decide) (fun c1 => ?_) (fun c1 => ?_)
  · refine z_aload_n B dL_law_1212 5 rfl ?_
    refine z_iconst B (v := 0) dL_law_1213 rfl ?_
    refine z_lald B (N := 1) (f := ((fL_cachedValue_h D i C x2 g).2)) 4 0 rfl rfl (z_vpc (k := 0) rfl (by decide)) dL_law_1214 ?_
    refine z_iload B dL_law_1215 0 rfl ?_
    refine z_i2l B dL_law_1217 ?_
    refine z_lcmp B dL_law_1218 ?_
    refine z_ifeq B 1224 dL_law_1219 (by decide) (fun _ => ?_) (fun h => absurd (z_cz (hr.2 c1)) h)
    refine z_goto B (tgt := 1428) dL_law_1224 (by decide) ?_
    refine z_lsub [2, 3, 4, 5, 6] rfl ?_
    refine z_widen (k' := k9 + 16) (n' := n9 + 512) (show k9 + 1 + 0 + 0 ≤ _ by omega) (show n9 + 6 + 0 + 0 ≤ _ by omega) ?_
    exact kk
  · refine z_goto B (tgt := 1428) dL_law_1224 (by decide) ?_
    refine z_lsub [2, 3, 4, 5, 6] rfl ?_
    refine z_widen (k' := k9 + 16) (n' := n9 + 512) (show k9 + 1 + 0 + 0 ≤ _ by omega) (show n9 + 6 + 0 + 0 ≤ _ by omega) ?_
    exact kk
set_option maxHeartbeats 4000000 in
set_option maxRecDepth 100000 in
theorem aL_cachedValue_m (l : Launch) (hl : l.stackTraces = false) (K : zK) (ax : Nat) (zn : Nat) (sa : Nat) (la : Nat) (tr : Nat) (tc : Nat) (X : Nat → Int32) (f : Nat → Option Nat) (x1 : Int32) (x2 : Int32) (ao : Nat) (g : Nat → Int64) (am : Nat → Nat) (I : Nat → Int32) (R : Nat → Nat → Int32) (hfn : x1 < 4 → ¬ x1 < 0 → f x1.toNatClampNeg = none) (h5 : ¬ (I 5) < 0) (h6 : (I 5).toNatClampNeg ≤ 4) (rs : va_W) (hr : rE (fL_cachedValue_m x1 x2 g) g ((fX5_cachedValue I R x1 x2).2) ((fX5_cachedValue I R x1 x2).1)) {p : Program} {e : Env} {s : State} {m : MethodId} {below : List Frame} {meth : Method} {c : Code} {A : Nat → Prop} {Q : State → Prop} {ret9 : Option FieldType} {nm9 : String} {tb9 : List ExceptionTableEntry} {args : Array Value} {b L ii k9 n9 : Nat} {xs : Nat → Int32} (B : zF K p l s m args meth c A cL_law 7 RL nm9 wsL_law ret9 tb9) (hX : va_X b L xs s s.heap) (hbl : b < s.heap.size) (hbA : ¬ A b) (hi1 : vp_in (nI ii + 1) L) (hv1 : xs (nI ii + 1).toNatClampNeg = x1) (hi2 : vp_in (nI ii + 2) L) (hv2 : xs (nI ii + 2).toNatClampNeg = x2) (hk9 : k9 + 16 ≤ 601024) (hn9 : n9 + 512 ≤ 7293034)
    (kk : zW K p l e zR s m args below meth c A Q (k9 + 16) (n9 + 512) [zXo ax zn sa la tr tc X, zSa K sa f, zOu K ao g, zMo K am ((fX5_cachedValue I R x1 x2).2) R, rs] [(0, .ref b), (1, .ref ax), (2, .ref (am 0)), (3, .ref ao), (4, .int (nI ii))] [] 1428) : zW K p l e zR s m args below meth c A Q k9 n9 [zXo ax zn sa la tr tc X, zSa K sa f, zOu K ao g, zMo K am I R, rs] [(0, .ref b), (1, .ref ax), (2, .ref (am 0)), (3, .ref ao), (4, .int (nI ii))] [] 1159 := by
  refine z_aload_n B dL_law_1159 1 rfl ?_
  refine z_aload_n B dL_law_1160 0 rfl ?_
  refine z_iload B dL_law_1161 4 rfl ?_
  refine z_iconst B (v := 1) dL_law_1163 rfl ?_
  refine z_iadd B dL_law_1164 ?_
  refine z_sld B hX hbl hbA hi1 hv1 dL_law_1165 ?_
  refine z_aload_n B dL_law_1166 0 rfl ?_
  refine z_iload B dL_law_1167 4 rfl ?_
  refine z_iconst B (v := 2) dL_law_1169 rfl ?_
  refine z_iadd B dL_law_1170 ?_
  refine z_sld B hX hbl hbA hi2 hv2 dL_law_1171 ?_
  refine z_aload_n B dL_law_1172 3 rfl ?_
  refine z_H1 B (kL_cachedValue_m l hl K ax zn sa la tr tc X f x1 x2 ao g hfn) [0, 1, 2] [3, 4] (br := [zMo K am I R, rs]) (bs' := [zXo ax zn sa la tr tc X, zSa K sa f, zOu K ao g, zMo K am I R, rs]) (st := []) (nA := 4) (zsp rfl rfl rfl) (zsp rfl rfl rfl) gL_law_L_cachedValue rfl (by decide +kernel) ⟨Nat.le_of_ble_eq_true rfl, Nat.le_of_ble_eq_true rfl⟩ rfl rfl (Nat.le_of_ble_eq_true rfl) ⟨(show k9 + 1 ≤ 601024 by omega), (show n9 + 6 ≤ 7293034 by omega)⟩ dL_law_1173 z_noX (fun _ => ?_)
  refine z_istore B (lv' := [(5, .int (fL_cachedValue_m x1 x2 g)), (0, .ref b), (1, .ref ax), (2, .ref (am 0)), (3, .ref ao), (4, .int (nI ii))]) dL_law_1176 (by decide) rfl ?_
  refine z_aload_n B dL_law_1178 3 rfl ?_
  refine z_aload_n B dL_law_1179 1 rfl ?_
  refine z_iload B dL_law_1180 5 rfl ?_
  refine z_iconst B (v := 1) dL_law_1182 rfl ?_
  refine z_iadd B dL_law_1183 ?_
  refine z_sld B hX hbl hbA hi1 hv1 dL_law_1184 ?_
  refine z_aload_n B dL_law_1185 1 rfl ?_
  refine z_iload B dL_law_1186 5 rfl ?_
  refine z_iconst B (v := 2) dL_law_1188 rfl ?_
  refine z_iadd B dL_law_1189 ?_
  refine z_sld B hX hbl hbA hi2 hv2 dL_law_1190 ?_
  refine z_V1 B (kX5_cachedValue l hl K am I R x1 x2 h5 h6) [3] [0, 1, 2, 4] (br := [zXo ax zn sa la tr tc X, zSa K sa f, zOu K ao g, rs]) (bs' := [zXo ax zn sa la tr tc X, zSa K sa f, zOu K ao g, zMo K am ((fX5_cachedValue I R x1 x2).2) R, rs]) (st := []) (nA := 2) (zsp rfl rfl rfl) (zsp rfl rfl rfl) 3 0 rfl rfl rfl rfl gL_law_X5_cachedValue rfl (by decide +kernel) ⟨Nat.le_of_ble_eq_true rfl, Nat.le_of_ble_eq_true rfl⟩ rfl rfl (Nat.le_of_ble_eq_true rfl) ⟨(show k9 + 1 + 0 ≤ 601024 by omega), (show n9 + 6 + 0 ≤ 7293034 by omega)⟩ dL_law_1191 z_noX (fun _ => ?_)
  refine z_istore B (lv' := [(6, .int ((fX5_cachedValue I R x1 x2).1)), (5, .int (fL_cachedValue_m x1 x2 g)), (0, .ref b), (1, .ref ax), (2, .ref (am 0)), (3, .ref ao), (4, .int (nI ii))]) dL_law_1194 (by decide) rfl ?_
  refine z_aload_n B dL_law_1196 4 rfl ?_
  refine z_V1 B (kX5_thrown l hl K am ((fX5_cachedValue I R x1 x2).2) R) [3] [0, 1, 2, 4] (br := [zXo ax zn sa la tr tc X, zSa K sa f, zOu K ao g, rs]) (bs' := [zXo ax zn sa la tr tc X, zSa K sa f, zOu K ao g, zMo K am ((fX5_cachedValue I R x1 x2).2) R, rs]) (st := []) (nA := 0) (zsp rfl rfl rfl) (zsp rfl rfl rfl) 3 0 rfl rfl rfl rfl gL_law_X5_thrown rfl (by decide +kernel) ⟨Nat.le_of_ble_eq_true rfl, Nat.le_of_ble_eq_true rfl⟩ rfl rfl (Nat.le_of_ble_eq_true rfl) ⟨(show k9 + 1 + 0 + 0 ≤ 601024 by omega), (show n9 + 6 + 0 + 0 ≤ 7293034 by omega)⟩ dL_law_1197 z_noX (fun _ => ?_)
  refine z_iload B dL_law_1200 1 rfl ?_
  refine z_iceq B 1207 dL_law_1202 (by decide) (fun _ => ?_) (fun h => absurd hr.1 h)
  refine z_iload B dL_law_1207 1 rfl ?_
  refine z_ifne B 1224 dL_law_1209 (by decide) (fun c1 => ?_) (fun c1 => ?_)
  · refine z_aload_n B dL_law_1212 5 rfl ?_
    refine z_iconst B (v := 0) dL_law_1213 rfl ?_
    refine z_lald B (N := 1) (f := g) 2 0 rfl rfl (z_vpc (k := 0) rfl (by decide)) dL_law_1214 ?_
    refine z_iload B dL_law_1215 0 rfl ?_
    refine z_i2l B dL_law_1217 ?_
    refine z_lcmp B dL_law_1218 ?_
    refine z_ifeq B 1224 dL_law_1219 (by decide) (fun _ => ?_) (fun h => absurd (z_cz (hr.2 c1)) h)
    refine z_goto B (tgt := 1428) dL_law_1224 (by decide) ?_
    refine z_lsub [2, 3, 4, 5, 6] rfl ?_
    refine z_widen (k' := k9 + 16) (n' := n9 + 512) (show k9 + 1 + 0 + 0 ≤ _ by omega) (show n9 + 6 + 0 + 0 ≤ _ by omega) ?_
    exact kk
  · refine z_goto B (tgt := 1428) dL_law_1224 (by decide) ?_
    refine z_lsub [2, 3, 4, 5, 6] rfl ?_
    refine z_widen (k' := k9 + 16) (n' := n9 + 512) (show k9 + 1 + 0 + 0 ≤ _ by omega) (show n9 + 6 + 0 + 0 ≤ _ by omega) ?_
    exact kk
set_option maxHeartbeats 4000000 in
set_option maxRecDepth 100000 in
theorem aL_left_h (l : Launch) (hl : l.stackTraces = false) (K : zK) (ax : Nat) (zn : Nat) (sa : Nat) (la : Nat) (tr : Nat) (tc : Nat) (X : Nat → Int32) (f : Nat → Option Nat) (n : Nat) (so : Nat → Nat) (sc : Nat → Nat → Nat) (D : Nat → Nat → Int32) (i : Nat) (C : Nat → Nat → Int32) (x2 : Int32) (ao : Nat) (g : Nat → Int64) (am : Nat → Nat) (I : Nat → Int32) (R : Nat → Nat → Int32) (hi4 : i < 4) (hi : i < n) (hfi : f (nI i).toNatClampNeg = some (so i)) (h5 : ¬ (I 5) < 0) (h6 : (I 5).toNatClampNeg ≤ 4) (rs : va_W) (hr : rE ((fL_left_h X D i C x2 g).1) ((fL_left_h X D i C x2 g).2) ((fX5_left I R (nI i) x2).2) ((fX5_left I R (nI i) x2).1)) {p : Program} {e : Env} {s : State} {m : MethodId} {below : List Frame} {meth : Method} {c : Code} {A : Nat → Prop} {Q : State → Prop} {ret9 : Option FieldType} {nm9 : String} {tb9 : List ExceptionTableEntry} {args : Array Value} {b L ii k9 n9 : Nat} {xs : Nat → Int32} (B : zF K p l s m args meth c A cL_law 7 RL nm9 wsL_law ret9 tb9) (hX : va_X b L xs s s.heap) (hbl : b < s.heap.size) (hbA : ¬ A b) (hi1 : vp_in (nI ii + 1) L) (hv1 : xs (nI ii + 1).toNatClampNeg = (nI i)) (hi2 : vp_in (nI ii + 2) L) (hv2 : xs (nI ii + 2).toNatClampNeg = x2) (hk9 : k9 + 16 ≤ 601024) (hn9 : n9 + 512 ≤ 7293034)
    (kk : zW K p l e zR s m args below meth c A Q (k9 + 16) (n9 + 512) [zXo ax zn sa la tr tc X, zSa K sa f, zSO n so sc D, zCa K (sc i) C, zOu K ao ((fL_left_h X D i C x2 g).2), zMo K am ((fX5_left I R (nI i) x2).2) R, rs] [(0, .ref b), (1, .ref ax), (2, .ref (am 0)), (3, .ref ao), (4, .int (nI ii))] [] 1428) : zW K p l e zR s m args below meth c A Q k9 n9 [zXo ax zn sa la tr tc X, zSa K sa f, zSO n so sc D, zCa K (sc i) C, zOu K ao g, zMo K am I R, rs] [(0, .ref b), (1, .ref ax), (2, .ref (am 0)), (3, .ref ao), (4, .int (nI ii))] [] 1227 := by
  refine z_aload_n B dL_law_1227 1 rfl ?_
  refine z_aload_n B dL_law_1228 0 rfl ?_
  refine z_iload B dL_law_1229 4 rfl ?_
  refine z_iconst B (v := 1) dL_law_1231 rfl ?_
  refine z_iadd B dL_law_1232 ?_
  refine z_sld B hX hbl hbA hi1 hv1 dL_law_1233 ?_
  refine z_aload_n B dL_law_1234 0 rfl ?_
  refine z_iload B dL_law_1235 4 rfl ?_
  refine z_iconst B (v := 2) dL_law_1237 rfl ?_
  refine z_iadd B dL_law_1238 ?_
  refine z_sld B hX hbl hbA hi2 hv2 dL_law_1239 ?_
  refine z_aload_n B dL_law_1240 3 rfl ?_
  refine z_H1 B (kL_left_h l hl K ax zn sa la tr tc X f n so sc D i C x2 ao g hi4 hi hfi) [0, 1, 2, 3, 4] [5, 6] (br := [zMo K am I R, rs]) (bs' := [zXo ax zn sa la tr tc X, zSa K sa f, zSO n so sc D, zCa K (sc i) C, zOu K ao ((fL_left_h X D i C x2 g).2), zMo K am I R, rs]) (st := []) (nA := 4) (zsp rfl rfl rfl) (zsp rfl rfl rfl) gL_law_L_left rfl (by decide +kernel) ⟨Nat.le_of_ble_eq_true rfl, Nat.le_of_ble_eq_true rfl⟩ rfl rfl (Nat.le_of_ble_eq_true rfl) ⟨(show k9 + 2 ≤ 601024 by omega), (show n9 + 12 ≤ 7293034 by omega)⟩ dL_law_1241 z_noX (fun _ => ?_)
  refine z_istore B (lv' := [(5, .int ((fL_left_h X D i C x2 g).1)), (0, .ref b), (1, .ref ax), (2, .ref (am 0)), (3, .ref ao), (4, .int (nI ii))]) dL_law_1244 (by decide) rfl ?_
  refine z_aload_n B dL_law_1246 3 rfl ?_
  refine z_aload_n B dL_law_1247 1 rfl ?_
  refine z_iload B dL_law_1248 5 rfl ?_
  refine z_iconst B (v := 1) dL_law_1250 rfl ?_
  refine z_iadd B dL_law_1251 ?_
  refine z_sld B hX hbl hbA hi1 hv1 dL_law_1252 ?_
  refine z_aload_n B dL_law_1253 1 rfl ?_
  refine z_iload B dL_law_1254 5 rfl ?_
  refine z_iconst B (v := 2) dL_law_1256 rfl ?_
  refine z_iadd B dL_law_1257 ?_
  refine z_sld B hX hbl hbA hi2 hv2 dL_law_1258 ?_
  refine z_V1 B (kX5_left l hl K am I R (nI i) x2 h5 h6) [5] [0, 1, 2, 3, 4, 6] (br := [zXo ax zn sa la tr tc X, zSa K sa f, zSO n so sc D, zCa K (sc i) C, zOu K ao ((fL_left_h X D i C x2 g).2), rs]) (bs' := [zXo ax zn sa la tr tc X, zSa K sa f, zSO n so sc D, zCa K (sc i) C, zOu K ao ((fL_left_h X D i C x2 g).2), zMo K am ((fX5_left I R (nI i) x2).2) R, rs]) (st := []) (nA := 2) (zsp rfl rfl rfl) (zsp rfl rfl rfl) 5 0 rfl rfl rfl rfl gL_law_X5_left rfl (by decide +kernel) ⟨Nat.le_of_ble_eq_true rfl, Nat.le_of_ble_eq_true rfl⟩ rfl rfl (Nat.le_of_ble_eq_true rfl) ⟨(show k9 + 2 + 0 ≤ 601024 by omega), (show n9 + 12 + 0 ≤ 7293034 by omega)⟩ dL_law_1259 z_noX (fun _ => ?_)
  refine z_istore B (lv' := [(6, .int ((fX5_left I R (nI i) x2).1)), (5, .int ((fL_left_h X D i C x2 g).1)), (0, .ref b), (1, .ref ax), (2, .ref (am 0)), (3, .ref ao), (4, .int (nI ii))]) dL_law_1262 (by decide) rfl ?_
  refine z_aload_n B dL_law_1264 4 rfl ?_
  refine z_V1 B (kX5_thrown l hl K am ((fX5_left I R (nI i) x2).2) R) [5] [0, 1, 2, 3, 4, 6] (br := [zXo ax zn sa la tr tc X, zSa K sa f, zSO n so sc D, zCa K (sc i) C, zOu K ao ((fL_left_h X D i C x2 g).2), rs]) (bs' := [zXo ax zn sa la tr tc X, zSa K sa f, zSO n so sc D, zCa K (sc i) C, zOu K ao ((fL_left_h X D i C x2 g).2), zMo K am ((fX5_left I R (nI i) x2).2) R, rs]) (st := []) (nA := 0) (zsp rfl rfl rfl) (zsp rfl rfl rfl) 5 0 rfl rfl rfl rfl gL_law_X5_thrown rfl (by decide +kernel) ⟨Nat.le_of_ble_eq_true rfl, Nat.le_of_ble_eq_true rfl⟩ rfl rfl (Nat.le_of_ble_eq_true rfl) ⟨(show k9 + 2 + 0 + 0 ≤ 601024 by omega), (show n9 + 12 + 0 + 0 ≤ 7293034 by omega)⟩ dL_law_1265 z_noX (fun _ => ?_)
  refine z_iload B dL_law_1268 1 rfl ?_
  refine z_iceq B 1275 dL_law_1270 (by decide) (fun _ => ?_) (fun h => absurd hr.1 h)
  refine z_iload B dL_law_1275 1 rfl ?_
  refine z_ifne B 1292 dL_law_1277 (by decide) (fun c1 => ?_) (fun c1 => ?_)
  · refine z_aload_n B dL_law_1280 5 rfl ?_
    refine z_iconst B (v := 0) dL_law_1281 rfl ?_
    refine z_lald B (N := 1) (f := ((fL_left_h X D i C x2 g).2)) 4 0 rfl rfl (z_vpc (k := 0) rfl (by decide)) dL_law_1282 ?_
    refine z_iload B dL_law_1283 0 rfl ?_
    refine z_i2l B dL_law_1285 ?_
    refine z_lcmp B dL_law_1286 ?_
    refine z_ifeq B 1292 dL_law_1287 (by decide) (fun _ => ?_) (fun h => absurd (z_cz (hr.2 c1)) h)
    refine z_goto B (tgt := 1428) dL_law_1292 (by decide) ?_
    refine z_lsub [2, 3, 4, 5, 6] rfl ?_
    refine z_widen (k' := k9 + 16) (n' := n9 + 512) (show k9 + 2 + 0 + 0 ≤ _ by omega) (show n9 + 12 + 0 + 0 ≤ _ by omega) ?_
    exact kk
  · refine z_goto B (tgt := 1428) dL_law_1292 (by decide) ?_
    refine z_lsub [2, 3, 4, 5, 6] rfl ?_
    refine z_widen (k' := k9 + 16) (n' := n9 + 512) (show k9 + 2 + 0 + 0 ≤ _ by omega) (show n9 + 12 + 0 + 0 ≤ _ by omega) ?_
    exact kk
set_option maxHeartbeats 4000000 in
set_option maxRecDepth 100000 in
theorem aL_left_m (l : Launch) (hl : l.stackTraces = false) (K : zK) (ax : Nat) (zn : Nat) (sa : Nat) (la : Nat) (tr : Nat) (tc : Nat) (X : Nat → Int32) (f : Nat → Option Nat) (x1 : Int32) (x2 : Int32) (ao : Nat) (g : Nat → Int64) (am : Nat → Nat) (I : Nat → Int32) (R : Nat → Nat → Int32) (hfn : x1 < 4 → ¬ x1 < 0 → f x1.toNatClampNeg = none) (h5 : ¬ (I 5) < 0) (h6 : (I 5).toNatClampNeg ≤ 4) (rs : va_W) (hr : rE (fL_left_m x1 x2 g) g ((fX5_left I R x1 x2).2) ((fX5_left I R x1 x2).1)) {p : Program} {e : Env} {s : State} {m : MethodId} {below : List Frame} {meth : Method} {c : Code} {A : Nat → Prop} {Q : State → Prop} {ret9 : Option FieldType} {nm9 : String} {tb9 : List ExceptionTableEntry} {args : Array Value} {b L ii k9 n9 : Nat} {xs : Nat → Int32} (B : zF K p l s m args meth c A cL_law 7 RL nm9 wsL_law ret9 tb9) (hX : va_X b L xs s s.heap) (hbl : b < s.heap.size) (hbA : ¬ A b) (hi1 : vp_in (nI ii + 1) L) (hv1 : xs (nI ii + 1).toNatClampNeg = x1) (hi2 : vp_in (nI ii + 2) L) (hv2 : xs (nI ii + 2).toNatClampNeg = x2) (hk9 : k9 + 16 ≤ 601024) (hn9 : n9 + 512 ≤ 7293034)
    (kk : zW K p l e zR s m args below meth c A Q (k9 + 16) (n9 + 512) [zXo ax zn sa la tr tc X, zSa K sa f, zOu K ao g, zMo K am ((fX5_left I R x1 x2).2) R, rs] [(0, .ref b), (1, .ref ax), (2, .ref (am 0)), (3, .ref ao), (4, .int (nI ii))] [] 1428) : zW K p l e zR s m args below meth c A Q k9 n9 [zXo ax zn sa la tr tc X, zSa K sa f, zOu K ao g, zMo K am I R, rs] [(0, .ref b), (1, .ref ax), (2, .ref (am 0)), (3, .ref ao), (4, .int (nI ii))] [] 1227 := by
  refine z_aload_n B dL_law_1227 1 rfl ?_
  refine z_aload_n B dL_law_1228 0 rfl ?_
  refine z_iload B dL_law_1229 4 rfl ?_
  refine z_iconst B (v := 1) dL_law_1231 rfl ?_
  refine z_iadd B dL_law_1232 ?_
  refine z_sld B hX hbl hbA hi1 hv1 dL_law_1233 ?_
  refine z_aload_n B dL_law_1234 0 rfl ?_
  refine z_iload B dL_law_1235 4 rfl ?_
  refine z_iconst B (v := 2) dL_law_1237 rfl ?_
  refine z_iadd B dL_law_1238 ?_
  refine z_sld B hX hbl hbA hi2 hv2 dL_law_1239 ?_
  refine z_aload_n B dL_law_1240 3 rfl ?_
  refine z_H1 B (kL_left_m l hl K ax zn sa la tr tc X f x1 x2 ao g hfn) [0, 1, 2] [3, 4] (br := [zMo K am I R, rs]) (bs' := [zXo ax zn sa la tr tc X, zSa K sa f, zOu K ao g, zMo K am I R, rs]) (st := []) (nA := 4) (zsp rfl rfl rfl) (zsp rfl rfl rfl) gL_law_L_left rfl (by decide +kernel) ⟨Nat.le_of_ble_eq_true rfl, Nat.le_of_ble_eq_true rfl⟩ rfl rfl (Nat.le_of_ble_eq_true rfl) ⟨(show k9 + 1 ≤ 601024 by omega), (show n9 + 6 ≤ 7293034 by omega)⟩ dL_law_1241 z_noX (fun _ => ?_)
  refine z_istore B (lv' := [(5, .int (fL_left_m x1 x2 g)), (0, .ref b), (1, .ref ax), (2, .ref (am 0)), (3, .ref ao), (4, .int (nI ii))]) dL_law_1244 (by decide) rfl ?_
  refine z_aload_n B dL_law_1246 3 rfl ?_
  refine z_aload_n B dL_law_1247 1 rfl ?_
  refine z_iload B dL_law_1248 5 rfl ?_
  refine z_iconst B (v := 1) dL_law_1250 rfl ?_
  refine z_iadd B dL_law_1251 ?_
  refine z_sld B hX hbl hbA hi1 hv1 dL_law_1252 ?_
  refine z_aload_n B dL_law_1253 1 rfl ?_
  refine z_iload B dL_law_1254 5 rfl ?_
  refine z_iconst B (v := 2) dL_law_1256 rfl ?_
  refine z_iadd B dL_law_1257 ?_
  refine z_sld B hX hbl hbA hi2 hv2 dL_law_1258 ?_
  refine z_V1 B (kX5_left l hl K am I R x1 x2 h5 h6) [3] [0, 1, 2, 4] (br := [zXo ax zn sa la tr tc X, zSa K sa f, zOu K ao g, rs]) (bs' := [zXo ax zn sa la tr tc X, zSa K sa f, zOu K ao g, zMo K am ((fX5_left I R x1 x2).2) R, rs]) (st := []) (nA := 2) (zsp rfl rfl rfl) (zsp rfl rfl rfl) 3 0 rfl rfl rfl rfl gL_law_X5_left rfl (by decide +kernel) ⟨Nat.le_of_ble_eq_true rfl, Nat.le_of_ble_eq_true rfl⟩ rfl rfl (Nat.le_of_ble_eq_true rfl) ⟨(show k9 + 1 + 0 ≤ 601024 by omega), (show n9 + 6 + 0 ≤ 7293034 by omega)⟩ dL_law_1259 z_noX (fun _ => ?_)
  refine z_istore B (lv' := [(6, .int ((fX5_left I R x1 x2).1)), (5, .int (fL_left_m x1 x2 g)), (0, .ref b), (1, .ref ax), (2, .ref (am 0)), (3, .ref ao), (4, .int (nI ii))]) dL_law_1262 (by decide) rfl ?_
  refine z_aload_n B dL_law_1264 4 rfl ?_
  refine z_V1 B (kX5_thrown l hl K am ((fX5_left I R x1 x2).2) R) [3] [0, 1, 2, 4] (br := [zXo ax zn sa la tr tc X, zSa K sa f, zOu K ao g, rs]) (bs' := [zXo ax zn sa la tr tc X, zSa K sa f, zOu K ao g, zMo K am ((fX5_left I R x1 x2).2) R, rs]) (st := []) (nA := 0) (zsp rfl rfl rfl) (zsp rfl rfl rfl) 3 0 rfl rfl rfl rfl gL_law_X5_thrown rfl (by decide +kernel) ⟨Nat.le_of_ble_eq_true rfl, Nat.le_of_ble_eq_true rfl⟩ rfl rfl (Nat.le_of_ble_eq_true rfl) ⟨(show k9 + 1 + 0 + 0 ≤ 601024 by omega), (show n9 + 6 + 0 + 0 ≤ 7293034 by omega)⟩ dL_law_1265 z_noX (fun _ => ?_)
  refine z_iload B dL_law_1268 1 rfl ?_
  refine z_iceq B 1275 dL_law_1270 (by decide) (fun _ => ?_) (fun h => absurd hr.1 h)
  refine z_iload B dL_law_1275 1 rfl ?_
  refine z_ifne B 1292 dL_law_1277 (by decide) (fun c1 => ?_) (fun c1 => ?_)
  · refine z_aload_n B dL_law_1280 5 rfl ?_
    refine z_iconst B (v := 0) dL_law_1281 rfl ?_
    refine z_lald B (N := 1) (f := g) 2 0 rfl rfl (z_vpc (k := 0) rfl (by decide)) dL_law_1282 ?_
    refine z_iload B dL_law_1283 0 rfl ?_
    refine z_i2l B dL_law_1285 ?_
    refine z_lcmp B dL_law_1286 ?_
    refine z_ifeq B 1292 dL_law_1287 (by decide) (fun _ => ?_) (fun h => absurd (z_cz (hr.2 c1)) h)
    refine z_goto B (tgt := 1428) dL_law_1292 (by decide) ?_
    refine z_lsub [2, 3, 4, 5, 6] rfl ?_
    refine z_widen (k' := k9 + 16) (n' := n9 + 512) (show k9 + 1 + 0 + 0 ≤ _ by omega) (show n9 + 6 + 0 + 0 ≤ _ by omega) ?_
    exact kk
  · refine z_goto B (tgt := 1428) dL_law_1292 (by decide) ?_
    refine z_lsub [2, 3, 4, 5, 6] rfl ?_
    refine z_widen (k' := k9 + 16) (n' := n9 + 512) (show k9 + 1 + 0 + 0 ≤ _ by omega) (show n9 + 6 + 0 + 0 ≤ _ by omega) ?_
    exact kk
set_option maxHeartbeats 4000000 in
set_option maxRecDepth 100000 in
theorem aL_hitsOf_h (l : Launch) (hl : l.stackTraces = false) (K : zK) (ax : Nat) (zn : Nat) (sa : Nat) (la : Nat) (tr : Nat) (tc : Nat) (X : Nat → Int32) (f : Nat → Option Nat) (n : Nat) (so : Nat → Nat) (sc : Nat → Nat → Nat) (D : Nat → Nat → Int32) (i : Nat) (C : Nat → Nat → Int32) (x2 : Int32) (ao : Nat) (g : Nat → Int64) (am : Nat → Nat) (I : Nat → Int32) (R : Nat → Nat → Int32) (hi4 : i < 4) (hi : i < n) (hfi : f (nI i).toNatClampNeg = some (so i)) (h5 : ¬ (I 5) < 0) (h6 : (I 5).toNatClampNeg ≤ 4) (rs : va_W) (hr : rE ((fL_hitsOf_h D i C x2 g).1) ((fL_hitsOf_h D i C x2 g).2) ((fX5_hitsOf I R (nI i) x2).2) ((fX5_hitsOf I R (nI i) x2).1)) {p : Program} {e : Env} {s : State} {m : MethodId} {below : List Frame} {meth : Method} {c : Code} {A : Nat → Prop} {Q : State → Prop} {ret9 : Option FieldType} {nm9 : String} {tb9 : List ExceptionTableEntry} {args : Array Value} {b L ii k9 n9 : Nat} {xs : Nat → Int32} (B : zF K p l s m args meth c A cL_law 7 RL nm9 wsL_law ret9 tb9) (hX : va_X b L xs s s.heap) (hbl : b < s.heap.size) (hbA : ¬ A b) (hi1 : vp_in (nI ii + 1) L) (hv1 : xs (nI ii + 1).toNatClampNeg = (nI i)) (hi2 : vp_in (nI ii + 2) L) (hv2 : xs (nI ii + 2).toNatClampNeg = x2) (hk9 : k9 + 16 ≤ 601024) (hn9 : n9 + 512 ≤ 7293034)
    (kk : zW K p l e zR s m args below meth c A Q (k9 + 16) (n9 + 512) [zXo ax zn sa la tr tc X, zSa K sa f, zSO n so sc D, zCa K (sc i) C, zOu K ao ((fL_hitsOf_h D i C x2 g).2), zMo K am ((fX5_hitsOf I R (nI i) x2).2) R, rs] [(0, .ref b), (1, .ref ax), (2, .ref (am 0)), (3, .ref ao), (4, .int (nI ii))] [] 1428) : zW K p l e zR s m args below meth c A Q k9 n9 [zXo ax zn sa la tr tc X, zSa K sa f, zSO n so sc D, zCa K (sc i) C, zOu K ao g, zMo K am I R, rs] [(0, .ref b), (1, .ref ax), (2, .ref (am 0)), (3, .ref ao), (4, .int (nI ii))] [] 1295 := by
  refine z_aload_n B dL_law_1295 1 rfl ?_
  refine z_aload_n B dL_law_1296 0 rfl ?_
  refine z_iload B dL_law_1297 4 rfl ?_
  refine z_iconst B (v := 1) dL_law_1299 rfl ?_
  refine z_iadd B dL_law_1300 ?_
  refine z_sld B hX hbl hbA hi1 hv1 dL_law_1301 ?_
  refine z_aload_n B dL_law_1302 0 rfl ?_
  refine z_iload B dL_law_1303 4 rfl ?_
  refine z_iconst B (v := 2) dL_law_1305 rfl ?_
  refine z_iadd B dL_law_1306 ?_
  refine z_sld B hX hbl hbA hi2 hv2 dL_law_1307 ?_
  refine z_aload_n B dL_law_1308 3 rfl ?_
  refine z_H1 B (kL_hitsOf_h l hl K ax zn sa la tr tc X f n so sc D i C x2 ao g hi4 hi hfi) [0, 1, 2, 3, 4] [5, 6] (br := [zMo K am I R, rs]) (bs' := [zXo ax zn sa la tr tc X, zSa K sa f, zSO n so sc D, zCa K (sc i) C, zOu K ao ((fL_hitsOf_h D i C x2 g).2), zMo K am I R, rs]) (st := []) (nA := 4) (zsp rfl rfl rfl) (zsp rfl rfl rfl) gL_law_L_hitsOf rfl (by decide +kernel) ⟨Nat.le_of_ble_eq_true rfl, Nat.le_of_ble_eq_true rfl⟩ rfl rfl (Nat.le_of_ble_eq_true rfl) ⟨(show k9 + 1 ≤ 601024 by omega), (show n9 + 6 ≤ 7293034 by omega)⟩ dL_law_1309 z_noX (fun _ => ?_)
  refine z_istore B (lv' := [(5, .int ((fL_hitsOf_h D i C x2 g).1)), (0, .ref b), (1, .ref ax), (2, .ref (am 0)), (3, .ref ao), (4, .int (nI ii))]) dL_law_1312 (by decide) rfl ?_
  refine z_aload_n B dL_law_1314 3 rfl ?_
  refine z_aload_n B dL_law_1315 1 rfl ?_
  refine z_iload B dL_law_1316 5 rfl ?_
  refine z_iconst B (v := 1) dL_law_1318 rfl ?_
  refine z_iadd B dL_law_1319 ?_
  refine z_sld B hX hbl hbA hi1 hv1 dL_law_1320 ?_
  refine z_aload_n B dL_law_1321 1 rfl ?_
  refine z_iload B dL_law_1322 5 rfl ?_
  refine z_iconst B (v := 2) dL_law_1324 rfl ?_
  refine z_iadd B dL_law_1325 ?_
  refine z_sld B hX hbl hbA hi2 hv2 dL_law_1326 ?_
  refine z_V1 B (kX5_hitsOf l hl K am I R (nI i) x2 h5 h6) [5] [0, 1, 2, 3, 4, 6] (br := [zXo ax zn sa la tr tc X, zSa K sa f, zSO n so sc D, zCa K (sc i) C, zOu K ao ((fL_hitsOf_h D i C x2 g).2), rs]) (bs' := [zXo ax zn sa la tr tc X, zSa K sa f, zSO n so sc D, zCa K (sc i) C, zOu K ao ((fL_hitsOf_h D i C x2 g).2), zMo K am ((fX5_hitsOf I R (nI i) x2).2) R, rs]) (st := []) (nA := 2) (zsp rfl rfl rfl) (zsp rfl rfl rfl) 5 0 rfl rfl rfl rfl gL_law_X5_hitsOf rfl (by decide +kernel) ⟨Nat.le_of_ble_eq_true rfl, Nat.le_of_ble_eq_true rfl⟩ rfl rfl (Nat.le_of_ble_eq_true rfl) ⟨(show k9 + 1 + 0 ≤ 601024 by omega), (show n9 + 6 + 0 ≤ 7293034 by omega)⟩ dL_law_1327 z_noX (fun _ => ?_)
  refine z_istore B (lv' := [(6, .int ((fX5_hitsOf I R (nI i) x2).1)), (5, .int ((fL_hitsOf_h D i C x2 g).1)), (0, .ref b), (1, .ref ax), (2, .ref (am 0)), (3, .ref ao), (4, .int (nI ii))]) dL_law_1330 (by decide) rfl ?_
  refine z_aload_n B dL_law_1332 4 rfl ?_
  refine z_V1 B (kX5_thrown l hl K am ((fX5_hitsOf I R (nI i) x2).2) R) [5] [0, 1, 2, 3, 4, 6] (br := [zXo ax zn sa la tr tc X, zSa K sa f, zSO n so sc D, zCa K (sc i) C, zOu K ao ((fL_hitsOf_h D i C x2 g).2), rs]) (bs' := [zXo ax zn sa la tr tc X, zSa K sa f, zSO n so sc D, zCa K (sc i) C, zOu K ao ((fL_hitsOf_h D i C x2 g).2), zMo K am ((fX5_hitsOf I R (nI i) x2).2) R, rs]) (st := []) (nA := 0) (zsp rfl rfl rfl) (zsp rfl rfl rfl) 5 0 rfl rfl rfl rfl gL_law_X5_thrown rfl (by decide +kernel) ⟨Nat.le_of_ble_eq_true rfl, Nat.le_of_ble_eq_true rfl⟩ rfl rfl (Nat.le_of_ble_eq_true rfl) ⟨(show k9 + 1 + 0 + 0 ≤ 601024 by omega), (show n9 + 6 + 0 + 0 ≤ 7293034 by omega)⟩ dL_law_1333 z_noX (fun _ => ?_)
  refine z_iload B dL_law_1336 1 rfl ?_
  refine z_iceq B 1343 dL_law_1338 (by decide) (fun _ => ?_) (fun h => absurd hr.1 h)
  refine z_iload B dL_law_1343 1 rfl ?_
  refine z_ifne B 1360 dL_law_1345 (by decide) (fun c1 => ?_) (fun c1 => ?_)
  · refine z_aload_n B dL_law_1348 5 rfl ?_
    refine z_iconst B (v := 0) dL_law_1349 rfl ?_
    refine z_lald B (N := 1) (f := ((fL_hitsOf_h D i C x2 g).2)) 4 0 rfl rfl (z_vpc (k := 0) rfl (by decide)) dL_law_1350 ?_
    refine z_iload B dL_law_1351 0 rfl ?_
    refine z_i2l B dL_law_1353 ?_
    refine z_lcmp B dL_law_1354 ?_
    refine z_ifeq B 1360 dL_law_1355 (by decide) (fun _ => ?_) (fun h => absurd (z_cz (hr.2 c1)) h)
    refine z_goto B (tgt := 1428) dL_law_1360 (by decide) ?_
    refine z_lsub [2, 3, 4, 5, 6] rfl ?_
    refine z_widen (k' := k9 + 16) (n' := n9 + 512) (show k9 + 1 + 0 + 0 ≤ _ by omega) (show n9 + 6 + 0 + 0 ≤ _ by omega) ?_
    exact kk
  · refine z_goto B (tgt := 1428) dL_law_1360 (by decide) ?_
    refine z_lsub [2, 3, 4, 5, 6] rfl ?_
    refine z_widen (k' := k9 + 16) (n' := n9 + 512) (show k9 + 1 + 0 + 0 ≤ _ by omega) (show n9 + 6 + 0 + 0 ≤ _ by omega) ?_
    exact kk
set_option maxHeartbeats 4000000 in
set_option maxRecDepth 100000 in
theorem aL_hitsOf_m (l : Launch) (hl : l.stackTraces = false) (K : zK) (ax : Nat) (zn : Nat) (sa : Nat) (la : Nat) (tr : Nat) (tc : Nat) (X : Nat → Int32) (f : Nat → Option Nat) (x1 : Int32) (x2 : Int32) (ao : Nat) (g : Nat → Int64) (am : Nat → Nat) (I : Nat → Int32) (R : Nat → Nat → Int32) (hfn : x1 < 4 → ¬ x1 < 0 → f x1.toNatClampNeg = none) (h5 : ¬ (I 5) < 0) (h6 : (I 5).toNatClampNeg ≤ 4) (rs : va_W) (hr : rE (fL_hitsOf_m x1 x2 g) g ((fX5_hitsOf I R x1 x2).2) ((fX5_hitsOf I R x1 x2).1)) {p : Program} {e : Env} {s : State} {m : MethodId} {below : List Frame} {meth : Method} {c : Code} {A : Nat → Prop} {Q : State → Prop} {ret9 : Option FieldType} {nm9 : String} {tb9 : List ExceptionTableEntry} {args : Array Value} {b L ii k9 n9 : Nat} {xs : Nat → Int32} (B : zF K p l s m args meth c A cL_law 7 RL nm9 wsL_law ret9 tb9) (hX : va_X b L xs s s.heap) (hbl : b < s.heap.size) (hbA : ¬ A b) (hi1 : vp_in (nI ii + 1) L) (hv1 : xs (nI ii + 1).toNatClampNeg = x1) (hi2 : vp_in (nI ii + 2) L) (hv2 : xs (nI ii + 2).toNatClampNeg = x2) (hk9 : k9 + 16 ≤ 601024) (hn9 : n9 + 512 ≤ 7293034)
    (kk : zW K p l e zR s m args below meth c A Q (k9 + 16) (n9 + 512) [zXo ax zn sa la tr tc X, zSa K sa f, zOu K ao g, zMo K am ((fX5_hitsOf I R x1 x2).2) R, rs] [(0, .ref b), (1, .ref ax), (2, .ref (am 0)), (3, .ref ao), (4, .int (nI ii))] [] 1428) : zW K p l e zR s m args below meth c A Q k9 n9 [zXo ax zn sa la tr tc X, zSa K sa f, zOu K ao g, zMo K am I R, rs] [(0, .ref b), (1, .ref ax), (2, .ref (am 0)), (3, .ref ao), (4, .int (nI ii))] [] 1295 := by
  refine z_aload_n B dL_law_1295 1 rfl ?_
  refine z_aload_n B dL_law_1296 0 rfl ?_
  refine z_iload B dL_law_1297 4 rfl ?_
  refine z_iconst B (v := 1) dL_law_1299 rfl ?_
  refine z_iadd B dL_law_1300 ?_
  refine z_sld B hX hbl hbA hi1 hv1 dL_law_1301 ?_
  refine z_aload_n B dL_law_1302 0 rfl ?_
  refine z_iload B dL_law_1303 4 rfl ?_
  refine z_iconst B (v := 2) dL_law_1305 rfl ?_
  refine z_iadd B dL_law_1306 ?_
  refine z_sld B hX hbl hbA hi2 hv2 dL_law_1307 ?_
  refine z_aload_n B dL_law_1308 3 rfl ?_
  refine z_H1 B (kL_hitsOf_m l hl K ax zn sa la tr tc X f x1 x2 ao g hfn) [0, 1, 2] [3, 4] (br := [zMo K am I R, rs]) (bs' := [zXo ax zn sa la tr tc X, zSa K sa f, zOu K ao g, zMo K am I R, rs]) (st := []) (nA := 4) (zsp rfl rfl rfl) (zsp rfl rfl rfl) gL_law_L_hitsOf rfl (by decide +kernel) ⟨Nat.le_of_ble_eq_true rfl, Nat.le_of_ble_eq_true rfl⟩ rfl rfl (Nat.le_of_ble_eq_true rfl) ⟨(show k9 + 1 ≤ 601024 by omega), (show n9 + 6 ≤ 7293034 by omega)⟩ dL_law_1309 z_noX (fun _ => ?_)
  refine z_istore B (lv' := [(5, .int (fL_hitsOf_m x1 x2 g)), (0, .ref b), (1, .ref ax), (2, .ref (am 0)), (3, .ref ao), (4, .int (nI ii))]) dL_law_1312 (by decide) rfl ?_
  refine z_aload_n B dL_law_1314 3 rfl ?_
  refine z_aload_n B dL_law_1315 1 rfl ?_
  refine z_iload B dL_law_1316 5 rfl ?_
  refine z_iconst B (v := 1) dL_law_1318 rfl ?_
  refine z_iadd B dL_law_1319 ?_
  refine z_sld B hX hbl hbA hi1 hv1 dL_law_1320 ?_
  refine z_aload_n B dL_law_1321 1 rfl ?_
  refine z_iload B dL_law_1322 5 rfl ?_
  refine z_iconst B (v := 2) dL_law_1324 rfl ?_
  refine z_iadd B dL_law_1325 ?_
  refine z_sld B hX hbl hbA hi2 hv2 dL_law_1326 ?_
  refine z_V1 B (kX5_hitsOf l hl K am I R x1 x2 h5 h6) [3] [0, 1, 2, 4] (br := [zXo ax zn sa la tr tc X, zSa K sa f, zOu K ao g, rs]) (bs' := [zXo ax zn sa la tr tc X, zSa K sa f, zOu K ao g, zMo K am ((fX5_hitsOf I R x1 x2).2) R, rs]) (st := []) (nA := 2) (zsp rfl rfl rfl) (zsp rfl rfl rfl) 3 0 rfl rfl rfl rfl gL_law_X5_hitsOf rfl (by decide +kernel) ⟨Nat.le_of_ble_eq_true rfl, Nat.le_of_ble_eq_true rfl⟩ rfl rfl (Nat.le_of_ble_eq_true rfl) ⟨(show k9 + 1 + 0 ≤ 601024 by omega), (show n9 + 6 + 0 ≤ 7293034 by omega)⟩ dL_law_1327 z_noX (fun _ => ?_)
  refine z_istore B (lv' := [(6, .int ((fX5_hitsOf I R x1 x2).1)), (5, .int (fL_hitsOf_m x1 x2 g)), (0, .ref b), (1, .ref ax), (2, .ref (am 0)), (3, .ref ao), (4, .int (nI ii))]) dL_law_1330 (by decide) rfl ?_
  refine z_aload_n B dL_law_1332 4 rfl ?_
  refine z_V1 B (kX5_thrown l hl K am ((fX5_hitsOf I R x1 x2).2) R) [3] [0, 1, 2, 4] (br := [zXo ax zn sa la tr tc X, zSa K sa f, zOu K ao g, rs]) (bs' := [zXo ax zn sa la tr tc X, zSa K sa f, zOu K ao g, zMo K am ((fX5_hitsOf I R x1 x2).2) R, rs]) (st := []) (nA := 0) (zsp rfl rfl rfl) (zsp rfl rfl rfl) 3 0 rfl rfl rfl rfl gL_law_X5_thrown rfl (by decide +kernel) ⟨Nat.le_of_ble_eq_true rfl, Nat.le_of_ble_eq_true rfl⟩ rfl rfl (Nat.le_of_ble_eq_true rfl) ⟨(show k9 + 1 + 0 + 0 ≤ 601024 by omega), (show n9 + 6 + 0 + 0 ≤ 7293034 by omega)⟩ dL_law_1333 z_noX (fun _ => ?_)
  refine z_iload B dL_law_1336 1 rfl ?_
  refine z_iceq B 1343 dL_law_1338 (by decide) (fun _ => ?_) (fun h => absurd hr.1 h)
  refine z_iload B dL_law_1343 1 rfl ?_
  refine z_ifne B 1360 dL_law_1345 (by decide) (fun c1 => ?_) (fun c1 => ?_)
  · refine z_aload_n B dL_law_1348 5 rfl ?_
    refine z_iconst B (v := 0) dL_law_1349 rfl ?_
    refine z_lald B (N := 1) (f := g) 2 0 rfl rfl (z_vpc (k := 0) rfl (by decide)) dL_law_1350 ?_
    refine z_iload B dL_law_1351 0 rfl ?_
    refine z_i2l B dL_law_1353 ?_
    refine z_lcmp B dL_law_1354 ?_
    refine z_ifeq B 1360 dL_law_1355 (by decide) (fun _ => ?_) (fun h => absurd (z_cz (hr.2 c1)) h)
    refine z_goto B (tgt := 1428) dL_law_1360 (by decide) ?_
    refine z_lsub [2, 3, 4, 5, 6] rfl ?_
    refine z_widen (k' := k9 + 16) (n' := n9 + 512) (show k9 + 1 + 0 + 0 ≤ _ by omega) (show n9 + 6 + 0 + 0 ≤ _ by omega) ?_
    exact kk
  · refine z_goto B (tgt := 1428) dL_law_1360 (by decide) ?_
    refine z_lsub [2, 3, 4, 5, 6] rfl ?_
    refine z_widen (k' := k9 + 16) (n' := n9 + 512) (show k9 + 1 + 0 + 0 ≤ _ by omega) (show n9 + 6 + 0 + 0 ≤ _ by omega) ?_
    exact kk
set_option maxHeartbeats 4000000 in
set_option maxRecDepth 100000 in
theorem aL_entries_h (l : Launch) (hl : l.stackTraces = false) (K : zK) (ax : Nat) (zn : Nat) (sa : Nat) (la : Nat) (tr : Nat) (tc : Nat) (X : Nat → Int32) (f : Nat → Option Nat) (n : Nat) (so : Nat → Nat) (sc : Nat → Nat → Nat) (D : Nat → Nat → Int32) (i : Nat) (C : Nat → Nat → Int32) (ao : Nat) (g : Nat → Int64) (am : Nat → Nat) (I : Nat → Int32) (R : Nat → Nat → Int32) (hi4 : i < 4) (hi : i < n) (hfi : f (nI i).toNatClampNeg = some (so i)) (h5 : ¬ (I 5) < 0) (h6 : (I 5).toNatClampNeg ≤ 4) (rs : va_W) (hr : rE ((fL_entries_h D i C g).1) ((fL_entries_h D i C g).2) ((fX5_entries I R (nI i)).2) ((fX5_entries I R (nI i)).1)) {p : Program} {e : Env} {s : State} {m : MethodId} {below : List Frame} {meth : Method} {c : Code} {A : Nat → Prop} {Q : State → Prop} {ret9 : Option FieldType} {nm9 : String} {tb9 : List ExceptionTableEntry} {args : Array Value} {b L ii k9 n9 : Nat} {xs : Nat → Int32} (B : zF K p l s m args meth c A cL_law 7 RL nm9 wsL_law ret9 tb9) (hX : va_X b L xs s s.heap) (hbl : b < s.heap.size) (hbA : ¬ A b) (hi1 : vp_in (nI ii + 1) L) (hv1 : xs (nI ii + 1).toNatClampNeg = (nI i)) (hk9 : k9 + 16 ≤ 601024) (hn9 : n9 + 512 ≤ 7293034)
    (kk : zW K p l e zR s m args below meth c A Q (k9 + 16) (n9 + 512) [zXo ax zn sa la tr tc X, zSa K sa f, zSO n so sc D, zCa K (sc i) C, zOu K ao ((fL_entries_h D i C g).2), zMo K am ((fX5_entries I R (nI i)).2) R, rs] [(0, .ref b), (1, .ref ax), (2, .ref (am 0)), (3, .ref ao), (4, .int (nI ii))] [] 1428) : zW K p l e zR s m args below meth c A Q k9 n9 [zXo ax zn sa la tr tc X, zSa K sa f, zSO n so sc D, zCa K (sc i) C, zOu K ao g, zMo K am I R, rs] [(0, .ref b), (1, .ref ax), (2, .ref (am 0)), (3, .ref ao), (4, .int (nI ii))] [] 1035 := by
  refine z_aload_n B dL_law_1035 1 rfl ?_
  refine z_aload_n B dL_law_1036 0 rfl ?_
  refine z_iload B dL_law_1037 4 rfl ?_
  refine z_iconst B (v := 1) dL_law_1039 rfl ?_
  refine z_iadd B dL_law_1040 ?_
  refine z_sld B hX hbl hbA hi1 hv1 dL_law_1041 ?_
  refine z_aload_n B dL_law_1042 3 rfl ?_
  refine z_H1 B (kL_entries_h l hl K ax zn sa la tr tc X f n so sc D i C ao g hi4 hi hfi) [0, 1, 2, 3, 4] [5, 6] (br := [zMo K am I R, rs]) (bs' := [zXo ax zn sa la tr tc X, zSa K sa f, zSO n so sc D, zCa K (sc i) C, zOu K ao ((fL_entries_h D i C g).2), zMo K am I R, rs]) (st := []) (nA := 3) (zsp rfl rfl rfl) (zsp rfl rfl rfl) gL_law_L_entries rfl (by decide +kernel) ⟨Nat.le_of_ble_eq_true rfl, Nat.le_of_ble_eq_true rfl⟩ rfl rfl (Nat.le_of_ble_eq_true rfl) ⟨(show k9 + 0 ≤ 601024 by omega), (show n9 + 0 ≤ 7293034 by omega)⟩ dL_law_1043 z_noX (fun _ => ?_)
  refine z_istore B (lv' := [(5, .int ((fL_entries_h D i C g).1)), (0, .ref b), (1, .ref ax), (2, .ref (am 0)), (3, .ref ao), (4, .int (nI ii))]) dL_law_1046 (by decide) rfl ?_
  refine z_aload_n B dL_law_1048 3 rfl ?_
  refine z_aload_n B dL_law_1049 1 rfl ?_
  refine z_iload B dL_law_1050 5 rfl ?_
  refine z_iconst B (v := 1) dL_law_1052 rfl ?_
  refine z_iadd B dL_law_1053 ?_
  refine z_sld B hX hbl hbA hi1 hv1 dL_law_1054 ?_
  refine z_V1 B (kX5_entries l hl K am I R (nI i) h5 h6) [5] [0, 1, 2, 3, 4, 6] (br := [zXo ax zn sa la tr tc X, zSa K sa f, zSO n so sc D, zCa K (sc i) C, zOu K ao ((fL_entries_h D i C g).2), rs]) (bs' := [zXo ax zn sa la tr tc X, zSa K sa f, zSO n so sc D, zCa K (sc i) C, zOu K ao ((fL_entries_h D i C g).2), zMo K am ((fX5_entries I R (nI i)).2) R, rs]) (st := []) (nA := 1) (zsp rfl rfl rfl) (zsp rfl rfl rfl) 5 0 rfl rfl rfl rfl gL_law_X5_entries rfl (by decide +kernel) ⟨Nat.le_of_ble_eq_true rfl, Nat.le_of_ble_eq_true rfl⟩ rfl rfl (Nat.le_of_ble_eq_true rfl) ⟨(show k9 + 0 + 0 ≤ 601024 by omega), (show n9 + 0 + 0 ≤ 7293034 by omega)⟩ dL_law_1055 z_noX (fun _ => ?_)
  refine z_istore B (lv' := [(6, .int ((fX5_entries I R (nI i)).1)), (5, .int ((fL_entries_h D i C g).1)), (0, .ref b), (1, .ref ax), (2, .ref (am 0)), (3, .ref ao), (4, .int (nI ii))]) dL_law_1058 (by decide) rfl ?_
  refine z_aload_n B dL_law_1060 4 rfl ?_
  refine z_V1 B (kX5_thrown l hl K am ((fX5_entries I R (nI i)).2) R) [5] [0, 1, 2, 3, 4, 6] (br := [zXo ax zn sa la tr tc X, zSa K sa f, zSO n so sc D, zCa K (sc i) C, zOu K ao ((fL_entries_h D i C g).2), rs]) (bs' := [zXo ax zn sa la tr tc X, zSa K sa f, zSO n so sc D, zCa K (sc i) C, zOu K ao ((fL_entries_h D i C g).2), zMo K am ((fX5_entries I R (nI i)).2) R, rs]) (st := []) (nA := 0) (zsp rfl rfl rfl) (zsp rfl rfl rfl) 5 0 rfl rfl rfl rfl gL_law_X5_thrown rfl (by decide +kernel) ⟨Nat.le_of_ble_eq_true rfl, Nat.le_of_ble_eq_true rfl⟩ rfl rfl (Nat.le_of_ble_eq_true rfl) ⟨(show k9 + 0 + 0 + 0 ≤ 601024 by omega), (show n9 + 0 + 0 + 0 ≤ 7293034 by omega)⟩ dL_law_1061 z_noX (fun _ => ?_)
  refine z_iload B dL_law_1064 1 rfl ?_
  refine z_iceq B 1071 dL_law_1066 (by decide) (fun _ => ?_) (fun h => absurd hr.1 h)
  refine z_iload B dL_law_1071 1 rfl ?_
  refine z_ifne B 1088 dL_law_1073 (by decide) (fun c1 => ?_) (fun c1 => ?_)
  · refine z_aload_n B dL_law_1076 5 rfl ?_
    refine z_iconst B (v := 0) dL_law_1077 rfl ?_
    refine z_lald B (N := 1) (f := ((fL_entries_h D i C g).2)) 4 0 rfl rfl (z_vpc (k := 0) rfl (by decide)) dL_law_1078 ?_
    refine z_iload B dL_law_1079 0 rfl ?_
    refine z_i2l B dL_law_1081 ?_
    refine z_lcmp B dL_law_1082 ?_
    refine z_ifeq B 1088 dL_law_1083 (by decide) (fun _ => ?_) (fun h => absurd (z_cz (hr.2 c1)) h)
    refine z_goto B (tgt := 1428) dL_law_1088 (by decide) ?_
    refine z_lsub [2, 3, 4, 5, 6] rfl ?_
    refine z_widen (k' := k9 + 16) (n' := n9 + 512) (show k9 + 0 + 0 + 0 ≤ _ by omega) (show n9 + 0 + 0 + 0 ≤ _ by omega) ?_
    exact kk
  · refine z_goto B (tgt := 1428) dL_law_1088 (by decide) ?_
    refine z_lsub [2, 3, 4, 5, 6] rfl ?_
    refine z_widen (k' := k9 + 16) (n' := n9 + 512) (show k9 + 0 + 0 + 0 ≤ _ by omega) (show n9 + 0 + 0 + 0 ≤ _ by omega) ?_
    exact kk
set_option maxHeartbeats 4000000 in
set_option maxRecDepth 100000 in
theorem aL_entries_m (l : Launch) (hl : l.stackTraces = false) (K : zK) (ax : Nat) (zn : Nat) (sa : Nat) (la : Nat) (tr : Nat) (tc : Nat) (X : Nat → Int32) (f : Nat → Option Nat) (x1 : Int32) (ao : Nat) (g : Nat → Int64) (am : Nat → Nat) (I : Nat → Int32) (R : Nat → Nat → Int32) (hfn : x1 < 4 → ¬ x1 < 0 → f x1.toNatClampNeg = none) (h5 : ¬ (I 5) < 0) (h6 : (I 5).toNatClampNeg ≤ 4) (rs : va_W) (hr : rE (fL_entries_m x1 g) g ((fX5_entries I R x1).2) ((fX5_entries I R x1).1)) {p : Program} {e : Env} {s : State} {m : MethodId} {below : List Frame} {meth : Method} {c : Code} {A : Nat → Prop} {Q : State → Prop} {ret9 : Option FieldType} {nm9 : String} {tb9 : List ExceptionTableEntry} {args : Array Value} {b L ii k9 n9 : Nat} {xs : Nat → Int32} (B : zF K p l s m args meth c A cL_law 7 RL nm9 wsL_law ret9 tb9) (hX : va_X b L xs s s.heap) (hbl : b < s.heap.size) (hbA : ¬ A b) (hi1 : vp_in (nI ii + 1) L) (hv1 : xs (nI ii + 1).toNatClampNeg = x1) (hk9 : k9 + 16 ≤ 601024) (hn9 : n9 + 512 ≤ 7293034)
    (kk : zW K p l e zR s m args below meth c A Q (k9 + 16) (n9 + 512) [zXo ax zn sa la tr tc X, zSa K sa f, zOu K ao g, zMo K am ((fX5_entries I R x1).2) R, rs] [(0, .ref b), (1, .ref ax), (2, .ref (am 0)), (3, .ref ao), (4, .int (nI ii))] [] 1428) : zW K p l e zR s m args below meth c A Q k9 n9 [zXo ax zn sa la tr tc X, zSa K sa f, zOu K ao g, zMo K am I R, rs] [(0, .ref b), (1, .ref ax), (2, .ref (am 0)), (3, .ref ao), (4, .int (nI ii))] [] 1035 := by
  refine z_aload_n B dL_law_1035 1 rfl ?_
  refine z_aload_n B dL_law_1036 0 rfl ?_
  refine z_iload B dL_law_1037 4 rfl ?_
  refine z_iconst B (v := 1) dL_law_1039 rfl ?_
  refine z_iadd B dL_law_1040 ?_
  refine z_sld B hX hbl hbA hi1 hv1 dL_law_1041 ?_
  refine z_aload_n B dL_law_1042 3 rfl ?_
  refine z_H1 B (kL_entries_m l hl K ax zn sa la tr tc X f x1 ao g hfn) [0, 1, 2] [3, 4] (br := [zMo K am I R, rs]) (bs' := [zXo ax zn sa la tr tc X, zSa K sa f, zOu K ao g, zMo K am I R, rs]) (st := []) (nA := 3) (zsp rfl rfl rfl) (zsp rfl rfl rfl) gL_law_L_entries rfl (by decide +kernel) ⟨Nat.le_of_ble_eq_true rfl, Nat.le_of_ble_eq_true rfl⟩ rfl rfl (Nat.le_of_ble_eq_true rfl) ⟨(show k9 + 1 ≤ 601024 by omega), (show n9 + 6 ≤ 7293034 by omega)⟩ dL_law_1043 z_noX (fun _ => ?_)
  refine z_istore B (lv' := [(5, .int (fL_entries_m x1 g)), (0, .ref b), (1, .ref ax), (2, .ref (am 0)), (3, .ref ao), (4, .int (nI ii))]) dL_law_1046 (by decide) rfl ?_
  refine z_aload_n B dL_law_1048 3 rfl ?_
  refine z_aload_n B dL_law_1049 1 rfl ?_
  refine z_iload B dL_law_1050 5 rfl ?_
  refine z_iconst B (v := 1) dL_law_1052 rfl ?_
  refine z_iadd B dL_law_1053 ?_
  refine z_sld B hX hbl hbA hi1 hv1 dL_law_1054 ?_
  refine z_V1 B (kX5_entries l hl K am I R x1 h5 h6) [3] [0, 1, 2, 4] (br := [zXo ax zn sa la tr tc X, zSa K sa f, zOu K ao g, rs]) (bs' := [zXo ax zn sa la tr tc X, zSa K sa f, zOu K ao g, zMo K am ((fX5_entries I R x1).2) R, rs]) (st := []) (nA := 1) (zsp rfl rfl rfl) (zsp rfl rfl rfl) 3 0 rfl rfl rfl rfl gL_law_X5_entries rfl (by decide +kernel) ⟨Nat.le_of_ble_eq_true rfl, Nat.le_of_ble_eq_true rfl⟩ rfl rfl (Nat.le_of_ble_eq_true rfl) ⟨(show k9 + 1 + 0 ≤ 601024 by omega), (show n9 + 6 + 0 ≤ 7293034 by omega)⟩ dL_law_1055 z_noX (fun _ => ?_)
  refine z_istore B (lv' := [(6, .int ((fX5_entries I R x1).1)), (5, .int (fL_entries_m x1 g)), (0, .ref b), (1, .ref ax), (2, .ref (am 0)), (3, .ref ao), (4, .int (nI ii))]) dL_law_1058 (by decide) rfl ?_
  refine z_aload_n B dL_law_1060 4 rfl ?_
  refine z_V1 B (kX5_thrown l hl K am ((fX5_entries I R x1).2) R) [3] [0, 1, 2, 4] (br := [zXo ax zn sa la tr tc X, zSa K sa f, zOu K ao g, rs]) (bs' := [zXo ax zn sa la tr tc X, zSa K sa f, zOu K ao g, zMo K am ((fX5_entries I R x1).2) R, rs]) (st := []) (nA := 0) (zsp rfl rfl rfl) (zsp rfl rfl rfl) 3 0 rfl rfl rfl rfl gL_law_X5_thrown rfl (by decide +kernel) ⟨Nat.le_of_ble_eq_true rfl, Nat.le_of_ble_eq_true rfl⟩ rfl rfl (Nat.le_of_ble_eq_true rfl) ⟨(show k9 + 1 + 0 + 0 ≤ 601024 by omega), (show n9 + 6 + 0 + 0 ≤ 7293034 by omega)⟩ dL_law_1061 z_noX (fun _ => ?_)
  refine z_iload B dL_law_1064 1 rfl ?_
  refine z_iceq B 1071 dL_law_1066 (by decide) (fun _ => ?_) (fun h => absurd hr.1 h)
  refine z_iload B dL_law_1071 1 rfl ?_
  refine z_ifne B 1088 dL_law_1073 (by decide) (fun c1 => ?_) (fun c1 => ?_)
  · refine z_aload_n B dL_law_1076 5 rfl ?_
    refine z_iconst B (v := 0) dL_law_1077 rfl ?_
    refine z_lald B (N := 1) (f := g) 2 0 rfl rfl (z_vpc (k := 0) rfl (by decide)) dL_law_1078 ?_
    refine z_iload B dL_law_1079 0 rfl ?_
    refine z_i2l B dL_law_1081 ?_
    refine z_lcmp B dL_law_1082 ?_
    refine z_ifeq B 1088 dL_law_1083 (by decide) (fun _ => ?_) (fun h => absurd (z_cz (hr.2 c1)) h)
    refine z_goto B (tgt := 1428) dL_law_1088 (by decide) ?_
    refine z_lsub [2, 3, 4, 5, 6] rfl ?_
    refine z_widen (k' := k9 + 16) (n' := n9 + 512) (show k9 + 1 + 0 + 0 ≤ _ by omega) (show n9 + 6 + 0 + 0 ≤ _ by omega) ?_
    exact kk
  · refine z_goto B (tgt := 1428) dL_law_1088 (by decide) ?_
    refine z_lsub [2, 3, 4, 5, 6] rfl ?_
    refine z_widen (k' := k9 + 16) (n' := n9 + 512) (show k9 + 1 + 0 + 0 ≤ _ by omega) (show n9 + 6 + 0 + 0 ≤ _ by omega) ?_
    exact kk
set_option maxHeartbeats 4000000 in
set_option maxRecDepth 100000 in
theorem aL_siteFor_h (l : Launch) (hl : l.stackTraces = false) (K : zK) (ax : Nat) (zn : Nat) (sa : Nat) (la : Nat) (tr : Nat) (tc : Nat) (X : Nat → Int32) (f : Nat → Option Nat) (n : Nat) (so : Nat → Nat) (sc : Nat → Nat → Nat) (D : Nat → Nat → Int32) (i : Nat) (x1 : Int32) (ao : Nat) (g : Nat → Int64) (am : Nat → Nat) (I : Nat → Int32) (R : Nat → Nat → Int32) (hf1 : ∀ a, a < n → f a = some (so a)) (hf2 : ∀ a, n ≤ a → a < 4 → f a = none) (hi : i < n) (hN : fX4_near n D x1 = some i) (h5 : ¬ (I 5) < 0) (h6 : (I 5).toNatClampNeg ≤ 4) (rs : va_W) (hr : rE ((fL_siteFor_h D i x1 g).1) ((fL_siteFor_h D i x1 g).2) ((fX5_siteFor I R x1).2) ((fX5_siteFor I R x1).1)) {p : Program} {e : Env} {s : State} {m : MethodId} {below : List Frame} {meth : Method} {c : Code} {A : Nat → Prop} {Q : State → Prop} {ret9 : Option FieldType} {nm9 : String} {tb9 : List ExceptionTableEntry} {args : Array Value} {b L ii k9 n9 : Nat} {xs : Nat → Int32} (B : zF K p l s m args meth c A cL_law 7 RL nm9 wsL_law ret9 tb9) (hX : va_X b L xs s s.heap) (hbl : b < s.heap.size) (hbA : ¬ A b) (hi1 : vp_in (nI ii + 1) L) (hv1 : xs (nI ii + 1).toNatClampNeg = x1) (hk9 : k9 + 16 ≤ 601024) (hn9 : n9 + 512 ≤ 7293034)
    (kk : zW K p l e zR s m args below meth c A Q (k9 + 16) (n9 + 512) [zXo ax zn sa la tr tc X, zSa K sa f, zSO n so sc D, zOu K ao ((fL_siteFor_h D i x1 g).2), zMo K am ((fX5_siteFor I R x1).2) R, rs] [(0, .ref b), (1, .ref ax), (2, .ref (am 0)), (3, .ref ao), (4, .int (nI ii))] [] 1428) : zW K p l e zR s m args below meth c A Q k9 n9 [zXo ax zn sa la tr tc X, zSa K sa f, zSO n so sc D, zOu K ao g, zMo K am I R, rs] [(0, .ref b), (1, .ref ax), (2, .ref (am 0)), (3, .ref ao), (4, .int (nI ii))] [] 647 := by
  refine z_aload_n B dL_law_647 1 rfl ?_
  refine z_aload_n B dL_law_648 0 rfl ?_
  refine z_iload B dL_law_649 4 rfl ?_
  refine z_iconst B (v := 1) dL_law_651 rfl ?_
  refine z_iadd B dL_law_652 ?_
  refine z_sld B hX hbl hbA hi1 hv1 dL_law_653 ?_
  refine z_aload_n B dL_law_654 3 rfl ?_
  refine z_H1 B (kL_siteFor_h l hl K ax zn sa la tr tc X f n so sc D i x1 ao g hf1 hf2 hi hN) [0, 1, 2, 3] [4, 5] (br := [zMo K am I R, rs]) (bs' := [zXo ax zn sa la tr tc X, zSa K sa f, zSO n so sc D, zOu K ao ((fL_siteFor_h D i x1 g).2), zMo K am I R, rs]) (st := []) (nA := 3) (zsp rfl rfl rfl) (zsp rfl rfl rfl) gL_law_L_siteFor rfl (by decide +kernel) ⟨Nat.le_of_ble_eq_true rfl, Nat.le_of_ble_eq_true rfl⟩ rfl rfl (Nat.le_of_ble_eq_true rfl) ⟨(show k9 + 1 ≤ 601024 by omega), (show n9 + 6 ≤ 7293034 by omega)⟩ dL_law_655 z_noX (fun _ => ?_)
  refine z_istore B (lv' := [(5, .int ((fL_siteFor_h D i x1 g).1)), (0, .ref b), (1, .ref ax), (2, .ref (am 0)), (3, .ref ao), (4, .int (nI ii))]) dL_law_658 (by decide) rfl ?_
  refine z_aload_n B dL_law_660 3 rfl ?_
  refine z_aload_n B dL_law_661 1 rfl ?_
  refine z_iload B dL_law_662 5 rfl ?_
  refine z_iconst B (v := 1) dL_law_664 rfl ?_
  refine z_iadd B dL_law_665 ?_
  refine z_sld B hX hbl hbA hi1 hv1 dL_law_666 ?_
  refine z_V1 B (kX5_siteFor l hl K am I R x1 h5 h6) [4] [0, 1, 2, 3, 5] (br := [zXo ax zn sa la tr tc X, zSa K sa f, zSO n so sc D, zOu K ao ((fL_siteFor_h D i x1 g).2), rs]) (bs' := [zXo ax zn sa la tr tc X, zSa K sa f, zSO n so sc D, zOu K ao ((fL_siteFor_h D i x1 g).2), zMo K am ((fX5_siteFor I R x1).2) R, rs]) (st := []) (nA := 1) (zsp rfl rfl rfl) (zsp rfl rfl rfl) 4 0 rfl rfl rfl rfl gL_law_X5_siteFor rfl (by decide +kernel) ⟨Nat.le_of_ble_eq_true rfl, Nat.le_of_ble_eq_true rfl⟩ rfl rfl (Nat.le_of_ble_eq_true rfl) ⟨(show k9 + 1 + 0 ≤ 601024 by omega), (show n9 + 6 + 0 ≤ 7293034 by omega)⟩ dL_law_667 z_noX (fun _ => ?_)
  refine z_istore B (lv' := [(6, .int ((fX5_siteFor I R x1).1)), (5, .int ((fL_siteFor_h D i x1 g).1)), (0, .ref b), (1, .ref ax), (2, .ref (am 0)), (3, .ref ao), (4, .int (nI ii))]) dL_law_670 (by decide) rfl ?_
  refine z_aload_n B dL_law_672 4 rfl ?_
  refine z_V1 B (kX5_thrown l hl K am ((fX5_siteFor I R x1).2) R) [4] [0, 1, 2, 3, 5] (br := [zXo ax zn sa la tr tc X, zSa K sa f, zSO n so sc D, zOu K ao ((fL_siteFor_h D i x1 g).2), rs]) (bs' := [zXo ax zn sa la tr tc X, zSa K sa f, zSO n so sc D, zOu K ao ((fL_siteFor_h D i x1 g).2), zMo K am ((fX5_siteFor I R x1).2) R, rs]) (st := []) (nA := 0) (zsp rfl rfl rfl) (zsp rfl rfl rfl) 4 0 rfl rfl rfl rfl gL_law_X5_thrown rfl (by decide +kernel) ⟨Nat.le_of_ble_eq_true rfl, Nat.le_of_ble_eq_true rfl⟩ rfl rfl (Nat.le_of_ble_eq_true rfl) ⟨(show k9 + 1 + 0 + 0 ≤ 601024 by omega), (show n9 + 6 + 0 + 0 ≤ 7293034 by omega)⟩ dL_law_673 z_noX (fun _ => ?_)
  refine z_iload B dL_law_676 1 rfl ?_
  refine z_iceq B 683 dL_law_678 (by decide) (fun _ => ?_) (fun h => absurd hr.1 h)
  refine z_iload B dL_law_683 1 rfl ?_
  refine z_ifne B 700 dL_law_685 (by decide) (fun c1 => ?_) (fun c1 => ?_)
  · refine z_aload_n B dL_law_688 5 rfl ?_
    refine z_iconst B (v := 0) dL_law_689 rfl ?_
    refine z_lald B (N := 1) (f := ((fL_siteFor_h D i x1 g).2)) 3 0 rfl rfl (z_vpc (k := 0) rfl (by decide)) dL_law_690 ?_
    refine z_iload B dL_law_691 0 rfl ?_
    refine z_i2l B dL_law_693 ?_
    refine z_lcmp B dL_law_694 ?_
    refine z_ifeq B 700 dL_law_695 (by decide) (fun _ => ?_) (fun h => absurd (z_cz (hr.2 c1)) h)
    refine z_goto B (tgt := 1428) dL_law_700 (by decide) ?_
    refine z_lsub [2, 3, 4, 5, 6] rfl ?_
    refine z_widen (k' := k9 + 16) (n' := n9 + 512) (show k9 + 1 + 0 + 0 ≤ _ by omega) (show n9 + 6 + 0 + 0 ≤ _ by omega) ?_
    exact kk
  · refine z_goto B (tgt := 1428) dL_law_700 (by decide) ?_
    refine z_lsub [2, 3, 4, 5, 6] rfl ?_
    refine z_widen (k' := k9 + 16) (n' := n9 + 512) (show k9 + 1 + 0 + 0 ≤ _ by omega) (show n9 + 6 + 0 + 0 ≤ _ by omega) ?_
    exact kk
set_option maxHeartbeats 4000000 in
set_option maxRecDepth 100000 in
theorem aL_query_h (l : Launch) (hl : l.stackTraces = false) (K : zK) (ax : Nat) (az : Nat → Nat) (sa : Nat) (ak : Nat → Nat) (tr : Nat) (tc : Nat) (X : Nat → Int32) (f : Nat → Option Nat) (n : Nat) (so : Nat → Nat) (sc : Nat → Nat → Nat) (D : Nat → Nat → Int32) (i : Nat) (C : Nat → Nat → Int32) (Z : Nat → Nat → Int32) (W : Nat → Int32) (F : Nat → Int32) (O : Nat → Int32) (x1 : Int32) (x2 : Int32) (ao : Nat) (g : Nat → Int64) (am : Nat → Nat) (I : Nat → Int32) (R : Nat → Nat → Int32) (hf1 : ∀ a, a < n → f a = some (so a)) (hf2 : ∀ a, n ≤ a → a < 4 → f a = none) (hi : i < n) (hN : fX4_near n D x1 = some i) (h5 : ¬ (I 5) < 0) (h6 : (I 5).toNatClampNeg ≤ 4) (hZ : zwZ R) (hC : zwC R) (rs : va_W) (hr : rE ((fL_query_h X D i C Z W F O x1 x2 g).1) ((fL_query_h X D i C Z W F O x1 x2 g).2.2.2.2.2) ((fX5_query I R x1 x2).2.1) ((fX5_query I R x1 x2).1)) {p : Program} {e : Env} {s : State} {m : MethodId} {below : List Frame} {meth : Method} {c : Code} {A : Nat → Prop} {Q : State → Prop} {ret9 : Option FieldType} {nm9 : String} {tb9 : List ExceptionTableEntry} {args : Array Value} {b L ii k9 n9 : Nat} {xs : Nat → Int32} (B : zF K p l s m args meth c A cL_law 7 RL nm9 wsL_law ret9 tb9) (hX : va_X b L xs s s.heap) (hbl : b < s.heap.size) (hbA : ¬ A b) (hi1 : vp_in (nI ii + 1) L) (hv1 : xs (nI ii + 1).toNatClampNeg = x1) (hi2 : vp_in (nI ii + 2) L) (hv2 : xs (nI ii + 2).toNatClampNeg = x2) (hk9 : k9 + 16 ≤ 601024) (hn9 : n9 + 512 ≤ 7293034)
    (kk : zW K p l e zR s m args below meth c A Q (k9 + 16) (n9 + 512) [zXo ax (az 0) sa (ak 0) tr tc ((fL_query_h X D i C Z W F O x1 x2 g).2.1), zSa K sa f, zSO n so sc D, zCa K (sc i) ((fL_query_h X D i C Z W F O x1 x2 g).2.2.1), zZo K az Z W, zCo K ak ((fL_query_h X D i C Z W F O x1 x2 g).2.2.2.1) ((fL_query_h X D i C Z W F O x1 x2 g).2.2.2.2.1), zOu K ao ((fL_query_h X D i C Z W F O x1 x2 g).2.2.2.2.2), zMo K am ((fX5_query I R x1 x2).2.1) ((fX5_query I R x1 x2).2.2), rs] [(0, .ref b), (1, .ref ax), (2, .ref (am 0)), (3, .ref ao), (4, .int (nI ii))] [] 1428) : zW K p l e zR s m args below meth c A Q k9 n9 [zXo ax (az 0) sa (ak 0) tr tc X, zSa K sa f, zSO n so sc D, zCa K (sc i) C, zZo K az Z W, zCo K ak F O, zOu K ao g, zMo K am I R, rs] [(0, .ref b), (1, .ref ax), (2, .ref (am 0)), (3, .ref ao), (4, .int (nI ii))] [] 847 := by
  refine z_aload_n B dL_law_847 1 rfl ?_
  refine z_aload_n B dL_law_848 0 rfl ?_
  refine z_iload B dL_law_849 4 rfl ?_
  refine z_iconst B (v := 1) dL_law_851 rfl ?_
  refine z_iadd B dL_law_852 ?_
  refine z_sld B hX hbl hbA hi1 hv1 dL_law_853 ?_
  refine z_aload_n B dL_law_854 0 rfl ?_
  refine z_iload B dL_law_855 4 rfl ?_
  refine z_iconst B (v := 2) dL_law_857 rfl ?_
  refine z_iadd B dL_law_858 ?_
  refine z_sld B hX hbl hbA hi2 hv2 dL_law_859 ?_
  refine z_aload_n B dL_law_860 3 rfl ?_
  refine z_H1 B (kL_query_h l hl K ax az sa ak tr tc X f n so sc D i C Z W F O x1 x2 ao g hf1 hf2 hi hN) [0, 1, 2, 3, 4, 5, 6] [7, 8] (br := [zMo K am I R, rs]) (bs' := [zXo ax (az 0) sa (ak 0) tr tc ((fL_query_h X D i C Z W F O x1 x2 g).2.1), zSa K sa f, zSO n so sc D, zCa K (sc i) ((fL_query_h X D i C Z W F O x1 x2 g).2.2.1), zZo K az Z W, zCo K ak ((fL_query_h X D i C Z W F O x1 x2 g).2.2.2.1) ((fL_query_h X D i C Z W F O x1 x2 g).2.2.2.2.1), zOu K ao ((fL_query_h X D i C Z W F O x1 x2 g).2.2.2.2.2), zMo K am I R, rs]) (st := []) (nA := 4) (zsp rfl rfl rfl) (zsp rfl rfl rfl) gL_law_L_query rfl (by decide +kernel) ⟨Nat.le_of_ble_eq_true rfl, Nat.le_of_ble_eq_true rfl⟩ rfl rfl (Nat.le_of_ble_eq_true rfl) ⟨(show k9 + 2 ≤ 601024 by omega), (show n9 + 12 ≤ 7293034 by omega)⟩ dL_law_861 z_noX (fun _ => ?_)
  refine z_istore B (lv' := [(5, .int ((fL_query_h X D i C Z W F O x1 x2 g).1)), (0, .ref b), (1, .ref ax), (2, .ref (am 0)), (3, .ref ao), (4, .int (nI ii))]) dL_law_864 (by decide) rfl ?_
  refine z_aload_n B dL_law_866 3 rfl ?_
  refine z_aload_n B dL_law_867 1 rfl ?_
  refine z_iload B dL_law_868 5 rfl ?_
  refine z_iconst B (v := 1) dL_law_870 rfl ?_
  refine z_iadd B dL_law_871 ?_
  refine z_sld B hX hbl hbA hi1 hv1 dL_law_872 ?_
  refine z_aload_n B dL_law_873 1 rfl ?_
  refine z_iload B dL_law_874 5 rfl ?_
  refine z_iconst B (v := 2) dL_law_876 rfl ?_
  refine z_iadd B dL_law_877 ?_
  refine z_sld B hX hbl hbA hi2 hv2 dL_law_878 ?_
  refine z_V1 B (kX5_query l hl K am I R x1 x2 h5 h6 hZ hC) [7] [0, 1, 2, 3, 4, 5, 6, 8] (br := [zXo ax (az 0) sa (ak 0) tr tc ((fL_query_h X D i C Z W F O x1 x2 g).2.1), zSa K sa f, zSO n so sc D, zCa K (sc i) ((fL_query_h X D i C Z W F O x1 x2 g).2.2.1), zZo K az Z W, zCo K ak ((fL_query_h X D i C Z W F O x1 x2 g).2.2.2.1) ((fL_query_h X D i C Z W F O x1 x2 g).2.2.2.2.1), zOu K ao ((fL_query_h X D i C Z W F O x1 x2 g).2.2.2.2.2), rs]) (bs' := [zXo ax (az 0) sa (ak 0) tr tc ((fL_query_h X D i C Z W F O x1 x2 g).2.1), zSa K sa f, zSO n so sc D, zCa K (sc i) ((fL_query_h X D i C Z W F O x1 x2 g).2.2.1), zZo K az Z W, zCo K ak ((fL_query_h X D i C Z W F O x1 x2 g).2.2.2.1) ((fL_query_h X D i C Z W F O x1 x2 g).2.2.2.2.1), zOu K ao ((fL_query_h X D i C Z W F O x1 x2 g).2.2.2.2.2), zMo K am ((fX5_query I R x1 x2).2.1) ((fX5_query I R x1 x2).2.2), rs]) (st := []) (nA := 2) (zsp rfl rfl rfl) (zsp rfl rfl rfl) 7 0 rfl rfl rfl rfl gL_law_X5_query rfl (by decide +kernel) ⟨Nat.le_of_ble_eq_true rfl, Nat.le_of_ble_eq_true rfl⟩ rfl rfl (Nat.le_of_ble_eq_true rfl) ⟨(show k9 + 2 + 0 ≤ 601024 by omega), (show n9 + 12 + 0 ≤ 7293034 by omega)⟩ dL_law_879 z_noX (fun _ => ?_)
  refine z_istore B (lv' := [(6, .int ((fX5_query I R x1 x2).1)), (5, .int ((fL_query_h X D i C Z W F O x1 x2 g).1)), (0, .ref b), (1, .ref ax), (2, .ref (am 0)), (3, .ref ao), (4, .int (nI ii))]) dL_law_882 (by decide) rfl ?_
  refine z_aload_n B dL_law_884 4 rfl ?_
  refine z_V1 B (kX5_thrown l hl K am ((fX5_query I R x1 x2).2.1) ((fX5_query I R x1 x2).2.2)) [7] [0, 1, 2, 3, 4, 5, 6, 8] (br := [zXo ax (az 0) sa (ak 0) tr tc ((fL_query_h X D i C Z W F O x1 x2 g).2.1), zSa K sa f, zSO n so sc D, zCa K (sc i) ((fL_query_h X D i C Z W F O x1 x2 g).2.2.1), zZo K az Z W, zCo K ak ((fL_query_h X D i C Z W F O x1 x2 g).2.2.2.1) ((fL_query_h X D i C Z W F O x1 x2 g).2.2.2.2.1), zOu K ao ((fL_query_h X D i C Z W F O x1 x2 g).2.2.2.2.2), rs]) (bs' := [zXo ax (az 0) sa (ak 0) tr tc ((fL_query_h X D i C Z W F O x1 x2 g).2.1), zSa K sa f, zSO n so sc D, zCa K (sc i) ((fL_query_h X D i C Z W F O x1 x2 g).2.2.1), zZo K az Z W, zCo K ak ((fL_query_h X D i C Z W F O x1 x2 g).2.2.2.1) ((fL_query_h X D i C Z W F O x1 x2 g).2.2.2.2.1), zOu K ao ((fL_query_h X D i C Z W F O x1 x2 g).2.2.2.2.2), zMo K am ((fX5_query I R x1 x2).2.1) ((fX5_query I R x1 x2).2.2), rs]) (st := []) (nA := 0) (zsp rfl rfl rfl) (zsp rfl rfl rfl) 7 0 rfl rfl rfl rfl gL_law_X5_thrown rfl (by decide +kernel) ⟨Nat.le_of_ble_eq_true rfl, Nat.le_of_ble_eq_true rfl⟩ rfl rfl (Nat.le_of_ble_eq_true rfl) ⟨(show k9 + 2 + 0 + 0 ≤ 601024 by omega), (show n9 + 12 + 0 + 0 ≤ 7293034 by omega)⟩ dL_law_885 z_noX (fun _ => ?_)
  refine z_iload B dL_law_888 1 rfl ?_
  refine z_iceq B 895 dL_law_890 (by decide) (fun _ => ?_) (fun h => absurd hr.1 h)
  refine z_iload B dL_law_895 1 rfl ?_
  refine z_ifne B 912 dL_law_897 (by decide) (fun c1 => ?_) (fun c1 => ?_)
  · refine z_aload_n B dL_law_900 5 rfl ?_
    refine z_iconst B (v := 0) dL_law_901 rfl ?_
    refine z_lald B (N := 1) (f := ((fL_query_h X D i C Z W F O x1 x2 g).2.2.2.2.2)) 6 0 rfl rfl (z_vpc (k := 0) rfl (by decide)) dL_law_902 ?_
    refine z_iload B dL_law_903 0 rfl ?_
    refine z_i2l B dL_law_905 ?_
    refine z_lcmp B dL_law_906 ?_
    refine z_ifeq B 912 dL_law_907 (by decide) (fun _ => ?_) (fun h => absurd (z_cz (hr.2 c1)) h)
    refine z_goto B (tgt := 1428) dL_law_912 (by decide) ?_
    refine z_lsub [2, 3, 4, 5, 6] rfl ?_
    refine z_widen (k' := k9 + 16) (n' := n9 + 512) (show k9 + 2 + 0 + 0 ≤ _ by omega) (show n9 + 12 + 0 + 0 ≤ _ by omega) ?_
    exact kk
  · refine z_goto B (tgt := 1428) dL_law_912 (by decide) ?_
    refine z_lsub [2, 3, 4, 5, 6] rfl ?_
    refine z_widen (k' := k9 + 16) (n' := n9 + 512) (show k9 + 2 + 0 + 0 ≤ _ by omega) (show n9 + 12 + 0 + 0 ≤ _ by omega) ?_
    exact kk
set_option maxHeartbeats 4000000 in
set_option maxRecDepth 100000 in
theorem aL_wouldAnswer_h (l : Launch) (hl : l.stackTraces = false) (K : zK) (ax : Nat) (az : Nat → Nat) (sa : Nat) (la : Nat) (ak : Nat → Nat) (ad : Nat → Nat) (X : Nat → Int32) (f : Nat → Option Nat) (n : Nat) (so : Nat → Nat) (sc : Nat → Nat → Nat) (D : Nat → Nat → Int32) (i : Nat) (C : Nat → Nat → Int32) (Z : Nat → Nat → Int32) (W : Nat → Int32) (F : Nat → Int32) (O : Nat → Int32) (Tc : Nat → Nat → Int32) (x1 : Int32) (x2 : Int32) (ao : Nat) (g : Nat → Int64) (am : Nat → Nat) (I : Nat → Int32) (R : Nat → Nat → Int32) (hf1 : ∀ a, a < n → f a = some (so a)) (hf2 : ∀ a, n ≤ a → a < 4 → f a = none) (hi : i < n) (hN : fX4_near n D x1 = some i) (h5 : ¬ (I 5) < 0) (h6 : (I 5).toNatClampNeg ≤ 4) (hZ : zwZ R) (hC : zwC R) (h16 : (I 16) = 0 ∨ (I 16) = 1) (rs : va_W) (hr : rE ((fL_wouldAnswer_h X D i C Z W F O Tc x1 x2 g).1) ((fL_wouldAnswer_h X D i C Z W F O Tc x1 x2 g).2.2.2.2) ((fX5_wouldAnswer I R x1 x2).2.1) ((fX5_wouldAnswer I R x1 x2).1)) {p : Program} {e : Env} {s : State} {m : MethodId} {below : List Frame} {meth : Method} {c : Code} {A : Nat → Prop} {Q : State → Prop} {ret9 : Option FieldType} {nm9 : String} {tb9 : List ExceptionTableEntry} {args : Array Value} {b L ii k9 n9 : Nat} {xs : Nat → Int32} (B : zF K p l s m args meth c A cL_law 7 RL nm9 wsL_law ret9 tb9) (hX : va_X b L xs s s.heap) (hbl : b < s.heap.size) (hbA : ¬ A b) (hi1 : vp_in (nI ii + 1) L) (hv1 : xs (nI ii + 1).toNatClampNeg = x1) (hi2 : vp_in (nI ii + 2) L) (hv2 : xs (nI ii + 2).toNatClampNeg = x2) (hk9 : k9 + 16 ≤ 601024) (hn9 : n9 + 512 ≤ 7293034)
    (kk : zW K p l e zR s m args below meth c A Q (k9 + 16) (n9 + 512) [zXo ax (az 0) sa la (ak 0) (ad 0) X, zSa K sa f, zSO n so sc D, zCa K (sc i) C, zZo K az Z W, zCo K ak ((fL_wouldAnswer_h X D i C Z W F O Tc x1 x2 g).2.1) ((fL_wouldAnswer_h X D i C Z W F O Tc x1 x2 g).2.2.1), zCa K ad ((fL_wouldAnswer_h X D i C Z W F O Tc x1 x2 g).2.2.2.1), zOu K ao ((fL_wouldAnswer_h X D i C Z W F O Tc x1 x2 g).2.2.2.2), zMo K am ((fX5_wouldAnswer I R x1 x2).2.1) ((fX5_wouldAnswer I R x1 x2).2.2), rs] [(0, .ref b), (1, .ref ax), (2, .ref (am 0)), (3, .ref ao), (4, .int (nI ii))] [] 1428) : zW K p l e zR s m args below meth c A Q k9 n9 [zXo ax (az 0) sa la (ak 0) (ad 0) X, zSa K sa f, zSO n so sc D, zCa K (sc i) C, zZo K az Z W, zCo K ak F O, zCa K ad Tc, zOu K ao g, zMo K am I R, rs] [(0, .ref b), (1, .ref ax), (2, .ref (am 0)), (3, .ref ao), (4, .int (nI ii))] [] 915 := by
  refine z_aload_n B dL_law_915 1 rfl ?_
  refine z_aload_n B dL_law_916 0 rfl ?_
  refine z_iload B dL_law_917 4 rfl ?_
  refine z_iconst B (v := 1) dL_law_919 rfl ?_
  refine z_iadd B dL_law_920 ?_
  refine z_sld B hX hbl hbA hi1 hv1 dL_law_921 ?_
  refine z_aload_n B dL_law_922 0 rfl ?_
  refine z_iload B dL_law_923 4 rfl ?_
  refine z_iconst B (v := 2) dL_law_925 rfl ?_
  refine z_iadd B dL_law_926 ?_
  refine z_sld B hX hbl hbA hi2 hv2 dL_law_927 ?_
  refine z_aload_n B dL_law_928 3 rfl ?_
  refine z_H1 B (kL_wouldAnswer_h l hl K ax az sa la ak ad X f n so sc D i C Z W F O Tc x1 x2 ao g hf1 hf2 hi hN) [0, 1, 2, 3, 4, 5, 6, 7] [8, 9] (br := [zMo K am I R, rs]) (bs' := [zXo ax (az 0) sa la (ak 0) (ad 0) X, zSa K sa f, zSO n so sc D, zCa K (sc i) C, zZo K az Z W, zCo K ak ((fL_wouldAnswer_h X D i C Z W F O Tc x1 x2 g).2.1) ((fL_wouldAnswer_h X D i C Z W F O Tc x1 x2 g).2.2.1), zCa K ad ((fL_wouldAnswer_h X D i C Z W F O Tc x1 x2 g).2.2.2.1), zOu K ao ((fL_wouldAnswer_h X D i C Z W F O Tc x1 x2 g).2.2.2.2), zMo K am I R, rs]) (st := []) (nA := 4) (zsp rfl rfl rfl) (zsp rfl rfl rfl) gL_law_L_wouldAnswer rfl (by decide +kernel) ⟨Nat.le_of_ble_eq_true rfl, Nat.le_of_ble_eq_true rfl⟩ rfl rfl (Nat.le_of_ble_eq_true rfl) ⟨(show k9 + 2 ≤ 601024 by omega), (show n9 + 12 ≤ 7293034 by omega)⟩ dL_law_929 z_noX (fun _ => ?_)
  refine z_istore B (lv' := [(5, .int ((fL_wouldAnswer_h X D i C Z W F O Tc x1 x2 g).1)), (0, .ref b), (1, .ref ax), (2, .ref (am 0)), (3, .ref ao), (4, .int (nI ii))]) dL_law_932 (by decide) rfl ?_
  refine z_aload_n B dL_law_934 3 rfl ?_
  refine z_aload_n B dL_law_935 1 rfl ?_
  refine z_iload B dL_law_936 5 rfl ?_
  refine z_iconst B (v := 1) dL_law_938 rfl ?_
  refine z_iadd B dL_law_939 ?_
  refine z_sld B hX hbl hbA hi1 hv1 dL_law_940 ?_
  refine z_aload_n B dL_law_941 1 rfl ?_
  refine z_iload B dL_law_942 5 rfl ?_
  refine z_iconst B (v := 2) dL_law_944 rfl ?_
  refine z_iadd B dL_law_945 ?_
  refine z_sld B hX hbl hbA hi2 hv2 dL_law_946 ?_
  refine z_V1 B (kX5_wouldAnswer l hl K am I R x1 x2 h5 h6 hZ hC h16) [8] [0, 1, 2, 3, 4, 5, 6, 7, 9] (br := [zXo ax (az 0) sa la (ak 0) (ad 0) X, zSa K sa f, zSO n so sc D, zCa K (sc i) C, zZo K az Z W, zCo K ak ((fL_wouldAnswer_h X D i C Z W F O Tc x1 x2 g).2.1) ((fL_wouldAnswer_h X D i C Z W F O Tc x1 x2 g).2.2.1), zCa K ad ((fL_wouldAnswer_h X D i C Z W F O Tc x1 x2 g).2.2.2.1), zOu K ao ((fL_wouldAnswer_h X D i C Z W F O Tc x1 x2 g).2.2.2.2), rs]) (bs' := [zXo ax (az 0) sa la (ak 0) (ad 0) X, zSa K sa f, zSO n so sc D, zCa K (sc i) C, zZo K az Z W, zCo K ak ((fL_wouldAnswer_h X D i C Z W F O Tc x1 x2 g).2.1) ((fL_wouldAnswer_h X D i C Z W F O Tc x1 x2 g).2.2.1), zCa K ad ((fL_wouldAnswer_h X D i C Z W F O Tc x1 x2 g).2.2.2.1), zOu K ao ((fL_wouldAnswer_h X D i C Z W F O Tc x1 x2 g).2.2.2.2), zMo K am ((fX5_wouldAnswer I R x1 x2).2.1) ((fX5_wouldAnswer I R x1 x2).2.2), rs]) (st := []) (nA := 2) (zsp rfl rfl rfl) (zsp rfl rfl rfl) 8 0 rfl rfl rfl rfl gL_law_X5_wouldAnswer rfl (by decide +kernel) ⟨Nat.le_of_ble_eq_true rfl, Nat.le_of_ble_eq_true rfl⟩ rfl rfl (Nat.le_of_ble_eq_true rfl) ⟨(show k9 + 2 + 0 ≤ 601024 by omega), (show n9 + 12 + 0 ≤ 7293034 by omega)⟩ dL_law_947 z_noX (fun _ => ?_)
  refine z_istore B (lv' := [(6, .int ((fX5_wouldAnswer I R x1 x2).1)), (5, .int ((fL_wouldAnswer_h X D i C Z W F O Tc x1 x2 g).1)), (0, .ref b), (1, .ref ax), (2, .ref (am 0)), (3, .ref ao), (4, .int (nI ii))]) dL_law_950 (by decide) rfl ?_
  refine z_aload_n B dL_law_952 4 rfl ?_
  refine z_V1 B (kX5_thrown l hl K am ((fX5_wouldAnswer I R x1 x2).2.1) ((fX5_wouldAnswer I R x1 x2).2.2)) [8] [0, 1, 2, 3, 4, 5, 6, 7, 9] (br := [zXo ax (az 0) sa la (ak 0) (ad 0) X, zSa K sa f, zSO n so sc D, zCa K (sc i) C, zZo K az Z W, zCo K ak ((fL_wouldAnswer_h X D i C Z W F O Tc x1 x2 g).2.1) ((fL_wouldAnswer_h X D i C Z W F O Tc x1 x2 g).2.2.1), zCa K ad ((fL_wouldAnswer_h X D i C Z W F O Tc x1 x2 g).2.2.2.1), zOu K ao ((fL_wouldAnswer_h X D i C Z W F O Tc x1 x2 g).2.2.2.2), rs]) (bs' := [zXo ax (az 0) sa la (ak 0) (ad 0) X, zSa K sa f, zSO n so sc D, zCa K (sc i) C, zZo K az Z W, zCo K ak ((fL_wouldAnswer_h X D i C Z W F O Tc x1 x2 g).2.1) ((fL_wouldAnswer_h X D i C Z W F O Tc x1 x2 g).2.2.1), zCa K ad ((fL_wouldAnswer_h X D i C Z W F O Tc x1 x2 g).2.2.2.1), zOu K ao ((fL_wouldAnswer_h X D i C Z W F O Tc x1 x2 g).2.2.2.2), zMo K am ((fX5_wouldAnswer I R x1 x2).2.1) ((fX5_wouldAnswer I R x1 x2).2.2), rs]) (st := []) (nA := 0) (zsp rfl rfl rfl) (zsp rfl rfl rfl) 8 0 rfl rfl rfl rfl gL_law_X5_thrown rfl (by decide +kernel) ⟨Nat.le_of_ble_eq_true rfl, Nat.le_of_ble_eq_true rfl⟩ rfl rfl (Nat.le_of_ble_eq_true rfl) ⟨(show k9 + 2 + 0 + 0 ≤ 601024 by omega), (show n9 + 12 + 0 + 0 ≤ 7293034 by omega)⟩ dL_law_953 z_noX (fun _ => ?_)
  refine z_iload B dL_law_956 1 rfl ?_
  refine z_iceq B 963 dL_law_958 (by decide) (fun _ => ?_) (fun h => absurd hr.1 h)
  refine z_iload B dL_law_963 1 rfl ?_
  refine z_ifne B 980 dL_law_965 (by decide) (fun c1 => ?_) (fun c1 => ?_)
  · refine z_aload_n B dL_law_968 5 rfl ?_
    refine z_iconst B (v := 0) dL_law_969 rfl ?_
    refine z_lald B (N := 1) (f := ((fL_wouldAnswer_h X D i C Z W F O Tc x1 x2 g).2.2.2.2)) 7 0 rfl rfl (z_vpc (k := 0) rfl (by decide)) dL_law_970 ?_
    refine z_iload B dL_law_971 0 rfl ?_
    refine z_i2l B dL_law_973 ?_
    refine z_lcmp B dL_law_974 ?_
    refine z_ifeq B 980 dL_law_975 (by decide) (fun _ => ?_) (fun h => absurd (z_cz (hr.2 c1)) h)
    refine z_goto B (tgt := 1428) dL_law_980 (by decide) ?_
    refine z_lsub [2, 3, 4, 5, 6] rfl ?_
    refine z_widen (k' := k9 + 16) (n' := n9 + 512) (show k9 + 2 + 0 + 0 ≤ _ by omega) (show n9 + 12 + 0 + 0 ≤ _ by omega) ?_
    exact kk
  · refine z_goto B (tgt := 1428) dL_law_980 (by decide) ?_
    refine z_lsub [2, 3, 4, 5, 6] rfl ?_
    refine z_widen (k' := k9 + 16) (n' := n9 + 512) (show k9 + 2 + 0 + 0 ≤ _ by omega) (show n9 + 12 + 0 + 0 ≤ _ by omega) ?_
    exact kk
set_option maxHeartbeats 4000000 in
set_option maxRecDepth 100000 in
theorem aL_siteFor_m (l : Launch) (hl : l.stackTraces = false) (K : zK) (ax : Nat) (zn : Nat) (sa : Nat) (la : Nat) (tr : Nat) (tc : Nat) (X : Nat → Int32) (f : Nat → Option Nat) (n : Nat) (so : Nat → Nat) (sc : Nat → Nat → Nat) (D : Nat → Nat → Int32) (x1 : Int32) (ao : Nat) (g : Nat → Int64) (am : Nat → Nat) (I : Nat → Int32) (R : Nat → Nat → Int32) (hf1 : ∀ a, a < n → f a = some (so a)) (hf2 : ∀ a, n ≤ a → a < 4 → f a = none) (hN : fX4_near n D x1 = none) (h5 : ¬ (I 5) < 0) (h6 : (I 5).toNatClampNeg ≤ 4) (rs : va_W) (hr : rE ((fL_siteFor_m D x1 g).1) ((fL_siteFor_m D x1 g).2) ((fX5_siteFor I R x1).2) ((fX5_siteFor I R x1).1)) {p : Program} {e : Env} {s : State} {m : MethodId} {below : List Frame} {meth : Method} {c : Code} {A : Nat → Prop} {Q : State → Prop} {ret9 : Option FieldType} {nm9 : String} {tb9 : List ExceptionTableEntry} {args : Array Value} {b L ii k9 n9 : Nat} {xs : Nat → Int32} (B : zF K p l s m args meth c A cL_law 7 RL nm9 wsL_law ret9 tb9) (hX : va_X b L xs s s.heap) (hbl : b < s.heap.size) (hbA : ¬ A b) (hi1 : vp_in (nI ii + 1) L) (hv1 : xs (nI ii + 1).toNatClampNeg = x1) (hk9 : k9 + 16 ≤ 601024) (hn9 : n9 + 512 ≤ 7293034)
    (kk : zW K p l e zR s m args below meth c A Q (k9 + 16) (n9 + 512) [zXo ax zn sa la tr tc X, zSa K sa f, zSO n so sc D, zOu K ao ((fL_siteFor_m D x1 g).2), zMo K am ((fX5_siteFor I R x1).2) R, rs] [(0, .ref b), (1, .ref ax), (2, .ref (am 0)), (3, .ref ao), (4, .int (nI ii))] [] 1428) : zW K p l e zR s m args below meth c A Q k9 n9 [zXo ax zn sa la tr tc X, zSa K sa f, zSO n so sc D, zOu K ao g, zMo K am I R, rs] [(0, .ref b), (1, .ref ax), (2, .ref (am 0)), (3, .ref ao), (4, .int (nI ii))] [] 647 := by
  refine z_aload_n B dL_law_647 1 rfl ?_
  refine z_aload_n B dL_law_648 0 rfl ?_
  refine z_iload B dL_law_649 4 rfl ?_
  refine z_iconst B (v := 1) dL_law_651 rfl ?_
  refine z_iadd B dL_law_652 ?_
  refine z_sld B hX hbl hbA hi1 hv1 dL_law_653 ?_
  refine z_aload_n B dL_law_654 3 rfl ?_
  refine z_H1 B (kL_siteFor_m l hl K ax zn sa la tr tc X f n so sc D x1 ao g hf1 hf2 hN) [0, 1, 2, 3] [4, 5] (br := [zMo K am I R, rs]) (bs' := [zXo ax zn sa la tr tc X, zSa K sa f, zSO n so sc D, zOu K ao ((fL_siteFor_m D x1 g).2), zMo K am I R, rs]) (st := []) (nA := 3) (zsp rfl rfl rfl) (zsp rfl rfl rfl) gL_law_L_siteFor rfl (by decide +kernel) ⟨Nat.le_of_ble_eq_true rfl, Nat.le_of_ble_eq_true rfl⟩ rfl rfl (Nat.le_of_ble_eq_true rfl) ⟨(show k9 + 1 ≤ 601024 by omega), (show n9 + 6 ≤ 7293034 by omega)⟩ dL_law_655 z_noX (fun _ => ?_)
  refine z_istore B (lv' := [(5, .int ((fL_siteFor_m D x1 g).1)), (0, .ref b), (1, .ref ax), (2, .ref (am 0)), (3, .ref ao), (4, .int (nI ii))]) dL_law_658 (by decide) rfl ?_
  refine z_aload_n B dL_law_660 3 rfl ?_
  refine z_aload_n B dL_law_661 1 rfl ?_
  refine z_iload B dL_law_662 5 rfl ?_
  refine z_iconst B (v := 1) dL_law_664 rfl ?_
  refine z_iadd B dL_law_665 ?_
  refine z_sld B hX hbl hbA hi1 hv1 dL_law_666 ?_
  refine z_V1 B (kX5_siteFor l hl K am I R x1 h5 h6) [4] [0, 1, 2, 3, 5] (br := [zXo ax zn sa la tr tc X, zSa K sa f, zSO n so sc D, zOu K ao ((fL_siteFor_m D x1 g).2), rs]) (bs' := [zXo ax zn sa la tr tc X, zSa K sa f, zSO n so sc D, zOu K ao ((fL_siteFor_m D x1 g).2), zMo K am ((fX5_siteFor I R x1).2) R, rs]) (st := []) (nA := 1) (zsp rfl rfl rfl) (zsp rfl rfl rfl) 4 0 rfl rfl rfl rfl gL_law_X5_siteFor rfl (by decide +kernel) ⟨Nat.le_of_ble_eq_true rfl, Nat.le_of_ble_eq_true rfl⟩ rfl rfl (Nat.le_of_ble_eq_true rfl) ⟨(show k9 + 1 + 0 ≤ 601024 by omega), (show n9 + 6 + 0 ≤ 7293034 by omega)⟩ dL_law_667 z_noX (fun _ => ?_)
  refine z_istore B (lv' := [(6, .int ((fX5_siteFor I R x1).1)), (5, .int ((fL_siteFor_m D x1 g).1)), (0, .ref b), (1, .ref ax), (2, .ref (am 0)), (3, .ref ao), (4, .int (nI ii))]) dL_law_670 (by decide) rfl ?_
  refine z_aload_n B dL_law_672 4 rfl ?_
  refine z_V1 B (kX5_thrown l hl K am ((fX5_siteFor I R x1).2) R) [4] [0, 1, 2, 3, 5] (br := [zXo ax zn sa la tr tc X, zSa K sa f, zSO n so sc D, zOu K ao ((fL_siteFor_m D x1 g).2), rs]) (bs' := [zXo ax zn sa la tr tc X, zSa K sa f, zSO n so sc D, zOu K ao ((fL_siteFor_m D x1 g).2), zMo K am ((fX5_siteFor I R x1).2) R, rs]) (st := []) (nA := 0) (zsp rfl rfl rfl) (zsp rfl rfl rfl) 4 0 rfl rfl rfl rfl gL_law_X5_thrown rfl (by decide +kernel) ⟨Nat.le_of_ble_eq_true rfl, Nat.le_of_ble_eq_true rfl⟩ rfl rfl (Nat.le_of_ble_eq_true rfl) ⟨(show k9 + 1 + 0 + 0 ≤ 601024 by omega), (show n9 + 6 + 0 + 0 ≤ 7293034 by omega)⟩ dL_law_673 z_noX (fun _ => ?_)
  refine z_iload B dL_law_676 1 rfl ?_
  refine z_iceq B 683 dL_law_678 (by decide) (fun _ => ?_) (fun h => absurd hr.1 h)
  refine z_iload B dL_law_683 1 rfl ?_
  refine z_ifne B 700 dL_law_685 (by decide) (fun c1 => ?_) (fun c1 => ?_)
  · refine z_aload_n B dL_law_688 5 rfl ?_
    refine z_iconst B (v := 0) dL_law_689 rfl ?_
    refine z_lald B (N := 1) (f := ((fL_siteFor_m D x1 g).2)) 3 0 rfl rfl (z_vpc (k := 0) rfl (by decide)) dL_law_690 ?_
    refine z_iload B dL_law_691 0 rfl ?_
    refine z_i2l B dL_law_693 ?_
    refine z_lcmp B dL_law_694 ?_
    refine z_ifeq B 700 dL_law_695 (by decide) (fun _ => ?_) (fun h => absurd (z_cz (hr.2 c1)) h)
    refine z_goto B (tgt := 1428) dL_law_700 (by decide) ?_
    refine z_lsub [2, 3, 4, 5, 6] rfl ?_
    refine z_widen (k' := k9 + 16) (n' := n9 + 512) (show k9 + 1 + 0 + 0 ≤ _ by omega) (show n9 + 6 + 0 + 0 ≤ _ by omega) ?_
    exact kk
  · refine z_goto B (tgt := 1428) dL_law_700 (by decide) ?_
    refine z_lsub [2, 3, 4, 5, 6] rfl ?_
    refine z_widen (k' := k9 + 16) (n' := n9 + 512) (show k9 + 1 + 0 + 0 ≤ _ by omega) (show n9 + 6 + 0 + 0 ≤ _ by omega) ?_
    exact kk
set_option maxHeartbeats 4000000 in
set_option maxRecDepth 100000 in
theorem aL_query_m (l : Launch) (hl : l.stackTraces = false) (K : zK) (ax : Nat) (zn : Nat) (sa : Nat) (la : Nat) (tr : Nat) (tc : Nat) (X : Nat → Int32) (f : Nat → Option Nat) (n : Nat) (so : Nat → Nat) (sc : Nat → Nat → Nat) (D : Nat → Nat → Int32) (x1 : Int32) (x2 : Int32) (ao : Nat) (g : Nat → Int64) (am : Nat → Nat) (I : Nat → Int32) (R : Nat → Nat → Int32) (hf1 : ∀ a, a < n → f a = some (so a)) (hf2 : ∀ a, n ≤ a → a < 4 → f a = none) (hN : fX4_near n D x1 = none) (h5 : ¬ (I 5) < 0) (h6 : (I 5).toNatClampNeg ≤ 4) (hZ : zwZ R) (hC : zwC R) (rs : va_W) (hr : rE (fL_query_m D x1 x2 g) g ((fX5_query I R x1 x2).2.1) ((fX5_query I R x1 x2).1)) {p : Program} {e : Env} {s : State} {m : MethodId} {below : List Frame} {meth : Method} {c : Code} {A : Nat → Prop} {Q : State → Prop} {ret9 : Option FieldType} {nm9 : String} {tb9 : List ExceptionTableEntry} {args : Array Value} {b L ii k9 n9 : Nat} {xs : Nat → Int32} (B : zF K p l s m args meth c A cL_law 7 RL nm9 wsL_law ret9 tb9) (hX : va_X b L xs s s.heap) (hbl : b < s.heap.size) (hbA : ¬ A b) (hi1 : vp_in (nI ii + 1) L) (hv1 : xs (nI ii + 1).toNatClampNeg = x1) (hi2 : vp_in (nI ii + 2) L) (hv2 : xs (nI ii + 2).toNatClampNeg = x2) (hk9 : k9 + 16 ≤ 601024) (hn9 : n9 + 512 ≤ 7293034)
    (kk : zW K p l e zR s m args below meth c A Q (k9 + 16) (n9 + 512) [zXo ax zn sa la tr tc X, zSa K sa f, zSO n so sc D, zOu K ao g, zMo K am ((fX5_query I R x1 x2).2.1) ((fX5_query I R x1 x2).2.2), rs] [(0, .ref b), (1, .ref ax), (2, .ref (am 0)), (3, .ref ao), (4, .int (nI ii))] [] 1428) : zW K p l e zR s m args below meth c A Q k9 n9 [zXo ax zn sa la tr tc X, zSa K sa f, zSO n so sc D, zOu K ao g, zMo K am I R, rs] [(0, .ref b), (1, .ref ax), (2, .ref (am 0)), (3, .ref ao), (4, .int (nI ii))] [] 847 := by
  refine z_aload_n B dL_law_847 1 rfl ?_
  refine z_aload_n B dL_law_848 0 rfl ?_
  refine z_iload B dL_law_849 4 rfl ?_
  refine z_iconst B (v := 1) dL_law_851 rfl ?_
  refine z_iadd B dL_law_852 ?_
  refine z_sld B hX hbl hbA hi1 hv1 dL_law_853 ?_
  refine z_aload_n B dL_law_854 0 rfl ?_
  refine z_iload B dL_law_855 4 rfl ?_
  refine z_iconst B (v := 2) dL_law_857 rfl ?_
  refine z_iadd B dL_law_858 ?_
  refine z_sld B hX hbl hbA hi2 hv2 dL_law_859 ?_
  refine z_aload_n B dL_law_860 3 rfl ?_
  refine z_H1 B (kL_query_m l hl K ax zn sa la tr tc X f n so sc D x1 x2 ao g hf1 hf2 hN) [0, 1, 2, 3] [4, 5] (br := [zMo K am I R, rs]) (bs' := [zXo ax zn sa la tr tc X, zSa K sa f, zSO n so sc D, zOu K ao g, zMo K am I R, rs]) (st := []) (nA := 4) (zsp rfl rfl rfl) (zsp rfl rfl rfl) gL_law_L_query rfl (by decide +kernel) ⟨Nat.le_of_ble_eq_true rfl, Nat.le_of_ble_eq_true rfl⟩ rfl rfl (Nat.le_of_ble_eq_true rfl) ⟨(show k9 + 3 ≤ 601024 by omega), (show n9 + 18 ≤ 7293034 by omega)⟩ dL_law_861 z_noX (fun _ => ?_)
  refine z_istore B (lv' := [(5, .int (fL_query_m D x1 x2 g)), (0, .ref b), (1, .ref ax), (2, .ref (am 0)), (3, .ref ao), (4, .int (nI ii))]) dL_law_864 (by decide) rfl ?_
  refine z_aload_n B dL_law_866 3 rfl ?_
  refine z_aload_n B dL_law_867 1 rfl ?_
  refine z_iload B dL_law_868 5 rfl ?_
  refine z_iconst B (v := 1) dL_law_870 rfl ?_
  refine z_iadd B dL_law_871 ?_
  refine z_sld B hX hbl hbA hi1 hv1 dL_law_872 ?_
  refine z_aload_n B dL_law_873 1 rfl ?_
  refine z_iload B dL_law_874 5 rfl ?_
  refine z_iconst B (v := 2) dL_law_876 rfl ?_
  refine z_iadd B dL_law_877 ?_
  refine z_sld B hX hbl hbA hi2 hv2 dL_law_878 ?_
  refine z_V1 B (kX5_query l hl K am I R x1 x2 h5 h6 hZ hC) [4] [0, 1, 2, 3, 5] (br := [zXo ax zn sa la tr tc X, zSa K sa f, zSO n so sc D, zOu K ao g, rs]) (bs' := [zXo ax zn sa la tr tc X, zSa K sa f, zSO n so sc D, zOu K ao g, zMo K am ((fX5_query I R x1 x2).2.1) ((fX5_query I R x1 x2).2.2), rs]) (st := []) (nA := 2) (zsp rfl rfl rfl) (zsp rfl rfl rfl) 4 0 rfl rfl rfl rfl gL_law_X5_query rfl (by decide +kernel) ⟨Nat.le_of_ble_eq_true rfl, Nat.le_of_ble_eq_true rfl⟩ rfl rfl (Nat.le_of_ble_eq_true rfl) ⟨(show k9 + 3 + 0 ≤ 601024 by omega), (show n9 + 18 + 0 ≤ 7293034 by omega)⟩ dL_law_879 z_noX (fun _ => ?_)
  refine z_istore B (lv' := [(6, .int ((fX5_query I R x1 x2).1)), (5, .int (fL_query_m D x1 x2 g)), (0, .ref b), (1, .ref ax), (2, .ref (am 0)), (3, .ref ao), (4, .int (nI ii))]) dL_law_882 (by decide) rfl ?_
  refine z_aload_n B dL_law_884 4 rfl ?_
  refine z_V1 B (kX5_thrown l hl K am ((fX5_query I R x1 x2).2.1) ((fX5_query I R x1 x2).2.2)) [4] [0, 1, 2, 3, 5] (br := [zXo ax zn sa la tr tc X, zSa K sa f, zSO n so sc D, zOu K ao g, rs]) (bs' := [zXo ax zn sa la tr tc X, zSa K sa f, zSO n so sc D, zOu K ao g, zMo K am ((fX5_query I R x1 x2).2.1) ((fX5_query I R x1 x2).2.2), rs]) (st := []) (nA := 0) (zsp rfl rfl rfl) (zsp rfl rfl rfl) 4 0 rfl rfl rfl rfl gL_law_X5_thrown rfl (by decide +kernel) ⟨Nat.le_of_ble_eq_true rfl, Nat.le_of_ble_eq_true rfl⟩ rfl rfl (Nat.le_of_ble_eq_true rfl) ⟨(show k9 + 3 + 0 + 0 ≤ 601024 by omega), (show n9 + 18 + 0 + 0 ≤ 7293034 by omega)⟩ dL_law_885 z_noX (fun _ => ?_)
  refine z_iload B dL_law_888 1 rfl ?_
  refine z_iceq B 895 dL_law_890 (by decide) (fun _ => ?_) (fun h => absurd hr.1 h)
  refine z_iload B dL_law_895 1 rfl ?_
  refine z_ifne B 912 dL_law_897 (by decide) (fun c1 => ?_) (fun c1 => ?_)
  · refine z_aload_n B dL_law_900 5 rfl ?_
    refine z_iconst B (v := 0) dL_law_901 rfl ?_
    refine z_lald B (N := 1) (f := g) 3 0 rfl rfl (z_vpc (k := 0) rfl (by decide)) dL_law_902 ?_
    refine z_iload B dL_law_903 0 rfl ?_
    refine z_i2l B dL_law_905 ?_
    refine z_lcmp B dL_law_906 ?_
    refine z_ifeq B 912 dL_law_907 (by decide) (fun _ => ?_) (fun h => absurd (z_cz (hr.2 c1)) h)
    refine z_goto B (tgt := 1428) dL_law_912 (by decide) ?_
    refine z_lsub [2, 3, 4, 5, 6] rfl ?_
    refine z_widen (k' := k9 + 16) (n' := n9 + 512) (show k9 + 3 + 0 + 0 ≤ _ by omega) (show n9 + 18 + 0 + 0 ≤ _ by omega) ?_
    exact kk
  · refine z_goto B (tgt := 1428) dL_law_912 (by decide) ?_
    refine z_lsub [2, 3, 4, 5, 6] rfl ?_
    refine z_widen (k' := k9 + 16) (n' := n9 + 512) (show k9 + 3 + 0 + 0 ≤ _ by omega) (show n9 + 18 + 0 + 0 ≤ _ by omega) ?_
    exact kk
set_option maxHeartbeats 4000000 in
set_option maxRecDepth 100000 in
theorem aL_wouldAnswer_m (l : Launch) (hl : l.stackTraces = false) (K : zK) (ax : Nat) (zn : Nat) (sa : Nat) (la : Nat) (tr : Nat) (tc : Nat) (X : Nat → Int32) (f : Nat → Option Nat) (n : Nat) (so : Nat → Nat) (sc : Nat → Nat → Nat) (D : Nat → Nat → Int32) (x1 : Int32) (x2 : Int32) (ao : Nat) (g : Nat → Int64) (am : Nat → Nat) (I : Nat → Int32) (R : Nat → Nat → Int32) (hf1 : ∀ a, a < n → f a = some (so a)) (hf2 : ∀ a, n ≤ a → a < 4 → f a = none) (hN : fX4_near n D x1 = none) (h5 : ¬ (I 5) < 0) (h6 : (I 5).toNatClampNeg ≤ 4) (hZ : zwZ R) (hC : zwC R) (h16 : (I 16) = 0 ∨ (I 16) = 1) (rs : va_W) (hr : rE (fL_wouldAnswer_m D x1 x2 g) g ((fX5_wouldAnswer I R x1 x2).2.1) ((fX5_wouldAnswer I R x1 x2).1)) {p : Program} {e : Env} {s : State} {m : MethodId} {below : List Frame} {meth : Method} {c : Code} {A : Nat → Prop} {Q : State → Prop} {ret9 : Option FieldType} {nm9 : String} {tb9 : List ExceptionTableEntry} {args : Array Value} {b L ii k9 n9 : Nat} {xs : Nat → Int32} (B : zF K p l s m args meth c A cL_law 7 RL nm9 wsL_law ret9 tb9) (hX : va_X b L xs s s.heap) (hbl : b < s.heap.size) (hbA : ¬ A b) (hi1 : vp_in (nI ii + 1) L) (hv1 : xs (nI ii + 1).toNatClampNeg = x1) (hi2 : vp_in (nI ii + 2) L) (hv2 : xs (nI ii + 2).toNatClampNeg = x2) (hk9 : k9 + 16 ≤ 601024) (hn9 : n9 + 512 ≤ 7293034)
    (kk : zW K p l e zR s m args below meth c A Q (k9 + 16) (n9 + 512) [zXo ax zn sa la tr tc X, zSa K sa f, zSO n so sc D, zOu K ao g, zMo K am ((fX5_wouldAnswer I R x1 x2).2.1) ((fX5_wouldAnswer I R x1 x2).2.2), rs] [(0, .ref b), (1, .ref ax), (2, .ref (am 0)), (3, .ref ao), (4, .int (nI ii))] [] 1428) : zW K p l e zR s m args below meth c A Q k9 n9 [zXo ax zn sa la tr tc X, zSa K sa f, zSO n so sc D, zOu K ao g, zMo K am I R, rs] [(0, .ref b), (1, .ref ax), (2, .ref (am 0)), (3, .ref ao), (4, .int (nI ii))] [] 915 := by
  refine z_aload_n B dL_law_915 1 rfl ?_
  refine z_aload_n B dL_law_916 0 rfl ?_
  refine z_iload B dL_law_917 4 rfl ?_
  refine z_iconst B (v := 1) dL_law_919 rfl ?_
  refine z_iadd B dL_law_920 ?_
  refine z_sld B hX hbl hbA hi1 hv1 dL_law_921 ?_
  refine z_aload_n B dL_law_922 0 rfl ?_
  refine z_iload B dL_law_923 4 rfl ?_
  refine z_iconst B (v := 2) dL_law_925 rfl ?_
  refine z_iadd B dL_law_926 ?_
  refine z_sld B hX hbl hbA hi2 hv2 dL_law_927 ?_
  refine z_aload_n B dL_law_928 3 rfl ?_
  refine z_H1 B (kL_wouldAnswer_m l hl K ax zn sa la tr tc X f n so sc D x1 x2 ao g hf1 hf2 hN) [0, 1, 2, 3] [4, 5] (br := [zMo K am I R, rs]) (bs' := [zXo ax zn sa la tr tc X, zSa K sa f, zSO n so sc D, zOu K ao g, zMo K am I R, rs]) (st := []) (nA := 4) (zsp rfl rfl rfl) (zsp rfl rfl rfl) gL_law_L_wouldAnswer rfl (by decide +kernel) ⟨Nat.le_of_ble_eq_true rfl, Nat.le_of_ble_eq_true rfl⟩ rfl rfl (Nat.le_of_ble_eq_true rfl) ⟨(show k9 + 3 ≤ 601024 by omega), (show n9 + 18 ≤ 7293034 by omega)⟩ dL_law_929 z_noX (fun _ => ?_)
  refine z_istore B (lv' := [(5, .int (fL_wouldAnswer_m D x1 x2 g)), (0, .ref b), (1, .ref ax), (2, .ref (am 0)), (3, .ref ao), (4, .int (nI ii))]) dL_law_932 (by decide) rfl ?_
  refine z_aload_n B dL_law_934 3 rfl ?_
  refine z_aload_n B dL_law_935 1 rfl ?_
  refine z_iload B dL_law_936 5 rfl ?_
  refine z_iconst B (v := 1) dL_law_938 rfl ?_
  refine z_iadd B dL_law_939 ?_
  refine z_sld B hX hbl hbA hi1 hv1 dL_law_940 ?_
  refine z_aload_n B dL_law_941 1 rfl ?_
  refine z_iload B dL_law_942 5 rfl ?_
  refine z_iconst B (v := 2) dL_law_944 rfl ?_
  refine z_iadd B dL_law_945 ?_
  refine z_sld B hX hbl hbA hi2 hv2 dL_law_946 ?_
  refine z_V1 B (kX5_wouldAnswer l hl K am I R x1 x2 h5 h6 hZ hC h16) [4] [0, 1, 2, 3, 5] (br := [zXo ax zn sa la tr tc X, zSa K sa f, zSO n so sc D, zOu K ao g, rs]) (bs' := [zXo ax zn sa la tr tc X, zSa K sa f, zSO n so sc D, zOu K ao g, zMo K am ((fX5_wouldAnswer I R x1 x2).2.1) ((fX5_wouldAnswer I R x1 x2).2.2), rs]) (st := []) (nA := 2) (zsp rfl rfl rfl) (zsp rfl rfl rfl) 4 0 rfl rfl rfl rfl gL_law_X5_wouldAnswer rfl (by decide +kernel) ⟨Nat.le_of_ble_eq_true rfl, Nat.le_of_ble_eq_true rfl⟩ rfl rfl (Nat.le_of_ble_eq_true rfl) ⟨(show k9 + 3 + 0 ≤ 601024 by omega), (show n9 + 18 + 0 ≤ 7293034 by omega)⟩ dL_law_947 z_noX (fun _ => ?_)
  refine z_istore B (lv' := [(6, .int ((fX5_wouldAnswer I R x1 x2).1)), (5, .int (fL_wouldAnswer_m D x1 x2 g)), (0, .ref b), (1, .ref ax), (2, .ref (am 0)), (3, .ref ao), (4, .int (nI ii))]) dL_law_950 (by decide) rfl ?_
  refine z_aload_n B dL_law_952 4 rfl ?_
  refine z_V1 B (kX5_thrown l hl K am ((fX5_wouldAnswer I R x1 x2).2.1) ((fX5_wouldAnswer I R x1 x2).2.2)) [4] [0, 1, 2, 3, 5] (br := [zXo ax zn sa la tr tc X, zSa K sa f, zSO n so sc D, zOu K ao g, rs]) (bs' := [zXo ax zn sa la tr tc X, zSa K sa f, zSO n so sc D, zOu K ao g, zMo K am ((fX5_wouldAnswer I R x1 x2).2.1) ((fX5_wouldAnswer I R x1 x2).2.2), rs]) (st := []) (nA := 0) (zsp rfl rfl rfl) (zsp rfl rfl rfl) 4 0 rfl rfl rfl rfl gL_law_X5_thrown rfl (by decide +kernel) ⟨Nat.le_of_ble_eq_true rfl, Nat.le_of_ble_eq_true rfl⟩ rfl rfl (Nat.le_of_ble_eq_true rfl) ⟨(show k9 + 3 + 0 + 0 ≤ 601024 by omega), (show n9 + 18 + 0 + 0 ≤ 7293034 by omega)⟩ dL_law_953 z_noX (fun _ => ?_)
  refine z_iload B dL_law_956 1 rfl ?_
  refine z_iceq B 963 dL_law_958 (by decide) (fun _ => ?_) (fun h => absurd hr.1 h)
  refine z_iload B dL_law_963 1 rfl ?_
  refine z_ifne B 980 dL_law_965 (by decide) (fun c1 => ?_) (fun c1 => ?_)
  · refine z_aload_n B dL_law_968 5 rfl ?_
    refine z_iconst B (v := 0) dL_law_969 rfl ?_
    refine z_lald B (N := 1) (f := g) 3 0 rfl rfl (z_vpc (k := 0) rfl (by decide)) dL_law_970 ?_
    refine z_iload B dL_law_971 0 rfl ?_
    refine z_i2l B dL_law_973 ?_
    refine z_lcmp B dL_law_974 ?_
    refine z_ifeq B 980 dL_law_975 (by decide) (fun _ => ?_) (fun h => absurd (z_cz (hr.2 c1)) h)
    refine z_goto B (tgt := 1428) dL_law_980 (by decide) ?_
    refine z_lsub [2, 3, 4, 5, 6] rfl ?_
    refine z_widen (k' := k9 + 16) (n' := n9 + 512) (show k9 + 3 + 0 + 0 ≤ _ by omega) (show n9 + 18 + 0 + 0 ≤ _ by omega) ?_
    exact kk
  · refine z_goto B (tgt := 1428) dL_law_980 (by decide) ?_
    refine z_lsub [2, 3, 4, 5, 6] rfl ?_
    refine z_widen (k' := k9 + 16) (n' := n9 + 512) (show k9 + 3 + 0 + 0 ≤ _ by omega) (show n9 + 18 + 0 + 0 ≤ _ by omega) ?_
    exact kk
set_option maxHeartbeats 4000000 in
set_option maxRecDepth 100000 in
theorem aL_time (l : Launch) (hl : l.stackTraces = false) (ao : Nat) (K : zK) (ax : Nat) (zn : Nat) (sa : Nat) (la : Nat) (tr : Nat) (tc : Nat) (X : Nat → Int32) (am : Nat → Nat) (I : Nat → Int32) (R : Nat → Nat → Int32) (rs : va_W) (hr : (fX4_time X) = ((fX5_time I R).1)) {p : Program} {e : Env} {s : State} {m : MethodId} {below : List Frame} {meth : Method} {c : Code} {A : Nat → Prop} {Q : State → Prop} {ret9 : Option FieldType} {nm9 : String} {tb9 : List ExceptionTableEntry} {args : Array Value} {b L ii k9 n9 : Nat} {xs : Nat → Int32} (B : zF K p l s m args meth c A cL_law 7 RL nm9 wsL_law ret9 tb9) (hX : va_X b L xs s s.heap) (hbl : b < s.heap.size) (hbA : ¬ A b) (hk9 : k9 + 16 ≤ 601024) (hn9 : n9 + 512 ≤ 7293034)
    (kk : zW K p l e zR s m args below meth c A Q (k9 + 16) (n9 + 512) [zXo ax zn sa la tr tc X, zMo K am ((fX5_time I R).2) R, rs] [(0, .ref b), (1, .ref ax), (2, .ref (am 0)), (3, .ref ao), (4, .int (nI ii))] [] 1428) : zW K p l e zR s m args below meth c A Q k9 n9 [zXo ax zn sa la tr tc X, zMo K am I R, rs] [(0, .ref b), (1, .ref ax), (2, .ref (am 0)), (3, .ref ao), (4, .int (nI ii))] [] 834 := by
  refine z_aload_n B dL_law_834 1 rfl ?_
  refine z_V1 B (kX4_time l hl K ax zn sa la tr tc X) [0] [1, 2] (br := [zMo K am I R, rs]) (bs' := [zXo ax zn sa la tr tc X, zMo K am I R, rs]) (st := []) (nA := 0) (zsp rfl rfl rfl) (zsp rfl rfl rfl) 0 0 rfl rfl rfl rfl gL_law_X4_time rfl (by decide +kernel) ⟨Nat.le_of_ble_eq_true rfl, Nat.le_of_ble_eq_true rfl⟩ rfl rfl (Nat.le_of_ble_eq_true rfl) ⟨(show k9 + 0 ≤ 601024 by omega), (show n9 + 0 ≤ 7293034 by omega)⟩ dL_law_835 z_noX (fun _ => ?_)
  refine z_aload_n B dL_law_838 2 rfl ?_
  refine z_V1 B (kX5_time l hl K am I R) [1] [0, 2] (br := [zXo ax zn sa la tr tc X, rs]) (bs' := [zXo ax zn sa la tr tc X, zMo K am ((fX5_time I R).2) R, rs]) (st := [.int (fX4_time X)]) (nA := 0) (zsp rfl rfl rfl) (zsp rfl rfl rfl) 1 0 rfl rfl rfl rfl gL_law_X5_time rfl (by decide +kernel) ⟨Nat.le_of_ble_eq_true rfl, Nat.le_of_ble_eq_true rfl⟩ rfl rfl (Nat.le_of_ble_eq_true rfl) ⟨(show k9 + 0 + 0 ≤ 601024 by omega), (show n9 + 0 + 0 ≤ 7293034 by omega)⟩ dL_law_839 z_noX (fun _ => ?_)
  refine z_iceq B 1428 dL_law_842 (by decide) (fun _ => ?_) (fun h => absurd hr h)
  refine z_lsub [0, 1, 2, 3, 4] rfl ?_
  refine z_widen (k' := k9 + 16) (n' := n9 + 512) (show k9 + 0 + 0 ≤ _ by omega) (show n9 + 0 + 0 ≤ _ by omega) ?_
  exact kk
set_option maxHeartbeats 4000000 in
set_option maxRecDepth 100000 in
theorem aL_lastSite (l : Launch) (hl : l.stackTraces = false) (ao : Nat) (K : zK) (ax : Nat) (zn : Nat) (sa : Nat) (la : Nat) (tr : Nat) (tc : Nat) (X : Nat → Int32) (am : Nat → Nat) (I : Nat → Int32) (R : Nat → Nat → Int32) (rs : va_W) (hr : (fX4_lastSite X) = ((fX5_lastSite I R).1)) {p : Program} {e : Env} {s : State} {m : MethodId} {below : List Frame} {meth : Method} {c : Code} {A : Nat → Prop} {Q : State → Prop} {ret9 : Option FieldType} {nm9 : String} {tb9 : List ExceptionTableEntry} {args : Array Value} {b L ii k9 n9 : Nat} {xs : Nat → Int32} (B : zF K p l s m args meth c A cL_law 7 RL nm9 wsL_law ret9 tb9) (hX : va_X b L xs s s.heap) (hbl : b < s.heap.size) (hbA : ¬ A b) (hk9 : k9 + 16 ≤ 601024) (hn9 : n9 + 512 ≤ 7293034)
    (kk : zW K p l e zR s m args below meth c A Q (k9 + 16) (n9 + 512) [zXo ax zn sa la tr tc X, zMo K am ((fX5_lastSite I R).2) R, rs] [(0, .ref b), (1, .ref ax), (2, .ref (am 0)), (3, .ref ao), (4, .int (nI ii))] [] 1428) : zW K p l e zR s m args below meth c A Q k9 n9 [zXo ax zn sa la tr tc X, zMo K am I R, rs] [(0, .ref b), (1, .ref ax), (2, .ref (am 0)), (3, .ref ao), (4, .int (nI ii))] [] 983 := by
  refine z_aload_n B dL_law_983 1 rfl ?_
  refine z_V1 B (kX4_lastSite l hl K ax zn sa la tr tc X) [0] [1, 2] (br := [zMo K am I R, rs]) (bs' := [zXo ax zn sa la tr tc X, zMo K am I R, rs]) (st := []) (nA := 0) (zsp rfl rfl rfl) (zsp rfl rfl rfl) 0 0 rfl rfl rfl rfl gL_law_X4_lastSite rfl (by decide +kernel) ⟨Nat.le_of_ble_eq_true rfl, Nat.le_of_ble_eq_true rfl⟩ rfl rfl (Nat.le_of_ble_eq_true rfl) ⟨(show k9 + 0 ≤ 601024 by omega), (show n9 + 0 ≤ 7293034 by omega)⟩ dL_law_984 z_noX (fun _ => ?_)
  refine z_aload_n B dL_law_987 2 rfl ?_
  refine z_V1 B (kX5_lastSite l hl K am I R) [1] [0, 2] (br := [zXo ax zn sa la tr tc X, rs]) (bs' := [zXo ax zn sa la tr tc X, zMo K am ((fX5_lastSite I R).2) R, rs]) (st := [.int (fX4_lastSite X)]) (nA := 0) (zsp rfl rfl rfl) (zsp rfl rfl rfl) 1 0 rfl rfl rfl rfl gL_law_X5_lastSite rfl (by decide +kernel) ⟨Nat.le_of_ble_eq_true rfl, Nat.le_of_ble_eq_true rfl⟩ rfl rfl (Nat.le_of_ble_eq_true rfl) ⟨(show k9 + 0 + 0 ≤ 601024 by omega), (show n9 + 0 + 0 ≤ 7293034 by omega)⟩ dL_law_988 z_noX (fun _ => ?_)
  refine z_iceq B 1428 dL_law_991 (by decide) (fun _ => ?_) (fun h => absurd hr h)
  refine z_lsub [0, 1, 2, 3, 4] rfl ?_
  refine z_widen (k' := k9 + 16) (n' := n9 + 512) (show k9 + 0 + 0 ≤ _ by omega) (show n9 + 0 + 0 ≤ _ by omega) ?_
  exact kk
set_option maxHeartbeats 4000000 in
set_option maxRecDepth 100000 in
theorem aL_lastWasStale (l : Launch) (hl : l.stackTraces = false) (ao : Nat) (K : zK) (ax : Nat) (zn : Nat) (sa : Nat) (ak : Nat → Nat) (tr : Nat) (tc : Nat) (X : Nat → Int32) (F : Nat → Int32) (O : Nat → Int32) (am : Nat → Nat) (I : Nat → Int32) (R : Nat → Nat → Int32) (hO5 : (O 5) = 0 ∨ (O 5) = 1) (h16 : (I 16) = 0 ∨ (I 16) = 1) (rs : va_W) (hr : (fX4_lastWasStale X F O) = ((fX5_lastWasStale I R).1)) {p : Program} {e : Env} {s : State} {m : MethodId} {below : List Frame} {meth : Method} {c : Code} {A : Nat → Prop} {Q : State → Prop} {ret9 : Option FieldType} {nm9 : String} {tb9 : List ExceptionTableEntry} {args : Array Value} {b L ii k9 n9 : Nat} {xs : Nat → Int32} (B : zF K p l s m args meth c A cL_law 7 RL nm9 wsL_law ret9 tb9) (hX : va_X b L xs s s.heap) (hbl : b < s.heap.size) (hbA : ¬ A b) (hk9 : k9 + 16 ≤ 601024) (hn9 : n9 + 512 ≤ 7293034)
    (kk : zW K p l e zR s m args below meth c A Q (k9 + 16) (n9 + 512) [zXo ax zn sa (ak 0) tr tc X, zCo K ak F O, zMo K am ((fX5_lastWasStale I R).2) R, rs] [(0, .ref b), (1, .ref ax), (2, .ref (am 0)), (3, .ref ao), (4, .int (nI ii))] [] 1428) : zW K p l e zR s m args below meth c A Q k9 n9 [zXo ax zn sa (ak 0) tr tc X, zCo K ak F O, zMo K am I R, rs] [(0, .ref b), (1, .ref ax), (2, .ref (am 0)), (3, .ref ao), (4, .int (nI ii))] [] 996 := by
  refine z_aload_n B dL_law_996 1 rfl ?_
  refine z_V1 B (kX4_lastWasStale l hl K ax zn sa ak tr tc X F O hO5) [0, 1] [2, 3] (br := [zMo K am I R, rs]) (bs' := [zXo ax zn sa (ak 0) tr tc X, zCo K ak F O, zMo K am I R, rs]) (st := []) (nA := 0) (zsp rfl rfl rfl) (zsp rfl rfl rfl) 0 0 rfl rfl rfl rfl gL_law_X4_lastWasStale rfl (by decide +kernel) ⟨Nat.le_of_ble_eq_true rfl, Nat.le_of_ble_eq_true rfl⟩ rfl rfl (Nat.le_of_ble_eq_true rfl) ⟨(show k9 + 0 ≤ 601024 by omega), (show n9 + 0 ≤ 7293034 by omega)⟩ dL_law_997 z_noX (fun _ => ?_)
  refine z_aload_n B dL_law_1000 2 rfl ?_
  refine z_V1 B (kX5_lastWasStale l hl K am I R h16) [2] [0, 1, 3] (br := [zXo ax zn sa (ak 0) tr tc X, zCo K ak F O, rs]) (bs' := [zXo ax zn sa (ak 0) tr tc X, zCo K ak F O, zMo K am ((fX5_lastWasStale I R).2) R, rs]) (st := [.int (fX4_lastWasStale X F O)]) (nA := 0) (zsp rfl rfl rfl) (zsp rfl rfl rfl) 2 0 rfl rfl rfl rfl gL_law_X5_lastWasStale rfl (by decide +kernel) ⟨Nat.le_of_ble_eq_true rfl, Nat.le_of_ble_eq_true rfl⟩ rfl rfl (Nat.le_of_ble_eq_true rfl) ⟨(show k9 + 0 + 0 ≤ 601024 by omega), (show n9 + 0 + 0 ≤ 7293034 by omega)⟩ dL_law_1001 z_noX (fun _ => ?_)
  refine z_iceq B 1428 dL_law_1004 (by decide) (fun _ => ?_) (fun h => absurd hr h)
  refine z_lsub [0, 1, 2, 3, 4] rfl ?_
  refine z_widen (k' := k9 + 16) (n' := n9 + 512) (show k9 + 0 + 0 ≤ _ by omega) (show n9 + 0 + 0 ≤ _ by omega) ?_
  exact kk
set_option maxHeartbeats 4000000 in
set_option maxRecDepth 100000 in
theorem aL_lastLookUps (l : Launch) (hl : l.stackTraces = false) (ao : Nat) (K : zK) (ax : Nat) (zn : Nat) (sa : Nat) (ak : Nat → Nat) (tr : Nat) (tc : Nat) (X : Nat → Int32) (F : Nat → Int32) (O : Nat → Int32) (am : Nat → Nat) (I : Nat → Int32) (R : Nat → Nat → Int32) (rs : va_W) (hr : (fX4_lastLookUps X F O) = ((fX5_lastLookUps I R).1)) {p : Program} {e : Env} {s : State} {m : MethodId} {below : List Frame} {meth : Method} {c : Code} {A : Nat → Prop} {Q : State → Prop} {ret9 : Option FieldType} {nm9 : String} {tb9 : List ExceptionTableEntry} {args : Array Value} {b L ii k9 n9 : Nat} {xs : Nat → Int32} (B : zF K p l s m args meth c A cL_law 7 RL nm9 wsL_law ret9 tb9) (hX : va_X b L xs s s.heap) (hbl : b < s.heap.size) (hbA : ¬ A b) (hk9 : k9 + 16 ≤ 601024) (hn9 : n9 + 512 ≤ 7293034)
    (kk : zW K p l e zR s m args below meth c A Q (k9 + 16) (n9 + 512) [zXo ax zn sa (ak 0) tr tc X, zCo K ak F O, zMo K am ((fX5_lastLookUps I R).2) R, rs] [(0, .ref b), (1, .ref ax), (2, .ref (am 0)), (3, .ref ao), (4, .int (nI ii))] [] 1428) : zW K p l e zR s m args below meth c A Q k9 n9 [zXo ax zn sa (ak 0) tr tc X, zCo K ak F O, zMo K am I R, rs] [(0, .ref b), (1, .ref ax), (2, .ref (am 0)), (3, .ref ao), (4, .int (nI ii))] [] 1009 := by
  refine z_aload_n B dL_law_1009 1 rfl ?_
  refine z_V1 B (kX4_lastLookUps l hl K ax zn sa ak tr tc X F O) [0, 1] [2, 3] (br := [zMo K am I R, rs]) (bs' := [zXo ax zn sa (ak 0) tr tc X, zCo K ak F O, zMo K am I R, rs]) (st := []) (nA := 0) (zsp rfl rfl rfl) (zsp rfl rfl rfl) 0 0 rfl rfl rfl rfl gL_law_X4_lastLookUps rfl (by decide +kernel) ⟨Nat.le_of_ble_eq_true rfl, Nat.le_of_ble_eq_true rfl⟩ rfl rfl (Nat.le_of_ble_eq_true rfl) ⟨(show k9 + 0 ≤ 601024 by omega), (show n9 + 0 ≤ 7293034 by omega)⟩ dL_law_1010 z_noX (fun _ => ?_)
  refine z_aload_n B dL_law_1013 2 rfl ?_
  refine z_V1 B (kX5_lastLookUps l hl K am I R) [2] [0, 1, 3] (br := [zXo ax zn sa (ak 0) tr tc X, zCo K ak F O, rs]) (bs' := [zXo ax zn sa (ak 0) tr tc X, zCo K ak F O, zMo K am ((fX5_lastLookUps I R).2) R, rs]) (st := [.int (fX4_lastLookUps X F O)]) (nA := 0) (zsp rfl rfl rfl) (zsp rfl rfl rfl) 2 0 rfl rfl rfl rfl gL_law_X5_lastLookUps rfl (by decide +kernel) ⟨Nat.le_of_ble_eq_true rfl, Nat.le_of_ble_eq_true rfl⟩ rfl rfl (Nat.le_of_ble_eq_true rfl) ⟨(show k9 + 0 + 0 ≤ 601024 by omega), (show n9 + 0 + 0 ≤ 7293034 by omega)⟩ dL_law_1014 z_noX (fun _ => ?_)
  refine z_iceq B 1428 dL_law_1017 (by decide) (fun _ => ?_) (fun h => absurd hr h)
  refine z_lsub [0, 1, 2, 3, 4] rfl ?_
  refine z_widen (k' := k9 + 16) (n' := n9 + 512) (show k9 + 0 + 0 ≤ _ by omega) (show n9 + 0 + 0 ≤ _ by omega) ?_
  exact kk
set_option maxHeartbeats 4000000 in
set_option maxRecDepth 100000 in
theorem aL_lastFetches (l : Launch) (hl : l.stackTraces = false) (ao : Nat) (K : zK) (ax : Nat) (zn : Nat) (sa : Nat) (ak : Nat → Nat) (tr : Nat) (tc : Nat) (X : Nat → Int32) (F : Nat → Int32) (O : Nat → Int32) (am : Nat → Nat) (I : Nat → Int32) (R : Nat → Nat → Int32) (rs : va_W) (hr : (fX4_lastFetches X F O) = ((fX5_lastFetches I R).1)) {p : Program} {e : Env} {s : State} {m : MethodId} {below : List Frame} {meth : Method} {c : Code} {A : Nat → Prop} {Q : State → Prop} {ret9 : Option FieldType} {nm9 : String} {tb9 : List ExceptionTableEntry} {args : Array Value} {b L ii k9 n9 : Nat} {xs : Nat → Int32} (B : zF K p l s m args meth c A cL_law 7 RL nm9 wsL_law ret9 tb9) (hX : va_X b L xs s s.heap) (hbl : b < s.heap.size) (hbA : ¬ A b) (hk9 : k9 + 16 ≤ 601024) (hn9 : n9 + 512 ≤ 7293034)
    (kk : zW K p l e zR s m args below meth c A Q (k9 + 16) (n9 + 512) [zXo ax zn sa (ak 0) tr tc X, zCo K ak F O, zMo K am ((fX5_lastFetches I R).2) R, rs] [(0, .ref b), (1, .ref ax), (2, .ref (am 0)), (3, .ref ao), (4, .int (nI ii))] [] 1428) : zW K p l e zR s m args below meth c A Q k9 n9 [zXo ax zn sa (ak 0) tr tc X, zCo K ak F O, zMo K am I R, rs] [(0, .ref b), (1, .ref ax), (2, .ref (am 0)), (3, .ref ao), (4, .int (nI ii))] [] 1022 := by
  refine z_aload_n B dL_law_1022 1 rfl ?_
  refine z_V1 B (kX4_lastFetches l hl K ax zn sa ak tr tc X F O) [0, 1] [2, 3] (br := [zMo K am I R, rs]) (bs' := [zXo ax zn sa (ak 0) tr tc X, zCo K ak F O, zMo K am I R, rs]) (st := []) (nA := 0) (zsp rfl rfl rfl) (zsp rfl rfl rfl) 0 0 rfl rfl rfl rfl gL_law_X4_lastFetches rfl (by decide +kernel) ⟨Nat.le_of_ble_eq_true rfl, Nat.le_of_ble_eq_true rfl⟩ rfl rfl (Nat.le_of_ble_eq_true rfl) ⟨(show k9 + 0 ≤ 601024 by omega), (show n9 + 0 ≤ 7293034 by omega)⟩ dL_law_1023 z_noX (fun _ => ?_)
  refine z_aload_n B dL_law_1026 2 rfl ?_
  refine z_V1 B (kX5_lastFetches l hl K am I R) [2] [0, 1, 3] (br := [zXo ax zn sa (ak 0) tr tc X, zCo K ak F O, rs]) (bs' := [zXo ax zn sa (ak 0) tr tc X, zCo K ak F O, zMo K am ((fX5_lastFetches I R).2) R, rs]) (st := [.int (fX4_lastFetches X F O)]) (nA := 0) (zsp rfl rfl rfl) (zsp rfl rfl rfl) 2 0 rfl rfl rfl rfl gL_law_X5_lastFetches rfl (by decide +kernel) ⟨Nat.le_of_ble_eq_true rfl, Nat.le_of_ble_eq_true rfl⟩ rfl rfl (Nat.le_of_ble_eq_true rfl) ⟨(show k9 + 0 + 0 ≤ 601024 by omega), (show n9 + 0 + 0 ≤ 7293034 by omega)⟩ dL_law_1027 z_noX (fun _ => ?_)
  refine z_iceq B 1428 dL_law_1030 (by decide) (fun _ => ?_) (fun h => absurd hr h)
  refine z_lsub [0, 1, 2, 3, 4] rfl ?_
  refine z_widen (k' := k9 + 16) (n' := n9 + 512) (show k9 + 0 + 0 ≤ _ by omega) (show n9 + 0 + 0 ≤ _ by omega) ?_
  exact kk
set_option maxHeartbeats 4000000 in
set_option maxRecDepth 100000 in
theorem aL_queries (l : Launch) (hl : l.stackTraces = false) (ao : Nat) (K : zK) (ax : Nat) (zn : Nat) (sa : Nat) (la : Nat) (tr : Nat) (tc : Nat) (X : Nat → Int32) (am : Nat → Nat) (I : Nat → Int32) (R : Nat → Nat → Int32) (rs : va_W) (hr : (fX4_queries X) = ((fX5_queries I R).1)) {p : Program} {e : Env} {s : State} {m : MethodId} {below : List Frame} {meth : Method} {c : Code} {A : Nat → Prop} {Q : State → Prop} {ret9 : Option FieldType} {nm9 : String} {tb9 : List ExceptionTableEntry} {args : Array Value} {b L ii k9 n9 : Nat} {xs : Nat → Int32} (B : zF K p l s m args meth c A cL_law 7 RL nm9 wsL_law ret9 tb9) (hX : va_X b L xs s s.heap) (hbl : b < s.heap.size) (hbA : ¬ A b) (hk9 : k9 + 16 ≤ 601024) (hn9 : n9 + 512 ≤ 7293034)
    (kk : zW K p l e zR s m args below meth c A Q (k9 + 16) (n9 + 512) [zXo ax zn sa la tr tc X, zMo K am ((fX5_queries I R).2) R, rs] [(0, .ref b), (1, .ref ax), (2, .ref (am 0)), (3, .ref ao), (4, .int (nI ii))] [] 1428) : zW K p l e zR s m args below meth c A Q k9 n9 [zXo ax zn sa la tr tc X, zMo K am I R, rs] [(0, .ref b), (1, .ref ax), (2, .ref (am 0)), (3, .ref ao), (4, .int (nI ii))] [] 1363 := by
  refine z_aload_n B dL_law_1363 1 rfl ?_
  refine z_V1 B (kX4_queries l hl K ax zn sa la tr tc X) [0] [1, 2] (br := [zMo K am I R, rs]) (bs' := [zXo ax zn sa la tr tc X, zMo K am I R, rs]) (st := []) (nA := 0) (zsp rfl rfl rfl) (zsp rfl rfl rfl) 0 0 rfl rfl rfl rfl gL_law_X4_queries rfl (by decide +kernel) ⟨Nat.le_of_ble_eq_true rfl, Nat.le_of_ble_eq_true rfl⟩ rfl rfl (Nat.le_of_ble_eq_true rfl) ⟨(show k9 + 0 ≤ 601024 by omega), (show n9 + 0 ≤ 7293034 by omega)⟩ dL_law_1364 z_noX (fun _ => ?_)
  refine z_aload_n B dL_law_1367 2 rfl ?_
  refine z_V1 B (kX5_queries l hl K am I R) [1] [0, 2] (br := [zXo ax zn sa la tr tc X, rs]) (bs' := [zXo ax zn sa la tr tc X, zMo K am ((fX5_queries I R).2) R, rs]) (st := [.int (fX4_queries X)]) (nA := 0) (zsp rfl rfl rfl) (zsp rfl rfl rfl) 1 0 rfl rfl rfl rfl gL_law_X5_queries rfl (by decide +kernel) ⟨Nat.le_of_ble_eq_true rfl, Nat.le_of_ble_eq_true rfl⟩ rfl rfl (Nat.le_of_ble_eq_true rfl) ⟨(show k9 + 0 + 0 ≤ 601024 by omega), (show n9 + 0 + 0 ≤ 7293034 by omega)⟩ dL_law_1368 z_noX (fun _ => ?_)
  refine z_iceq B 1428 dL_law_1371 (by decide) (fun _ => ?_) (fun h => absurd hr h)
  refine z_lsub [0, 1, 2, 3, 4] rfl ?_
  refine z_widen (k' := k9 + 16) (n' := n9 + 512) (show k9 + 0 + 0 ≤ _ by omega) (show n9 + 0 + 0 ≤ _ by omega) ?_
  exact kk
set_option maxHeartbeats 4000000 in
set_option maxRecDepth 100000 in
theorem aL_fetches (l : Launch) (hl : l.stackTraces = false) (ao : Nat) (K : zK) (ax : Nat) (zn : Nat) (sa : Nat) (la : Nat) (tr : Nat) (tc : Nat) (X : Nat → Int32) (am : Nat → Nat) (I : Nat → Int32) (R : Nat → Nat → Int32) (rs : va_W) (hr : (fX4_fetches X) = ((fX5_fetches I R).1)) {p : Program} {e : Env} {s : State} {m : MethodId} {below : List Frame} {meth : Method} {c : Code} {A : Nat → Prop} {Q : State → Prop} {ret9 : Option FieldType} {nm9 : String} {tb9 : List ExceptionTableEntry} {args : Array Value} {b L ii k9 n9 : Nat} {xs : Nat → Int32} (B : zF K p l s m args meth c A cL_law 7 RL nm9 wsL_law ret9 tb9) (hX : va_X b L xs s s.heap) (hbl : b < s.heap.size) (hbA : ¬ A b) (hk9 : k9 + 16 ≤ 601024) (hn9 : n9 + 512 ≤ 7293034)
    (kk : zW K p l e zR s m args below meth c A Q (k9 + 16) (n9 + 512) [zXo ax zn sa la tr tc X, zMo K am ((fX5_fetches I R).2) R, rs] [(0, .ref b), (1, .ref ax), (2, .ref (am 0)), (3, .ref ao), (4, .int (nI ii))] [] 1428) : zW K p l e zR s m args below meth c A Q k9 n9 [zXo ax zn sa la tr tc X, zMo K am I R, rs] [(0, .ref b), (1, .ref ax), (2, .ref (am 0)), (3, .ref ao), (4, .int (nI ii))] [] 1376 := by
  refine z_aload_n B dL_law_1376 1 rfl ?_
  refine z_V1 B (kX4_fetches l hl K ax zn sa la tr tc X) [0] [1, 2] (br := [zMo K am I R, rs]) (bs' := [zXo ax zn sa la tr tc X, zMo K am I R, rs]) (st := []) (nA := 0) (zsp rfl rfl rfl) (zsp rfl rfl rfl) 0 0 rfl rfl rfl rfl gL_law_X4_fetches rfl (by decide +kernel) ⟨Nat.le_of_ble_eq_true rfl, Nat.le_of_ble_eq_true rfl⟩ rfl rfl (Nat.le_of_ble_eq_true rfl) ⟨(show k9 + 0 ≤ 601024 by omega), (show n9 + 0 ≤ 7293034 by omega)⟩ dL_law_1377 z_noX (fun _ => ?_)
  refine z_aload_n B dL_law_1380 2 rfl ?_
  refine z_V1 B (kX5_fetches l hl K am I R) [1] [0, 2] (br := [zXo ax zn sa la tr tc X, rs]) (bs' := [zXo ax zn sa la tr tc X, zMo K am ((fX5_fetches I R).2) R, rs]) (st := [.int (fX4_fetches X)]) (nA := 0) (zsp rfl rfl rfl) (zsp rfl rfl rfl) 1 0 rfl rfl rfl rfl gL_law_X5_fetches rfl (by decide +kernel) ⟨Nat.le_of_ble_eq_true rfl, Nat.le_of_ble_eq_true rfl⟩ rfl rfl (Nat.le_of_ble_eq_true rfl) ⟨(show k9 + 0 + 0 ≤ 601024 by omega), (show n9 + 0 + 0 ≤ 7293034 by omega)⟩ dL_law_1381 z_noX (fun _ => ?_)
  refine z_iceq B 1428 dL_law_1384 (by decide) (fun _ => ?_) (fun h => absurd hr h)
  refine z_lsub [0, 1, 2, 3, 4] rfl ?_
  refine z_widen (k' := k9 + 16) (n' := n9 + 512) (show k9 + 0 + 0 ≤ _ by omega) (show n9 + 0 + 0 ≤ _ by omega) ?_
  exact kk
set_option maxHeartbeats 4000000 in
set_option maxRecDepth 100000 in
theorem aL_prefetches (l : Launch) (hl : l.stackTraces = false) (ao : Nat) (K : zK) (ax : Nat) (zn : Nat) (sa : Nat) (la : Nat) (tr : Nat) (tc : Nat) (X : Nat → Int32) (am : Nat → Nat) (I : Nat → Int32) (R : Nat → Nat → Int32) (rs : va_W) (hr : (fX4_prefetches X) = ((fX5_prefetches I R).1)) {p : Program} {e : Env} {s : State} {m : MethodId} {below : List Frame} {meth : Method} {c : Code} {A : Nat → Prop} {Q : State → Prop} {ret9 : Option FieldType} {nm9 : String} {tb9 : List ExceptionTableEntry} {args : Array Value} {b L ii k9 n9 : Nat} {xs : Nat → Int32} (B : zF K p l s m args meth c A cL_law 7 RL nm9 wsL_law ret9 tb9) (hX : va_X b L xs s s.heap) (hbl : b < s.heap.size) (hbA : ¬ A b) (hk9 : k9 + 16 ≤ 601024) (hn9 : n9 + 512 ≤ 7293034)
    (kk : zW K p l e zR s m args below meth c A Q (k9 + 16) (n9 + 512) [zXo ax zn sa la tr tc X, zMo K am ((fX5_prefetches I R).2) R, rs] [(0, .ref b), (1, .ref ax), (2, .ref (am 0)), (3, .ref ao), (4, .int (nI ii))] [] 1428) : zW K p l e zR s m args below meth c A Q k9 n9 [zXo ax zn sa la tr tc X, zMo K am I R, rs] [(0, .ref b), (1, .ref ax), (2, .ref (am 0)), (3, .ref ao), (4, .int (nI ii))] [] 1389 := by
  refine z_aload_n B dL_law_1389 1 rfl ?_
  refine z_V1 B (kX4_prefetches l hl K ax zn sa la tr tc X) [0] [1, 2] (br := [zMo K am I R, rs]) (bs' := [zXo ax zn sa la tr tc X, zMo K am I R, rs]) (st := []) (nA := 0) (zsp rfl rfl rfl) (zsp rfl rfl rfl) 0 0 rfl rfl rfl rfl gL_law_X4_prefetches rfl (by decide +kernel) ⟨Nat.le_of_ble_eq_true rfl, Nat.le_of_ble_eq_true rfl⟩ rfl rfl (Nat.le_of_ble_eq_true rfl) ⟨(show k9 + 0 ≤ 601024 by omega), (show n9 + 0 ≤ 7293034 by omega)⟩ dL_law_1390 z_noX (fun _ => ?_)
  refine z_aload_n B dL_law_1393 2 rfl ?_
  refine z_V1 B (kX5_prefetches l hl K am I R) [1] [0, 2] (br := [zXo ax zn sa la tr tc X, rs]) (bs' := [zXo ax zn sa la tr tc X, zMo K am ((fX5_prefetches I R).2) R, rs]) (st := [.int (fX4_prefetches X)]) (nA := 0) (zsp rfl rfl rfl) (zsp rfl rfl rfl) 1 0 rfl rfl rfl rfl gL_law_X5_prefetches rfl (by decide +kernel) ⟨Nat.le_of_ble_eq_true rfl, Nat.le_of_ble_eq_true rfl⟩ rfl rfl (Nat.le_of_ble_eq_true rfl) ⟨(show k9 + 0 + 0 ≤ 601024 by omega), (show n9 + 0 + 0 ≤ 7293034 by omega)⟩ dL_law_1394 z_noX (fun _ => ?_)
  refine z_iceq B 1428 dL_law_1397 (by decide) (fun _ => ?_) (fun h => absurd hr h)
  refine z_lsub [0, 1, 2, 3, 4] rfl ?_
  refine z_widen (k' := k9 + 16) (n' := n9 + 512) (show k9 + 0 + 0 ≤ _ by omega) (show n9 + 0 + 0 ≤ _ by omega) ?_
  exact kk
set_option maxHeartbeats 4000000 in
set_option maxRecDepth 100000 in
theorem aL_staleAnswers (l : Launch) (hl : l.stackTraces = false) (ao : Nat) (K : zK) (ax : Nat) (zn : Nat) (sa : Nat) (la : Nat) (tr : Nat) (tc : Nat) (X : Nat → Int32) (am : Nat → Nat) (I : Nat → Int32) (R : Nat → Nat → Int32) (rs : va_W) (hr : (fX4_staleAnswers X) = ((fX5_staleAnswers I R).1)) {p : Program} {e : Env} {s : State} {m : MethodId} {below : List Frame} {meth : Method} {c : Code} {A : Nat → Prop} {Q : State → Prop} {ret9 : Option FieldType} {nm9 : String} {tb9 : List ExceptionTableEntry} {args : Array Value} {b L ii k9 n9 : Nat} {xs : Nat → Int32} (B : zF K p l s m args meth c A cL_law 7 RL nm9 wsL_law ret9 tb9) (hX : va_X b L xs s s.heap) (hbl : b < s.heap.size) (hbA : ¬ A b) (hk9 : k9 + 16 ≤ 601024) (hn9 : n9 + 512 ≤ 7293034)
    (kk : zW K p l e zR s m args below meth c A Q (k9 + 16) (n9 + 512) [zXo ax zn sa la tr tc X, zMo K am ((fX5_staleAnswers I R).2) R, rs] [(0, .ref b), (1, .ref ax), (2, .ref (am 0)), (3, .ref ao), (4, .int (nI ii))] [] 1428) : zW K p l e zR s m args below meth c A Q k9 n9 [zXo ax zn sa la tr tc X, zMo K am I R, rs] [(0, .ref b), (1, .ref ax), (2, .ref (am 0)), (3, .ref ao), (4, .int (nI ii))] [] 1402 := by
  refine z_aload_n B dL_law_1402 1 rfl ?_
  refine z_V1 B (kX4_staleAnswers l hl K ax zn sa la tr tc X) [0] [1, 2] (br := [zMo K am I R, rs]) (bs' := [zXo ax zn sa la tr tc X, zMo K am I R, rs]) (st := []) (nA := 0) (zsp rfl rfl rfl) (zsp rfl rfl rfl) 0 0 rfl rfl rfl rfl gL_law_X4_staleAnswers rfl (by decide +kernel) ⟨Nat.le_of_ble_eq_true rfl, Nat.le_of_ble_eq_true rfl⟩ rfl rfl (Nat.le_of_ble_eq_true rfl) ⟨(show k9 + 0 ≤ 601024 by omega), (show n9 + 0 ≤ 7293034 by omega)⟩ dL_law_1403 z_noX (fun _ => ?_)
  refine z_aload_n B dL_law_1406 2 rfl ?_
  refine z_V1 B (kX5_staleAnswers l hl K am I R) [1] [0, 2] (br := [zXo ax zn sa la tr tc X, rs]) (bs' := [zXo ax zn sa la tr tc X, zMo K am ((fX5_staleAnswers I R).2) R, rs]) (st := [.int (fX4_staleAnswers X)]) (nA := 0) (zsp rfl rfl rfl) (zsp rfl rfl rfl) 1 0 rfl rfl rfl rfl gL_law_X5_staleAnswers rfl (by decide +kernel) ⟨Nat.le_of_ble_eq_true rfl, Nat.le_of_ble_eq_true rfl⟩ rfl rfl (Nat.le_of_ble_eq_true rfl) ⟨(show k9 + 0 + 0 ≤ 601024 by omega), (show n9 + 0 + 0 ≤ 7293034 by omega)⟩ dL_law_1407 z_noX (fun _ => ?_)
  refine z_iceq B 1428 dL_law_1410 (by decide) (fun _ => ?_) (fun h => absurd hr h)
  refine z_lsub [0, 1, 2, 3, 4] rfl ?_
  refine z_widen (k' := k9 + 16) (n' := n9 + 512) (show k9 + 0 + 0 ≤ _ by omega) (show n9 + 0 + 0 ≤ _ by omega) ?_
  exact kk
set_option maxHeartbeats 4000000 in
set_option maxRecDepth 100000 in
theorem aL_failures (l : Launch) (hl : l.stackTraces = false) (ao : Nat) (K : zK) (ax : Nat) (zn : Nat) (sa : Nat) (la : Nat) (tr : Nat) (tc : Nat) (X : Nat → Int32) (am : Nat → Nat) (I : Nat → Int32) (R : Nat → Nat → Int32) (rs : va_W) (hr : (fX4_failures X) = ((fX5_failures I R).1)) {p : Program} {e : Env} {s : State} {m : MethodId} {below : List Frame} {meth : Method} {c : Code} {A : Nat → Prop} {Q : State → Prop} {ret9 : Option FieldType} {nm9 : String} {tb9 : List ExceptionTableEntry} {args : Array Value} {b L ii k9 n9 : Nat} {xs : Nat → Int32} (B : zF K p l s m args meth c A cL_law 7 RL nm9 wsL_law ret9 tb9) (hX : va_X b L xs s s.heap) (hbl : b < s.heap.size) (hbA : ¬ A b) (hk9 : k9 + 16 ≤ 601024) (hn9 : n9 + 512 ≤ 7293034)
    (kk : zW K p l e zR s m args below meth c A Q (k9 + 16) (n9 + 512) [zXo ax zn sa la tr tc X, zMo K am ((fX5_failures I R).2) R, rs] [(0, .ref b), (1, .ref ax), (2, .ref (am 0)), (3, .ref ao), (4, .int (nI ii))] [] 1428) : zW K p l e zR s m args below meth c A Q k9 n9 [zXo ax zn sa la tr tc X, zMo K am I R, rs] [(0, .ref b), (1, .ref ax), (2, .ref (am 0)), (3, .ref ao), (4, .int (nI ii))] [] 1415 := by
  refine z_aload_n B dL_law_1415 1 rfl ?_
  refine z_V1 B (kX4_failures l hl K ax zn sa la tr tc X) [0] [1, 2] (br := [zMo K am I R, rs]) (bs' := [zXo ax zn sa la tr tc X, zMo K am I R, rs]) (st := []) (nA := 0) (zsp rfl rfl rfl) (zsp rfl rfl rfl) 0 0 rfl rfl rfl rfl gL_law_X4_failures rfl (by decide +kernel) ⟨Nat.le_of_ble_eq_true rfl, Nat.le_of_ble_eq_true rfl⟩ rfl rfl (Nat.le_of_ble_eq_true rfl) ⟨(show k9 + 0 ≤ 601024 by omega), (show n9 + 0 ≤ 7293034 by omega)⟩ dL_law_1416 z_noX (fun _ => ?_)
  refine z_aload_n B dL_law_1419 2 rfl ?_
  refine z_V1 B (kX5_failures l hl K am I R) [1] [0, 2] (br := [zXo ax zn sa la tr tc X, rs]) (bs' := [zXo ax zn sa la tr tc X, zMo K am ((fX5_failures I R).2) R, rs]) (st := [.int (fX4_failures X)]) (nA := 0) (zsp rfl rfl rfl) (zsp rfl rfl rfl) 1 0 rfl rfl rfl rfl gL_law_X5_failures rfl (by decide +kernel) ⟨Nat.le_of_ble_eq_true rfl, Nat.le_of_ble_eq_true rfl⟩ rfl rfl (Nat.le_of_ble_eq_true rfl) ⟨(show k9 + 0 + 0 ≤ 601024 by omega), (show n9 + 0 + 0 ≤ 7293034 by omega)⟩ dL_law_1420 z_noX (fun _ => ?_)
  refine z_iceq B 1428 dL_law_1423 (by decide) (fun _ => ?_) (fun h => absurd hr h)
  refine z_lsub [0, 1, 2, 3, 4] rfl ?_
  refine z_widen (k' := k9 + 16) (n' := n9 + 512) (show k9 + 0 + 0 ≤ _ by omega) (show n9 + 0 + 0 ≤ _ by omega) ?_
  exact kk
set_option maxHeartbeats 4000000 in
set_option maxRecDepth 100000 in
theorem aL_setAuthority_0 (l : Launch) (hl : l.stackTraces = false) (ao : Nat) (K : zK) (ax : Nat) (az : Nat → Nat) (sa : Nat) (la : Nat) (tr : Nat) (tc : Nat) (X : Nat → Int32) (Z : Nat → Nat → Int32) (W : Nat → Int32) (am : Nat → Nat) (I : Nat → Int32) (R : Nat → Nat → Int32) (y1 : Int32) (hy1 : y1 = 0) (hW4 : (W 4) = 0 ∨ (W 4) = 1) (h4 : (I 4) = 0 ∨ (I 4) = 1) (rs : va_W) (hr : ((fX4_setAuthority X Z W 0).1) = ((fX5_setAuthority I R 0).1)) {p : Program} {e : Env} {s : State} {m : MethodId} {below : List Frame} {meth : Method} {c : Code} {A : Nat → Prop} {Q : State → Prop} {ret9 : Option FieldType} {nm9 : String} {tb9 : List ExceptionTableEntry} {args : Array Value} {b L ii k9 n9 : Nat} {xs : Nat → Int32} (B : zF K p l s m args meth c A cL_law 7 RL nm9 wsL_law ret9 tb9) (hX : va_X b L xs s s.heap) (hbl : b < s.heap.size) (hbA : ¬ A b) (hi1 : vp_in (nI ii + 1) L) (hv1 : xs (nI ii + 1).toNatClampNeg = y1) (hk9 : k9 + 16 ≤ 601024) (hn9 : n9 + 512 ≤ 7293034)
    (kk : zW K p l e zR s m args below meth c A Q (k9 + 16) (n9 + 512) [zXo ax (az 0) sa la tr tc X, zZo K az Z ((fX4_setAuthority X Z W 0).2), zMo K am ((fX5_setAuthority I R 0).2) R, rs] [(0, .ref b), (1, .ref ax), (2, .ref (am 0)), (3, .ref ao), (4, .int (nI ii))] [] 1428) : zW K p l e zR s m args below meth c A Q k9 n9 [zXo ax (az 0) sa la tr tc X, zZo K az Z W, zMo K am I R, rs] [(0, .ref b), (1, .ref ax), (2, .ref (am 0)), (3, .ref ao), (4, .int (nI ii))] [] 403 := by
  refine z_aload_n B dL_law_403 1 rfl ?_
  refine z_aload_n B dL_law_404 0 rfl ?_
  refine z_iload B dL_law_405 4 rfl ?_
  refine z_iconst B (v := 1) dL_law_407 rfl ?_
  refine z_iadd B dL_law_408 ?_
  refine z_sld B hX hbl hbA hi1 hv1 dL_law_409 ?_
  refine z_ifeq B 417 dL_law_410 (by decide) (fun _ => ?_) (fun h => absurd hy1 h)
  refine z_iconst B (v := 0) dL_law_417 rfl ?_
  refine z_V1 B (kX4_setAuthority l hl K ax az sa la tr tc X Z W 0 (Or.inl rfl) hW4) [0, 1] [2, 3] (br := [zMo K am I R, rs]) (bs' := [zXo ax (az 0) sa la tr tc X, zZo K az Z ((fX4_setAuthority X Z W 0).2), zMo K am I R, rs]) (st := []) (nA := 1) (zsp rfl rfl rfl) (zsp rfl rfl rfl) 0 0 rfl rfl rfl rfl gL_law_X4_setAuthority rfl (by decide +kernel) ⟨Nat.le_of_ble_eq_true rfl, Nat.le_of_ble_eq_true rfl⟩ rfl rfl (Nat.le_of_ble_eq_true rfl) ⟨(show k9 + 0 ≤ 601024 by omega), (show n9 + 0 ≤ 7293034 by omega)⟩ dL_law_418 z_noX (fun _ => ?_)
  refine z_aload_n B dL_law_421 2 rfl ?_
  refine z_aload_n B dL_law_422 0 rfl ?_
  refine z_iload B dL_law_423 4 rfl ?_
  refine z_iconst B (v := 1) dL_law_425 rfl ?_
  refine z_iadd B dL_law_426 ?_
  refine z_sld B hX hbl hbA hi1 hv1 dL_law_427 ?_
  refine z_ifeq B 435 dL_law_428 (by decide) (fun _ => ?_) (fun h => absurd hy1 h)
  refine z_iconst B (v := 0) dL_law_435 rfl ?_
  refine z_V1 B (kX5_setAuthority l hl K am I R 0 (Or.inl rfl) h4) [2] [0, 1, 3] (br := [zXo ax (az 0) sa la tr tc X, zZo K az Z ((fX4_setAuthority X Z W 0).2), rs]) (bs' := [zXo ax (az 0) sa la tr tc X, zZo K az Z ((fX4_setAuthority X Z W 0).2), zMo K am ((fX5_setAuthority I R 0).2) R, rs]) (st := [.int ((fX4_setAuthority X Z W 0).1)]) (nA := 1) (zsp rfl rfl rfl) (zsp rfl rfl rfl) 2 0 rfl rfl rfl rfl gL_law_X5_setAuthority rfl (by decide +kernel) ⟨Nat.le_of_ble_eq_true rfl, Nat.le_of_ble_eq_true rfl⟩ rfl rfl (Nat.le_of_ble_eq_true rfl) ⟨(show k9 + 0 + 0 ≤ 601024 by omega), (show n9 + 0 + 0 ≤ 7293034 by omega)⟩ dL_law_436 z_noX (fun _ => ?_)
  refine z_iceq B 1428 dL_law_439 (by decide) (fun _ => ?_) (fun h => absurd hr h)
  refine z_lsub [0, 1, 2, 3, 4] rfl ?_
  refine z_widen (k' := k9 + 16) (n' := n9 + 512) (show k9 + 0 + 0 ≤ _ by omega) (show n9 + 0 + 0 ≤ _ by omega) ?_
  exact kk
set_option maxHeartbeats 4000000 in
set_option maxRecDepth 100000 in
theorem aL_announce_h0 (l : Launch) (hl : l.stackTraces = false) (K : zK) (ax : Nat) (zn : Nat) (sa : Nat) (la : Nat) (tr : Nat) (tc : Nat) (X : Nat → Int32) (f : Nat → Option Nat) (n : Nat) (so : Nat → Nat) (sc : Nat → Nat → Nat) (D : Nat → Nat → Int32) (i : Nat) (ao : Nat) (g : Nat → Int64) (am : Nat → Nat) (I : Nat → Int32) (R : Nat → Nat → Int32) (y2 : Int32) (hy2 : y2 = 0) (hi4 : i < 4) (hi : i < n) (hfi : f (nI i).toNatClampNeg = some (so i)) (hD3 : (D i 3) = 0 ∨ (D i 3) = 1) (h5 : ¬ (I 5) < 0) (h6 : (I 5).toNatClampNeg ≤ 4) (hon : ∀ i, (R 5) i = 0 ∨ (R 5) i = 1) (rs : va_W) (hr : rB ((fL_announce_h D i 0 g).1) ((fL_announce_h D i 0 g).2.2) ((fX5_announce I R (nI i) 0).2.1) ((fX5_announce I R (nI i) 0).1)) {p : Program} {e : Env} {s : State} {m : MethodId} {below : List Frame} {meth : Method} {c : Code} {A : Nat → Prop} {Q : State → Prop} {ret9 : Option FieldType} {nm9 : String} {tb9 : List ExceptionTableEntry} {args : Array Value} {b L ii k9 n9 : Nat} {xs : Nat → Int32} (B : zF K p l s m args meth c A cL_law 7 RL nm9 wsL_law ret9 tb9) (hX : va_X b L xs s s.heap) (hbl : b < s.heap.size) (hbA : ¬ A b) (hi1 : vp_in (nI ii + 1) L) (hv1 : xs (nI ii + 1).toNatClampNeg = (nI i)) (hi2 : vp_in (nI ii + 2) L) (hv2 : xs (nI ii + 2).toNatClampNeg = y2) (hk9 : k9 + 16 ≤ 601024) (hn9 : n9 + 512 ≤ 7293034)
    (kk : zW K p l e zR s m args below meth c A Q (k9 + 16) (n9 + 512) [zXo ax zn sa la tr tc X, zSa K sa f, zSO n so sc ((fL_announce_h D i 0 g).2.1), zOu K ao ((fL_announce_h D i 0 g).2.2), zMo K am ((fX5_announce I R (nI i) 0).2.1) ((fX5_announce I R (nI i) 0).2.2), rs] [(0, .ref b), (1, .ref ax), (2, .ref (am 0)), (3, .ref ao), (4, .int (nI ii))] [] 1428) : zW K p l e zR s m args below meth c A Q k9 n9 [zXo ax zn sa la tr tc X, zSa K sa f, zSO n so sc D, zOu K ao g, zMo K am I R, rs] [(0, .ref b), (1, .ref ax), (2, .ref (am 0)), (3, .ref ao), (4, .int (nI ii))] [] 556 := by
  refine z_aload_n B dL_law_556 1 rfl ?_
  refine z_aload_n B dL_law_557 0 rfl ?_
  refine z_iload B dL_law_558 4 rfl ?_
  refine z_iconst B (v := 1) dL_law_560 rfl ?_
  refine z_iadd B dL_law_561 ?_
  refine z_sld B hX hbl hbA hi1 hv1 dL_law_562 ?_
  refine z_aload_n B dL_law_563 0 rfl ?_
  refine z_iload B dL_law_564 4 rfl ?_
  refine z_iconst B (v := 2) dL_law_566 rfl ?_
  refine z_iadd B dL_law_567 ?_
  refine z_sld B hX hbl hbA hi2 hv2 dL_law_568 ?_
  refine z_ifeq B 576 dL_law_569 (by decide) (fun _ => ?_) (fun h => absurd hy2 h)
  refine z_iconst B (v := 0) dL_law_576 rfl ?_
  refine z_aload_n B dL_law_577 3 rfl ?_
  refine z_H1 B (kL_announce_h l hl K ax zn sa la tr tc X f n so sc D i 0 ao g hi4 hi hfi (Or.inl rfl) hD3) [0, 1, 2, 3] [4, 5] (br := [zMo K am I R, rs]) (bs' := [zXo ax zn sa la tr tc X, zSa K sa f, zSO n so sc ((fL_announce_h D i 0 g).2.1), zOu K ao ((fL_announce_h D i 0 g).2.2), zMo K am I R, rs]) (st := []) (nA := 4) (zsp rfl rfl rfl) (zsp rfl rfl rfl) gL_law_L_announce rfl (by decide +kernel) ⟨Nat.le_of_ble_eq_true rfl, Nat.le_of_ble_eq_true rfl⟩ rfl rfl (Nat.le_of_ble_eq_true rfl) ⟨(show k9 + 0 ≤ 601024 by omega), (show n9 + 0 ≤ 7293034 by omega)⟩ dL_law_578 z_noX (fun _ => ?_)
  refine z_istore B (lv' := [(5, .int ((fL_announce_h D i 0 g).1)), (0, .ref b), (1, .ref ax), (2, .ref (am 0)), (3, .ref ao), (4, .int (nI ii))]) dL_law_581 (by decide) rfl ?_
  refine z_aload_n B dL_law_583 3 rfl ?_
  refine z_aload_n B dL_law_584 1 rfl ?_
  refine z_iload B dL_law_585 5 rfl ?_
  refine z_iconst B (v := 1) dL_law_587 rfl ?_
  refine z_iadd B dL_law_588 ?_
  refine z_sld B hX hbl hbA hi1 hv1 dL_law_589 ?_
  refine z_aload_n B dL_law_590 1 rfl ?_
  refine z_iload B dL_law_591 5 rfl ?_
  refine z_iconst B (v := 2) dL_law_593 rfl ?_
  refine z_iadd B dL_law_594 ?_
  refine z_sld B hX hbl hbA hi2 hv2 dL_law_595 ?_
  refine z_ifeq B 603 dL_law_596 (by decide) (fun _ => ?_) (fun h => absurd hy2 h)
  refine z_iconst B (v := 0) dL_law_603 rfl ?_
  refine z_V1 B (kX5_announce l hl K am I R (nI i) 0 (Or.inl rfl) h5 h6 hon) [4] [0, 1, 2, 3, 5] (br := [zXo ax zn sa la tr tc X, zSa K sa f, zSO n so sc ((fL_announce_h D i 0 g).2.1), zOu K ao ((fL_announce_h D i 0 g).2.2), rs]) (bs' := [zXo ax zn sa la tr tc X, zSa K sa f, zSO n so sc ((fL_announce_h D i 0 g).2.1), zOu K ao ((fL_announce_h D i 0 g).2.2), zMo K am ((fX5_announce I R (nI i) 0).2.1) ((fX5_announce I R (nI i) 0).2.2), rs]) (st := []) (nA := 2) (zsp rfl rfl rfl) (zsp rfl rfl rfl) 4 0 rfl rfl rfl rfl gL_law_X5_announce rfl (by decide +kernel) ⟨Nat.le_of_ble_eq_true rfl, Nat.le_of_ble_eq_true rfl⟩ rfl rfl (Nat.le_of_ble_eq_true rfl) ⟨(show k9 + 0 + 0 ≤ 601024 by omega), (show n9 + 0 + 0 ≤ 7293034 by omega)⟩ dL_law_604 z_noX (fun _ => ?_)
  refine z_istore B (lv' := [(6, .int ((fX5_announce I R (nI i) 0).1)), (5, .int ((fL_announce_h D i 0 g).1)), (0, .ref b), (1, .ref ax), (2, .ref (am 0)), (3, .ref ao), (4, .int (nI ii))]) dL_law_607 (by decide) rfl ?_
  refine z_aload_n B dL_law_609 4 rfl ?_
  refine z_V1 B (kX5_thrown l hl K am ((fX5_announce I R (nI i) 0).2.1) ((fX5_announce I R (nI i) 0).2.2)) [4] [0, 1, 2, 3, 5] (br := [zXo ax zn sa la tr tc X, zSa K sa f, zSO n so sc ((fL_announce_h D i 0 g).2.1), zOu K ao ((fL_announce_h D i 0 g).2.2), rs]) (bs' := [zXo ax zn sa la tr tc X, zSa K sa f, zSO n so sc ((fL_announce_h D i 0 g).2.1), zOu K ao ((fL_announce_h D i 0 g).2.2), zMo K am ((fX5_announce I R (nI i) 0).2.1) ((fX5_announce I R (nI i) 0).2.2), rs]) (st := []) (nA := 0) (zsp rfl rfl rfl) (zsp rfl rfl rfl) 4 0 rfl rfl rfl rfl gL_law_X5_thrown rfl (by decide +kernel) ⟨Nat.le_of_ble_eq_true rfl, Nat.le_of_ble_eq_true rfl⟩ rfl rfl (Nat.le_of_ble_eq_true rfl) ⟨(show k9 + 0 + 0 + 0 ≤ 601024 by omega), (show n9 + 0 + 0 + 0 ≤ 7293034 by omega)⟩ dL_law_610 z_noX (fun _ => ?_)
  refine z_iload B dL_law_613 1 rfl ?_
  refine z_iceq B 620 dL_law_615 (by decide) (fun _ => ?_) (fun h => absurd hr.1 h)
  refine z_iload B dL_law_620 1 rfl ?_
  refine z_ifne B 644 dL_law_622 (by decide) (fun c1 => ?_) (fun c1 => ?_)
  · refine z_aload_n B dL_law_625 5 rfl ?_
    refine z_iconst B (v := 0) dL_law_626 rfl ?_
    refine z_lald B (N := 1) (f := ((fL_announce_h D i 0 g).2.2)) 3 0 rfl rfl (z_vpc (k := 0) rfl (by decide)) dL_law_627 ?_
    refine z_iload B dL_law_628 0 rfl ?_
    refine z_ifeq B 637 dL_law_630 (by decide) (fun c2 => ?_) (fun c2 => ?_)
    · refine z_lconst B (v := 0) dL_law_637 rfl ?_
      refine z_lcmp B dL_law_638 ?_
      refine z_ifeq B 644 dL_law_639 (by decide) (fun _ => ?_) (fun h => absurd (z_cz ((hr.2 c1).1 c2)) h)
      refine z_goto B (tgt := 1428) dL_law_644 (by decide) ?_
      refine z_lsub [2, 3, 4, 5, 6] rfl ?_
      refine z_widen (k' := k9 + 16) (n' := n9 + 512) (show k9 + 0 + 0 + 0 ≤ _ by omega) (show n9 + 0 + 0 + 0 ≤ _ by omega) ?_
      exact kk
    · refine z_lconst B (v := 1) dL_law_633 rfl ?_
      refine z_goto B (tgt := 638) dL_law_634 (by decide) ?_
      refine z_lcmp B dL_law_638 ?_
      refine z_ifeq B 644 dL_law_639 (by decide) (fun _ => ?_) (fun h => absurd (z_cz ((hr.2 c1).2 c2)) h)
      refine z_goto B (tgt := 1428) dL_law_644 (by decide) ?_
      refine z_lsub [2, 3, 4, 5, 6] rfl ?_
      refine z_widen (k' := k9 + 16) (n' := n9 + 512) (show k9 + 0 + 0 + 0 ≤ _ by omega) (show n9 + 0 + 0 + 0 ≤ _ by omega) ?_
      exact kk
  · refine z_goto B (tgt := 1428) dL_law_644 (by decide) ?_
    refine z_lsub [2, 3, 4, 5, 6] rfl ?_
    refine z_widen (k' := k9 + 16) (n' := n9 + 512) (show k9 + 0 + 0 + 0 ≤ _ by omega) (show n9 + 0 + 0 + 0 ≤ _ by omega) ?_
    exact kk
set_option maxHeartbeats 4000000 in
set_option maxRecDepth 100000 in
theorem aL_announce_m0 (l : Launch) (hl : l.stackTraces = false) (K : zK) (ax : Nat) (zn : Nat) (sa : Nat) (la : Nat) (tr : Nat) (tc : Nat) (X : Nat → Int32) (f : Nat → Option Nat) (x1 : Int32) (ao : Nat) (g : Nat → Int64) (am : Nat → Nat) (I : Nat → Int32) (R : Nat → Nat → Int32) (y2 : Int32) (hy2 : y2 = 0) (hfn : x1 < 4 → ¬ x1 < 0 → f x1.toNatClampNeg = none) (h5 : ¬ (I 5) < 0) (h6 : (I 5).toNatClampNeg ≤ 4) (hon : ∀ i, (R 5) i = 0 ∨ (R 5) i = 1) (rs : va_W) (hr : rB (fL_announce_m x1 0 g) g ((fX5_announce I R x1 0).2.1) ((fX5_announce I R x1 0).1)) {p : Program} {e : Env} {s : State} {m : MethodId} {below : List Frame} {meth : Method} {c : Code} {A : Nat → Prop} {Q : State → Prop} {ret9 : Option FieldType} {nm9 : String} {tb9 : List ExceptionTableEntry} {args : Array Value} {b L ii k9 n9 : Nat} {xs : Nat → Int32} (B : zF K p l s m args meth c A cL_law 7 RL nm9 wsL_law ret9 tb9) (hX : va_X b L xs s s.heap) (hbl : b < s.heap.size) (hbA : ¬ A b) (hi1 : vp_in (nI ii + 1) L) (hv1 : xs (nI ii + 1).toNatClampNeg = x1) (hi2 : vp_in (nI ii + 2) L) (hv2 : xs (nI ii + 2).toNatClampNeg = y2) (hk9 : k9 + 16 ≤ 601024) (hn9 : n9 + 512 ≤ 7293034)
    (kk : zW K p l e zR s m args below meth c A Q (k9 + 16) (n9 + 512) [zXo ax zn sa la tr tc X, zSa K sa f, zOu K ao g, zMo K am ((fX5_announce I R x1 0).2.1) ((fX5_announce I R x1 0).2.2), rs] [(0, .ref b), (1, .ref ax), (2, .ref (am 0)), (3, .ref ao), (4, .int (nI ii))] [] 1428) : zW K p l e zR s m args below meth c A Q k9 n9 [zXo ax zn sa la tr tc X, zSa K sa f, zOu K ao g, zMo K am I R, rs] [(0, .ref b), (1, .ref ax), (2, .ref (am 0)), (3, .ref ao), (4, .int (nI ii))] [] 556 := by
  refine z_aload_n B dL_law_556 1 rfl ?_
  refine z_aload_n B dL_law_557 0 rfl ?_
  refine z_iload B dL_law_558 4 rfl ?_
  refine z_iconst B (v := 1) dL_law_560 rfl ?_
  refine z_iadd B dL_law_561 ?_
  refine z_sld B hX hbl hbA hi1 hv1 dL_law_562 ?_
  refine z_aload_n B dL_law_563 0 rfl ?_
  refine z_iload B dL_law_564 4 rfl ?_
  refine z_iconst B (v := 2) dL_law_566 rfl ?_
  refine z_iadd B dL_law_567 ?_
  refine z_sld B hX hbl hbA hi2 hv2 dL_law_568 ?_
  refine z_ifeq B 576 dL_law_569 (by decide) (fun _ => ?_) (fun h => absurd hy2 h)
  refine z_iconst B (v := 0) dL_law_576 rfl ?_
  refine z_aload_n B dL_law_577 3 rfl ?_
  refine z_H1 B (kL_announce_m l hl K ax zn sa la tr tc X f x1 0 ao g hfn) [0, 1, 2] [3, 4] (br := [zMo K am I R, rs]) (bs' := [zXo ax zn sa la tr tc X, zSa K sa f, zOu K ao g, zMo K am I R, rs]) (st := []) (nA := 4) (zsp rfl rfl rfl) (zsp rfl rfl rfl) gL_law_L_announce rfl (by decide +kernel) ⟨Nat.le_of_ble_eq_true rfl, Nat.le_of_ble_eq_true rfl⟩ rfl rfl (Nat.le_of_ble_eq_true rfl) ⟨(show k9 + 1 ≤ 601024 by omega), (show n9 + 6 ≤ 7293034 by omega)⟩ dL_law_578 z_noX (fun _ => ?_)
  refine z_istore B (lv' := [(5, .int (fL_announce_m x1 0 g)), (0, .ref b), (1, .ref ax), (2, .ref (am 0)), (3, .ref ao), (4, .int (nI ii))]) dL_law_581 (by decide) rfl ?_
  refine z_aload_n B dL_law_583 3 rfl ?_
  refine z_aload_n B dL_law_584 1 rfl ?_
  refine z_iload B dL_law_585 5 rfl ?_
  refine z_iconst B (v := 1) dL_law_587 rfl ?_
  refine z_iadd B dL_law_588 ?_
  refine z_sld B hX hbl hbA hi1 hv1 dL_law_589 ?_
  refine z_aload_n B dL_law_590 1 rfl ?_
  refine z_iload B dL_law_591 5 rfl ?_
  refine z_iconst B (v := 2) dL_law_593 rfl ?_
  refine z_iadd B dL_law_594 ?_
  refine z_sld B hX hbl hbA hi2 hv2 dL_law_595 ?_
  refine z_ifeq B 603 dL_law_596 (by decide) (fun _ => ?_) (fun h => absurd hy2 h)
  refine z_iconst B (v := 0) dL_law_603 rfl ?_
  refine z_V1 B (kX5_announce l hl K am I R x1 0 (Or.inl rfl) h5 h6 hon) [3] [0, 1, 2, 4] (br := [zXo ax zn sa la tr tc X, zSa K sa f, zOu K ao g, rs]) (bs' := [zXo ax zn sa la tr tc X, zSa K sa f, zOu K ao g, zMo K am ((fX5_announce I R x1 0).2.1) ((fX5_announce I R x1 0).2.2), rs]) (st := []) (nA := 2) (zsp rfl rfl rfl) (zsp rfl rfl rfl) 3 0 rfl rfl rfl rfl gL_law_X5_announce rfl (by decide +kernel) ⟨Nat.le_of_ble_eq_true rfl, Nat.le_of_ble_eq_true rfl⟩ rfl rfl (Nat.le_of_ble_eq_true rfl) ⟨(show k9 + 1 + 0 ≤ 601024 by omega), (show n9 + 6 + 0 ≤ 7293034 by omega)⟩ dL_law_604 z_noX (fun _ => ?_)
  refine z_istore B (lv' := [(6, .int ((fX5_announce I R x1 0).1)), (5, .int (fL_announce_m x1 0 g)), (0, .ref b), (1, .ref ax), (2, .ref (am 0)), (3, .ref ao), (4, .int (nI ii))]) dL_law_607 (by decide) rfl ?_
  refine z_aload_n B dL_law_609 4 rfl ?_
  refine z_V1 B (kX5_thrown l hl K am ((fX5_announce I R x1 0).2.1) ((fX5_announce I R x1 0).2.2)) [3] [0, 1, 2, 4] (br := [zXo ax zn sa la tr tc X, zSa K sa f, zOu K ao g, rs]) (bs' := [zXo ax zn sa la tr tc X, zSa K sa f, zOu K ao g, zMo K am ((fX5_announce I R x1 0).2.1) ((fX5_announce I R x1 0).2.2), rs]) (st := []) (nA := 0) (zsp rfl rfl rfl) (zsp rfl rfl rfl) 3 0 rfl rfl rfl rfl gL_law_X5_thrown rfl (by decide +kernel) ⟨Nat.le_of_ble_eq_true rfl, Nat.le_of_ble_eq_true rfl⟩ rfl rfl (Nat.le_of_ble_eq_true rfl) ⟨(show k9 + 1 + 0 + 0 ≤ 601024 by omega), (show n9 + 6 + 0 + 0 ≤ 7293034 by omega)⟩ dL_law_610 z_noX (fun _ => ?_)
  refine z_iload B dL_law_613 1 rfl ?_
  refine z_iceq B 620 dL_law_615 (by decide) (fun _ => ?_) (fun h => absurd hr.1 h)
  refine z_iload B dL_law_620 1 rfl ?_
  refine z_ifne B 644 dL_law_622 (by decide) (fun c1 => ?_) (fun c1 => ?_)
  · refine z_aload_n B dL_law_625 5 rfl ?_
    refine z_iconst B (v := 0) dL_law_626 rfl ?_
    refine z_lald B (N := 1) (f := g) 2 0 rfl rfl (z_vpc (k := 0) rfl (by decide)) dL_law_627 ?_
    refine z_iload B dL_law_628 0 rfl ?_
    refine z_ifeq B 637 dL_law_630 (by decide) (fun c2 => ?_) (fun c2 => ?_)
    · refine z_lconst B (v := 0) dL_law_637 rfl ?_
      refine z_lcmp B dL_law_638 ?_
      refine z_ifeq B 644 dL_law_639 (by decide) (fun _ => ?_) (fun h => absurd (z_cz ((hr.2 c1).1 c2)) h)
      refine z_goto B (tgt := 1428) dL_law_644 (by decide) ?_
      refine z_lsub [2, 3, 4, 5, 6] rfl ?_
      refine z_widen (k' := k9 + 16) (n' := n9 + 512) (show k9 + 1 + 0 + 0 ≤ _ by omega) (show n9 + 6 + 0 + 0 ≤ _ by omega) ?_
      exact kk
    · refine z_lconst B (v := 1) dL_law_633 rfl ?_
      refine z_goto B (tgt := 638) dL_law_634 (by decide) ?_
      refine z_lcmp B dL_law_638 ?_
      refine z_ifeq B 644 dL_law_639 (by decide) (fun _ => ?_) (fun h => absurd (z_cz ((hr.2 c1).2 c2)) h)
      refine z_goto B (tgt := 1428) dL_law_644 (by decide) ?_
      refine z_lsub [2, 3, 4, 5, 6] rfl ?_
      refine z_widen (k' := k9 + 16) (n' := n9 + 512) (show k9 + 1 + 0 + 0 ≤ _ by omega) (show n9 + 6 + 0 + 0 ≤ _ by omega) ?_
      exact kk
  · refine z_goto B (tgt := 1428) dL_law_644 (by decide) ?_
    refine z_lsub [2, 3, 4, 5, 6] rfl ?_
    refine z_widen (k' := k9 + 16) (n' := n9 + 512) (show k9 + 1 + 0 + 0 ≤ _ by omega) (show n9 + 6 + 0 + 0 ≤ _ by omega) ?_
    exact kk
set_option maxHeartbeats 4000000 in
set_option maxRecDepth 100000 in
theorem aL_setAuthority_1 (l : Launch) (hl : l.stackTraces = false) (ao : Nat) (K : zK) (ax : Nat) (az : Nat → Nat) (sa : Nat) (la : Nat) (tr : Nat) (tc : Nat) (X : Nat → Int32) (Z : Nat → Nat → Int32) (W : Nat → Int32) (am : Nat → Nat) (I : Nat → Int32) (R : Nat → Nat → Int32) (y1 : Int32) (hy1 : ¬ y1 = 0) (hW4 : (W 4) = 0 ∨ (W 4) = 1) (h4 : (I 4) = 0 ∨ (I 4) = 1) (rs : va_W) (hr : ((fX4_setAuthority X Z W 1).1) = ((fX5_setAuthority I R 1).1)) {p : Program} {e : Env} {s : State} {m : MethodId} {below : List Frame} {meth : Method} {c : Code} {A : Nat → Prop} {Q : State → Prop} {ret9 : Option FieldType} {nm9 : String} {tb9 : List ExceptionTableEntry} {args : Array Value} {b L ii k9 n9 : Nat} {xs : Nat → Int32} (B : zF K p l s m args meth c A cL_law 7 RL nm9 wsL_law ret9 tb9) (hX : va_X b L xs s s.heap) (hbl : b < s.heap.size) (hbA : ¬ A b) (hi1 : vp_in (nI ii + 1) L) (hv1 : xs (nI ii + 1).toNatClampNeg = y1) (hk9 : k9 + 16 ≤ 601024) (hn9 : n9 + 512 ≤ 7293034)
    (kk : zW K p l e zR s m args below meth c A Q (k9 + 16) (n9 + 512) [zXo ax (az 0) sa la tr tc X, zZo K az Z ((fX4_setAuthority X Z W 1).2), zMo K am ((fX5_setAuthority I R 1).2) R, rs] [(0, .ref b), (1, .ref ax), (2, .ref (am 0)), (3, .ref ao), (4, .int (nI ii))] [] 1428) : zW K p l e zR s m args below meth c A Q k9 n9 [zXo ax (az 0) sa la tr tc X, zZo K az Z W, zMo K am I R, rs] [(0, .ref b), (1, .ref ax), (2, .ref (am 0)), (3, .ref ao), (4, .int (nI ii))] [] 403 := by
  refine z_aload_n B dL_law_403 1 rfl ?_
  refine z_aload_n B dL_law_404 0 rfl ?_
  refine z_iload B dL_law_405 4 rfl ?_
  refine z_iconst B (v := 1) dL_law_407 rfl ?_
  refine z_iadd B dL_law_408 ?_
  refine z_sld B hX hbl hbA hi1 hv1 dL_law_409 ?_
  refine z_ifeq B 417 dL_law_410 (by decide) (fun h => absurd h hy1) (fun _ => ?_)
  refine z_iconst B (v := 1) dL_law_413 rfl ?_
  refine z_goto B (tgt := 418) dL_law_414 (by decide) ?_
  refine z_V1 B (kX4_setAuthority l hl K ax az sa la tr tc X Z W 1 (Or.inr rfl) hW4) [0, 1] [2, 3] (br := [zMo K am I R, rs]) (bs' := [zXo ax (az 0) sa la tr tc X, zZo K az Z ((fX4_setAuthority X Z W 1).2), zMo K am I R, rs]) (st := []) (nA := 1) (zsp rfl rfl rfl) (zsp rfl rfl rfl) 0 0 rfl rfl rfl rfl gL_law_X4_setAuthority rfl (by decide +kernel) ⟨Nat.le_of_ble_eq_true rfl, Nat.le_of_ble_eq_true rfl⟩ rfl rfl (Nat.le_of_ble_eq_true rfl) ⟨(show k9 + 0 ≤ 601024 by omega), (show n9 + 0 ≤ 7293034 by omega)⟩ dL_law_418 z_noX (fun _ => ?_)
  refine z_aload_n B dL_law_421 2 rfl ?_
  refine z_aload_n B dL_law_422 0 rfl ?_
  refine z_iload B dL_law_423 4 rfl ?_
  refine z_iconst B (v := 1) dL_law_425 rfl ?_
  refine z_iadd B dL_law_426 ?_
  refine z_sld B hX hbl hbA hi1 hv1 dL_law_427 ?_
  refine z_ifeq B 435 dL_law_428 (by decide) (fun h => absurd h hy1) (fun _ => ?_)
  refine z_iconst B (v := 1) dL_law_431 rfl ?_
  refine z_goto B (tgt := 436) dL_law_432 (by decide) ?_
  refine z_V1 B (kX5_setAuthority l hl K am I R 1 (Or.inr rfl) h4) [2] [0, 1, 3] (br := [zXo ax (az 0) sa la tr tc X, zZo K az Z ((fX4_setAuthority X Z W 1).2), rs]) (bs' := [zXo ax (az 0) sa la tr tc X, zZo K az Z ((fX4_setAuthority X Z W 1).2), zMo K am ((fX5_setAuthority I R 1).2) R, rs]) (st := [.int ((fX4_setAuthority X Z W 1).1)]) (nA := 1) (zsp rfl rfl rfl) (zsp rfl rfl rfl) 2 0 rfl rfl rfl rfl gL_law_X5_setAuthority rfl (by decide +kernel) ⟨Nat.le_of_ble_eq_true rfl, Nat.le_of_ble_eq_true rfl⟩ rfl rfl (Nat.le_of_ble_eq_true rfl) ⟨(show k9 + 0 + 0 ≤ 601024 by omega), (show n9 + 0 + 0 ≤ 7293034 by omega)⟩ dL_law_436 z_noX (fun _ => ?_)
  refine z_iceq B 1428 dL_law_439 (by decide) (fun _ => ?_) (fun h => absurd hr h)
  refine z_lsub [0, 1, 2, 3, 4] rfl ?_
  refine z_widen (k' := k9 + 16) (n' := n9 + 512) (show k9 + 0 + 0 ≤ _ by omega) (show n9 + 0 + 0 ≤ _ by omega) ?_
  exact kk
set_option maxHeartbeats 4000000 in
set_option maxRecDepth 100000 in
theorem aL_announce_h1 (l : Launch) (hl : l.stackTraces = false) (K : zK) (ax : Nat) (zn : Nat) (sa : Nat) (la : Nat) (tr : Nat) (tc : Nat) (X : Nat → Int32) (f : Nat → Option Nat) (n : Nat) (so : Nat → Nat) (sc : Nat → Nat → Nat) (D : Nat → Nat → Int32) (i : Nat) (ao : Nat) (g : Nat → Int64) (am : Nat → Nat) (I : Nat → Int32) (R : Nat → Nat → Int32) (y2 : Int32) (hy2 : ¬ y2 = 0) (hi4 : i < 4) (hi : i < n) (hfi : f (nI i).toNatClampNeg = some (so i)) (hD3 : (D i 3) = 0 ∨ (D i 3) = 1) (h5 : ¬ (I 5) < 0) (h6 : (I 5).toNatClampNeg ≤ 4) (hon : ∀ i, (R 5) i = 0 ∨ (R 5) i = 1) (rs : va_W) (hr : rB ((fL_announce_h D i 1 g).1) ((fL_announce_h D i 1 g).2.2) ((fX5_announce I R (nI i) 1).2.1) ((fX5_announce I R (nI i) 1).1)) {p : Program} {e : Env} {s : State} {m : MethodId} {below : List Frame} {meth : Method} {c : Code} {A : Nat → Prop} {Q : State → Prop} {ret9 : Option FieldType} {nm9 : String} {tb9 : List ExceptionTableEntry} {args : Array Value} {b L ii k9 n9 : Nat} {xs : Nat → Int32} (B : zF K p l s m args meth c A cL_law 7 RL nm9 wsL_law ret9 tb9) (hX : va_X b L xs s s.heap) (hbl : b < s.heap.size) (hbA : ¬ A b) (hi1 : vp_in (nI ii + 1) L) (hv1 : xs (nI ii + 1).toNatClampNeg = (nI i)) (hi2 : vp_in (nI ii + 2) L) (hv2 : xs (nI ii + 2).toNatClampNeg = y2) (hk9 : k9 + 16 ≤ 601024) (hn9 : n9 + 512 ≤ 7293034)
    (kk : zW K p l e zR s m args below meth c A Q (k9 + 16) (n9 + 512) [zXo ax zn sa la tr tc X, zSa K sa f, zSO n so sc ((fL_announce_h D i 1 g).2.1), zOu K ao ((fL_announce_h D i 1 g).2.2), zMo K am ((fX5_announce I R (nI i) 1).2.1) ((fX5_announce I R (nI i) 1).2.2), rs] [(0, .ref b), (1, .ref ax), (2, .ref (am 0)), (3, .ref ao), (4, .int (nI ii))] [] 1428) : zW K p l e zR s m args below meth c A Q k9 n9 [zXo ax zn sa la tr tc X, zSa K sa f, zSO n so sc D, zOu K ao g, zMo K am I R, rs] [(0, .ref b), (1, .ref ax), (2, .ref (am 0)), (3, .ref ao), (4, .int (nI ii))] [] 556 := by
  refine z_aload_n B dL_law_556 1 rfl ?_
  refine z_aload_n B dL_law_557 0 rfl ?_
  refine z_iload B dL_law_558 4 rfl ?_
  refine z_iconst B (v := 1) dL_law_560 rfl ?_
  refine z_iadd B dL_law_561 ?_
  refine z_sld B hX hbl hbA hi1 hv1 dL_law_562 ?_
  refine z_aload_n B dL_law_563 0 rfl ?_
  refine z_iload B dL_law_564 4 rfl ?_
  refine z_iconst B (v := 2) dL_law_566 rfl ?_
  refine z_iadd B dL_law_567 ?_
  refine z_sld B hX hbl hbA hi2 hv2 dL_law_568 ?_
  refine z_ifeq B 576 dL_law_569 (by decide) (fun h => absurd h hy2) (fun _ => ?_)
  refine z_iconst B (v := 1) dL_law_572 rfl ?_
  refine z_goto B (tgt := 577) dL_law_573 (by decide) ?_
  refine z_aload_n B dL_law_577 3 rfl ?_
  refine z_H1 B (kL_announce_h l hl K ax zn sa la tr tc X f n so sc D i 1 ao g hi4 hi hfi (Or.inr rfl) hD3) [0, 1, 2, 3] [4, 5] (br := [zMo K am I R, rs]) (bs' := [zXo ax zn sa la tr tc X, zSa K sa f, zSO n so sc ((fL_announce_h D i 1 g).2.1), zOu K ao ((fL_announce_h D i 1 g).2.2), zMo K am I R, rs]) (st := []) (nA := 4) (zsp rfl rfl rfl) (zsp rfl rfl rfl) gL_law_L_announce rfl (by decide +kernel) ⟨Nat.le_of_ble_eq_true rfl, Nat.le_of_ble_eq_true rfl⟩ rfl rfl (Nat.le_of_ble_eq_true rfl) ⟨(show k9 + 0 ≤ 601024 by omega), (show n9 + 0 ≤ 7293034 by omega)⟩ dL_law_578 z_noX (fun _ => ?_)
  refine z_istore B (lv' := [(5, .int ((fL_announce_h D i 1 g).1)), (0, .ref b), (1, .ref ax), (2, .ref (am 0)), (3, .ref ao), (4, .int (nI ii))]) dL_law_581 (by decide) rfl ?_
  refine z_aload_n B dL_law_583 3 rfl ?_
  refine z_aload_n B dL_law_584 1 rfl ?_
  refine z_iload B dL_law_585 5 rfl ?_
  refine z_iconst B (v := 1) dL_law_587 rfl ?_
  refine z_iadd B dL_law_588 ?_
  refine z_sld B hX hbl hbA hi1 hv1 dL_law_589 ?_
  refine z_aload_n B dL_law_590 1 rfl ?_
  refine z_iload B dL_law_591 5 rfl ?_
  refine z_iconst B (v := 2) dL_law_593 rfl ?_
  refine z_iadd B dL_law_594 ?_
  refine z_sld B hX hbl hbA hi2 hv2 dL_law_595 ?_
  refine z_ifeq B 603 dL_law_596 (by decide) (fun h => absurd h hy2) (fun _ => ?_)
  refine z_iconst B (v := 1) dL_law_599 rfl ?_
  refine z_goto B (tgt := 604) dL_law_600 (by decide) ?_
  refine z_V1 B (kX5_announce l hl K am I R (nI i) 1 (Or.inr rfl) h5 h6 hon) [4] [0, 1, 2, 3, 5] (br := [zXo ax zn sa la tr tc X, zSa K sa f, zSO n so sc ((fL_announce_h D i 1 g).2.1), zOu K ao ((fL_announce_h D i 1 g).2.2), rs]) (bs' := [zXo ax zn sa la tr tc X, zSa K sa f, zSO n so sc ((fL_announce_h D i 1 g).2.1), zOu K ao ((fL_announce_h D i 1 g).2.2), zMo K am ((fX5_announce I R (nI i) 1).2.1) ((fX5_announce I R (nI i) 1).2.2), rs]) (st := []) (nA := 2) (zsp rfl rfl rfl) (zsp rfl rfl rfl) 4 0 rfl rfl rfl rfl gL_law_X5_announce rfl (by decide +kernel) ⟨Nat.le_of_ble_eq_true rfl, Nat.le_of_ble_eq_true rfl⟩ rfl rfl (Nat.le_of_ble_eq_true rfl) ⟨(show k9 + 0 + 0 ≤ 601024 by omega), (show n9 + 0 + 0 ≤ 7293034 by omega)⟩ dL_law_604 z_noX (fun _ => ?_)
  refine z_istore B (lv' := [(6, .int ((fX5_announce I R (nI i) 1).1)), (5, .int ((fL_announce_h D i 1 g).1)), (0, .ref b), (1, .ref ax), (2, .ref (am 0)), (3, .ref ao), (4, .int (nI ii))]) dL_law_607 (by decide) rfl ?_
  refine z_aload_n B dL_law_609 4 rfl ?_
  refine z_V1 B (kX5_thrown l hl K am ((fX5_announce I R (nI i) 1).2.1) ((fX5_announce I R (nI i) 1).2.2)) [4] [0, 1, 2, 3, 5] (br := [zXo ax zn sa la tr tc X, zSa K sa f, zSO n so sc ((fL_announce_h D i 1 g).2.1), zOu K ao ((fL_announce_h D i 1 g).2.2), rs]) (bs' := [zXo ax zn sa la tr tc X, zSa K sa f, zSO n so sc ((fL_announce_h D i 1 g).2.1), zOu K ao ((fL_announce_h D i 1 g).2.2), zMo K am ((fX5_announce I R (nI i) 1).2.1) ((fX5_announce I R (nI i) 1).2.2), rs]) (st := []) (nA := 0) (zsp rfl rfl rfl) (zsp rfl rfl rfl) 4 0 rfl rfl rfl rfl gL_law_X5_thrown rfl (by decide +kernel) ⟨Nat.le_of_ble_eq_true rfl, Nat.le_of_ble_eq_true rfl⟩ rfl rfl (Nat.le_of_ble_eq_true rfl) ⟨(show k9 + 0 + 0 + 0 ≤ 601024 by omega), (show n9 + 0 + 0 + 0 ≤ 7293034 by omega)⟩ dL_law_610 z_noX (fun _ => ?_)
  refine z_iload B dL_law_613 1 rfl ?_
  refine z_iceq B 620 dL_law_615 (by decide) (fun _ => ?_) (fun h => absurd hr.1 h)
  refine z_iload B dL_law_620 1 rfl ?_
  refine z_ifne B 644 dL_law_622 (by decide) (fun c1 => ?_) (fun c1 => ?_)
  · refine z_aload_n B dL_law_625 5 rfl ?_
    refine z_iconst B (v := 0) dL_law_626 rfl ?_
    refine z_lald B (N := 1) (f := ((fL_announce_h D i 1 g).2.2)) 3 0 rfl rfl (z_vpc (k := 0) rfl (by decide)) dL_law_627 ?_
    refine z_iload B dL_law_628 0 rfl ?_
    refine z_ifeq B 637 dL_law_630 (by decide) (fun c2 => ?_) (fun c2 => ?_)
    · refine z_lconst B (v := 0) dL_law_637 rfl ?_
      refine z_lcmp B dL_law_638 ?_
      refine z_ifeq B 644 dL_law_639 (by decide) (fun _ => ?_) (fun h => absurd (z_cz ((hr.2 c1).1 c2)) h)
      refine z_goto B (tgt := 1428) dL_law_644 (by decide) ?_
      refine z_lsub [2, 3, 4, 5, 6] rfl ?_
      refine z_widen (k' := k9 + 16) (n' := n9 + 512) (show k9 + 0 + 0 + 0 ≤ _ by omega) (show n9 + 0 + 0 + 0 ≤ _ by omega) ?_
      exact kk
    · refine z_lconst B (v := 1) dL_law_633 rfl ?_
      refine z_goto B (tgt := 638) dL_law_634 (by decide) ?_
      refine z_lcmp B dL_law_638 ?_
      refine z_ifeq B 644 dL_law_639 (by decide) (fun _ => ?_) (fun h => absurd (z_cz ((hr.2 c1).2 c2)) h)
      refine z_goto B (tgt := 1428) dL_law_644 (by decide) ?_
      refine z_lsub [2, 3, 4, 5, 6] rfl ?_
      refine z_widen (k' := k9 + 16) (n' := n9 + 512) (show k9 + 0 + 0 + 0 ≤ _ by omega) (show n9 + 0 + 0 + 0 ≤ _ by omega) ?_
      exact kk
  · refine z_goto B (tgt := 1428) dL_law_644 (by decide) ?_
    refine z_lsub [2, 3, 4, 5, 6] rfl ?_
    refine z_widen (k' := k9 + 16) (n' := n9 + 512) (show k9 + 0 + 0 + 0 ≤ _ by omega) (show n9 + 0 + 0 + 0 ≤ _ by omega) ?_
    exact kk
set_option maxHeartbeats 4000000 in
set_option maxRecDepth 100000 in
theorem aL_announce_m1 (l : Launch) (hl : l.stackTraces = false) (K : zK) (ax : Nat) (zn : Nat) (sa : Nat) (la : Nat) (tr : Nat) (tc : Nat) (X : Nat → Int32) (f : Nat → Option Nat) (x1 : Int32) (ao : Nat) (g : Nat → Int64) (am : Nat → Nat) (I : Nat → Int32) (R : Nat → Nat → Int32) (y2 : Int32) (hy2 : ¬ y2 = 0) (hfn : x1 < 4 → ¬ x1 < 0 → f x1.toNatClampNeg = none) (h5 : ¬ (I 5) < 0) (h6 : (I 5).toNatClampNeg ≤ 4) (hon : ∀ i, (R 5) i = 0 ∨ (R 5) i = 1) (rs : va_W) (hr : rB (fL_announce_m x1 1 g) g ((fX5_announce I R x1 1).2.1) ((fX5_announce I R x1 1).1)) {p : Program} {e : Env} {s : State} {m : MethodId} {below : List Frame} {meth : Method} {c : Code} {A : Nat → Prop} {Q : State → Prop} {ret9 : Option FieldType} {nm9 : String} {tb9 : List ExceptionTableEntry} {args : Array Value} {b L ii k9 n9 : Nat} {xs : Nat → Int32} (B : zF K p l s m args meth c A cL_law 7 RL nm9 wsL_law ret9 tb9) (hX : va_X b L xs s s.heap) (hbl : b < s.heap.size) (hbA : ¬ A b) (hi1 : vp_in (nI ii + 1) L) (hv1 : xs (nI ii + 1).toNatClampNeg = x1) (hi2 : vp_in (nI ii + 2) L) (hv2 : xs (nI ii + 2).toNatClampNeg = y2) (hk9 : k9 + 16 ≤ 601024) (hn9 : n9 + 512 ≤ 7293034)
    (kk : zW K p l e zR s m args below meth c A Q (k9 + 16) (n9 + 512) [zXo ax zn sa la tr tc X, zSa K sa f, zOu K ao g, zMo K am ((fX5_announce I R x1 1).2.1) ((fX5_announce I R x1 1).2.2), rs] [(0, .ref b), (1, .ref ax), (2, .ref (am 0)), (3, .ref ao), (4, .int (nI ii))] [] 1428) : zW K p l e zR s m args below meth c A Q k9 n9 [zXo ax zn sa la tr tc X, zSa K sa f, zOu K ao g, zMo K am I R, rs] [(0, .ref b), (1, .ref ax), (2, .ref (am 0)), (3, .ref ao), (4, .int (nI ii))] [] 556 := by
  refine z_aload_n B dL_law_556 1 rfl ?_
  refine z_aload_n B dL_law_557 0 rfl ?_
  refine z_iload B dL_law_558 4 rfl ?_
  refine z_iconst B (v := 1) dL_law_560 rfl ?_
  refine z_iadd B dL_law_561 ?_
  refine z_sld B hX hbl hbA hi1 hv1 dL_law_562 ?_
  refine z_aload_n B dL_law_563 0 rfl ?_
  refine z_iload B dL_law_564 4 rfl ?_
  refine z_iconst B (v := 2) dL_law_566 rfl ?_
  refine z_iadd B dL_law_567 ?_
  refine z_sld B hX hbl hbA hi2 hv2 dL_law_568 ?_
  refine z_ifeq B 576 dL_law_569 (by decide) (fun h => absurd h hy2) (fun _ => ?_)
  refine z_iconst B (v := 1) dL_law_572 rfl ?_
  refine z_goto B (tgt := 577) dL_law_573 (by decide) ?_
  refine z_aload_n B dL_law_577 3 rfl ?_
  refine z_H1 B (kL_announce_m l hl K ax zn sa la tr tc X f x1 1 ao g hfn) [0, 1, 2] [3, 4] (br := [zMo K am I R, rs]) (bs' := [zXo ax zn sa la tr tc X, zSa K sa f, zOu K ao g, zMo K am I R, rs]) (st := []) (nA := 4) (zsp rfl rfl rfl) (zsp rfl rfl rfl) gL_law_L_announce rfl (by decide +kernel) ⟨Nat.le_of_ble_eq_true rfl, Nat.le_of_ble_eq_true rfl⟩ rfl rfl (Nat.le_of_ble_eq_true rfl) ⟨(show k9 + 1 ≤ 601024 by omega), (show n9 + 6 ≤ 7293034 by omega)⟩ dL_law_578 z_noX (fun _ => ?_)
  refine z_istore B (lv' := [(5, .int (fL_announce_m x1 1 g)), (0, .ref b), (1, .ref ax), (2, .ref (am 0)), (3, .ref ao), (4, .int (nI ii))]) dL_law_581 (by decide) rfl ?_
  refine z_aload_n B dL_law_583 3 rfl ?_
  refine z_aload_n B dL_law_584 1 rfl ?_
  refine z_iload B dL_law_585 5 rfl ?_
  refine z_iconst B (v := 1) dL_law_587 rfl ?_
  refine z_iadd B dL_law_588 ?_
  refine z_sld B hX hbl hbA hi1 hv1 dL_law_589 ?_
  refine z_aload_n B dL_law_590 1 rfl ?_
  refine z_iload B dL_law_591 5 rfl ?_
  refine z_iconst B (v := 2) dL_law_593 rfl ?_
  refine z_iadd B dL_law_594 ?_
  refine z_sld B hX hbl hbA hi2 hv2 dL_law_595 ?_
  refine z_ifeq B 603 dL_law_596 (by decide) (fun h => absurd h hy2) (fun _ => ?_)
  refine z_iconst B (v := 1) dL_law_599 rfl ?_
  refine z_goto B (tgt := 604) dL_law_600 (by decide) ?_
  refine z_V1 B (kX5_announce l hl K am I R x1 1 (Or.inr rfl) h5 h6 hon) [3] [0, 1, 2, 4] (br := [zXo ax zn sa la tr tc X, zSa K sa f, zOu K ao g, rs]) (bs' := [zXo ax zn sa la tr tc X, zSa K sa f, zOu K ao g, zMo K am ((fX5_announce I R x1 1).2.1) ((fX5_announce I R x1 1).2.2), rs]) (st := []) (nA := 2) (zsp rfl rfl rfl) (zsp rfl rfl rfl) 3 0 rfl rfl rfl rfl gL_law_X5_announce rfl (by decide +kernel) ⟨Nat.le_of_ble_eq_true rfl, Nat.le_of_ble_eq_true rfl⟩ rfl rfl (Nat.le_of_ble_eq_true rfl) ⟨(show k9 + 1 + 0 ≤ 601024 by omega), (show n9 + 6 + 0 ≤ 7293034 by omega)⟩ dL_law_604 z_noX (fun _ => ?_)
  refine z_istore B (lv' := [(6, .int ((fX5_announce I R x1 1).1)), (5, .int (fL_announce_m x1 1 g)), (0, .ref b), (1, .ref ax), (2, .ref (am 0)), (3, .ref ao), (4, .int (nI ii))]) dL_law_607 (by decide) rfl ?_
  refine z_aload_n B dL_law_609 4 rfl ?_
  refine z_V1 B (kX5_thrown l hl K am ((fX5_announce I R x1 1).2.1) ((fX5_announce I R x1 1).2.2)) [3] [0, 1, 2, 4] (br := [zXo ax zn sa la tr tc X, zSa K sa f, zOu K ao g, rs]) (bs' := [zXo ax zn sa la tr tc X, zSa K sa f, zOu K ao g, zMo K am ((fX5_announce I R x1 1).2.1) ((fX5_announce I R x1 1).2.2), rs]) (st := []) (nA := 0) (zsp rfl rfl rfl) (zsp rfl rfl rfl) 3 0 rfl rfl rfl rfl gL_law_X5_thrown rfl (by decide +kernel) ⟨Nat.le_of_ble_eq_true rfl, Nat.le_of_ble_eq_true rfl⟩ rfl rfl (Nat.le_of_ble_eq_true rfl) ⟨(show k9 + 1 + 0 + 0 ≤ 601024 by omega), (show n9 + 6 + 0 + 0 ≤ 7293034 by omega)⟩ dL_law_610 z_noX (fun _ => ?_)
  refine z_iload B dL_law_613 1 rfl ?_
  refine z_iceq B 620 dL_law_615 (by decide) (fun _ => ?_) (fun h => absurd hr.1 h)
  refine z_iload B dL_law_620 1 rfl ?_
  refine z_ifne B 644 dL_law_622 (by decide) (fun c1 => ?_) (fun c1 => ?_)
  · refine z_aload_n B dL_law_625 5 rfl ?_
    refine z_iconst B (v := 0) dL_law_626 rfl ?_
    refine z_lald B (N := 1) (f := g) 2 0 rfl rfl (z_vpc (k := 0) rfl (by decide)) dL_law_627 ?_
    refine z_iload B dL_law_628 0 rfl ?_
    refine z_ifeq B 637 dL_law_630 (by decide) (fun c2 => ?_) (fun c2 => ?_)
    · refine z_lconst B (v := 0) dL_law_637 rfl ?_
      refine z_lcmp B dL_law_638 ?_
      refine z_ifeq B 644 dL_law_639 (by decide) (fun _ => ?_) (fun h => absurd (z_cz ((hr.2 c1).1 c2)) h)
      refine z_goto B (tgt := 1428) dL_law_644 (by decide) ?_
      refine z_lsub [2, 3, 4, 5, 6] rfl ?_
      refine z_widen (k' := k9 + 16) (n' := n9 + 512) (show k9 + 1 + 0 + 0 ≤ _ by omega) (show n9 + 6 + 0 + 0 ≤ _ by omega) ?_
      exact kk
    · refine z_lconst B (v := 1) dL_law_633 rfl ?_
      refine z_goto B (tgt := 638) dL_law_634 (by decide) ?_
      refine z_lcmp B dL_law_638 ?_
      refine z_ifeq B 644 dL_law_639 (by decide) (fun _ => ?_) (fun h => absurd (z_cz ((hr.2 c1).2 c2)) h)
      refine z_goto B (tgt := 1428) dL_law_644 (by decide) ?_
      refine z_lsub [2, 3, 4, 5, 6] rfl ?_
      refine z_widen (k' := k9 + 16) (n' := n9 + 512) (show k9 + 1 + 0 + 0 ≤ _ by omega) (show n9 + 6 + 0 + 0 ≤ _ by omega) ?_
      exact kk
  · refine z_goto B (tgt := 1428) dL_law_644 (by decide) ?_
    refine z_lsub [2, 3, 4, 5, 6] rfl ?_
    refine z_widen (k' := k9 + 16) (n' := n9 + 512) (show k9 + 1 + 0 + 0 ≤ _ by omega) (show n9 + 6 + 0 + 0 ≤ _ by omega) ?_
    exact kk
theorem kL_addSite_ok (l : Launch) (hl : l.stackTraces = false) (K : zK) (ax : Nat) (zn : Nat) (sa : Nat) (la : Nat) (tr : Nat) (tc : Nat) (X : Nat → Int32) (f : Nat → Option Nat) (n : Nat) (so : Nat → Nat) (sc : Nat → Nat → Nat) (D : Nat → Nat → Int32) (Cs : Nat → Nat → Nat → Int32) (x1 : Int32) (ao : Nat) (g : Nat → Int64) (hX2 : (X 2) = nI n) (hn4 : n ≤ 4) (hc : (fX4_addSite X x1).1 = 0) : zMeN l K yL_addSite wsL_addSite { frames := 8, cells := 8, slots := 96, locals := 126 } [.ref ax, .int x1, .ref ao] [zXo ax zn sa la tr tc X, zSa K sa f, zSO n so sc D, zSC K n sc Cs, zOu K ao g] (fun u9 : Nat × (Nat → Nat) => (some (.int (fL_addSite X x1 g).1), ([zXo ax zn sa la tr tc (fX4_addSite X x1).2.2, zSa K sa (va_up f n (some u9.1)), zSO (n + 1) (va_up so n u9.1) (va_up sc n u9.2) (va_up D n (va_up (va_up (va_up (fun _ => 0) 0 (X 2)) 1 x1) 3 1)), zSC K (n + 1) (va_up sc n u9.2) (va_up Cs n zC0), zOu K ao (fL_addSite X x1 g).2] : zB))) (fun _ => True) zNo := by
  have h := kL_addSite l hl K ax zn sa la tr tc X f n so sc D Cs x1 ao g hX2 hn4
  simp only [if_pos hc] at h
  exact h
set_option maxHeartbeats 4000000 in
set_option maxRecDepth 100000 in
theorem aL_addSite_ok (l : Launch) (hl : l.stackTraces = false) (K : zK) (ax : Nat) (zn : Nat) (sa : Nat) (la : Nat) (tr : Nat) (tc : Nat) (X : Nat → Int32) (f : Nat → Option Nat) (n : Nat) (so : Nat → Nat) (sc : Nat → Nat → Nat) (D : Nat → Nat → Int32) (Cs : Nat → Nat → Nat → Int32) (x1 : Int32) (ao : Nat) (g : Nat → Int64) (am : Nat → Nat) (I : Nat → Int32) (R : Nat → Nat → Int32) (hX2 : (X 2) = nI n) (hn4 : n ≤ 4) (hc : (fX4_addSite X x1).1 = 0) (h5 : ¬ (I 5) < 0) (h6 : (I 5).toNatClampNeg ≤ 4) (rs : va_W) (hr : rE ((fL_addSite X x1 g).1) ((fL_addSite X x1 g).2) ((fX5_addSite I R x1).2.1) ((fX5_addSite I R x1).1)) {p : Program} {e : Env} {s : State} {m : MethodId} {below : List Frame} {meth : Method} {c : Code} {A : Nat → Prop} {Q : State → Prop} {ret9 : Option FieldType} {nm9 : String} {tb9 : List ExceptionTableEntry} {args : Array Value} {b L ii k9 n9 : Nat} {xs : Nat → Int32} (B : zF K p l s m args meth c A cL_law 7 RL nm9 wsL_law ret9 tb9) (hX : va_X b L xs s s.heap) (hbl : b < s.heap.size) (hbA : ¬ A b) (hi1 : vp_in (nI ii + 1) L) (hv1 : xs (nI ii + 1).toNatClampNeg = x1) (hk9 : k9 + 16 ≤ 601024) (hn9 : n9 + 512 ≤ 7293034)
    (kk : ∀ u9 : Nat × (Nat → Nat), zW K p l e zR s m args below meth c A Q (k9 + 16) (n9 + 512) [zXo ax zn sa la tr tc (fX4_addSite X x1).2.2, zSa K sa (va_up f n (some u9.1)), zSO (n + 1) (va_up so n u9.1) (va_up sc n u9.2) (va_up D n (va_up (va_up (va_up (fun _ => 0) 0 (X 2)) 1 x1) 3 1)), zSC K (n + 1) (va_up sc n u9.2) (va_up Cs n zC0), zOu K ao ((fL_addSite X x1 g).2), zMo K am ((fX5_addSite I R x1).2.1) ((fX5_addSite I R x1).2.2), rs] [(0, .ref b), (1, .ref ax), (2, .ref (am 0)), (3, .ref ao), (4, .int (nI ii))] [] 1428) : zW K p l e zR s m args below meth c A Q k9 n9 [zXo ax zn sa la tr tc X, zSa K sa f, zSO n so sc D, zSC K n sc Cs, zOu K ao g, zMo K am I R, rs] [(0, .ref b), (1, .ref ax), (2, .ref (am 0)), (3, .ref ao), (4, .int (nI ii))] [] 500 := by
  refine z_aload_n B dL_law_500 1 rfl ?_
  refine z_aload_n B dL_law_501 0 rfl ?_
  refine z_iload B dL_law_502 4 rfl ?_
  refine z_iconst B (v := 1) dL_law_504 rfl ?_
  refine z_iadd B dL_law_505 ?_
  refine z_sld B hX hbl hbA hi1 hv1 dL_law_506 ?_
  refine z_aload_n B dL_law_507 3 rfl ?_
  refine z_callH B (kL_addSite_ok l hl K ax zn sa la tr tc X f n so sc D Cs x1 ao g hX2 hn4 hc) [0, 1, 2, 3, 4] [5, 6] (br := [zMo K am I R, rs]) (bs' := fun u9 => [zXo ax zn sa la tr tc (fX4_addSite X x1).2.2, zSa K sa (va_up f n (some u9.1)), zSO (n + 1) (va_up so n u9.1) (va_up sc n u9.2) (va_up D n (va_up (va_up (va_up (fun _ => 0) 0 (X 2)) 1 x1) 3 1)), zSC K (n + 1) (va_up sc n u9.2) (va_up Cs n zC0), zOu K ao ((fL_addSite X x1 g).2), zMo K am I R, rs]) (st := []) (nA := 3) (zsp rfl rfl rfl) (fun _ => zsp rfl rfl rfl) gL_law_L_addSite rfl (by decide +kernel) ⟨Nat.le_of_ble_eq_true rfl, Nat.le_of_ble_eq_true rfl⟩ rfl rfl (Nat.le_of_ble_eq_true rfl) ⟨(show k9 + 8 ≤ 601024 by omega), (show n9 + 96 ≤ 7293034 by omega)⟩ dL_law_508 z_noX (fun u9 _ => ?_)
  refine z_istore B (lv' := [(5, .int ((fL_addSite X x1 g).1)), (0, .ref b), (1, .ref ax), (2, .ref (am 0)), (3, .ref ao), (4, .int (nI ii))]) dL_law_511 (by decide) rfl ?_
  refine z_aload_n B dL_law_513 3 rfl ?_
  refine z_aload_n B dL_law_514 1 rfl ?_
  refine z_iload B dL_law_515 5 rfl ?_
  refine z_iconst B (v := 1) dL_law_517 rfl ?_
  refine z_iadd B dL_law_518 ?_
  refine z_sld B hX hbl hbA hi1 hv1 dL_law_519 ?_
  refine z_V1 B (kX5_addSite l hl K am I R x1 h5 h6) [5] [0, 1, 2, 3, 4, 6] (br := [zXo ax zn sa la tr tc (fX4_addSite X x1).2.2, zSa K sa (va_up f n (some u9.1)), zSO (n + 1) (va_up so n u9.1) (va_up sc n u9.2) (va_up D n (va_up (va_up (va_up (fun _ => 0) 0 (X 2)) 1 x1) 3 1)), zSC K (n + 1) (va_up sc n u9.2) (va_up Cs n zC0), zOu K ao ((fL_addSite X x1 g).2), rs]) (bs' := [zXo ax zn sa la tr tc (fX4_addSite X x1).2.2, zSa K sa (va_up f n (some u9.1)), zSO (n + 1) (va_up so n u9.1) (va_up sc n u9.2) (va_up D n (va_up (va_up (va_up (fun _ => 0) 0 (X 2)) 1 x1) 3 1)), zSC K (n + 1) (va_up sc n u9.2) (va_up Cs n zC0), zOu K ao ((fL_addSite X x1 g).2), zMo K am ((fX5_addSite I R x1).2.1) ((fX5_addSite I R x1).2.2), rs]) (st := []) (nA := 1) (zsp rfl rfl rfl) (zsp rfl rfl rfl) 5 0 rfl rfl rfl rfl gL_law_X5_addSite rfl (by decide +kernel) ⟨Nat.le_of_ble_eq_true rfl, Nat.le_of_ble_eq_true rfl⟩ rfl rfl (Nat.le_of_ble_eq_true rfl) ⟨(show k9 + 8 + 0 ≤ 601024 by omega), (show n9 + 96 + 0 ≤ 7293034 by omega)⟩ dL_law_520 z_noX (fun _ => ?_)
  refine z_istore B (lv' := [(6, .int ((fX5_addSite I R x1).1)), (5, .int ((fL_addSite X x1 g).1)), (0, .ref b), (1, .ref ax), (2, .ref (am 0)), (3, .ref ao), (4, .int (nI ii))]) dL_law_523 (by decide) rfl ?_
  refine z_aload_n B dL_law_525 4 rfl ?_
  refine z_V1 B (kX5_thrown l hl K am ((fX5_addSite I R x1).2.1) ((fX5_addSite I R x1).2.2)) [5] [0, 1, 2, 3, 4, 6] (br := [zXo ax zn sa la tr tc (fX4_addSite X x1).2.2, zSa K sa (va_up f n (some u9.1)), zSO (n + 1) (va_up so n u9.1) (va_up sc n u9.2) (va_up D n (va_up (va_up (va_up (fun _ => 0) 0 (X 2)) 1 x1) 3 1)), zSC K (n + 1) (va_up sc n u9.2) (va_up Cs n zC0), zOu K ao ((fL_addSite X x1 g).2), rs]) (bs' := [zXo ax zn sa la tr tc (fX4_addSite X x1).2.2, zSa K sa (va_up f n (some u9.1)), zSO (n + 1) (va_up so n u9.1) (va_up sc n u9.2) (va_up D n (va_up (va_up (va_up (fun _ => 0) 0 (X 2)) 1 x1) 3 1)), zSC K (n + 1) (va_up sc n u9.2) (va_up Cs n zC0), zOu K ao ((fL_addSite X x1 g).2), zMo K am ((fX5_addSite I R x1).2.1) ((fX5_addSite I R x1).2.2), rs]) (st := []) (nA := 0) (zsp rfl rfl rfl) (zsp rfl rfl rfl) 5 0 rfl rfl rfl rfl gL_law_X5_thrown rfl (by decide +kernel) ⟨Nat.le_of_ble_eq_true rfl, Nat.le_of_ble_eq_true rfl⟩ rfl rfl (Nat.le_of_ble_eq_true rfl) ⟨(show k9 + 8 + 0 + 0 ≤ 601024 by omega), (show n9 + 96 + 0 + 0 ≤ 7293034 by omega)⟩ dL_law_526 z_noX (fun _ => ?_)
  refine z_iload B dL_law_529 1 rfl ?_
  refine z_iceq B 536 dL_law_531 (by decide) (fun _ => ?_) (fun h => absurd hr.1 h)
  refine z_iload B dL_law_536 1 rfl ?_
  refine z_ifne B 553 dL_law_538 (by decide) (fun c1 => ?_) (fun c1 => ?_)
  · refine z_aload_n B dL_law_541 5 rfl ?_
    refine z_iconst B (v := 0) dL_law_542 rfl ?_
    refine z_lald B (N := 1) (f := ((fL_addSite X x1 g).2)) 4 0 rfl rfl (z_vpc (k := 0) rfl (by decide)) dL_law_543 ?_
    refine z_iload B dL_law_544 0 rfl ?_
    refine z_i2l B dL_law_546 ?_
    refine z_lcmp B dL_law_547 ?_
    refine z_ifeq B 553 dL_law_548 (by decide) (fun _ => ?_) (fun h => absurd (z_cz (hr.2 c1)) h)
    refine z_goto B (tgt := 1428) dL_law_553 (by decide) ?_
    refine z_lsub [2, 3, 4, 5, 6] rfl ?_
    refine z_widen (k' := k9 + 16) (n' := n9 + 512) (show k9 + 8 + 0 + 0 ≤ _ by omega) (show n9 + 96 + 0 + 0 ≤ _ by omega) ?_
    exact kk u9
  · refine z_goto B (tgt := 1428) dL_law_553 (by decide) ?_
    refine z_lsub [2, 3, 4, 5, 6] rfl ?_
    refine z_widen (k' := k9 + 16) (n' := n9 + 512) (show k9 + 8 + 0 + 0 ≤ _ by omega) (show n9 + 96 + 0 + 0 ≤ _ by omega) ?_
    exact kk u9
theorem kL_addSite_no (l : Launch) (hl : l.stackTraces = false) (K : zK) (ax : Nat) (zn : Nat) (sa : Nat) (la : Nat) (tr : Nat) (tc : Nat) (X : Nat → Int32) (f : Nat → Option Nat) (n : Nat) (so : Nat → Nat) (sc : Nat → Nat → Nat) (D : Nat → Nat → Int32) (Cs : Nat → Nat → Nat → Int32) (x1 : Int32) (ao : Nat) (g : Nat → Int64) (hX2 : (X 2) = nI n) (hn4 : n ≤ 4) (hc : ¬ (fX4_addSite X x1).1 = 0) : zMeN l K yL_addSite wsL_addSite { frames := 8, cells := 8, slots := 96, locals := 126 } [.ref ax, .int x1, .ref ao] [zXo ax zn sa la tr tc X, zSa K sa f, zSO n so sc D, zSC K n sc Cs, zOu K ao g] (fun u9 : Nat × (Nat → Nat) => (some (.int (fL_addSite X x1 g).1), ([zXo ax zn sa la tr tc X, zSa K sa f, zSO n so sc D, zSC K n sc Cs, zOu K ao (fL_addSite X x1 g).2] : zB))) (fun _ => True) zNo := by
  have h := kL_addSite l hl K ax zn sa la tr tc X f n so sc D Cs x1 ao g hX2 hn4
  simp only [if_neg hc] at h
  exact h
set_option maxHeartbeats 4000000 in
set_option maxRecDepth 100000 in
theorem aL_addSite_no (l : Launch) (hl : l.stackTraces = false) (K : zK) (ax : Nat) (zn : Nat) (sa : Nat) (la : Nat) (tr : Nat) (tc : Nat) (X : Nat → Int32) (f : Nat → Option Nat) (n : Nat) (so : Nat → Nat) (sc : Nat → Nat → Nat) (D : Nat → Nat → Int32) (Cs : Nat → Nat → Nat → Int32) (x1 : Int32) (ao : Nat) (g : Nat → Int64) (am : Nat → Nat) (I : Nat → Int32) (R : Nat → Nat → Int32) (hX2 : (X 2) = nI n) (hn4 : n ≤ 4) (hc : ¬ (fX4_addSite X x1).1 = 0) (h5 : ¬ (I 5) < 0) (h6 : (I 5).toNatClampNeg ≤ 4) (rs : va_W) (hr : rE ((fL_addSite X x1 g).1) ((fL_addSite X x1 g).2) ((fX5_addSite I R x1).2.1) ((fX5_addSite I R x1).1)) {p : Program} {e : Env} {s : State} {m : MethodId} {below : List Frame} {meth : Method} {c : Code} {A : Nat → Prop} {Q : State → Prop} {ret9 : Option FieldType} {nm9 : String} {tb9 : List ExceptionTableEntry} {args : Array Value} {b L ii k9 n9 : Nat} {xs : Nat → Int32} (B : zF K p l s m args meth c A cL_law 7 RL nm9 wsL_law ret9 tb9) (hX : va_X b L xs s s.heap) (hbl : b < s.heap.size) (hbA : ¬ A b) (hi1 : vp_in (nI ii + 1) L) (hv1 : xs (nI ii + 1).toNatClampNeg = x1) (hk9 : k9 + 16 ≤ 601024) (hn9 : n9 + 512 ≤ 7293034)
    (kk : ∀ u9 : Nat × (Nat → Nat), zW K p l e zR s m args below meth c A Q (k9 + 16) (n9 + 512) [zXo ax zn sa la tr tc X, zSa K sa f, zSO n so sc D, zSC K n sc Cs, zOu K ao ((fL_addSite X x1 g).2), zMo K am ((fX5_addSite I R x1).2.1) ((fX5_addSite I R x1).2.2), rs] [(0, .ref b), (1, .ref ax), (2, .ref (am 0)), (3, .ref ao), (4, .int (nI ii))] [] 1428) : zW K p l e zR s m args below meth c A Q k9 n9 [zXo ax zn sa la tr tc X, zSa K sa f, zSO n so sc D, zSC K n sc Cs, zOu K ao g, zMo K am I R, rs] [(0, .ref b), (1, .ref ax), (2, .ref (am 0)), (3, .ref ao), (4, .int (nI ii))] [] 500 := by
  refine z_aload_n B dL_law_500 1 rfl ?_
  refine z_aload_n B dL_law_501 0 rfl ?_
  refine z_iload B dL_law_502 4 rfl ?_
  refine z_iconst B (v := 1) dL_law_504 rfl ?_
  refine z_iadd B dL_law_505 ?_
  refine z_sld B hX hbl hbA hi1 hv1 dL_law_506 ?_
  refine z_aload_n B dL_law_507 3 rfl ?_
  refine z_callH B (kL_addSite_no l hl K ax zn sa la tr tc X f n so sc D Cs x1 ao g hX2 hn4 hc) [0, 1, 2, 3, 4] [5, 6] (br := [zMo K am I R, rs]) (bs' := fun u9 => [zXo ax zn sa la tr tc X, zSa K sa f, zSO n so sc D, zSC K n sc Cs, zOu K ao ((fL_addSite X x1 g).2), zMo K am I R, rs]) (st := []) (nA := 3) (zsp rfl rfl rfl) (fun _ => zsp rfl rfl rfl) gL_law_L_addSite rfl (by decide +kernel) ⟨Nat.le_of_ble_eq_true rfl, Nat.le_of_ble_eq_true rfl⟩ rfl rfl (Nat.le_of_ble_eq_true rfl) ⟨(show k9 + 8 ≤ 601024 by omega), (show n9 + 96 ≤ 7293034 by omega)⟩ dL_law_508 z_noX (fun u9 _ => ?_)
  refine z_istore B (lv' := [(5, .int ((fL_addSite X x1 g).1)), (0, .ref b), (1, .ref ax), (2, .ref (am 0)), (3, .ref ao), (4, .int (nI ii))]) dL_law_511 (by decide) rfl ?_
  refine z_aload_n B dL_law_513 3 rfl ?_
  refine z_aload_n B dL_law_514 1 rfl ?_
  refine z_iload B dL_law_515 5 rfl ?_
  refine z_iconst B (v := 1) dL_law_517 rfl ?_
  refine z_iadd B dL_law_518 ?_
  refine z_sld B hX hbl hbA hi1 hv1 dL_law_519 ?_
  refine z_V1 B (kX5_addSite l hl K am I R x1 h5 h6) [5] [0, 1, 2, 3, 4, 6] (br := [zXo ax zn sa la tr tc X, zSa K sa f, zSO n so sc D, zSC K n sc Cs, zOu K ao ((fL_addSite X x1 g).2), rs]) (bs' := [zXo ax zn sa la tr tc X, zSa K sa f, zSO n so sc D, zSC K n sc Cs, zOu K ao ((fL_addSite X x1 g).2), zMo K am ((fX5_addSite I R x1).2.1) ((fX5_addSite I R x1).2.2), rs]) (st := []) (nA := 1) (zsp rfl rfl rfl) (zsp rfl rfl rfl) 5 0 rfl rfl rfl rfl gL_law_X5_addSite rfl (by decide +kernel) ⟨Nat.le_of_ble_eq_true rfl, Nat.le_of_ble_eq_true rfl⟩ rfl rfl (Nat.le_of_ble_eq_true rfl) ⟨(show k9 + 8 + 0 ≤ 601024 by omega), (show n9 + 96 + 0 ≤ 7293034 by omega)⟩ dL_law_520 z_noX (fun _ => ?_)
  refine z_istore B (lv' := [(6, .int ((fX5_addSite I R x1).1)), (5, .int ((fL_addSite X x1 g).1)), (0, .ref b), (1, .ref ax), (2, .ref (am 0)), (3, .ref ao), (4, .int (nI ii))]) dL_law_523 (by decide) rfl ?_
  refine z_aload_n B dL_law_525 4 rfl ?_
  refine z_V1 B (kX5_thrown l hl K am ((fX5_addSite I R x1).2.1) ((fX5_addSite I R x1).2.2)) [5] [0, 1, 2, 3, 4, 6] (br := [zXo ax zn sa la tr tc X, zSa K sa f, zSO n so sc D, zSC K n sc Cs, zOu K ao ((fL_addSite X x1 g).2), rs]) (bs' := [zXo ax zn sa la tr tc X, zSa K sa f, zSO n so sc D, zSC K n sc Cs, zOu K ao ((fL_addSite X x1 g).2), zMo K am ((fX5_addSite I R x1).2.1) ((fX5_addSite I R x1).2.2), rs]) (st := []) (nA := 0) (zsp rfl rfl rfl) (zsp rfl rfl rfl) 5 0 rfl rfl rfl rfl gL_law_X5_thrown rfl (by decide +kernel) ⟨Nat.le_of_ble_eq_true rfl, Nat.le_of_ble_eq_true rfl⟩ rfl rfl (Nat.le_of_ble_eq_true rfl) ⟨(show k9 + 8 + 0 + 0 ≤ 601024 by omega), (show n9 + 96 + 0 + 0 ≤ 7293034 by omega)⟩ dL_law_526 z_noX (fun _ => ?_)
  refine z_iload B dL_law_529 1 rfl ?_
  refine z_iceq B 536 dL_law_531 (by decide) (fun _ => ?_) (fun h => absurd hr.1 h)
  refine z_iload B dL_law_536 1 rfl ?_
  refine z_ifne B 553 dL_law_538 (by decide) (fun c1 => ?_) (fun c1 => ?_)
  · refine z_aload_n B dL_law_541 5 rfl ?_
    refine z_iconst B (v := 0) dL_law_542 rfl ?_
    refine z_lald B (N := 1) (f := ((fL_addSite X x1 g).2)) 4 0 rfl rfl (z_vpc (k := 0) rfl (by decide)) dL_law_543 ?_
    refine z_iload B dL_law_544 0 rfl ?_
    refine z_i2l B dL_law_546 ?_
    refine z_lcmp B dL_law_547 ?_
    refine z_ifeq B 553 dL_law_548 (by decide) (fun _ => ?_) (fun h => absurd (z_cz (hr.2 c1)) h)
    refine z_goto B (tgt := 1428) dL_law_553 (by decide) ?_
    refine z_lsub [2, 3, 4, 5, 6] rfl ?_
    refine z_widen (k' := k9 + 16) (n' := n9 + 512) (show k9 + 8 + 0 + 0 ≤ _ by omega) (show n9 + 96 + 0 + 0 ≤ _ by omega) ?_
    exact kk u9
  · refine z_goto B (tgt := 1428) dL_law_553 (by decide) ?_
    refine z_lsub [2, 3, 4, 5, 6] rfl ?_
    refine z_widen (k' := k9 + 16) (n' := n9 + 512) (show k9 + 8 + 0 + 0 ≤ _ by omega) (show n9 + 96 + 0 + 0 ≤ _ by omega) ?_
    exact kk u9
