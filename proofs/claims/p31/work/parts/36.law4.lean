/-! THE LAW'S DEEDS -/
theorem l_D3 {T n i : Nat} {X W O Gz Gn Ge Gv Gl Gx Gh : Nat → Int32} {Z D : Nat → Nat → Int32} {Cs : Nat → Nat → Nat → Int32} (h : rA T n X Z W D Cs O Gz Gn Ge Gv Gl Gx Gh) (hi : i < n) : (D i 3) = 0 ∨ (D i 3) = 1 := by
  obtain ⟨s1, s2, b, s3, s4, s5⟩ := h.1
  rw [(s5 i hi).2.2]
  rcases (r_bit b (r_2n s3 s1) i (by omega)).2.1 with q | q
  · rw [q]; exact Or.inl rfl
  · rw [q]; exact Or.inr rfl
theorem l_z3 {x : Nat} (hx : x < 2 ^ 31) (h : ¬ nI x = 0) : ¬ nI x ≤ 0 := nI_nle (Nat.pos_of_ne_zero fun q => h (by rw [q]; rfl)) hx
theorem l_z0 {x : Int32} (h : x = 0) : x ≤ 0 := by rw [h]; decide
set_option maxHeartbeats 4000000 in
set_option maxRecDepth 100000 in
theorem la_addr (l : Launch) (hl : l.stackTraces = false) {K : zK} {ax : Nat} {sa : Nat} {az : Nat → Nat} {ak : Nat → Nat} {tk : Nat → Nat} {tc : Nat → Nat} {pz : Nat} {pn : Nat} {pe : Nat} {pv : Nat} {pl : Nat} {px : Nat} {ph : Nat} {p : Program} {e : Env} {s : State} {m : MethodId} {below : List Frame} {meth : Method} {c : Code} {A : Nat → Prop} {Q : State → Prop} {ret9 : Option FieldType} {nm9 : String} {tb9 : List ExceptionTableEntry} {args : Array Value} {b tn k9 n9 yy j T : Nat} (B : zF K p l s m args meth c A cL_law 19 RL nm9 wsL_law ret9 tb9) (hk9 : k9 + 64 ≤ 600130) (hn9 : n9 + 1024 ≤ 7301080) (hT : T ≤ 99000) (hy : yy < 2147483648) (hj : j < 16) (next : ∀ (n : Nat) (f : Nat → Option Nat) (so : Nat → Nat) (sc : Nat → Nat → Nat) (X : Nat → Int32) (Z : Nat → Nat → Int32) (W : Nat → Int32) (D : Nat → Nat → Int32) (Cs : Nat → Nat → Nat → Int32) (F : Nat → Int32) (O : Nat → Int32) (Ft : Nat → Int32) (Ot : Nat → Int32) (Tc : Nat → Nat → Int32) (Gz : Nat → Int32) (Gn : Nat → Int32) (Ge : Nat → Int32) (Gv : Nat → Int32) (Gl : Nat → Int32) (Gx : Nat → Int32) (Gh : Nat → Int32), rA (T + 1000) n X Z W D Cs O Gz Gn Ge Gv Gl Gx Gh → (∀ a, a < n → f a = some (so a)) → (∀ a, n ≤ a → a < 4 → f a = none) → zW K p l e zR s m args below meth c A Q (k9 + 64) (n9 + 1024) [zXo ax (az 0) sa (ak 0) (tk 0) (tc 0) X, zSa K sa f, zSO n so sc D, zSC K n sc Cs, zZo K az Z W, zCo K ak F O, zCo K tk Ft Ot, zCa K tc Tc, [(pz, .inl (zI K, 32, .inl Gz))], [(pn, .inl (zI K, 20, .inl Gn))], [(pe, .inl (zI K, 24, .inl Ge))], [(pv, .inl (zI K, 24, .inl Gv))], [(pl, .inl (zI K, 24, .inl Gl))], [(px, .inl (zI K, 24, .inl Gx))], [(ph, .inl (zI K, 24, .inl Gh))]] [(0, .ref b), (1, .ref ax), (2, .ref pz), (3, .ref pn), (4, .ref pe), (5, .ref pv), (6, .ref pl), (7, .ref px), (8, .ref ph), (9, .int 1), (10, .int (nI tn))] [] 995) : ∀ (n : Nat) (f : Nat → Option Nat) (so : Nat → Nat) (sc : Nat → Nat → Nat) (X : Nat → Int32) (Z : Nat → Nat → Int32) (W : Nat → Int32) (D : Nat → Nat → Int32) (Cs : Nat → Nat → Nat → Int32) (F : Nat → Int32) (O : Nat → Int32) (Ft : Nat → Int32) (Ot : Nat → Int32) (Tc : Nat → Nat → Int32) (Gz : Nat → Int32) (Gn : Nat → Int32) (Ge : Nat → Int32) (Gv : Nat → Int32) (Gl : Nat → Int32) (Gx : Nat → Int32) (Gh : Nat → Int32), rA T n X Z W D Cs O Gz Gn Ge Gv Gl Gx Gh → (∀ a, a < n → f a = some (so a)) → (∀ a, n ≤ a → a < 4 → f a = none) → zW K p l e zR s m args below meth c A Q k9 n9 [zXo ax (az 0) sa (ak 0) (tk 0) (tc 0) X, zSa K sa f, zSO n so sc D, zSC K n sc Cs, zZo K az Z W, zCo K ak F O, zCo K tk Ft Ot, zCa K tc Tc, [(pz, .inl (zI K, 32, .inl Gz))], [(pn, .inl (zI K, 20, .inl Gn))], [(pe, .inl (zI K, 24, .inl Ge))], [(pv, .inl (zI K, 24, .inl Gv))], [(pl, .inl (zI K, 24, .inl Gl))], [(px, .inl (zI K, 24, .inl Gx))], [(ph, .inl (zI K, 24, .inl Gh))]] [(0, .ref b), (1, .ref ax), (2, .ref pz), (3, .ref pn), (4, .ref pe), (5, .ref pv), (6, .ref pl), (7, .ref px), (8, .ref ph), (9, .int 1), (10, .int (nI tn)), (13, .int (nI yy)), (14, .int (nI j))] [] 192 := by
  intro n f so sc X Z W D Cs F O Ft Ot Tc Gz Gn Ge Gv Gl Gx Gh hR hf1 hf2
  refine z_aload_n B dL_law_192 2 rfl ?_
  refine z_iload B dL_law_193 12 rfl ?_
  refine z_iconst B (v := 1) dL_law_195 rfl ?_
  refine z_iload B dL_law_196 11 rfl ?_
  refine z_bipush B (v := 16) dL_law_198 rfl ?_
  refine z_idivN B (a := yy) (b := 16) (by omega) (by decide) (by decide) dL_law_200 ?_
  refine z_sipush B (v := 9999) dL_law_201 rfl ?_
  refine z_iremN B (a := yy / 16) (b := 9999) (by omega) (by decide) (by decide) dL_law_204 ?_
  refine z_iaddN B (a := 1) (b := (yy / 16) % 9999) dL_law_205 ?_
  obtain ⟨v, hv_v, hv0, hv1⟩ : ∃ v, 1 + ((yy / 16) % 9999) = v ∧ 1 ≤ v ∧ v ≤ 9999 := ⟨_, rfl, by omega, by omega⟩
  rw [hv_v]
  refine z_iastn B (N := 32) (f := Gz) (k0 := j) 8 0 rfl rfl (z_nIr (by omega) (by decide)) (nI_clamp (by omega)) (bs' := [zXo ax (az 0) sa (ak 0) (tk 0) (tc 0) X, zSa K sa f, zSO n so sc D, zSC K n sc Cs, zZo K az Z W, zCo K ak F O, zCo K tk Ft Ot, zCa K tc Tc, [(pz, .inl (zI K, 32, .inl (upd Gz j (nI v))))], [(pn, .inl (zI K, 20, .inl Gn))], [(pe, .inl (zI K, 24, .inl Ge))], [(pv, .inl (zI K, 24, .inl Gv))], [(pl, .inl (zI K, 24, .inl Gl))], [(px, .inl (zI K, 24, .inl Gx))], [(ph, .inl (zI K, 24, .inl Gh))]]) rfl dL_law_206 ?_
  refine z_aload_n B dL_law_207 2 rfl ?_
  refine z_bipush B (v := 16) dL_law_208 rfl ?_
  refine z_iload B dL_law_210 12 rfl ?_
  refine z_iaddN B (a := 16) (b := j) dL_law_212 ?_
  refine z_iconst B (v := 1) dL_law_213 rfl ?_
  refine z_iload B dL_law_214 11 rfl ?_
  refine z_bipush B (v := 48) dL_law_216 rfl ?_
  refine z_idivN B (a := yy) (b := 48) (by omega) (by decide) (by decide) dL_law_218 ?_
  refine z_iload B dL_law_219 11 rfl ?_
  refine z_iconst B (v := 3) dL_law_221 rfl ?_
  refine z_iremN B (a := yy) (b := 3) (by omega) (by decide) (by decide) dL_law_222 ?_
  refine z_ifne B 232 dL_law_223 (by decide) (fun c1 => ?_) (fun c1 => ?_)
  · refine z_sipush B (v := 1000) dL_law_226 rfl ?_
    refine z_goto B (tgt := 234) dL_law_229 (by decide) ?_
    refine z_iremN B (a := yy / 48) (b := 1000) (by omega) (by decide) (by decide) dL_law_234 ?_
    refine z_iaddN B (a := 1) (b := (yy / 48) % 1000) dL_law_235 ?_
    obtain ⟨q, hv_q, hq0, hq1⟩ : ∃ q, 1 + ((yy / 48) % 1000) = q ∧ 1 ≤ q ∧ q ≤ 1000 := ⟨_, rfl, by omega, by omega⟩
    rw [hv_q]
    refine z_iastn B (N := 32) (f := (upd Gz j (nI v))) (k0 := 16 + j) 8 0 rfl rfl (z_nIr (by omega) (by decide)) (nI_clamp (by omega)) (bs' := [zXo ax (az 0) sa (ak 0) (tk 0) (tc 0) X, zSa K sa f, zSO n so sc D, zSC K n sc Cs, zZo K az Z W, zCo K ak F O, zCo K tk Ft Ot, zCa K tc Tc, [(pz, .inl (zI K, 32, .inl (upd (upd Gz j (nI v)) (16 + j) (nI q))))], [(pn, .inl (zI K, 20, .inl Gn))], [(pe, .inl (zI K, 24, .inl Ge))], [(pv, .inl (zI K, 24, .inl Gv))], [(pl, .inl (zI K, 24, .inl Gl))], [(px, .inl (zI K, 24, .inl Gx))], [(ph, .inl (zI K, 24, .inl Gh))]]) rfl dL_law_236 ?_
    refine z_aload_n B dL_law_237 1 rfl ?_
    refine z_iload B dL_law_238 12 rfl ?_
    refine z_aload_n B dL_law_240 2 rfl ?_
    refine z_iload B dL_law_241 12 rfl ?_
    refine z_ialdn B (N := 32) (f := (upd (upd Gz j (nI v)) (16 + j) (nI q))) (k0 := j) (v := ((upd (upd Gz j (nI v)) (16 + j) (nI q)) j)) 8 0 rfl rfl (z_nIr (by omega) (by decide)) (nI_clamp (by omega)) rfl dL_law_243 ?_
    refine z_tope (y := nI v) ((pk_un (by omega)).trans pk_us) ?_
    refine z_aload_n B dL_law_244 2 rfl ?_
    refine z_bipush B (v := 16) dL_law_245 rfl ?_
    refine z_iload B dL_law_247 12 rfl ?_
    refine z_iaddN B (a := 16) (b := j) dL_law_249 ?_
    refine z_ialdn B (N := 32) (f := (upd (upd Gz j (nI v)) (16 + j) (nI q))) (k0 := 16 + j) (v := (nI q)) 8 0 rfl rfl (z_nIr (by omega) (by decide)) (nI_clamp (by omega)) pk_us dL_law_250 ?_
    refine z_V0 B (kX4_setAddress_o l hl K ax az sa (ak 0) (tk 0) (tc 0) X Z W (nI j) (nI v) (nI q) (nI_pos (by omega)) (r_n16 (by omega)) (l_ge1 (by omega) (by omega)) (show nI v ≤ nI 9999 from nI_le (by omega) (by decide)) (l_ge1 (by omega) (by omega)) (show nI q ≤ nI 1000 from nI_le (by omega) (by decide))) [0, 4] [1, 2, 3, 5, 6, 7, 8, 9, 10, 11, 12, 13, 14] (br := [zSa K sa f, zSO n so sc D, zSC K n sc Cs, zCo K ak F O, zCo K tk Ft Ot, zCa K tc Tc, [(pz, .inl (zI K, 32, .inl (upd (upd Gz j (nI v)) (16 + j) (nI q))))], [(pn, .inl (zI K, 20, .inl Gn))], [(pe, .inl (zI K, 24, .inl Ge))], [(pv, .inl (zI K, 24, .inl Gv))], [(pl, .inl (zI K, 24, .inl Gl))], [(px, .inl (zI K, 24, .inl Gx))], [(ph, .inl (zI K, 24, .inl Gh))]]) (bs' := [zXo ax (az 0) sa (ak 0) (tk 0) (tc 0) X, zSa K sa f, zSO n so sc D, zSC K n sc Cs, zZo K az (fX4_setAddress_o X Z W (nI j) (nI v) (nI q)) W, zCo K ak F O, zCo K tk Ft Ot, zCa K tc Tc, [(pz, .inl (zI K, 32, .inl (upd (upd Gz j (nI v)) (16 + j) (nI q))))], [(pn, .inl (zI K, 20, .inl Gn))], [(pe, .inl (zI K, 24, .inl Ge))], [(pv, .inl (zI K, 24, .inl Gv))], [(pl, .inl (zI K, 24, .inl Gl))], [(px, .inl (zI K, 24, .inl Gx))], [(ph, .inl (zI K, 24, .inl Gh))]]) (st := []) (nA := 3) (zspN 15 rfl rfl rfl (by decide +kernel)) (zspN 15 rfl rfl rfl (by decide +kernel)) 0 0 rfl rfl rfl rfl gL_law_X4_setAddress rfl (by decide +kernel) ⟨Nat.le_of_ble_eq_true rfl, Nat.le_of_ble_eq_true rfl⟩ rfl rfl (Nat.le_of_ble_eq_true rfl) ⟨(show k9 + 0 ≤ 600130 by omega), (show n9 + 0 ≤ 7301080 by omega)⟩ dL_law_251 z_noX (fun _ => ?_)
    refine z_goto B (tgt := 995) dL_law_254 (by decide) ?_
    refine z_lsub [0, 1, 2, 3, 4, 5, 6, 7, 8, 9, 10] rfl ?_
    refine z_widen (k' := k9 + 64) (n' := n9 + 1024) (show k9 + 0 ≤ _ by omega) (show n9 + 0 ≤ _ by omega) ?_
    exact next n f so sc X (fX4_setAddress_o X Z W (nI j) (nI v) (nI q)) W D Cs F O Ft Ot Tc (upd (upd Gz j (nI v)) (16 + j) (nI q)) Gn Ge Gv Gl Gx Gh ((q_setAddress hR hj hv0 hv1 hq0 hq1).up (by omega)) hf1 hf2
  · refine z_bipush B (v := 24) dL_law_232 rfl ?_
    refine z_iremN B (a := yy / 48) (b := 24) (by omega) (by decide) (by decide) dL_law_234 ?_
    refine z_iaddN B (a := 1) (b := (yy / 48) % 24) dL_law_235 ?_
    obtain ⟨q, hv_q, hq0, hq1⟩ : ∃ q, 1 + ((yy / 48) % 24) = q ∧ 1 ≤ q ∧ q ≤ 1000 := ⟨_, rfl, by omega, by omega⟩
    rw [hv_q]
    refine z_iastn B (N := 32) (f := (upd Gz j (nI v))) (k0 := 16 + j) 8 0 rfl rfl (z_nIr (by omega) (by decide)) (nI_clamp (by omega)) (bs' := [zXo ax (az 0) sa (ak 0) (tk 0) (tc 0) X, zSa K sa f, zSO n so sc D, zSC K n sc Cs, zZo K az Z W, zCo K ak F O, zCo K tk Ft Ot, zCa K tc Tc, [(pz, .inl (zI K, 32, .inl (upd (upd Gz j (nI v)) (16 + j) (nI q))))], [(pn, .inl (zI K, 20, .inl Gn))], [(pe, .inl (zI K, 24, .inl Ge))], [(pv, .inl (zI K, 24, .inl Gv))], [(pl, .inl (zI K, 24, .inl Gl))], [(px, .inl (zI K, 24, .inl Gx))], [(ph, .inl (zI K, 24, .inl Gh))]]) rfl dL_law_236 ?_
    refine z_aload_n B dL_law_237 1 rfl ?_
    refine z_iload B dL_law_238 12 rfl ?_
    refine z_aload_n B dL_law_240 2 rfl ?_
    refine z_iload B dL_law_241 12 rfl ?_
    refine z_ialdn B (N := 32) (f := (upd (upd Gz j (nI v)) (16 + j) (nI q))) (k0 := j) (v := ((upd (upd Gz j (nI v)) (16 + j) (nI q)) j)) 8 0 rfl rfl (z_nIr (by omega) (by decide)) (nI_clamp (by omega)) rfl dL_law_243 ?_
    refine z_tope (y := nI v) ((pk_un (by omega)).trans pk_us) ?_
    refine z_aload_n B dL_law_244 2 rfl ?_
    refine z_bipush B (v := 16) dL_law_245 rfl ?_
    refine z_iload B dL_law_247 12 rfl ?_
    refine z_iaddN B (a := 16) (b := j) dL_law_249 ?_
    refine z_ialdn B (N := 32) (f := (upd (upd Gz j (nI v)) (16 + j) (nI q))) (k0 := 16 + j) (v := (nI q)) 8 0 rfl rfl (z_nIr (by omega) (by decide)) (nI_clamp (by omega)) pk_us dL_law_250 ?_
    refine z_V0 B (kX4_setAddress_o l hl K ax az sa (ak 0) (tk 0) (tc 0) X Z W (nI j) (nI v) (nI q) (nI_pos (by omega)) (r_n16 (by omega)) (l_ge1 (by omega) (by omega)) (show nI v ≤ nI 9999 from nI_le (by omega) (by decide)) (l_ge1 (by omega) (by omega)) (show nI q ≤ nI 1000 from nI_le (by omega) (by decide))) [0, 4] [1, 2, 3, 5, 6, 7, 8, 9, 10, 11, 12, 13, 14] (br := [zSa K sa f, zSO n so sc D, zSC K n sc Cs, zCo K ak F O, zCo K tk Ft Ot, zCa K tc Tc, [(pz, .inl (zI K, 32, .inl (upd (upd Gz j (nI v)) (16 + j) (nI q))))], [(pn, .inl (zI K, 20, .inl Gn))], [(pe, .inl (zI K, 24, .inl Ge))], [(pv, .inl (zI K, 24, .inl Gv))], [(pl, .inl (zI K, 24, .inl Gl))], [(px, .inl (zI K, 24, .inl Gx))], [(ph, .inl (zI K, 24, .inl Gh))]]) (bs' := [zXo ax (az 0) sa (ak 0) (tk 0) (tc 0) X, zSa K sa f, zSO n so sc D, zSC K n sc Cs, zZo K az (fX4_setAddress_o X Z W (nI j) (nI v) (nI q)) W, zCo K ak F O, zCo K tk Ft Ot, zCa K tc Tc, [(pz, .inl (zI K, 32, .inl (upd (upd Gz j (nI v)) (16 + j) (nI q))))], [(pn, .inl (zI K, 20, .inl Gn))], [(pe, .inl (zI K, 24, .inl Ge))], [(pv, .inl (zI K, 24, .inl Gv))], [(pl, .inl (zI K, 24, .inl Gl))], [(px, .inl (zI K, 24, .inl Gx))], [(ph, .inl (zI K, 24, .inl Gh))]]) (st := []) (nA := 3) (zspN 15 rfl rfl rfl (by decide +kernel)) (zspN 15 rfl rfl rfl (by decide +kernel)) 0 0 rfl rfl rfl rfl gL_law_X4_setAddress rfl (by decide +kernel) ⟨Nat.le_of_ble_eq_true rfl, Nat.le_of_ble_eq_true rfl⟩ rfl rfl (Nat.le_of_ble_eq_true rfl) ⟨(show k9 + 0 ≤ 600130 by omega), (show n9 + 0 ≤ 7301080 by omega)⟩ dL_law_251 z_noX (fun _ => ?_)
    refine z_goto B (tgt := 995) dL_law_254 (by decide) ?_
    refine z_lsub [0, 1, 2, 3, 4, 5, 6, 7, 8, 9, 10] rfl ?_
    refine z_widen (k' := k9 + 64) (n' := n9 + 1024) (show k9 + 0 ≤ _ by omega) (show n9 + 0 ≤ _ by omega) ?_
    exact next n f so sc X (fX4_setAddress_o X Z W (nI j) (nI v) (nI q)) W D Cs F O Ft Ot Tc (upd (upd Gz j (nI v)) (16 + j) (nI q)) Gn Ge Gv Gl Gx Gh ((q_setAddress hR hj hv0 hv1 hq0 hq1).up (by omega)) hf1 hf2
set_option maxHeartbeats 4000000 in
set_option maxRecDepth 100000 in
theorem la_alias (l : Launch) (hl : l.stackTraces = false) {K : zK} {ax : Nat} {sa : Nat} {az : Nat → Nat} {ak : Nat → Nat} {tk : Nat → Nat} {tc : Nat → Nat} {pz : Nat} {pn : Nat} {pe : Nat} {pv : Nat} {pl : Nat} {px : Nat} {ph : Nat} {p : Program} {e : Env} {s : State} {m : MethodId} {below : List Frame} {meth : Method} {c : Code} {A : Nat → Prop} {Q : State → Prop} {ret9 : Option FieldType} {nm9 : String} {tb9 : List ExceptionTableEntry} {args : Array Value} {b tn k9 n9 yy j T : Nat} (B : zF K p l s m args meth c A cL_law 19 RL nm9 wsL_law ret9 tb9) (hk9 : k9 + 64 ≤ 600130) (hn9 : n9 + 1024 ≤ 7301080) (hT : T ≤ 99000) (hy : yy < 2147483648) (hj : j < 16) (next : ∀ (n : Nat) (f : Nat → Option Nat) (so : Nat → Nat) (sc : Nat → Nat → Nat) (X : Nat → Int32) (Z : Nat → Nat → Int32) (W : Nat → Int32) (D : Nat → Nat → Int32) (Cs : Nat → Nat → Nat → Int32) (F : Nat → Int32) (O : Nat → Int32) (Ft : Nat → Int32) (Ot : Nat → Int32) (Tc : Nat → Nat → Int32) (Gz : Nat → Int32) (Gn : Nat → Int32) (Ge : Nat → Int32) (Gv : Nat → Int32) (Gl : Nat → Int32) (Gx : Nat → Int32) (Gh : Nat → Int32), rA (T + 1000) n X Z W D Cs O Gz Gn Ge Gv Gl Gx Gh → (∀ a, a < n → f a = some (so a)) → (∀ a, n ≤ a → a < 4 → f a = none) → zW K p l e zR s m args below meth c A Q (k9 + 64) (n9 + 1024) [zXo ax (az 0) sa (ak 0) (tk 0) (tc 0) X, zSa K sa f, zSO n so sc D, zSC K n sc Cs, zZo K az Z W, zCo K ak F O, zCo K tk Ft Ot, zCa K tc Tc, [(pz, .inl (zI K, 32, .inl Gz))], [(pn, .inl (zI K, 20, .inl Gn))], [(pe, .inl (zI K, 24, .inl Ge))], [(pv, .inl (zI K, 24, .inl Gv))], [(pl, .inl (zI K, 24, .inl Gl))], [(px, .inl (zI K, 24, .inl Gx))], [(ph, .inl (zI K, 24, .inl Gh))]] [(0, .ref b), (1, .ref ax), (2, .ref pz), (3, .ref pn), (4, .ref pe), (5, .ref pv), (6, .ref pl), (7, .ref px), (8, .ref ph), (9, .int 1), (10, .int (nI tn))] [] 995) : ∀ (n : Nat) (f : Nat → Option Nat) (so : Nat → Nat) (sc : Nat → Nat → Nat) (X : Nat → Int32) (Z : Nat → Nat → Int32) (W : Nat → Int32) (D : Nat → Nat → Int32) (Cs : Nat → Nat → Nat → Int32) (F : Nat → Int32) (O : Nat → Int32) (Ft : Nat → Int32) (Ot : Nat → Int32) (Tc : Nat → Nat → Int32) (Gz : Nat → Int32) (Gn : Nat → Int32) (Ge : Nat → Int32) (Gv : Nat → Int32) (Gl : Nat → Int32) (Gx : Nat → Int32) (Gh : Nat → Int32), rA T n X Z W D Cs O Gz Gn Ge Gv Gl Gx Gh → (∀ a, a < n → f a = some (so a)) → (∀ a, n ≤ a → a < 4 → f a = none) → zW K p l e zR s m args below meth c A Q k9 n9 [zXo ax (az 0) sa (ak 0) (tk 0) (tc 0) X, zSa K sa f, zSO n so sc D, zSC K n sc Cs, zZo K az Z W, zCo K ak F O, zCo K tk Ft Ot, zCa K tc Tc, [(pz, .inl (zI K, 32, .inl Gz))], [(pn, .inl (zI K, 20, .inl Gn))], [(pe, .inl (zI K, 24, .inl Ge))], [(pv, .inl (zI K, 24, .inl Gv))], [(pl, .inl (zI K, 24, .inl Gl))], [(px, .inl (zI K, 24, .inl Gx))], [(ph, .inl (zI K, 24, .inl Gh))]] [(0, .ref b), (1, .ref ax), (2, .ref pz), (3, .ref pn), (4, .ref pe), (5, .ref pv), (6, .ref pl), (7, .ref px), (8, .ref ph), (9, .int 1), (10, .int (nI tn)), (13, .int (nI yy)), (14, .int (nI j))] [] 263 := by
  intro n f so sc X Z W D Cs F O Ft Ot Tc Gz Gn Ge Gv Gl Gx Gh hR hf1 hf2
  refine z_iload B dL_law_263 12 rfl ?_
  refine z_iconst B (v := 1) dL_law_265 rfl ?_
  refine z_iaddN B (a := j) (b := 1) dL_law_266 ?_
  refine z_iload B dL_law_267 11 rfl ?_
  refine z_bipush B (v := 16) dL_law_269 rfl ?_
  refine z_idivN B (a := yy) (b := 16) (by omega) (by decide) (by decide) dL_law_271 ?_
  refine z_bipush B (v := 15) dL_law_272 rfl ?_
  refine z_iremN B (a := yy / 16) (b := 15) (by omega) (by decide) (by decide) dL_law_274 ?_
  refine z_iaddN B (a := j + 1) (b := (yy / 16) % 15) dL_law_275 ?_
  refine z_bipush B (v := 16) dL_law_276 rfl ?_
  refine z_iremN B (a := j + 1 + ((yy / 16) % 15)) (b := 16) (by omega) (by decide) (by decide) dL_law_278 ?_
  obtain ⟨t, hv_t, ht0, ht1⟩ : ∃ t, (j + 1 + ((yy / 16) % 15)) % 16 = t ∧ t < 16 ∧ t ≠ j := ⟨_, rfl, by omega, by omega⟩
  rw [hv_t]
  have htj := ht1
  refine z_istore B (lv' := [(15, .int (nI t)), (0, .ref b), (1, .ref ax), (2, .ref pz), (3, .ref pn), (4, .ref pe), (5, .ref pv), (6, .ref pl), (7, .ref px), (8, .ref ph), (9, .int 1), (10, .int (nI tn)), (13, .int (nI yy)), (14, .int (nI j))]) dL_law_279 (by decide) rfl ?_
  refine z_aload_n B dL_law_281 3 rfl ?_
  refine z_iload B dL_law_282 13 rfl ?_
  refine z_iconst B (v := (-1)) dL_law_284 rfl ?_
  refine z_iload B dL_law_285 0 rfl ?_
  refine z_isub B dL_law_287 ?_
  refine z_iastn B (N := 32) (f := Gz) (k0 := j) 8 0 rfl rfl (z_nIr (by omega) (by decide)) (nI_clamp (by omega)) (bs' := [zXo ax (az 0) sa (ak 0) (tk 0) (tc 0) X, zSa K sa f, zSO n so sc D, zSC K n sc Cs, zZo K az Z W, zCo K ak F O, zCo K tk Ft Ot, zCa K tc Tc, [(pz, .inl (zI K, 32, .inl (upd Gz j ((-1) - (nI t)))))], [(pn, .inl (zI K, 20, .inl Gn))], [(pe, .inl (zI K, 24, .inl Ge))], [(pv, .inl (zI K, 24, .inl Gv))], [(pl, .inl (zI K, 24, .inl Gl))], [(px, .inl (zI K, 24, .inl Gx))], [(ph, .inl (zI K, 24, .inl Gh))]]) rfl dL_law_288 ?_
  refine z_aload_n B dL_law_289 3 rfl ?_
  refine z_bipush B (v := 16) dL_law_290 rfl ?_
  refine z_iload B dL_law_292 13 rfl ?_
  refine z_iaddN B (a := 16) (b := j) dL_law_294 ?_
  refine z_iconst B (v := 1) dL_law_295 rfl ?_
  refine z_iload B dL_law_296 12 rfl ?_
  refine z_sipush B (v := 240) dL_law_298 rfl ?_
  refine z_idivN B (a := yy) (b := 240) (by omega) (by decide) (by decide) dL_law_301 ?_
  refine z_iload B dL_law_302 12 rfl ?_
  refine z_iconst B (v := 3) dL_law_304 rfl ?_
  refine z_iremN B (a := yy) (b := 3) (by omega) (by decide) (by decide) dL_law_305 ?_
  refine z_ifne B 315 dL_law_306 (by decide) (fun c1 => ?_) (fun c1 => ?_)
  · refine z_sipush B (v := 1000) dL_law_309 rfl ?_
    refine z_goto B (tgt := 317) dL_law_312 (by decide) ?_
    refine z_iremN B (a := yy / 240) (b := 1000) (by omega) (by decide) (by decide) dL_law_317 ?_
    refine z_iaddN B (a := 1) (b := (yy / 240) % 1000) dL_law_318 ?_
    obtain ⟨q, hv_q, hq0, hq1⟩ : ∃ q, 1 + ((yy / 240) % 1000) = q ∧ 1 ≤ q ∧ q ≤ 1000 := ⟨_, rfl, by omega, by omega⟩
    rw [hv_q]
    refine z_iastn B (N := 32) (f := (upd Gz j ((-1) - (nI t)))) (k0 := 16 + j) 8 0 rfl rfl (z_nIr (by omega) (by decide)) (nI_clamp (by omega)) (bs' := [zXo ax (az 0) sa (ak 0) (tk 0) (tc 0) X, zSa K sa f, zSO n so sc D, zSC K n sc Cs, zZo K az Z W, zCo K ak F O, zCo K tk Ft Ot, zCa K tc Tc, [(pz, .inl (zI K, 32, .inl (upd (upd Gz j ((-1) - (nI t))) (16 + j) (nI q))))], [(pn, .inl (zI K, 20, .inl Gn))], [(pe, .inl (zI K, 24, .inl Ge))], [(pv, .inl (zI K, 24, .inl Gv))], [(pl, .inl (zI K, 24, .inl Gl))], [(px, .inl (zI K, 24, .inl Gx))], [(ph, .inl (zI K, 24, .inl Gh))]]) rfl dL_law_319 ?_
    refine z_aload_n B dL_law_320 2 rfl ?_
    refine z_iload B dL_law_321 13 rfl ?_
    refine z_iload B dL_law_323 0 rfl ?_
    refine z_aload_n B dL_law_325 3 rfl ?_
    refine z_bipush B (v := 16) dL_law_326 rfl ?_
    refine z_iload B dL_law_328 13 rfl ?_
    refine z_iaddN B (a := 16) (b := j) dL_law_330 ?_
    refine z_ialdn B (N := 32) (f := (upd (upd Gz j ((-1) - (nI t))) (16 + j) (nI q))) (k0 := 16 + j) (v := (nI q)) 8 0 rfl rfl (z_nIr (by omega) (by decide)) (nI_clamp (by omega)) pk_us dL_law_331 ?_
    refine z_V0 B (kX4_setAlias_o l hl K ax az sa (ak 0) (tk 0) (tc 0) X Z W (nI j) (nI t) (nI q) (nI_pos (by omega)) (r_n16 (by omega)) (nI_pos (by omega)) (r_n16 (by omega)) (fun q9 => htj ((nI_eq (by omega) (by omega)).mp q9)) (l_ge1 (by omega) (by omega)) (show nI q ≤ nI 1000 from nI_le (by omega) (by decide))) [0, 4] [1, 2, 3, 5, 6, 7, 8, 9, 10, 11, 12, 13, 14] (br := [zSa K sa f, zSO n so sc D, zSC K n sc Cs, zCo K ak F O, zCo K tk Ft Ot, zCa K tc Tc, [(pz, .inl (zI K, 32, .inl (upd (upd Gz j ((-1) - (nI t))) (16 + j) (nI q))))], [(pn, .inl (zI K, 20, .inl Gn))], [(pe, .inl (zI K, 24, .inl Ge))], [(pv, .inl (zI K, 24, .inl Gv))], [(pl, .inl (zI K, 24, .inl Gl))], [(px, .inl (zI K, 24, .inl Gx))], [(ph, .inl (zI K, 24, .inl Gh))]]) (bs' := [zXo ax (az 0) sa (ak 0) (tk 0) (tc 0) X, zSa K sa f, zSO n so sc D, zSC K n sc Cs, zZo K az (fX4_setAlias_o X Z W (nI j) (nI t) (nI q)) W, zCo K ak F O, zCo K tk Ft Ot, zCa K tc Tc, [(pz, .inl (zI K, 32, .inl (upd (upd Gz j ((-1) - (nI t))) (16 + j) (nI q))))], [(pn, .inl (zI K, 20, .inl Gn))], [(pe, .inl (zI K, 24, .inl Ge))], [(pv, .inl (zI K, 24, .inl Gv))], [(pl, .inl (zI K, 24, .inl Gl))], [(px, .inl (zI K, 24, .inl Gx))], [(ph, .inl (zI K, 24, .inl Gh))]]) (st := []) (nA := 3) (zspN 15 rfl rfl rfl (by decide +kernel)) (zspN 15 rfl rfl rfl (by decide +kernel)) 0 0 rfl rfl rfl rfl gL_law_X4_setAlias rfl (by decide +kernel) ⟨Nat.le_of_ble_eq_true rfl, Nat.le_of_ble_eq_true rfl⟩ rfl rfl (Nat.le_of_ble_eq_true rfl) ⟨(show k9 + 0 ≤ 600130 by omega), (show n9 + 0 ≤ 7301080 by omega)⟩ dL_law_332 z_noX (fun _ => ?_)
    refine z_goto B (tgt := 995) dL_law_335 (by decide) ?_
    refine z_lsub [1, 2, 3, 4, 5, 6, 7, 8, 9, 10, 11] rfl ?_
    refine z_widen (k' := k9 + 64) (n' := n9 + 1024) (show k9 + 0 ≤ _ by omega) (show n9 + 0 ≤ _ by omega) ?_
    exact next n f so sc X (fX4_setAlias_o X Z W (nI j) (nI t) (nI q)) W D Cs F O Ft Ot Tc (upd (upd Gz j ((-1) - (nI t))) (16 + j) (nI q)) Gn Ge Gv Gl Gx Gh ((q_setAlias hR hj ht0 hq0 hq1).up (by omega)) hf1 hf2
  · refine z_bipush B (v := 24) dL_law_315 rfl ?_
    refine z_iremN B (a := yy / 240) (b := 24) (by omega) (by decide) (by decide) dL_law_317 ?_
    refine z_iaddN B (a := 1) (b := (yy / 240) % 24) dL_law_318 ?_
    obtain ⟨q, hv_q, hq0, hq1⟩ : ∃ q, 1 + ((yy / 240) % 24) = q ∧ 1 ≤ q ∧ q ≤ 1000 := ⟨_, rfl, by omega, by omega⟩
    rw [hv_q]
    refine z_iastn B (N := 32) (f := (upd Gz j ((-1) - (nI t)))) (k0 := 16 + j) 8 0 rfl rfl (z_nIr (by omega) (by decide)) (nI_clamp (by omega)) (bs' := [zXo ax (az 0) sa (ak 0) (tk 0) (tc 0) X, zSa K sa f, zSO n so sc D, zSC K n sc Cs, zZo K az Z W, zCo K ak F O, zCo K tk Ft Ot, zCa K tc Tc, [(pz, .inl (zI K, 32, .inl (upd (upd Gz j ((-1) - (nI t))) (16 + j) (nI q))))], [(pn, .inl (zI K, 20, .inl Gn))], [(pe, .inl (zI K, 24, .inl Ge))], [(pv, .inl (zI K, 24, .inl Gv))], [(pl, .inl (zI K, 24, .inl Gl))], [(px, .inl (zI K, 24, .inl Gx))], [(ph, .inl (zI K, 24, .inl Gh))]]) rfl dL_law_319 ?_
    refine z_aload_n B dL_law_320 2 rfl ?_
    refine z_iload B dL_law_321 13 rfl ?_
    refine z_iload B dL_law_323 0 rfl ?_
    refine z_aload_n B dL_law_325 3 rfl ?_
    refine z_bipush B (v := 16) dL_law_326 rfl ?_
    refine z_iload B dL_law_328 13 rfl ?_
    refine z_iaddN B (a := 16) (b := j) dL_law_330 ?_
    refine z_ialdn B (N := 32) (f := (upd (upd Gz j ((-1) - (nI t))) (16 + j) (nI q))) (k0 := 16 + j) (v := (nI q)) 8 0 rfl rfl (z_nIr (by omega) (by decide)) (nI_clamp (by omega)) pk_us dL_law_331 ?_
    refine z_V0 B (kX4_setAlias_o l hl K ax az sa (ak 0) (tk 0) (tc 0) X Z W (nI j) (nI t) (nI q) (nI_pos (by omega)) (r_n16 (by omega)) (nI_pos (by omega)) (r_n16 (by omega)) (fun q9 => htj ((nI_eq (by omega) (by omega)).mp q9)) (l_ge1 (by omega) (by omega)) (show nI q ≤ nI 1000 from nI_le (by omega) (by decide))) [0, 4] [1, 2, 3, 5, 6, 7, 8, 9, 10, 11, 12, 13, 14] (br := [zSa K sa f, zSO n so sc D, zSC K n sc Cs, zCo K ak F O, zCo K tk Ft Ot, zCa K tc Tc, [(pz, .inl (zI K, 32, .inl (upd (upd Gz j ((-1) - (nI t))) (16 + j) (nI q))))], [(pn, .inl (zI K, 20, .inl Gn))], [(pe, .inl (zI K, 24, .inl Ge))], [(pv, .inl (zI K, 24, .inl Gv))], [(pl, .inl (zI K, 24, .inl Gl))], [(px, .inl (zI K, 24, .inl Gx))], [(ph, .inl (zI K, 24, .inl Gh))]]) (bs' := [zXo ax (az 0) sa (ak 0) (tk 0) (tc 0) X, zSa K sa f, zSO n so sc D, zSC K n sc Cs, zZo K az (fX4_setAlias_o X Z W (nI j) (nI t) (nI q)) W, zCo K ak F O, zCo K tk Ft Ot, zCa K tc Tc, [(pz, .inl (zI K, 32, .inl (upd (upd Gz j ((-1) - (nI t))) (16 + j) (nI q))))], [(pn, .inl (zI K, 20, .inl Gn))], [(pe, .inl (zI K, 24, .inl Ge))], [(pv, .inl (zI K, 24, .inl Gv))], [(pl, .inl (zI K, 24, .inl Gl))], [(px, .inl (zI K, 24, .inl Gx))], [(ph, .inl (zI K, 24, .inl Gh))]]) (st := []) (nA := 3) (zspN 15 rfl rfl rfl (by decide +kernel)) (zspN 15 rfl rfl rfl (by decide +kernel)) 0 0 rfl rfl rfl rfl gL_law_X4_setAlias rfl (by decide +kernel) ⟨Nat.le_of_ble_eq_true rfl, Nat.le_of_ble_eq_true rfl⟩ rfl rfl (Nat.le_of_ble_eq_true rfl) ⟨(show k9 + 0 ≤ 600130 by omega), (show n9 + 0 ≤ 7301080 by omega)⟩ dL_law_332 z_noX (fun _ => ?_)
    refine z_goto B (tgt := 995) dL_law_335 (by decide) ?_
    refine z_lsub [1, 2, 3, 4, 5, 6, 7, 8, 9, 10, 11] rfl ?_
    refine z_widen (k' := k9 + 64) (n' := n9 + 1024) (show k9 + 0 ≤ _ by omega) (show n9 + 0 ≤ _ by omega) ?_
    exact next n f so sc X (fX4_setAlias_o X Z W (nI j) (nI t) (nI q)) W D Cs F O Ft Ot Tc (upd (upd Gz j ((-1) - (nI t))) (16 + j) (nI q)) Gn Ge Gv Gl Gx Gh ((q_setAlias hR hj ht0 hq0 hq1).up (by omega)) hf1 hf2
set_option maxHeartbeats 4000000 in
set_option maxRecDepth 100000 in
theorem la_rem (l : Launch) (hl : l.stackTraces = false) {K : zK} {ax : Nat} {sa : Nat} {az : Nat → Nat} {ak : Nat → Nat} {tk : Nat → Nat} {tc : Nat → Nat} {pz : Nat} {pn : Nat} {pe : Nat} {pv : Nat} {pl : Nat} {px : Nat} {ph : Nat} {p : Program} {e : Env} {s : State} {m : MethodId} {below : List Frame} {meth : Method} {c : Code} {A : Nat → Prop} {Q : State → Prop} {ret9 : Option FieldType} {nm9 : String} {tb9 : List ExceptionTableEntry} {args : Array Value} {b tn k9 n9 yy j T : Nat} (B : zF K p l s m args meth c A cL_law 19 RL nm9 wsL_law ret9 tb9) (hk9 : k9 + 64 ≤ 600130) (hn9 : n9 + 1024 ≤ 7301080) (hT : T ≤ 99000) (hy : yy < 2147483648) (hj : j < 16) (next : ∀ (n : Nat) (f : Nat → Option Nat) (so : Nat → Nat) (sc : Nat → Nat → Nat) (X : Nat → Int32) (Z : Nat → Nat → Int32) (W : Nat → Int32) (D : Nat → Nat → Int32) (Cs : Nat → Nat → Nat → Int32) (F : Nat → Int32) (O : Nat → Int32) (Ft : Nat → Int32) (Ot : Nat → Int32) (Tc : Nat → Nat → Int32) (Gz : Nat → Int32) (Gn : Nat → Int32) (Ge : Nat → Int32) (Gv : Nat → Int32) (Gl : Nat → Int32) (Gx : Nat → Int32) (Gh : Nat → Int32), rA (T + 1000) n X Z W D Cs O Gz Gn Ge Gv Gl Gx Gh → (∀ a, a < n → f a = some (so a)) → (∀ a, n ≤ a → a < 4 → f a = none) → zW K p l e zR s m args below meth c A Q (k9 + 64) (n9 + 1024) [zXo ax (az 0) sa (ak 0) (tk 0) (tc 0) X, zSa K sa f, zSO n so sc D, zSC K n sc Cs, zZo K az Z W, zCo K ak F O, zCo K tk Ft Ot, zCa K tc Tc, [(pz, .inl (zI K, 32, .inl Gz))], [(pn, .inl (zI K, 20, .inl Gn))], [(pe, .inl (zI K, 24, .inl Ge))], [(pv, .inl (zI K, 24, .inl Gv))], [(pl, .inl (zI K, 24, .inl Gl))], [(px, .inl (zI K, 24, .inl Gx))], [(ph, .inl (zI K, 24, .inl Gh))]] [(0, .ref b), (1, .ref ax), (2, .ref pz), (3, .ref pn), (4, .ref pe), (5, .ref pv), (6, .ref pl), (7, .ref px), (8, .ref ph), (9, .int 1), (10, .int (nI tn))] [] 995) : ∀ (n : Nat) (f : Nat → Option Nat) (so : Nat → Nat) (sc : Nat → Nat → Nat) (X : Nat → Int32) (Z : Nat → Nat → Int32) (W : Nat → Int32) (D : Nat → Nat → Int32) (Cs : Nat → Nat → Nat → Int32) (F : Nat → Int32) (O : Nat → Int32) (Ft : Nat → Int32) (Ot : Nat → Int32) (Tc : Nat → Nat → Int32) (Gz : Nat → Int32) (Gn : Nat → Int32) (Ge : Nat → Int32) (Gv : Nat → Int32) (Gl : Nat → Int32) (Gx : Nat → Int32) (Gh : Nat → Int32), rA T n X Z W D Cs O Gz Gn Ge Gv Gl Gx Gh → (∀ a, a < n → f a = some (so a)) → (∀ a, n ≤ a → a < 4 → f a = none) → zW K p l e zR s m args below meth c A Q k9 n9 [zXo ax (az 0) sa (ak 0) (tk 0) (tc 0) X, zSa K sa f, zSO n so sc D, zSC K n sc Cs, zZo K az Z W, zCo K ak F O, zCo K tk Ft Ot, zCa K tc Tc, [(pz, .inl (zI K, 32, .inl Gz))], [(pn, .inl (zI K, 20, .inl Gn))], [(pe, .inl (zI K, 24, .inl Ge))], [(pv, .inl (zI K, 24, .inl Gv))], [(pl, .inl (zI K, 24, .inl Gl))], [(px, .inl (zI K, 24, .inl Gx))], [(ph, .inl (zI K, 24, .inl Gh))]] [(0, .ref b), (1, .ref ax), (2, .ref pz), (3, .ref pn), (4, .ref pe), (5, .ref pv), (6, .ref pl), (7, .ref px), (8, .ref ph), (9, .int 1), (10, .int (nI tn)), (13, .int (nI yy)), (14, .int (nI j))] [] 344 := by
  intro n f so sc X Z W D Cs F O Ft Ot Tc Gz Gn Ge Gv Gl Gx Gh hR hf1 hf2
  refine z_aload_n B dL_law_344 1 rfl ?_
  refine z_iload B dL_law_345 12 rfl ?_
  refine z_V1 B (kX4_remove_o l hl K ax az sa (ak 0) (tk 0) (tc 0) X Z W (nI j) (nI_pos (by omega)) (r_n16 (by omega))) [0, 4] [1, 2, 3, 5, 6, 7, 8, 9, 10, 11, 12, 13, 14] (br := [zSa K sa f, zSO n so sc D, zSC K n sc Cs, zCo K ak F O, zCo K tk Ft Ot, zCa K tc Tc, [(pz, .inl (zI K, 32, .inl Gz))], [(pn, .inl (zI K, 20, .inl Gn))], [(pe, .inl (zI K, 24, .inl Ge))], [(pv, .inl (zI K, 24, .inl Gv))], [(pl, .inl (zI K, 24, .inl Gl))], [(px, .inl (zI K, 24, .inl Gx))], [(ph, .inl (zI K, 24, .inl Gh))]]) (bs' := [zXo ax (az 0) sa (ak 0) (tk 0) (tc 0) X, zSa K sa f, zSO n so sc D, zSC K n sc Cs, zZo K az ((fX4_remove_o X Z W (nI j)).2) W, zCo K ak F O, zCo K tk Ft Ot, zCa K tc Tc, [(pz, .inl (zI K, 32, .inl Gz))], [(pn, .inl (zI K, 20, .inl Gn))], [(pe, .inl (zI K, 24, .inl Ge))], [(pv, .inl (zI K, 24, .inl Gv))], [(pl, .inl (zI K, 24, .inl Gl))], [(px, .inl (zI K, 24, .inl Gx))], [(ph, .inl (zI K, 24, .inl Gh))]]) (st := []) (nA := 1) (zspN 15 rfl rfl rfl (by decide +kernel)) (zspN 15 rfl rfl rfl (by decide +kernel)) 0 0 rfl rfl rfl rfl gL_law_X4_remove rfl (by decide +kernel) ⟨Nat.le_of_ble_eq_true rfl, Nat.le_of_ble_eq_true rfl⟩ rfl rfl (Nat.le_of_ble_eq_true rfl) ⟨(show k9 + 0 ≤ 600130 by omega), (show n9 + 0 ≤ 7301080 by omega)⟩ dL_law_347 z_noX (fun _ => ?_)
  refine z_aload_n B dL_law_350 2 rfl ?_
  refine z_iload B dL_law_351 12 rfl ?_
  refine z_ialdn B (N := 32) (f := Gz) (k0 := j) (v := (Gz j)) 8 0 rfl rfl (z_nIr (by omega) (by decide)) (nI_clamp (by omega)) rfl dL_law_353 ?_
  refine z_ifeq B 361 dL_law_354 (by decide) (fun c1 => ?_) (fun c1 => ?_)
  · refine z_iconst B (v := 0) dL_law_361 rfl ?_
    refine z_icne B 369 dL_law_362 (by decide) (fun _ => ?_) (fun h => absurd ((q_remove hR hj).1 c1) h)
    refine z_iconst B (v := 1) dL_law_365 rfl ?_
    refine z_goto B (tgt := 370) dL_law_366 (by decide) ?_
    refine z_istore B (lv' := [(9, .int 1), (0, .ref b), (1, .ref ax), (2, .ref pz), (3, .ref pn), (4, .ref pe), (5, .ref pv), (6, .ref pl), (7, .ref px), (8, .ref ph), (10, .int (nI tn)), (13, .int (nI yy)), (14, .int (nI j))]) dL_law_370 (by decide) rfl ?_
    refine z_aload_n B dL_law_372 3 rfl ?_
    refine z_iload B dL_law_373 12 rfl ?_
    refine z_iconst B (v := 0) dL_law_375 rfl ?_
    refine z_iastn B (N := 32) (f := Gz) (k0 := j) 8 0 rfl rfl (z_nIr (by omega) (by decide)) (nI_clamp (by omega)) (bs' := [zXo ax (az 0) sa (ak 0) (tk 0) (tc 0) X, zSa K sa f, zSO n so sc D, zSC K n sc Cs, zZo K az ((fX4_remove_o X Z W (nI j)).2) W, zCo K ak F O, zCo K tk Ft Ot, zCa K tc Tc, [(pz, .inl (zI K, 32, .inl (upd Gz j 0)))], [(pn, .inl (zI K, 20, .inl Gn))], [(pe, .inl (zI K, 24, .inl Ge))], [(pv, .inl (zI K, 24, .inl Gv))], [(pl, .inl (zI K, 24, .inl Gl))], [(px, .inl (zI K, 24, .inl Gx))], [(ph, .inl (zI K, 24, .inl Gh))]]) rfl dL_law_376 ?_
    refine z_goto B (tgt := 995) dL_law_377 (by decide) ?_
    refine z_lsub [1, 2, 3, 4, 5, 6, 7, 8, 9, 0, 10] rfl ?_
    refine z_widen (k' := k9 + 64) (n' := n9 + 1024) (show k9 + 0 ≤ _ by omega) (show n9 + 0 ≤ _ by omega) ?_
    exact next n f so sc X ((fX4_remove_o X Z W (nI j)).2) W D Cs F O Ft Ot Tc (upd Gz j 0) Gn Ge Gv Gl Gx Gh (((q_remove hR hj).2.2).up (by omega)) hf1 hf2
  · refine z_iconst B (v := 1) dL_law_357 rfl ?_
    refine z_goto B (tgt := 362) dL_law_358 (by decide) ?_
    refine z_icne B 369 dL_law_362 (by decide) (fun _ => ?_) (fun h => absurd ((q_remove hR hj).2.1 c1) h)
    refine z_iconst B (v := 1) dL_law_365 rfl ?_
    refine z_goto B (tgt := 370) dL_law_366 (by decide) ?_
    refine z_istore B (lv' := [(9, .int 1), (0, .ref b), (1, .ref ax), (2, .ref pz), (3, .ref pn), (4, .ref pe), (5, .ref pv), (6, .ref pl), (7, .ref px), (8, .ref ph), (10, .int (nI tn)), (13, .int (nI yy)), (14, .int (nI j))]) dL_law_370 (by decide) rfl ?_
    refine z_aload_n B dL_law_372 3 rfl ?_
    refine z_iload B dL_law_373 12 rfl ?_
    refine z_iconst B (v := 0) dL_law_375 rfl ?_
    refine z_iastn B (N := 32) (f := Gz) (k0 := j) 8 0 rfl rfl (z_nIr (by omega) (by decide)) (nI_clamp (by omega)) (bs' := [zXo ax (az 0) sa (ak 0) (tk 0) (tc 0) X, zSa K sa f, zSO n so sc D, zSC K n sc Cs, zZo K az ((fX4_remove_o X Z W (nI j)).2) W, zCo K ak F O, zCo K tk Ft Ot, zCa K tc Tc, [(pz, .inl (zI K, 32, .inl (upd Gz j 0)))], [(pn, .inl (zI K, 20, .inl Gn))], [(pe, .inl (zI K, 24, .inl Ge))], [(pv, .inl (zI K, 24, .inl Gv))], [(pl, .inl (zI K, 24, .inl Gl))], [(px, .inl (zI K, 24, .inl Gx))], [(ph, .inl (zI K, 24, .inl Gh))]]) rfl dL_law_376 ?_
    refine z_goto B (tgt := 995) dL_law_377 (by decide) ?_
    refine z_lsub [1, 2, 3, 4, 5, 6, 7, 8, 9, 0, 10] rfl ?_
    refine z_widen (k' := k9 + 64) (n' := n9 + 1024) (show k9 + 0 ≤ _ by omega) (show n9 + 0 ≤ _ by omega) ?_
    exact next n f so sc X ((fX4_remove_o X Z W (nI j)).2) W D Cs F O Ft Ot Tc (upd Gz j 0) Gn Ge Gv Gl Gx Gh (((q_remove hR hj).2.2).up (by omega)) hf1 hf2
set_option maxHeartbeats 4000000 in
set_option maxRecDepth 100000 in
theorem la_bound (l : Launch) (hl : l.stackTraces = false) {K : zK} {ax : Nat} {sa : Nat} {az : Nat → Nat} {ak : Nat → Nat} {tk : Nat → Nat} {tc : Nat → Nat} {pz : Nat} {pn : Nat} {pe : Nat} {pv : Nat} {pl : Nat} {px : Nat} {ph : Nat} {p : Program} {e : Env} {s : State} {m : MethodId} {below : List Frame} {meth : Method} {c : Code} {A : Nat → Prop} {Q : State → Prop} {ret9 : Option FieldType} {nm9 : String} {tb9 : List ExceptionTableEntry} {args : Array Value} {b tn k9 n9 yy j T : Nat} (B : zF K p l s m args meth c A cL_law 19 RL nm9 wsL_law ret9 tb9) (hk9 : k9 + 64 ≤ 600130) (hn9 : n9 + 1024 ≤ 7301080) (hT : T ≤ 99000) (hy : yy < 2147483648) (hj : j < 16) (next : ∀ (n : Nat) (f : Nat → Option Nat) (so : Nat → Nat) (sc : Nat → Nat → Nat) (X : Nat → Int32) (Z : Nat → Nat → Int32) (W : Nat → Int32) (D : Nat → Nat → Int32) (Cs : Nat → Nat → Nat → Int32) (F : Nat → Int32) (O : Nat → Int32) (Ft : Nat → Int32) (Ot : Nat → Int32) (Tc : Nat → Nat → Int32) (Gz : Nat → Int32) (Gn : Nat → Int32) (Ge : Nat → Int32) (Gv : Nat → Int32) (Gl : Nat → Int32) (Gx : Nat → Int32) (Gh : Nat → Int32), rA (T + 1000) n X Z W D Cs O Gz Gn Ge Gv Gl Gx Gh → (∀ a, a < n → f a = some (so a)) → (∀ a, n ≤ a → a < 4 → f a = none) → zW K p l e zR s m args below meth c A Q (k9 + 64) (n9 + 1024) [zXo ax (az 0) sa (ak 0) (tk 0) (tc 0) X, zSa K sa f, zSO n so sc D, zSC K n sc Cs, zZo K az Z W, zCo K ak F O, zCo K tk Ft Ot, zCa K tc Tc, [(pz, .inl (zI K, 32, .inl Gz))], [(pn, .inl (zI K, 20, .inl Gn))], [(pe, .inl (zI K, 24, .inl Ge))], [(pv, .inl (zI K, 24, .inl Gv))], [(pl, .inl (zI K, 24, .inl Gl))], [(px, .inl (zI K, 24, .inl Gx))], [(ph, .inl (zI K, 24, .inl Gh))]] [(0, .ref b), (1, .ref ax), (2, .ref pz), (3, .ref pn), (4, .ref pe), (5, .ref pv), (6, .ref pl), (7, .ref px), (8, .ref ph), (9, .int 1), (10, .int (nI tn))] [] 995) : ∀ (n : Nat) (f : Nat → Option Nat) (so : Nat → Nat) (sc : Nat → Nat → Nat) (X : Nat → Int32) (Z : Nat → Nat → Int32) (W : Nat → Int32) (D : Nat → Nat → Int32) (Cs : Nat → Nat → Nat → Int32) (F : Nat → Int32) (O : Nat → Int32) (Ft : Nat → Int32) (Ot : Nat → Int32) (Tc : Nat → Nat → Int32) (Gz : Nat → Int32) (Gn : Nat → Int32) (Ge : Nat → Int32) (Gv : Nat → Int32) (Gl : Nat → Int32) (Gx : Nat → Int32) (Gh : Nat → Int32), rA T n X Z W D Cs O Gz Gn Ge Gv Gl Gx Gh → (∀ a, a < n → f a = some (so a)) → (∀ a, n ≤ a → a < 4 → f a = none) → zW K p l e zR s m args below meth c A Q k9 n9 [zXo ax (az 0) sa (ak 0) (tk 0) (tc 0) X, zSa K sa f, zSO n so sc D, zSC K n sc Cs, zZo K az Z W, zCo K ak F O, zCo K tk Ft Ot, zCa K tc Tc, [(pz, .inl (zI K, 32, .inl Gz))], [(pn, .inl (zI K, 20, .inl Gn))], [(pe, .inl (zI K, 24, .inl Ge))], [(pv, .inl (zI K, 24, .inl Gv))], [(pl, .inl (zI K, 24, .inl Gl))], [(px, .inl (zI K, 24, .inl Gx))], [(ph, .inl (zI K, 24, .inl Gh))]] [(0, .ref b), (1, .ref ax), (2, .ref pz), (3, .ref pn), (4, .ref pe), (5, .ref pv), (6, .ref pl), (7, .ref px), (8, .ref ph), (9, .int 1), (10, .int (nI tn)), (13, .int (nI yy)), (14, .int (nI j))] [] 386 := by
  intro n f so sc X Z W D Cs F O Ft Ot Tc Gz Gn Ge Gv Gl Gx Gh hR hf1 hf2
  refine z_aload_n B dL_law_386 3 rfl ?_
  refine z_iconst B (v := 1) dL_law_387 rfl ?_
  refine z_ialdn B (N := 20) (f := Gn) (k0 := 1) (v := (Gn 1)) 9 0 rfl rfl (z_vpc (k := 1) rfl (by decide)) rfl rfl dL_law_388 ?_
  refine z_istore B (lv' := [(15, .int (Gn 1)), (0, .ref b), (1, .ref ax), (2, .ref pz), (3, .ref pn), (4, .ref pe), (5, .ref pv), (6, .ref pl), (7, .ref px), (8, .ref ph), (9, .int 1), (10, .int (nI tn)), (13, .int (nI yy)), (14, .int (nI j))]) dL_law_389 (by decide) rfl ?_
  refine z_aload_n B dL_law_391 4 rfl ?_
  refine z_iconst B (v := 1) dL_law_392 rfl ?_
  refine z_iconst B (v := 1) dL_law_393 rfl ?_
  refine z_iload B dL_law_394 12 rfl ?_
  refine z_sipush B (v := 300) dL_law_396 rfl ?_
  refine z_iremN B (a := yy) (b := 300) (by omega) (by decide) (by decide) dL_law_399 ?_
  refine z_iaddN B (a := 1) (b := yy % 300) dL_law_400 ?_
  obtain ⟨q, hv_q, hq0, hq1⟩ : ∃ q, 1 + (yy % 300) = q ∧ 1 ≤ q ∧ q ≤ 300 := ⟨_, rfl, by omega, by omega⟩
  rw [hv_q]
  refine z_iastn B (N := 20) (f := Gn) (k0 := 1) 9 0 rfl rfl (z_vpc (k := 1) rfl (by decide)) rfl (bs' := [zXo ax (az 0) sa (ak 0) (tk 0) (tc 0) X, zSa K sa f, zSO n so sc D, zSC K n sc Cs, zZo K az Z W, zCo K ak F O, zCo K tk Ft Ot, zCa K tc Tc, [(pz, .inl (zI K, 32, .inl Gz))], [(pn, .inl (zI K, 20, .inl (upd Gn 1 (nI q))))], [(pe, .inl (zI K, 24, .inl Ge))], [(pv, .inl (zI K, 24, .inl Gv))], [(pl, .inl (zI K, 24, .inl Gl))], [(px, .inl (zI K, 24, .inl Gx))], [(ph, .inl (zI K, 24, .inl Gh))]]) rfl dL_law_401 ?_
  refine z_aload_n B dL_law_402 2 rfl ?_
  refine z_aload_n B dL_law_403 4 rfl ?_
  refine z_iconst B (v := 1) dL_law_404 rfl ?_
  refine z_ialdn B (N := 20) (f := (upd Gn 1 (nI q))) (k0 := 1) (v := (nI q)) 9 0 rfl rfl (z_vpc (k := 1) rfl (by decide)) rfl rfl dL_law_405 ?_
  refine z_V1 B (kX4_setBound_o l hl K ax az sa (ak 0) (tk 0) (tc 0) X Z W (nI q) (l_ge1 (by omega) (by omega)) (show nI q ≤ nI 300 from nI_le (by omega) (by decide))) [0, 4] [1, 2, 3, 5, 6, 7, 8, 9, 10, 11, 12, 13, 14] (br := [zSa K sa f, zSO n so sc D, zSC K n sc Cs, zCo K ak F O, zCo K tk Ft Ot, zCa K tc Tc, [(pz, .inl (zI K, 32, .inl Gz))], [(pn, .inl (zI K, 20, .inl (upd Gn 1 (nI q))))], [(pe, .inl (zI K, 24, .inl Ge))], [(pv, .inl (zI K, 24, .inl Gv))], [(pl, .inl (zI K, 24, .inl Gl))], [(px, .inl (zI K, 24, .inl Gx))], [(ph, .inl (zI K, 24, .inl Gh))]]) (bs' := [zXo ax (az 0) sa (ak 0) (tk 0) (tc 0) X, zSa K sa f, zSO n so sc D, zSC K n sc Cs, zZo K az Z ((fX4_setBound_o X Z W (nI q)).2), zCo K ak F O, zCo K tk Ft Ot, zCa K tc Tc, [(pz, .inl (zI K, 32, .inl Gz))], [(pn, .inl (zI K, 20, .inl (upd Gn 1 (nI q))))], [(pe, .inl (zI K, 24, .inl Ge))], [(pv, .inl (zI K, 24, .inl Gv))], [(pl, .inl (zI K, 24, .inl Gl))], [(px, .inl (zI K, 24, .inl Gx))], [(ph, .inl (zI K, 24, .inl Gh))]]) (st := []) (nA := 1) (zspN 15 rfl rfl rfl (by decide +kernel)) (zspN 15 rfl rfl rfl (by decide +kernel)) 0 0 rfl rfl rfl rfl gL_law_X4_setBound rfl (by decide +kernel) ⟨Nat.le_of_ble_eq_true rfl, Nat.le_of_ble_eq_true rfl⟩ rfl rfl (Nat.le_of_ble_eq_true rfl) ⟨(show k9 + 0 ≤ 600130 by omega), (show n9 + 0 ≤ 7301080 by omega)⟩ dL_law_406 z_noX (fun _ => ?_)
  refine z_iload B dL_law_409 0 rfl ?_
  refine z_icne B 418 dL_law_411 (by decide) (fun _ => ?_) (fun h => absurd (q_setBound hR hq0 hq1).1 h)
  refine z_iconst B (v := 1) dL_law_414 rfl ?_
  refine z_goto B (tgt := 419) dL_law_415 (by decide) ?_
  refine z_istore B (lv' := [(9, .int 1), (15, .int (Gn 1)), (0, .ref b), (1, .ref ax), (2, .ref pz), (3, .ref pn), (4, .ref pe), (5, .ref pv), (6, .ref pl), (7, .ref px), (8, .ref ph), (10, .int (nI tn)), (13, .int (nI yy)), (14, .int (nI j))]) dL_law_419 (by decide) rfl ?_
  refine z_goto B (tgt := 995) dL_law_421 (by decide) ?_
  refine z_lsub [2, 3, 4, 5, 6, 7, 8, 9, 10, 0, 11] rfl ?_
  refine z_widen (k' := k9 + 64) (n' := n9 + 1024) (show k9 + 0 ≤ _ by omega) (show n9 + 0 ≤ _ by omega) ?_
  exact next n f so sc X Z ((fX4_setBound_o X Z W (nI q)).2) D Cs F O Ft Ot Tc Gz (upd Gn 1 (nI q)) Ge Gv Gl Gx Gh (((q_setBound hR hq0 hq1).2).up (by omega)) hf1 hf2
set_option maxHeartbeats 4000000 in
set_option maxRecDepth 100000 in
theorem la_auth (l : Launch) (hl : l.stackTraces = false) {K : zK} {ax : Nat} {sa : Nat} {az : Nat → Nat} {ak : Nat → Nat} {tk : Nat → Nat} {tc : Nat → Nat} {pz : Nat} {pn : Nat} {pe : Nat} {pv : Nat} {pl : Nat} {px : Nat} {ph : Nat} {p : Program} {e : Env} {s : State} {m : MethodId} {below : List Frame} {meth : Method} {c : Code} {A : Nat → Prop} {Q : State → Prop} {ret9 : Option FieldType} {nm9 : String} {tb9 : List ExceptionTableEntry} {args : Array Value} {b tn k9 n9 yy j T : Nat} (B : zF K p l s m args meth c A cL_law 19 RL nm9 wsL_law ret9 tb9) (hk9 : k9 + 64 ≤ 600130) (hn9 : n9 + 1024 ≤ 7301080) (hT : T ≤ 99000) (hy : yy < 2147483648) (hj : j < 16) (next : ∀ (n : Nat) (f : Nat → Option Nat) (so : Nat → Nat) (sc : Nat → Nat → Nat) (X : Nat → Int32) (Z : Nat → Nat → Int32) (W : Nat → Int32) (D : Nat → Nat → Int32) (Cs : Nat → Nat → Nat → Int32) (F : Nat → Int32) (O : Nat → Int32) (Ft : Nat → Int32) (Ot : Nat → Int32) (Tc : Nat → Nat → Int32) (Gz : Nat → Int32) (Gn : Nat → Int32) (Ge : Nat → Int32) (Gv : Nat → Int32) (Gl : Nat → Int32) (Gx : Nat → Int32) (Gh : Nat → Int32), rA (T + 1000) n X Z W D Cs O Gz Gn Ge Gv Gl Gx Gh → (∀ a, a < n → f a = some (so a)) → (∀ a, n ≤ a → a < 4 → f a = none) → zW K p l e zR s m args below meth c A Q (k9 + 64) (n9 + 1024) [zXo ax (az 0) sa (ak 0) (tk 0) (tc 0) X, zSa K sa f, zSO n so sc D, zSC K n sc Cs, zZo K az Z W, zCo K ak F O, zCo K tk Ft Ot, zCa K tc Tc, [(pz, .inl (zI K, 32, .inl Gz))], [(pn, .inl (zI K, 20, .inl Gn))], [(pe, .inl (zI K, 24, .inl Ge))], [(pv, .inl (zI K, 24, .inl Gv))], [(pl, .inl (zI K, 24, .inl Gl))], [(px, .inl (zI K, 24, .inl Gx))], [(ph, .inl (zI K, 24, .inl Gh))]] [(0, .ref b), (1, .ref ax), (2, .ref pz), (3, .ref pn), (4, .ref pe), (5, .ref pv), (6, .ref pl), (7, .ref px), (8, .ref ph), (9, .int 1), (10, .int (nI tn))] [] 995) : ∀ (n : Nat) (f : Nat → Option Nat) (so : Nat → Nat) (sc : Nat → Nat → Nat) (X : Nat → Int32) (Z : Nat → Nat → Int32) (W : Nat → Int32) (D : Nat → Nat → Int32) (Cs : Nat → Nat → Nat → Int32) (F : Nat → Int32) (O : Nat → Int32) (Ft : Nat → Int32) (Ot : Nat → Int32) (Tc : Nat → Nat → Int32) (Gz : Nat → Int32) (Gn : Nat → Int32) (Ge : Nat → Int32) (Gv : Nat → Int32) (Gl : Nat → Int32) (Gx : Nat → Int32) (Gh : Nat → Int32), rA T n X Z W D Cs O Gz Gn Ge Gv Gl Gx Gh → (∀ a, a < n → f a = some (so a)) → (∀ a, n ≤ a → a < 4 → f a = none) → zW K p l e zR s m args below meth c A Q k9 n9 [zXo ax (az 0) sa (ak 0) (tk 0) (tc 0) X, zSa K sa f, zSO n so sc D, zSC K n sc Cs, zZo K az Z W, zCo K ak F O, zCo K tk Ft Ot, zCa K tc Tc, [(pz, .inl (zI K, 32, .inl Gz))], [(pn, .inl (zI K, 20, .inl Gn))], [(pe, .inl (zI K, 24, .inl Ge))], [(pv, .inl (zI K, 24, .inl Gv))], [(pl, .inl (zI K, 24, .inl Gl))], [(px, .inl (zI K, 24, .inl Gx))], [(ph, .inl (zI K, 24, .inl Gh))]] [(0, .ref b), (1, .ref ax), (2, .ref pz), (3, .ref pn), (4, .ref pe), (5, .ref pv), (6, .ref pl), (7, .ref px), (8, .ref ph), (9, .int 1), (10, .int (nI tn)), (13, .int (nI yy)), (14, .int (nI j))] [] 430 := by
  intro n f so sc X Z W D Cs F O Ft Ot Tc Gz Gn Ge Gv Gl Gx Gh hR hf1 hf2
  refine z_aload_n B dL_law_430 3 rfl ?_
  refine z_iconst B (v := 2) dL_law_431 rfl ?_
  refine z_ialdn B (N := 20) (f := Gn) (k0 := 2) (v := (Gn 2)) 9 0 rfl rfl (z_vpc (k := 2) rfl (by decide)) rfl rfl dL_law_432 ?_
  refine z_iconst B (v := 1) dL_law_433 rfl ?_
  refine z_icne B 441 dL_law_434 (by decide) (fun c1 => ?_) (fun c1 => ?_)
  · refine z_iconst B (v := 1) dL_law_437 rfl ?_
    refine z_goto B (tgt := 442) dL_law_438 (by decide) ?_
    refine z_istore B (lv' := [(15, .int 1), (0, .ref b), (1, .ref ax), (2, .ref pz), (3, .ref pn), (4, .ref pe), (5, .ref pv), (6, .ref pl), (7, .ref px), (8, .ref ph), (9, .int 1), (10, .int (nI tn)), (13, .int (nI yy)), (14, .int (nI j))]) dL_law_442 (by decide) rfl ?_
    refine z_aload_n B dL_law_444 4 rfl ?_
    refine z_iconst B (v := 2) dL_law_445 rfl ?_
    refine z_iload B dL_law_446 12 rfl ?_
    refine z_iconst B (v := 3) dL_law_448 rfl ?_
    refine z_iremN B (a := yy) (b := 3) (by omega) (by decide) (by decide) dL_law_449 ?_
    refine z_ifne B 457 dL_law_450 (by decide) (fun c2 => ?_) (fun c2 => ?_)
    · refine z_iconst B (v := 0) dL_law_453 rfl ?_
      refine z_goto B (tgt := 458) dL_law_454 (by decide) ?_
      refine z_iastn B (N := 20) (f := Gn) (k0 := 2) 9 0 rfl rfl (z_vpc (k := 2) rfl (by decide)) rfl (bs' := [zXo ax (az 0) sa (ak 0) (tk 0) (tc 0) X, zSa K sa f, zSO n so sc D, zSC K n sc Cs, zZo K az Z W, zCo K ak F O, zCo K tk Ft Ot, zCa K tc Tc, [(pz, .inl (zI K, 32, .inl Gz))], [(pn, .inl (zI K, 20, .inl (upd Gn 2 0)))], [(pe, .inl (zI K, 24, .inl Ge))], [(pv, .inl (zI K, 24, .inl Gv))], [(pl, .inl (zI K, 24, .inl Gl))], [(px, .inl (zI K, 24, .inl Gx))], [(ph, .inl (zI K, 24, .inl Gh))]]) rfl dL_law_458 ?_
      refine z_aload_n B dL_law_459 2 rfl ?_
      refine z_aload_n B dL_law_460 4 rfl ?_
      refine z_iconst B (v := 2) dL_law_461 rfl ?_
      refine z_ialdn B (N := 20) (f := (upd Gn 2 0)) (k0 := 2) (v := 0) 9 0 rfl rfl (z_vpc (k := 2) rfl (by decide)) rfl rfl dL_law_462 ?_
      refine z_iconst B (v := 1) dL_law_463 rfl ?_
      refine z_icne B 471 dL_law_464 (by decide) (fun h => absurd h (by decide)) (fun _ => ?_)
      refine z_iconst B (v := 0) dL_law_471 rfl ?_
      refine z_V1 B (kX4_setAuthority l hl K ax az sa (ak 0) (tk 0) (tc 0) X Z W 0 (Or.inl rfl) (by rw [hR.2.1.2.2.2.1]; exact hR.2.1.2.2.2.2)) [0, 4] [1, 2, 3, 5, 6, 7, 8, 9, 10, 11, 12, 13, 14] (br := [zSa K sa f, zSO n so sc D, zSC K n sc Cs, zCo K ak F O, zCo K tk Ft Ot, zCa K tc Tc, [(pz, .inl (zI K, 32, .inl Gz))], [(pn, .inl (zI K, 20, .inl (upd Gn 2 0)))], [(pe, .inl (zI K, 24, .inl Ge))], [(pv, .inl (zI K, 24, .inl Gv))], [(pl, .inl (zI K, 24, .inl Gl))], [(px, .inl (zI K, 24, .inl Gx))], [(ph, .inl (zI K, 24, .inl Gh))]]) (bs' := [zXo ax (az 0) sa (ak 0) (tk 0) (tc 0) X, zSa K sa f, zSO n so sc D, zSC K n sc Cs, zZo K az Z ((fX4_setAuthority X Z W 0).2), zCo K ak F O, zCo K tk Ft Ot, zCa K tc Tc, [(pz, .inl (zI K, 32, .inl Gz))], [(pn, .inl (zI K, 20, .inl (upd Gn 2 0)))], [(pe, .inl (zI K, 24, .inl Ge))], [(pv, .inl (zI K, 24, .inl Gv))], [(pl, .inl (zI K, 24, .inl Gl))], [(px, .inl (zI K, 24, .inl Gx))], [(ph, .inl (zI K, 24, .inl Gh))]]) (st := []) (nA := 1) (zspN 15 rfl rfl rfl (by decide +kernel)) (zspN 15 rfl rfl rfl (by decide +kernel)) 0 0 rfl rfl rfl rfl gL_law_X4_setAuthority rfl (by decide +kernel) ⟨Nat.le_of_ble_eq_true rfl, Nat.le_of_ble_eq_true rfl⟩ rfl rfl (Nat.le_of_ble_eq_true rfl) ⟨(show k9 + 0 ≤ 600130 by omega), (show n9 + 0 ≤ 7301080 by omega)⟩ dL_law_472 z_noX (fun _ => ?_)
      refine z_iload B dL_law_475 0 rfl ?_
      refine z_icne B 484 dL_law_477 (by decide) (fun _ => ?_) (fun h => absurd ((q_setAuthority hR (Or.inl rfl)).1.trans c1) h)
      refine z_iconst B (v := 1) dL_law_480 rfl ?_
      refine z_goto B (tgt := 485) dL_law_481 (by decide) ?_
      refine z_istore B (lv' := [(9, .int 1), (15, .int 1), (0, .ref b), (1, .ref ax), (2, .ref pz), (3, .ref pn), (4, .ref pe), (5, .ref pv), (6, .ref pl), (7, .ref px), (8, .ref ph), (10, .int (nI tn)), (13, .int (nI yy)), (14, .int (nI j))]) dL_law_485 (by decide) rfl ?_
      refine z_goto B (tgt := 995) dL_law_487 (by decide) ?_
      refine z_lsub [2, 3, 4, 5, 6, 7, 8, 9, 10, 0, 11] rfl ?_
      refine z_widen (k' := k9 + 64) (n' := n9 + 1024) (show k9 + 0 ≤ _ by omega) (show n9 + 0 ≤ _ by omega) ?_
      exact next n f so sc X Z ((fX4_setAuthority X Z W 0).2) D Cs F O Ft Ot Tc Gz (upd Gn 2 0) Ge Gv Gl Gx Gh (((q_setAuthority hR (Or.inl rfl)).2).up (by omega)) hf1 hf2
    · refine z_iconst B (v := 1) dL_law_457 rfl ?_
      refine z_iastn B (N := 20) (f := Gn) (k0 := 2) 9 0 rfl rfl (z_vpc (k := 2) rfl (by decide)) rfl (bs' := [zXo ax (az 0) sa (ak 0) (tk 0) (tc 0) X, zSa K sa f, zSO n so sc D, zSC K n sc Cs, zZo K az Z W, zCo K ak F O, zCo K tk Ft Ot, zCa K tc Tc, [(pz, .inl (zI K, 32, .inl Gz))], [(pn, .inl (zI K, 20, .inl (upd Gn 2 1)))], [(pe, .inl (zI K, 24, .inl Ge))], [(pv, .inl (zI K, 24, .inl Gv))], [(pl, .inl (zI K, 24, .inl Gl))], [(px, .inl (zI K, 24, .inl Gx))], [(ph, .inl (zI K, 24, .inl Gh))]]) rfl dL_law_458 ?_
      refine z_aload_n B dL_law_459 2 rfl ?_
      refine z_aload_n B dL_law_460 4 rfl ?_
      refine z_iconst B (v := 2) dL_law_461 rfl ?_
      refine z_ialdn B (N := 20) (f := (upd Gn 2 1)) (k0 := 2) (v := 1) 9 0 rfl rfl (z_vpc (k := 2) rfl (by decide)) rfl rfl dL_law_462 ?_
      refine z_iconst B (v := 1) dL_law_463 rfl ?_
      refine z_icne B 471 dL_law_464 (by decide) (fun _ => ?_) (fun h => absurd (by decide) h)
      refine z_iconst B (v := 1) dL_law_467 rfl ?_
      refine z_goto B (tgt := 472) dL_law_468 (by decide) ?_
      refine z_V1 B (kX4_setAuthority l hl K ax az sa (ak 0) (tk 0) (tc 0) X Z W 1 (Or.inr rfl) (by rw [hR.2.1.2.2.2.1]; exact hR.2.1.2.2.2.2)) [0, 4] [1, 2, 3, 5, 6, 7, 8, 9, 10, 11, 12, 13, 14] (br := [zSa K sa f, zSO n so sc D, zSC K n sc Cs, zCo K ak F O, zCo K tk Ft Ot, zCa K tc Tc, [(pz, .inl (zI K, 32, .inl Gz))], [(pn, .inl (zI K, 20, .inl (upd Gn 2 1)))], [(pe, .inl (zI K, 24, .inl Ge))], [(pv, .inl (zI K, 24, .inl Gv))], [(pl, .inl (zI K, 24, .inl Gl))], [(px, .inl (zI K, 24, .inl Gx))], [(ph, .inl (zI K, 24, .inl Gh))]]) (bs' := [zXo ax (az 0) sa (ak 0) (tk 0) (tc 0) X, zSa K sa f, zSO n so sc D, zSC K n sc Cs, zZo K az Z ((fX4_setAuthority X Z W 1).2), zCo K ak F O, zCo K tk Ft Ot, zCa K tc Tc, [(pz, .inl (zI K, 32, .inl Gz))], [(pn, .inl (zI K, 20, .inl (upd Gn 2 1)))], [(pe, .inl (zI K, 24, .inl Ge))], [(pv, .inl (zI K, 24, .inl Gv))], [(pl, .inl (zI K, 24, .inl Gl))], [(px, .inl (zI K, 24, .inl Gx))], [(ph, .inl (zI K, 24, .inl Gh))]]) (st := []) (nA := 1) (zspN 15 rfl rfl rfl (by decide +kernel)) (zspN 15 rfl rfl rfl (by decide +kernel)) 0 0 rfl rfl rfl rfl gL_law_X4_setAuthority rfl (by decide +kernel) ⟨Nat.le_of_ble_eq_true rfl, Nat.le_of_ble_eq_true rfl⟩ rfl rfl (Nat.le_of_ble_eq_true rfl) ⟨(show k9 + 0 ≤ 600130 by omega), (show n9 + 0 ≤ 7301080 by omega)⟩ dL_law_472 z_noX (fun _ => ?_)
      refine z_iload B dL_law_475 0 rfl ?_
      refine z_icne B 484 dL_law_477 (by decide) (fun _ => ?_) (fun h => absurd ((q_setAuthority hR (Or.inr rfl)).1.trans c1) h)
      refine z_iconst B (v := 1) dL_law_480 rfl ?_
      refine z_goto B (tgt := 485) dL_law_481 (by decide) ?_
      refine z_istore B (lv' := [(9, .int 1), (15, .int 1), (0, .ref b), (1, .ref ax), (2, .ref pz), (3, .ref pn), (4, .ref pe), (5, .ref pv), (6, .ref pl), (7, .ref px), (8, .ref ph), (10, .int (nI tn)), (13, .int (nI yy)), (14, .int (nI j))]) dL_law_485 (by decide) rfl ?_
      refine z_goto B (tgt := 995) dL_law_487 (by decide) ?_
      refine z_lsub [2, 3, 4, 5, 6, 7, 8, 9, 10, 0, 11] rfl ?_
      refine z_widen (k' := k9 + 64) (n' := n9 + 1024) (show k9 + 0 ≤ _ by omega) (show n9 + 0 ≤ _ by omega) ?_
      exact next n f so sc X Z ((fX4_setAuthority X Z W 1).2) D Cs F O Ft Ot Tc Gz (upd Gn 2 1) Ge Gv Gl Gx Gh (((q_setAuthority hR (Or.inr rfl)).2).up (by omega)) hf1 hf2
  · refine z_iconst B (v := 0) dL_law_441 rfl ?_
    refine z_istore B (lv' := [(15, .int 0), (0, .ref b), (1, .ref ax), (2, .ref pz), (3, .ref pn), (4, .ref pe), (5, .ref pv), (6, .ref pl), (7, .ref px), (8, .ref ph), (9, .int 1), (10, .int (nI tn)), (13, .int (nI yy)), (14, .int (nI j))]) dL_law_442 (by decide) rfl ?_
    refine z_aload_n B dL_law_444 4 rfl ?_
    refine z_iconst B (v := 2) dL_law_445 rfl ?_
    refine z_iload B dL_law_446 12 rfl ?_
    refine z_iconst B (v := 3) dL_law_448 rfl ?_
    refine z_iremN B (a := yy) (b := 3) (by omega) (by decide) (by decide) dL_law_449 ?_
    refine z_ifne B 457 dL_law_450 (by decide) (fun c3 => ?_) (fun c3 => ?_)
    · refine z_iconst B (v := 0) dL_law_453 rfl ?_
      refine z_goto B (tgt := 458) dL_law_454 (by decide) ?_
      refine z_iastn B (N := 20) (f := Gn) (k0 := 2) 9 0 rfl rfl (z_vpc (k := 2) rfl (by decide)) rfl (bs' := [zXo ax (az 0) sa (ak 0) (tk 0) (tc 0) X, zSa K sa f, zSO n so sc D, zSC K n sc Cs, zZo K az Z W, zCo K ak F O, zCo K tk Ft Ot, zCa K tc Tc, [(pz, .inl (zI K, 32, .inl Gz))], [(pn, .inl (zI K, 20, .inl (upd Gn 2 0)))], [(pe, .inl (zI K, 24, .inl Ge))], [(pv, .inl (zI K, 24, .inl Gv))], [(pl, .inl (zI K, 24, .inl Gl))], [(px, .inl (zI K, 24, .inl Gx))], [(ph, .inl (zI K, 24, .inl Gh))]]) rfl dL_law_458 ?_
      refine z_aload_n B dL_law_459 2 rfl ?_
      refine z_aload_n B dL_law_460 4 rfl ?_
      refine z_iconst B (v := 2) dL_law_461 rfl ?_
      refine z_ialdn B (N := 20) (f := (upd Gn 2 0)) (k0 := 2) (v := 0) 9 0 rfl rfl (z_vpc (k := 2) rfl (by decide)) rfl rfl dL_law_462 ?_
      refine z_iconst B (v := 1) dL_law_463 rfl ?_
      refine z_icne B 471 dL_law_464 (by decide) (fun h => absurd h (by decide)) (fun _ => ?_)
      refine z_iconst B (v := 0) dL_law_471 rfl ?_
      refine z_V1 B (kX4_setAuthority l hl K ax az sa (ak 0) (tk 0) (tc 0) X Z W 0 (Or.inl rfl) (by rw [hR.2.1.2.2.2.1]; exact hR.2.1.2.2.2.2)) [0, 4] [1, 2, 3, 5, 6, 7, 8, 9, 10, 11, 12, 13, 14] (br := [zSa K sa f, zSO n so sc D, zSC K n sc Cs, zCo K ak F O, zCo K tk Ft Ot, zCa K tc Tc, [(pz, .inl (zI K, 32, .inl Gz))], [(pn, .inl (zI K, 20, .inl (upd Gn 2 0)))], [(pe, .inl (zI K, 24, .inl Ge))], [(pv, .inl (zI K, 24, .inl Gv))], [(pl, .inl (zI K, 24, .inl Gl))], [(px, .inl (zI K, 24, .inl Gx))], [(ph, .inl (zI K, 24, .inl Gh))]]) (bs' := [zXo ax (az 0) sa (ak 0) (tk 0) (tc 0) X, zSa K sa f, zSO n so sc D, zSC K n sc Cs, zZo K az Z ((fX4_setAuthority X Z W 0).2), zCo K ak F O, zCo K tk Ft Ot, zCa K tc Tc, [(pz, .inl (zI K, 32, .inl Gz))], [(pn, .inl (zI K, 20, .inl (upd Gn 2 0)))], [(pe, .inl (zI K, 24, .inl Ge))], [(pv, .inl (zI K, 24, .inl Gv))], [(pl, .inl (zI K, 24, .inl Gl))], [(px, .inl (zI K, 24, .inl Gx))], [(ph, .inl (zI K, 24, .inl Gh))]]) (st := []) (nA := 1) (zspN 15 rfl rfl rfl (by decide +kernel)) (zspN 15 rfl rfl rfl (by decide +kernel)) 0 0 rfl rfl rfl rfl gL_law_X4_setAuthority rfl (by decide +kernel) ⟨Nat.le_of_ble_eq_true rfl, Nat.le_of_ble_eq_true rfl⟩ rfl rfl (Nat.le_of_ble_eq_true rfl) ⟨(show k9 + 0 ≤ 600130 by omega), (show n9 + 0 ≤ 7301080 by omega)⟩ dL_law_472 z_noX (fun _ => ?_)
      refine z_iload B dL_law_475 0 rfl ?_
      refine z_icne B 484 dL_law_477 (by decide) (fun _ => ?_) (fun h => absurd ((q_setAuthority hR (Or.inl rfl)).1.trans (hR.2.1.2.2.2.2.resolve_right c1)) h)
      refine z_iconst B (v := 1) dL_law_480 rfl ?_
      refine z_goto B (tgt := 485) dL_law_481 (by decide) ?_
      refine z_istore B (lv' := [(9, .int 1), (15, .int 0), (0, .ref b), (1, .ref ax), (2, .ref pz), (3, .ref pn), (4, .ref pe), (5, .ref pv), (6, .ref pl), (7, .ref px), (8, .ref ph), (10, .int (nI tn)), (13, .int (nI yy)), (14, .int (nI j))]) dL_law_485 (by decide) rfl ?_
      refine z_goto B (tgt := 995) dL_law_487 (by decide) ?_
      refine z_lsub [2, 3, 4, 5, 6, 7, 8, 9, 10, 0, 11] rfl ?_
      refine z_widen (k' := k9 + 64) (n' := n9 + 1024) (show k9 + 0 ≤ _ by omega) (show n9 + 0 ≤ _ by omega) ?_
      exact next n f so sc X Z ((fX4_setAuthority X Z W 0).2) D Cs F O Ft Ot Tc Gz (upd Gn 2 0) Ge Gv Gl Gx Gh (((q_setAuthority hR (Or.inl rfl)).2).up (by omega)) hf1 hf2
    · refine z_iconst B (v := 1) dL_law_457 rfl ?_
      refine z_iastn B (N := 20) (f := Gn) (k0 := 2) 9 0 rfl rfl (z_vpc (k := 2) rfl (by decide)) rfl (bs' := [zXo ax (az 0) sa (ak 0) (tk 0) (tc 0) X, zSa K sa f, zSO n so sc D, zSC K n sc Cs, zZo K az Z W, zCo K ak F O, zCo K tk Ft Ot, zCa K tc Tc, [(pz, .inl (zI K, 32, .inl Gz))], [(pn, .inl (zI K, 20, .inl (upd Gn 2 1)))], [(pe, .inl (zI K, 24, .inl Ge))], [(pv, .inl (zI K, 24, .inl Gv))], [(pl, .inl (zI K, 24, .inl Gl))], [(px, .inl (zI K, 24, .inl Gx))], [(ph, .inl (zI K, 24, .inl Gh))]]) rfl dL_law_458 ?_
      refine z_aload_n B dL_law_459 2 rfl ?_
      refine z_aload_n B dL_law_460 4 rfl ?_
      refine z_iconst B (v := 2) dL_law_461 rfl ?_
      refine z_ialdn B (N := 20) (f := (upd Gn 2 1)) (k0 := 2) (v := 1) 9 0 rfl rfl (z_vpc (k := 2) rfl (by decide)) rfl rfl dL_law_462 ?_
      refine z_iconst B (v := 1) dL_law_463 rfl ?_
      refine z_icne B 471 dL_law_464 (by decide) (fun _ => ?_) (fun h => absurd (by decide) h)
      refine z_iconst B (v := 1) dL_law_467 rfl ?_
      refine z_goto B (tgt := 472) dL_law_468 (by decide) ?_
      refine z_V1 B (kX4_setAuthority l hl K ax az sa (ak 0) (tk 0) (tc 0) X Z W 1 (Or.inr rfl) (by rw [hR.2.1.2.2.2.1]; exact hR.2.1.2.2.2.2)) [0, 4] [1, 2, 3, 5, 6, 7, 8, 9, 10, 11, 12, 13, 14] (br := [zSa K sa f, zSO n so sc D, zSC K n sc Cs, zCo K ak F O, zCo K tk Ft Ot, zCa K tc Tc, [(pz, .inl (zI K, 32, .inl Gz))], [(pn, .inl (zI K, 20, .inl (upd Gn 2 1)))], [(pe, .inl (zI K, 24, .inl Ge))], [(pv, .inl (zI K, 24, .inl Gv))], [(pl, .inl (zI K, 24, .inl Gl))], [(px, .inl (zI K, 24, .inl Gx))], [(ph, .inl (zI K, 24, .inl Gh))]]) (bs' := [zXo ax (az 0) sa (ak 0) (tk 0) (tc 0) X, zSa K sa f, zSO n so sc D, zSC K n sc Cs, zZo K az Z ((fX4_setAuthority X Z W 1).2), zCo K ak F O, zCo K tk Ft Ot, zCa K tc Tc, [(pz, .inl (zI K, 32, .inl Gz))], [(pn, .inl (zI K, 20, .inl (upd Gn 2 1)))], [(pe, .inl (zI K, 24, .inl Ge))], [(pv, .inl (zI K, 24, .inl Gv))], [(pl, .inl (zI K, 24, .inl Gl))], [(px, .inl (zI K, 24, .inl Gx))], [(ph, .inl (zI K, 24, .inl Gh))]]) (st := []) (nA := 1) (zspN 15 rfl rfl rfl (by decide +kernel)) (zspN 15 rfl rfl rfl (by decide +kernel)) 0 0 rfl rfl rfl rfl gL_law_X4_setAuthority rfl (by decide +kernel) ⟨Nat.le_of_ble_eq_true rfl, Nat.le_of_ble_eq_true rfl⟩ rfl rfl (Nat.le_of_ble_eq_true rfl) ⟨(show k9 + 0 ≤ 600130 by omega), (show n9 + 0 ≤ 7301080 by omega)⟩ dL_law_472 z_noX (fun _ => ?_)
      refine z_iload B dL_law_475 0 rfl ?_
      refine z_icne B 484 dL_law_477 (by decide) (fun _ => ?_) (fun h => absurd ((q_setAuthority hR (Or.inr rfl)).1.trans (hR.2.1.2.2.2.2.resolve_right c1)) h)
      refine z_iconst B (v := 1) dL_law_480 rfl ?_
      refine z_goto B (tgt := 485) dL_law_481 (by decide) ?_
      refine z_istore B (lv' := [(9, .int 1), (15, .int 0), (0, .ref b), (1, .ref ax), (2, .ref pz), (3, .ref pn), (4, .ref pe), (5, .ref pv), (6, .ref pl), (7, .ref px), (8, .ref ph), (10, .int (nI tn)), (13, .int (nI yy)), (14, .int (nI j))]) dL_law_485 (by decide) rfl ?_
      refine z_goto B (tgt := 995) dL_law_487 (by decide) ?_
      refine z_lsub [2, 3, 4, 5, 6, 7, 8, 9, 10, 0, 11] rfl ?_
      refine z_widen (k' := k9 + 64) (n' := n9 + 1024) (show k9 + 0 ≤ _ by omega) (show n9 + 0 ≤ _ by omega) ?_
      exact next n f so sc X Z ((fX4_setAuthority X Z W 1).2) D Cs F O Ft Ot Tc Gz (upd Gn 2 1) Ge Gv Gl Gx Gh (((q_setAuthority hR (Or.inr rfl)).2).up (by omega)) hf1 hf2
set_option maxHeartbeats 4000000 in
set_option maxRecDepth 100000 in
theorem la_pass16 (l : Launch) (hl : l.stackTraces = false) {K : zK} {ax : Nat} {sa : Nat} {az : Nat → Nat} {ak : Nat → Nat} {tk : Nat → Nat} {tc : Nat → Nat} {pz : Nat} {pn : Nat} {pe : Nat} {pv : Nat} {pl : Nat} {px : Nat} {ph : Nat} {p : Program} {e : Env} {s : State} {m : MethodId} {below : List Frame} {meth : Method} {c : Code} {A : Nat → Prop} {Q : State → Prop} {ret9 : Option FieldType} {nm9 : String} {tb9 : List ExceptionTableEntry} {args : Array Value} {b tn k9 n9 yy j T : Nat} (B : zF K p l s m args meth c A cL_law 19 RL nm9 wsL_law ret9 tb9) (hk9 : k9 + 64 ≤ 600130) (hn9 : n9 + 1024 ≤ 7301080) (hT : T ≤ 99000) (hy : yy < 2147483648) (hj : j < 16) (next : ∀ (n : Nat) (f : Nat → Option Nat) (so : Nat → Nat) (sc : Nat → Nat → Nat) (X : Nat → Int32) (Z : Nat → Nat → Int32) (W : Nat → Int32) (D : Nat → Nat → Int32) (Cs : Nat → Nat → Nat → Int32) (F : Nat → Int32) (O : Nat → Int32) (Ft : Nat → Int32) (Ot : Nat → Int32) (Tc : Nat → Nat → Int32) (Gz : Nat → Int32) (Gn : Nat → Int32) (Ge : Nat → Int32) (Gv : Nat → Int32) (Gl : Nat → Int32) (Gx : Nat → Int32) (Gh : Nat → Int32), rA (T + 1000) n X Z W D Cs O Gz Gn Ge Gv Gl Gx Gh → (∀ a, a < n → f a = some (so a)) → (∀ a, n ≤ a → a < 4 → f a = none) → zW K p l e zR s m args below meth c A Q (k9 + 64) (n9 + 1024) [zXo ax (az 0) sa (ak 0) (tk 0) (tc 0) X, zSa K sa f, zSO n so sc D, zSC K n sc Cs, zZo K az Z W, zCo K ak F O, zCo K tk Ft Ot, zCa K tc Tc, [(pz, .inl (zI K, 32, .inl Gz))], [(pn, .inl (zI K, 20, .inl Gn))], [(pe, .inl (zI K, 24, .inl Ge))], [(pv, .inl (zI K, 24, .inl Gv))], [(pl, .inl (zI K, 24, .inl Gl))], [(px, .inl (zI K, 24, .inl Gx))], [(ph, .inl (zI K, 24, .inl Gh))]] [(0, .ref b), (1, .ref ax), (2, .ref pz), (3, .ref pn), (4, .ref pe), (5, .ref pv), (6, .ref pl), (7, .ref px), (8, .ref ph), (9, .int 1), (10, .int (nI tn))] [] 995) : ∀ (n : Nat) (f : Nat → Option Nat) (so : Nat → Nat) (sc : Nat → Nat → Nat) (X : Nat → Int32) (Z : Nat → Nat → Int32) (W : Nat → Int32) (D : Nat → Nat → Int32) (Cs : Nat → Nat → Nat → Int32) (F : Nat → Int32) (O : Nat → Int32) (Ft : Nat → Int32) (Ot : Nat → Int32) (Tc : Nat → Nat → Int32) (Gz : Nat → Int32) (Gn : Nat → Int32) (Ge : Nat → Int32) (Gv : Nat → Int32) (Gl : Nat → Int32) (Gx : Nat → Int32) (Gh : Nat → Int32), rA T n X Z W D Cs O Gz Gn Ge Gv Gl Gx Gh → (∀ a, a < n → f a = some (so a)) → (∀ a, n ≤ a → a < 4 → f a = none) → zW K p l e zR s m args below meth c A Q k9 n9 [zXo ax (az 0) sa (ak 0) (tk 0) (tc 0) X, zSa K sa f, zSO n so sc D, zSC K n sc Cs, zZo K az Z W, zCo K ak F O, zCo K tk Ft Ot, zCa K tc Tc, [(pz, .inl (zI K, 32, .inl Gz))], [(pn, .inl (zI K, 20, .inl Gn))], [(pe, .inl (zI K, 24, .inl Ge))], [(pv, .inl (zI K, 24, .inl Gv))], [(pl, .inl (zI K, 24, .inl Gl))], [(px, .inl (zI K, 24, .inl Gx))], [(ph, .inl (zI K, 24, .inl Gh))]] [(0, .ref b), (1, .ref ax), (2, .ref pz), (3, .ref pn), (4, .ref pe), (5, .ref pv), (6, .ref pl), (7, .ref px), (8, .ref ph), (9, .int 1), (10, .int (nI tn)), (13, .int (nI yy)), (14, .int (nI j)), (12, .int 16)] [] 790 := by
  intro n f so sc X Z W D Cs F O Ft Ot Tc Gz Gn Ge Gv Gl Gx Gh hR hf1 hf2
  refine z_iconst B (v := 1) dL_law_790 rfl ?_
  refine z_iload B dL_law_791 11 rfl ?_
  refine z_bipush B (v := 16) dL_law_793 rfl ?_
  refine z_idivN B (a := yy) (b := 16) (by omega) (by decide) (by decide) dL_law_795 ?_
  refine z_iload B dL_law_796 13 rfl ?_
  refine z_bipush B (v := 16) dL_law_798 rfl ?_
  refine z_icne B 809 dL_law_800 (by decide) (fun _ => ?_) (fun h => absurd (by decide) h)
  refine z_sipush B (v := 1000) dL_law_803 rfl ?_
  refine z_goto B (tgt := 823) dL_law_806 (by decide) ?_
  refine z_iremN B (a := yy / 16) (b := 1000) (by omega) (by decide) (by decide) dL_law_823 ?_
  refine z_iaddN B (a := 1) (b := (yy / 16) % 1000) dL_law_824 ?_
  obtain ⟨q, hv_q, hq0, hq1⟩ : ∃ q, 1 + ((yy / 16) % 1000) = q ∧ 1 ≤ q ∧ q ≤ 1000 := ⟨_, rfl, by omega, by omega⟩
  rw [hv_q]
  refine z_istore B (lv' := [(15, .int (nI q)), (0, .ref b), (1, .ref ax), (2, .ref pz), (3, .ref pn), (4, .ref pe), (5, .ref pv), (6, .ref pl), (7, .ref px), (8, .ref ph), (9, .int 1), (10, .int (nI tn)), (13, .int (nI yy)), (14, .int (nI j)), (12, .int 16)]) dL_law_825 (by decide) rfl ?_
  refine z_aload_n B dL_law_827 4 rfl ?_
  refine z_iconst B (v := 0) dL_law_828 rfl ?_
  refine z_dup2 B dL_law_829 rfl rfl ?_
  refine z_ialdn B (N := 20) (f := Gn) (k0 := 0) (v := (Gn 0)) 9 0 rfl rfl (z_vpc (k := 0) rfl (by decide)) rfl rfl dL_law_830 ?_
  refine z_iload B dL_law_831 0 rfl ?_
  refine z_iadd B dL_law_833 ?_
  refine z_iastn B (N := 20) (f := Gn) (k0 := 0) 9 0 rfl rfl (z_vpc (k := 0) rfl (by decide)) rfl (bs' := [zXo ax (az 0) sa (ak 0) (tk 0) (tc 0) X, zSa K sa f, zSO n so sc D, zSC K n sc Cs, zZo K az Z W, zCo K ak F O, zCo K tk Ft Ot, zCa K tc Tc, [(pz, .inl (zI K, 32, .inl Gz))], [(pn, .inl (zI K, 20, .inl (upd Gn 0 ((Gn 0) + (nI q)))))], [(pe, .inl (zI K, 24, .inl Ge))], [(pv, .inl (zI K, 24, .inl Gv))], [(pl, .inl (zI K, 24, .inl Gl))], [(px, .inl (zI K, 24, .inl Gx))], [(ph, .inl (zI K, 24, .inl Gh))]]) rfl dL_law_834 ?_
  refine z_aload_n B dL_law_835 2 rfl ?_
  refine z_iload B dL_law_836 0 rfl ?_
  refine z_V1 B (kX4_pass_o l hl K ax (az 0) sa (ak 0) (tk 0) (tc 0) X (nI q) (l_ge1 (by omega) (by omega)) (show nI q ≤ nI 1000 from nI_le (by omega) (by decide))) [0] [1, 2, 3, 4, 5, 6, 7, 8, 9, 10, 11, 12, 13, 14] (br := [zSa K sa f, zSO n so sc D, zSC K n sc Cs, zZo K az Z W, zCo K ak F O, zCo K tk Ft Ot, zCa K tc Tc, [(pz, .inl (zI K, 32, .inl Gz))], [(pn, .inl (zI K, 20, .inl (upd Gn 0 ((Gn 0) + (nI q)))))], [(pe, .inl (zI K, 24, .inl Ge))], [(pv, .inl (zI K, 24, .inl Gv))], [(pl, .inl (zI K, 24, .inl Gl))], [(px, .inl (zI K, 24, .inl Gx))], [(ph, .inl (zI K, 24, .inl Gh))]]) (bs' := [zXo ax (az 0) sa (ak 0) (tk 0) (tc 0) ((fX4_pass_o X (nI q)).2), zSa K sa f, zSO n so sc D, zSC K n sc Cs, zZo K az Z W, zCo K ak F O, zCo K tk Ft Ot, zCa K tc Tc, [(pz, .inl (zI K, 32, .inl Gz))], [(pn, .inl (zI K, 20, .inl (upd Gn 0 ((Gn 0) + (nI q)))))], [(pe, .inl (zI K, 24, .inl Ge))], [(pv, .inl (zI K, 24, .inl Gv))], [(pl, .inl (zI K, 24, .inl Gl))], [(px, .inl (zI K, 24, .inl Gx))], [(ph, .inl (zI K, 24, .inl Gh))]]) (st := []) (nA := 1) (zspN 15 rfl rfl rfl (by decide +kernel)) (zspN 15 rfl rfl rfl (by decide +kernel)) 0 0 rfl rfl rfl rfl gL_law_X4_pass rfl (by decide +kernel) ⟨Nat.le_of_ble_eq_true rfl, Nat.le_of_ble_eq_true rfl⟩ rfl rfl (Nat.le_of_ble_eq_true rfl) ⟨(show k9 + 0 ≤ 600130 by omega), (show n9 + 0 ≤ 7301080 by omega)⟩ dL_law_838 z_noX (fun _ => ?_)
  refine z_aload_n B dL_law_841 4 rfl ?_
  refine z_iconst B (v := 0) dL_law_842 rfl ?_
  refine z_ialdn B (N := 20) (f := (upd Gn 0 ((Gn 0) + (nI q)))) (k0 := 0) (v := ((Gn 0) + (nI q))) 9 0 rfl rfl (z_vpc (k := 0) rfl (by decide)) rfl rfl dL_law_843 ?_
  refine z_icne B 851 dL_law_844 (by decide) (fun _ => ?_) (fun h => absurd (q_pass hR hq1).1 h)
  refine z_iconst B (v := 1) dL_law_847 rfl ?_
  refine z_goto B (tgt := 852) dL_law_848 (by decide) ?_
  refine z_istore B (lv' := [(9, .int 1), (15, .int (nI q)), (0, .ref b), (1, .ref ax), (2, .ref pz), (3, .ref pn), (4, .ref pe), (5, .ref pv), (6, .ref pl), (7, .ref px), (8, .ref ph), (10, .int (nI tn)), (13, .int (nI yy)), (14, .int (nI j)), (12, .int 16)]) dL_law_852 (by decide) rfl ?_
  refine z_goto B (tgt := 995) dL_law_854 (by decide) ?_
  refine z_lsub [2, 3, 4, 5, 6, 7, 8, 9, 10, 0, 11] rfl ?_
  refine z_widen (k' := k9 + 64) (n' := n9 + 1024) (show k9 + 0 ≤ _ by omega) (show n9 + 0 ≤ _ by omega) ?_
  exact next n f so sc ((fX4_pass_o X (nI q)).2) Z W D Cs F O Ft Ot Tc Gz (upd Gn 0 ((Gn 0) + (nI q))) Ge Gv Gl Gx Gh (q_pass hR hq1).2 hf1 hf2
set_option maxHeartbeats 4000000 in
set_option maxRecDepth 100000 in
theorem la_pass17 (l : Launch) (hl : l.stackTraces = false) {K : zK} {ax : Nat} {sa : Nat} {az : Nat → Nat} {ak : Nat → Nat} {tk : Nat → Nat} {tc : Nat → Nat} {pz : Nat} {pn : Nat} {pe : Nat} {pv : Nat} {pl : Nat} {px : Nat} {ph : Nat} {p : Program} {e : Env} {s : State} {m : MethodId} {below : List Frame} {meth : Method} {c : Code} {A : Nat → Prop} {Q : State → Prop} {ret9 : Option FieldType} {nm9 : String} {tb9 : List ExceptionTableEntry} {args : Array Value} {b tn k9 n9 yy j T : Nat} (B : zF K p l s m args meth c A cL_law 19 RL nm9 wsL_law ret9 tb9) (hk9 : k9 + 64 ≤ 600130) (hn9 : n9 + 1024 ≤ 7301080) (hT : T ≤ 99000) (hy : yy < 2147483648) (hj : j < 16) (next : ∀ (n : Nat) (f : Nat → Option Nat) (so : Nat → Nat) (sc : Nat → Nat → Nat) (X : Nat → Int32) (Z : Nat → Nat → Int32) (W : Nat → Int32) (D : Nat → Nat → Int32) (Cs : Nat → Nat → Nat → Int32) (F : Nat → Int32) (O : Nat → Int32) (Ft : Nat → Int32) (Ot : Nat → Int32) (Tc : Nat → Nat → Int32) (Gz : Nat → Int32) (Gn : Nat → Int32) (Ge : Nat → Int32) (Gv : Nat → Int32) (Gl : Nat → Int32) (Gx : Nat → Int32) (Gh : Nat → Int32), rA (T + 1000) n X Z W D Cs O Gz Gn Ge Gv Gl Gx Gh → (∀ a, a < n → f a = some (so a)) → (∀ a, n ≤ a → a < 4 → f a = none) → zW K p l e zR s m args below meth c A Q (k9 + 64) (n9 + 1024) [zXo ax (az 0) sa (ak 0) (tk 0) (tc 0) X, zSa K sa f, zSO n so sc D, zSC K n sc Cs, zZo K az Z W, zCo K ak F O, zCo K tk Ft Ot, zCa K tc Tc, [(pz, .inl (zI K, 32, .inl Gz))], [(pn, .inl (zI K, 20, .inl Gn))], [(pe, .inl (zI K, 24, .inl Ge))], [(pv, .inl (zI K, 24, .inl Gv))], [(pl, .inl (zI K, 24, .inl Gl))], [(px, .inl (zI K, 24, .inl Gx))], [(ph, .inl (zI K, 24, .inl Gh))]] [(0, .ref b), (1, .ref ax), (2, .ref pz), (3, .ref pn), (4, .ref pe), (5, .ref pv), (6, .ref pl), (7, .ref px), (8, .ref ph), (9, .int 1), (10, .int (nI tn))] [] 995) : ∀ (n : Nat) (f : Nat → Option Nat) (so : Nat → Nat) (sc : Nat → Nat → Nat) (X : Nat → Int32) (Z : Nat → Nat → Int32) (W : Nat → Int32) (D : Nat → Nat → Int32) (Cs : Nat → Nat → Nat → Int32) (F : Nat → Int32) (O : Nat → Int32) (Ft : Nat → Int32) (Ot : Nat → Int32) (Tc : Nat → Nat → Int32) (Gz : Nat → Int32) (Gn : Nat → Int32) (Ge : Nat → Int32) (Gv : Nat → Int32) (Gl : Nat → Int32) (Gx : Nat → Int32) (Gh : Nat → Int32), rA T n X Z W D Cs O Gz Gn Ge Gv Gl Gx Gh → (∀ a, a < n → f a = some (so a)) → (∀ a, n ≤ a → a < 4 → f a = none) → zW K p l e zR s m args below meth c A Q k9 n9 [zXo ax (az 0) sa (ak 0) (tk 0) (tc 0) X, zSa K sa f, zSO n so sc D, zSC K n sc Cs, zZo K az Z W, zCo K ak F O, zCo K tk Ft Ot, zCa K tc Tc, [(pz, .inl (zI K, 32, .inl Gz))], [(pn, .inl (zI K, 20, .inl Gn))], [(pe, .inl (zI K, 24, .inl Ge))], [(pv, .inl (zI K, 24, .inl Gv))], [(pl, .inl (zI K, 24, .inl Gl))], [(px, .inl (zI K, 24, .inl Gx))], [(ph, .inl (zI K, 24, .inl Gh))]] [(0, .ref b), (1, .ref ax), (2, .ref pz), (3, .ref pn), (4, .ref pe), (5, .ref pv), (6, .ref pl), (7, .ref px), (8, .ref ph), (9, .int 1), (10, .int (nI tn)), (13, .int (nI yy)), (14, .int (nI j)), (12, .int 17)] [] 790 := by
  intro n f so sc X Z W D Cs F O Ft Ot Tc Gz Gn Ge Gv Gl Gx Gh hR hf1 hf2
  refine z_iconst B (v := 1) dL_law_790 rfl ?_
  refine z_iload B dL_law_791 11 rfl ?_
  refine z_bipush B (v := 16) dL_law_793 rfl ?_
  refine z_idivN B (a := yy) (b := 16) (by omega) (by decide) (by decide) dL_law_795 ?_
  refine z_iload B dL_law_796 13 rfl ?_
  refine z_bipush B (v := 16) dL_law_798 rfl ?_
  refine z_icne B 809 dL_law_800 (by decide) (fun h => absurd h (by decide)) (fun _ => ?_)
  refine z_iload B dL_law_809 13 rfl ?_
  refine z_bipush B (v := 17) dL_law_811 rfl ?_
  refine z_icne B 821 dL_law_813 (by decide) (fun _ => ?_) (fun h => absurd (by decide) h)
  refine z_bipush B (v := 90) dL_law_816 rfl ?_
  refine z_goto B (tgt := 823) dL_law_818 (by decide) ?_
  refine z_iremN B (a := yy / 16) (b := 90) (by omega) (by decide) (by decide) dL_law_823 ?_
  refine z_iaddN B (a := 1) (b := (yy / 16) % 90) dL_law_824 ?_
  obtain ⟨q, hv_q, hq0, hq1⟩ : ∃ q, 1 + ((yy / 16) % 90) = q ∧ 1 ≤ q ∧ q ≤ 1000 := ⟨_, rfl, by omega, by omega⟩
  rw [hv_q]
  refine z_istore B (lv' := [(15, .int (nI q)), (0, .ref b), (1, .ref ax), (2, .ref pz), (3, .ref pn), (4, .ref pe), (5, .ref pv), (6, .ref pl), (7, .ref px), (8, .ref ph), (9, .int 1), (10, .int (nI tn)), (13, .int (nI yy)), (14, .int (nI j)), (12, .int 17)]) dL_law_825 (by decide) rfl ?_
  refine z_aload_n B dL_law_827 4 rfl ?_
  refine z_iconst B (v := 0) dL_law_828 rfl ?_
  refine z_dup2 B dL_law_829 rfl rfl ?_
  refine z_ialdn B (N := 20) (f := Gn) (k0 := 0) (v := (Gn 0)) 9 0 rfl rfl (z_vpc (k := 0) rfl (by decide)) rfl rfl dL_law_830 ?_
  refine z_iload B dL_law_831 0 rfl ?_
  refine z_iadd B dL_law_833 ?_
  refine z_iastn B (N := 20) (f := Gn) (k0 := 0) 9 0 rfl rfl (z_vpc (k := 0) rfl (by decide)) rfl (bs' := [zXo ax (az 0) sa (ak 0) (tk 0) (tc 0) X, zSa K sa f, zSO n so sc D, zSC K n sc Cs, zZo K az Z W, zCo K ak F O, zCo K tk Ft Ot, zCa K tc Tc, [(pz, .inl (zI K, 32, .inl Gz))], [(pn, .inl (zI K, 20, .inl (upd Gn 0 ((Gn 0) + (nI q)))))], [(pe, .inl (zI K, 24, .inl Ge))], [(pv, .inl (zI K, 24, .inl Gv))], [(pl, .inl (zI K, 24, .inl Gl))], [(px, .inl (zI K, 24, .inl Gx))], [(ph, .inl (zI K, 24, .inl Gh))]]) rfl dL_law_834 ?_
  refine z_aload_n B dL_law_835 2 rfl ?_
  refine z_iload B dL_law_836 0 rfl ?_
  refine z_V1 B (kX4_pass_o l hl K ax (az 0) sa (ak 0) (tk 0) (tc 0) X (nI q) (l_ge1 (by omega) (by omega)) (show nI q ≤ nI 1000 from nI_le (by omega) (by decide))) [0] [1, 2, 3, 4, 5, 6, 7, 8, 9, 10, 11, 12, 13, 14] (br := [zSa K sa f, zSO n so sc D, zSC K n sc Cs, zZo K az Z W, zCo K ak F O, zCo K tk Ft Ot, zCa K tc Tc, [(pz, .inl (zI K, 32, .inl Gz))], [(pn, .inl (zI K, 20, .inl (upd Gn 0 ((Gn 0) + (nI q)))))], [(pe, .inl (zI K, 24, .inl Ge))], [(pv, .inl (zI K, 24, .inl Gv))], [(pl, .inl (zI K, 24, .inl Gl))], [(px, .inl (zI K, 24, .inl Gx))], [(ph, .inl (zI K, 24, .inl Gh))]]) (bs' := [zXo ax (az 0) sa (ak 0) (tk 0) (tc 0) ((fX4_pass_o X (nI q)).2), zSa K sa f, zSO n so sc D, zSC K n sc Cs, zZo K az Z W, zCo K ak F O, zCo K tk Ft Ot, zCa K tc Tc, [(pz, .inl (zI K, 32, .inl Gz))], [(pn, .inl (zI K, 20, .inl (upd Gn 0 ((Gn 0) + (nI q)))))], [(pe, .inl (zI K, 24, .inl Ge))], [(pv, .inl (zI K, 24, .inl Gv))], [(pl, .inl (zI K, 24, .inl Gl))], [(px, .inl (zI K, 24, .inl Gx))], [(ph, .inl (zI K, 24, .inl Gh))]]) (st := []) (nA := 1) (zspN 15 rfl rfl rfl (by decide +kernel)) (zspN 15 rfl rfl rfl (by decide +kernel)) 0 0 rfl rfl rfl rfl gL_law_X4_pass rfl (by decide +kernel) ⟨Nat.le_of_ble_eq_true rfl, Nat.le_of_ble_eq_true rfl⟩ rfl rfl (Nat.le_of_ble_eq_true rfl) ⟨(show k9 + 0 ≤ 600130 by omega), (show n9 + 0 ≤ 7301080 by omega)⟩ dL_law_838 z_noX (fun _ => ?_)
  refine z_aload_n B dL_law_841 4 rfl ?_
  refine z_iconst B (v := 0) dL_law_842 rfl ?_
  refine z_ialdn B (N := 20) (f := (upd Gn 0 ((Gn 0) + (nI q)))) (k0 := 0) (v := ((Gn 0) + (nI q))) 9 0 rfl rfl (z_vpc (k := 0) rfl (by decide)) rfl rfl dL_law_843 ?_
  refine z_icne B 851 dL_law_844 (by decide) (fun _ => ?_) (fun h => absurd (q_pass hR hq1).1 h)
  refine z_iconst B (v := 1) dL_law_847 rfl ?_
  refine z_goto B (tgt := 852) dL_law_848 (by decide) ?_
  refine z_istore B (lv' := [(9, .int 1), (15, .int (nI q)), (0, .ref b), (1, .ref ax), (2, .ref pz), (3, .ref pn), (4, .ref pe), (5, .ref pv), (6, .ref pl), (7, .ref px), (8, .ref ph), (10, .int (nI tn)), (13, .int (nI yy)), (14, .int (nI j)), (12, .int 17)]) dL_law_852 (by decide) rfl ?_
  refine z_goto B (tgt := 995) dL_law_854 (by decide) ?_
  refine z_lsub [2, 3, 4, 5, 6, 7, 8, 9, 10, 0, 11] rfl ?_
  refine z_widen (k' := k9 + 64) (n' := n9 + 1024) (show k9 + 0 ≤ _ by omega) (show n9 + 0 ≤ _ by omega) ?_
  exact next n f so sc ((fX4_pass_o X (nI q)).2) Z W D Cs F O Ft Ot Tc Gz (upd Gn 0 ((Gn 0) + (nI q))) Ge Gv Gl Gx Gh (q_pass hR hq1).2 hf1 hf2
set_option maxHeartbeats 4000000 in
set_option maxRecDepth 100000 in
theorem la_pass18 (l : Launch) (hl : l.stackTraces = false) {K : zK} {ax : Nat} {sa : Nat} {az : Nat → Nat} {ak : Nat → Nat} {tk : Nat → Nat} {tc : Nat → Nat} {pz : Nat} {pn : Nat} {pe : Nat} {pv : Nat} {pl : Nat} {px : Nat} {ph : Nat} {p : Program} {e : Env} {s : State} {m : MethodId} {below : List Frame} {meth : Method} {c : Code} {A : Nat → Prop} {Q : State → Prop} {ret9 : Option FieldType} {nm9 : String} {tb9 : List ExceptionTableEntry} {args : Array Value} {b tn k9 n9 yy j T : Nat} (B : zF K p l s m args meth c A cL_law 19 RL nm9 wsL_law ret9 tb9) (hk9 : k9 + 64 ≤ 600130) (hn9 : n9 + 1024 ≤ 7301080) (hT : T ≤ 99000) (hy : yy < 2147483648) (hj : j < 16) (next : ∀ (n : Nat) (f : Nat → Option Nat) (so : Nat → Nat) (sc : Nat → Nat → Nat) (X : Nat → Int32) (Z : Nat → Nat → Int32) (W : Nat → Int32) (D : Nat → Nat → Int32) (Cs : Nat → Nat → Nat → Int32) (F : Nat → Int32) (O : Nat → Int32) (Ft : Nat → Int32) (Ot : Nat → Int32) (Tc : Nat → Nat → Int32) (Gz : Nat → Int32) (Gn : Nat → Int32) (Ge : Nat → Int32) (Gv : Nat → Int32) (Gl : Nat → Int32) (Gx : Nat → Int32) (Gh : Nat → Int32), rA (T + 1000) n X Z W D Cs O Gz Gn Ge Gv Gl Gx Gh → (∀ a, a < n → f a = some (so a)) → (∀ a, n ≤ a → a < 4 → f a = none) → zW K p l e zR s m args below meth c A Q (k9 + 64) (n9 + 1024) [zXo ax (az 0) sa (ak 0) (tk 0) (tc 0) X, zSa K sa f, zSO n so sc D, zSC K n sc Cs, zZo K az Z W, zCo K ak F O, zCo K tk Ft Ot, zCa K tc Tc, [(pz, .inl (zI K, 32, .inl Gz))], [(pn, .inl (zI K, 20, .inl Gn))], [(pe, .inl (zI K, 24, .inl Ge))], [(pv, .inl (zI K, 24, .inl Gv))], [(pl, .inl (zI K, 24, .inl Gl))], [(px, .inl (zI K, 24, .inl Gx))], [(ph, .inl (zI K, 24, .inl Gh))]] [(0, .ref b), (1, .ref ax), (2, .ref pz), (3, .ref pn), (4, .ref pe), (5, .ref pv), (6, .ref pl), (7, .ref px), (8, .ref ph), (9, .int 1), (10, .int (nI tn))] [] 995) : ∀ (n : Nat) (f : Nat → Option Nat) (so : Nat → Nat) (sc : Nat → Nat → Nat) (X : Nat → Int32) (Z : Nat → Nat → Int32) (W : Nat → Int32) (D : Nat → Nat → Int32) (Cs : Nat → Nat → Nat → Int32) (F : Nat → Int32) (O : Nat → Int32) (Ft : Nat → Int32) (Ot : Nat → Int32) (Tc : Nat → Nat → Int32) (Gz : Nat → Int32) (Gn : Nat → Int32) (Ge : Nat → Int32) (Gv : Nat → Int32) (Gl : Nat → Int32) (Gx : Nat → Int32) (Gh : Nat → Int32), rA T n X Z W D Cs O Gz Gn Ge Gv Gl Gx Gh → (∀ a, a < n → f a = some (so a)) → (∀ a, n ≤ a → a < 4 → f a = none) → zW K p l e zR s m args below meth c A Q k9 n9 [zXo ax (az 0) sa (ak 0) (tk 0) (tc 0) X, zSa K sa f, zSO n so sc D, zSC K n sc Cs, zZo K az Z W, zCo K ak F O, zCo K tk Ft Ot, zCa K tc Tc, [(pz, .inl (zI K, 32, .inl Gz))], [(pn, .inl (zI K, 20, .inl Gn))], [(pe, .inl (zI K, 24, .inl Ge))], [(pv, .inl (zI K, 24, .inl Gv))], [(pl, .inl (zI K, 24, .inl Gl))], [(px, .inl (zI K, 24, .inl Gx))], [(ph, .inl (zI K, 24, .inl Gh))]] [(0, .ref b), (1, .ref ax), (2, .ref pz), (3, .ref pn), (4, .ref pe), (5, .ref pv), (6, .ref pl), (7, .ref px), (8, .ref ph), (9, .int 1), (10, .int (nI tn)), (13, .int (nI yy)), (14, .int (nI j)), (12, .int 18)] [] 790 := by
  intro n f so sc X Z W D Cs F O Ft Ot Tc Gz Gn Ge Gv Gl Gx Gh hR hf1 hf2
  refine z_iconst B (v := 1) dL_law_790 rfl ?_
  refine z_iload B dL_law_791 11 rfl ?_
  refine z_bipush B (v := 16) dL_law_793 rfl ?_
  refine z_idivN B (a := yy) (b := 16) (by omega) (by decide) (by decide) dL_law_795 ?_
  refine z_iload B dL_law_796 13 rfl ?_
  refine z_bipush B (v := 16) dL_law_798 rfl ?_
  refine z_icne B 809 dL_law_800 (by decide) (fun h => absurd h (by decide)) (fun _ => ?_)
  refine z_iload B dL_law_809 13 rfl ?_
  refine z_bipush B (v := 17) dL_law_811 rfl ?_
  refine z_icne B 821 dL_law_813 (by decide) (fun h => absurd h (by decide)) (fun _ => ?_)
  refine z_bipush B (v := 6) dL_law_821 rfl ?_
  refine z_iremN B (a := yy / 16) (b := 6) (by omega) (by decide) (by decide) dL_law_823 ?_
  refine z_iaddN B (a := 1) (b := (yy / 16) % 6) dL_law_824 ?_
  obtain ⟨q, hv_q, hq0, hq1⟩ : ∃ q, 1 + ((yy / 16) % 6) = q ∧ 1 ≤ q ∧ q ≤ 1000 := ⟨_, rfl, by omega, by omega⟩
  rw [hv_q]
  refine z_istore B (lv' := [(15, .int (nI q)), (0, .ref b), (1, .ref ax), (2, .ref pz), (3, .ref pn), (4, .ref pe), (5, .ref pv), (6, .ref pl), (7, .ref px), (8, .ref ph), (9, .int 1), (10, .int (nI tn)), (13, .int (nI yy)), (14, .int (nI j)), (12, .int 18)]) dL_law_825 (by decide) rfl ?_
  refine z_aload_n B dL_law_827 4 rfl ?_
  refine z_iconst B (v := 0) dL_law_828 rfl ?_
  refine z_dup2 B dL_law_829 rfl rfl ?_
  refine z_ialdn B (N := 20) (f := Gn) (k0 := 0) (v := (Gn 0)) 9 0 rfl rfl (z_vpc (k := 0) rfl (by decide)) rfl rfl dL_law_830 ?_
  refine z_iload B dL_law_831 0 rfl ?_
  refine z_iadd B dL_law_833 ?_
  refine z_iastn B (N := 20) (f := Gn) (k0 := 0) 9 0 rfl rfl (z_vpc (k := 0) rfl (by decide)) rfl (bs' := [zXo ax (az 0) sa (ak 0) (tk 0) (tc 0) X, zSa K sa f, zSO n so sc D, zSC K n sc Cs, zZo K az Z W, zCo K ak F O, zCo K tk Ft Ot, zCa K tc Tc, [(pz, .inl (zI K, 32, .inl Gz))], [(pn, .inl (zI K, 20, .inl (upd Gn 0 ((Gn 0) + (nI q)))))], [(pe, .inl (zI K, 24, .inl Ge))], [(pv, .inl (zI K, 24, .inl Gv))], [(pl, .inl (zI K, 24, .inl Gl))], [(px, .inl (zI K, 24, .inl Gx))], [(ph, .inl (zI K, 24, .inl Gh))]]) rfl dL_law_834 ?_
  refine z_aload_n B dL_law_835 2 rfl ?_
  refine z_iload B dL_law_836 0 rfl ?_
  refine z_V1 B (kX4_pass_o l hl K ax (az 0) sa (ak 0) (tk 0) (tc 0) X (nI q) (l_ge1 (by omega) (by omega)) (show nI q ≤ nI 1000 from nI_le (by omega) (by decide))) [0] [1, 2, 3, 4, 5, 6, 7, 8, 9, 10, 11, 12, 13, 14] (br := [zSa K sa f, zSO n so sc D, zSC K n sc Cs, zZo K az Z W, zCo K ak F O, zCo K tk Ft Ot, zCa K tc Tc, [(pz, .inl (zI K, 32, .inl Gz))], [(pn, .inl (zI K, 20, .inl (upd Gn 0 ((Gn 0) + (nI q)))))], [(pe, .inl (zI K, 24, .inl Ge))], [(pv, .inl (zI K, 24, .inl Gv))], [(pl, .inl (zI K, 24, .inl Gl))], [(px, .inl (zI K, 24, .inl Gx))], [(ph, .inl (zI K, 24, .inl Gh))]]) (bs' := [zXo ax (az 0) sa (ak 0) (tk 0) (tc 0) ((fX4_pass_o X (nI q)).2), zSa K sa f, zSO n so sc D, zSC K n sc Cs, zZo K az Z W, zCo K ak F O, zCo K tk Ft Ot, zCa K tc Tc, [(pz, .inl (zI K, 32, .inl Gz))], [(pn, .inl (zI K, 20, .inl (upd Gn 0 ((Gn 0) + (nI q)))))], [(pe, .inl (zI K, 24, .inl Ge))], [(pv, .inl (zI K, 24, .inl Gv))], [(pl, .inl (zI K, 24, .inl Gl))], [(px, .inl (zI K, 24, .inl Gx))], [(ph, .inl (zI K, 24, .inl Gh))]]) (st := []) (nA := 1) (zspN 15 rfl rfl rfl (by decide +kernel)) (zspN 15 rfl rfl rfl (by decide +kernel)) 0 0 rfl rfl rfl rfl gL_law_X4_pass rfl (by decide +kernel) ⟨Nat.le_of_ble_eq_true rfl, Nat.le_of_ble_eq_true rfl⟩ rfl rfl (Nat.le_of_ble_eq_true rfl) ⟨(show k9 + 0 ≤ 600130 by omega), (show n9 + 0 ≤ 7301080 by omega)⟩ dL_law_838 z_noX (fun _ => ?_)
  refine z_aload_n B dL_law_841 4 rfl ?_
  refine z_iconst B (v := 0) dL_law_842 rfl ?_
  refine z_ialdn B (N := 20) (f := (upd Gn 0 ((Gn 0) + (nI q)))) (k0 := 0) (v := ((Gn 0) + (nI q))) 9 0 rfl rfl (z_vpc (k := 0) rfl (by decide)) rfl rfl dL_law_843 ?_
  refine z_icne B 851 dL_law_844 (by decide) (fun _ => ?_) (fun h => absurd (q_pass hR hq1).1 h)
  refine z_iconst B (v := 1) dL_law_847 rfl ?_
  refine z_goto B (tgt := 852) dL_law_848 (by decide) ?_
  refine z_istore B (lv' := [(9, .int 1), (15, .int (nI q)), (0, .ref b), (1, .ref ax), (2, .ref pz), (3, .ref pn), (4, .ref pe), (5, .ref pv), (6, .ref pl), (7, .ref px), (8, .ref ph), (10, .int (nI tn)), (13, .int (nI yy)), (14, .int (nI j)), (12, .int 18)]) dL_law_852 (by decide) rfl ?_
  refine z_goto B (tgt := 995) dL_law_854 (by decide) ?_
  refine z_lsub [2, 3, 4, 5, 6, 7, 8, 9, 10, 0, 11] rfl ?_
  refine z_widen (k' := k9 + 64) (n' := n9 + 1024) (show k9 + 0 ≤ _ by omega) (show n9 + 0 ≤ _ by omega) ?_
  exact next n f so sc ((fX4_pass_o X (nI q)).2) Z W D Cs F O Ft Ot Tc Gz (upd Gn 0 ((Gn 0) + (nI q))) Ge Gv Gl Gx Gh (q_pass hR hq1).2 hf1 hf2
