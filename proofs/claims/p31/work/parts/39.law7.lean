set_option maxHeartbeats 4000000 in
set_option maxRecDepth 100000 in
theorem la_kinds (l : Launch) (hl : l.stackTraces = false) {K : zK} {ax : Nat} {sa : Nat} {az : Nat → Nat} {ak : Nat → Nat} {tk : Nat → Nat} {tc : Nat → Nat} {pz : Nat} {pn : Nat} {pe : Nat} {pv : Nat} {pl : Nat} {px : Nat} {ph : Nat} {p : Program} {e : Env} {s : State} {m : MethodId} {below : List Frame} {meth : Method} {c : Code} {A : Nat → Prop} {Q : State → Prop} {ret9 : Option FieldType} {nm9 : String} {tb9 : List ExceptionTableEntry} {args : Array Value} {b tn k9 n9 yy j T : Nat} (B : zF K p l s m args meth c A cL_law 19 RL nm9 wsL_law ret9 tb9) {kd : Nat} (hkd : kd < 22) (hk9 : k9 + 64 ≤ 600130) (hn9 : n9 + 1024 ≤ 7301080) (hT : T ≤ 99000) (hy : yy < 2147483648) (hj : j < 16) (next : ∀ (n : Nat) (f : Nat → Option Nat) (so : Nat → Nat) (sc : Nat → Nat → Nat) (X : Nat → Int32) (Z : Nat → Nat → Int32) (W : Nat → Int32) (D : Nat → Nat → Int32) (Cs : Nat → Nat → Nat → Int32) (F : Nat → Int32) (O : Nat → Int32) (Ft : Nat → Int32) (Ot : Nat → Int32) (Tc : Nat → Nat → Int32) (Gz : Nat → Int32) (Gn : Nat → Int32) (Ge : Nat → Int32) (Gv : Nat → Int32) (Gl : Nat → Int32) (Gx : Nat → Int32) (Gh : Nat → Int32), rA (T + 1000) n X Z W D Cs O Gz Gn Ge Gv Gl Gx Gh → (∀ a, a < n → f a = some (so a)) → (∀ a, n ≤ a → a < 4 → f a = none) → zW K p l e zR s m args below meth c A Q (k9 + 64) (n9 + 1024) [zXo ax (az 0) sa (ak 0) (tk 0) (tc 0) X, zSa K sa f, zSO n so sc D, zSC K n sc Cs, zZo K az Z W, zCo K ak F O, zCo K tk Ft Ot, zCa K tc Tc, [(pz, .inl (zI K, 32, .inl Gz))], [(pn, .inl (zI K, 20, .inl Gn))], [(pe, .inl (zI K, 24, .inl Ge))], [(pv, .inl (zI K, 24, .inl Gv))], [(pl, .inl (zI K, 24, .inl Gl))], [(px, .inl (zI K, 24, .inl Gx))], [(ph, .inl (zI K, 24, .inl Gh))]] [(0, .ref b), (1, .ref ax), (2, .ref pz), (3, .ref pn), (4, .ref pe), (5, .ref pv), (6, .ref pl), (7, .ref px), (8, .ref ph), (9, .int 1), (10, .int (nI tn))] [] 995) : ∀ (n : Nat) (f : Nat → Option Nat) (so : Nat → Nat) (sc : Nat → Nat → Nat) (X : Nat → Int32) (Z : Nat → Nat → Int32) (W : Nat → Int32) (D : Nat → Nat → Int32) (Cs : Nat → Nat → Nat → Int32) (F : Nat → Int32) (O : Nat → Int32) (Ft : Nat → Int32) (Ot : Nat → Int32) (Tc : Nat → Nat → Int32) (Gz : Nat → Int32) (Gn : Nat → Int32) (Ge : Nat → Int32) (Gv : Nat → Int32) (Gl : Nat → Int32) (Gx : Nat → Int32) (Gh : Nat → Int32), rA T n X Z W D Cs O Gz Gn Ge Gv Gl Gx Gh → (∀ a, a < n → f a = some (so a)) → (∀ a, n ≤ a → a < 4 → f a = none) → zW K p l e zR s m args below meth c A Q k9 n9 [zXo ax (az 0) sa (ak 0) (tk 0) (tc 0) X, zSa K sa f, zSO n so sc D, zSC K n sc Cs, zZo K az Z W, zCo K ak F O, zCo K tk Ft Ot, zCa K tc Tc, [(pz, .inl (zI K, 32, .inl Gz))], [(pn, .inl (zI K, 20, .inl Gn))], [(pe, .inl (zI K, 24, .inl Ge))], [(pv, .inl (zI K, 24, .inl Gv))], [(pl, .inl (zI K, 24, .inl Gl))], [(px, .inl (zI K, 24, .inl Gx))], [(ph, .inl (zI K, 24, .inl Gh))]] [(0, .ref b), (1, .ref ax), (2, .ref pz), (3, .ref pn), (4, .ref pe), (5, .ref pv), (6, .ref pl), (7, .ref px), (8, .ref ph), (9, .int 1), (10, .int (nI tn)), (13, .int (nI yy)), (14, .int (nI j)), (12, .int (nI kd))] [] 180 := by
  intro n f so sc X Z W D Cs F O Ft Ot Tc Gz Gn Ge Gv Gl Gx Gh hR hf1 hf2
  rcases (show kd = 0 ∨ kd = 1 ∨ kd = 2 ∨ kd = 3 ∨ kd = 4 ∨ kd = 5 ∨ kd = 6 ∨ kd = 7 ∨ kd = 8 ∨ kd = 9 ∨ kd = 10 ∨ kd = 11 ∨ kd = 12 ∨ kd = 13 ∨ kd = 14 ∨ kd = 15 ∨ kd = 16 ∨ kd = 17 ∨ kd = 18 ∨ kd = 19 ∨ kd = 20 ∨ kd = 21 by omega) with rfl | rfl | rfl | rfl | rfl | rfl | rfl | rfl | rfl | rfl | rfl | rfl | rfl | rfl | rfl | rfl | rfl | rfl | rfl | rfl | rfl | rfl
  · refine z_iload B dL_law_180 13 rfl ?_
    refine z_ifeq B 192 dL_law_182 (by decide) (fun _ => ?_) (fun h => absurd (by decide) h)
    refine z_lsub [0, 1, 2, 3, 4, 5, 6, 7, 8, 9, 10, 11, 12] rfl ?_
    exact la_addr l hl B hk9 hn9 hT hy hj next n f so sc X Z W D Cs F O Ft Ot Tc Gz Gn Ge Gv Gl Gx Gh hR hf1 hf2
  · refine z_iload B dL_law_180 13 rfl ?_
    refine z_ifeq B 192 dL_law_182 (by decide) (fun h => absurd h (by decide)) (fun _ => ?_)
    refine z_iload B dL_law_185 13 rfl ?_
    refine z_bipush B (v := 14) dL_law_187 rfl ?_
    refine z_icne B 257 dL_law_189 (by decide) (fun h => absurd h (by decide)) (fun _ => ?_)
    refine z_iload B dL_law_257 13 rfl ?_
    refine z_iconst B (v := 3) dL_law_259 rfl ?_
    refine z_icge B 338 dL_law_260 (by decide) (fun h => absurd h (by decide)) (fun _ => ?_)
    refine z_lsub [0, 1, 2, 3, 4, 5, 6, 7, 8, 9, 10, 11, 12] rfl ?_
    exact la_alias l hl B hk9 hn9 hT hy hj next n f so sc X Z W D Cs F O Ft Ot Tc Gz Gn Ge Gv Gl Gx Gh hR hf1 hf2
  · refine z_iload B dL_law_180 13 rfl ?_
    refine z_ifeq B 192 dL_law_182 (by decide) (fun h => absurd h (by decide)) (fun _ => ?_)
    refine z_iload B dL_law_185 13 rfl ?_
    refine z_bipush B (v := 14) dL_law_187 rfl ?_
    refine z_icne B 257 dL_law_189 (by decide) (fun h => absurd h (by decide)) (fun _ => ?_)
    refine z_iload B dL_law_257 13 rfl ?_
    refine z_iconst B (v := 3) dL_law_259 rfl ?_
    refine z_icge B 338 dL_law_260 (by decide) (fun h => absurd h (by decide)) (fun _ => ?_)
    refine z_lsub [0, 1, 2, 3, 4, 5, 6, 7, 8, 9, 10, 11, 12] rfl ?_
    exact la_alias l hl B hk9 hn9 hT hy hj next n f so sc X Z W D Cs F O Ft Ot Tc Gz Gn Ge Gv Gl Gx Gh hR hf1 hf2
  · refine z_iload B dL_law_180 13 rfl ?_
    refine z_ifeq B 192 dL_law_182 (by decide) (fun h => absurd h (by decide)) (fun _ => ?_)
    refine z_iload B dL_law_185 13 rfl ?_
    refine z_bipush B (v := 14) dL_law_187 rfl ?_
    refine z_icne B 257 dL_law_189 (by decide) (fun h => absurd h (by decide)) (fun _ => ?_)
    refine z_iload B dL_law_257 13 rfl ?_
    refine z_iconst B (v := 3) dL_law_259 rfl ?_
    refine z_icge B 338 dL_law_260 (by decide) (fun _ => ?_) (fun h => absurd (by decide) h)
    refine z_iload B dL_law_338 13 rfl ?_
    refine z_iconst B (v := 3) dL_law_340 rfl ?_
    refine z_icne B 380 dL_law_341 (by decide) (fun _ => ?_) (fun h => absurd (by decide) h)
    refine z_lsub [0, 1, 2, 3, 4, 5, 6, 7, 8, 9, 10, 11, 12] rfl ?_
    exact la_rem l hl B hk9 hn9 hT hy hj next n f so sc X Z W D Cs F O Ft Ot Tc Gz Gn Ge Gv Gl Gx Gh hR hf1 hf2
  · refine z_iload B dL_law_180 13 rfl ?_
    refine z_ifeq B 192 dL_law_182 (by decide) (fun h => absurd h (by decide)) (fun _ => ?_)
    refine z_iload B dL_law_185 13 rfl ?_
    refine z_bipush B (v := 14) dL_law_187 rfl ?_
    refine z_icne B 257 dL_law_189 (by decide) (fun h => absurd h (by decide)) (fun _ => ?_)
    refine z_iload B dL_law_257 13 rfl ?_
    refine z_iconst B (v := 3) dL_law_259 rfl ?_
    refine z_icge B 338 dL_law_260 (by decide) (fun _ => ?_) (fun h => absurd (by decide) h)
    refine z_iload B dL_law_338 13 rfl ?_
    refine z_iconst B (v := 3) dL_law_340 rfl ?_
    refine z_icne B 380 dL_law_341 (by decide) (fun h => absurd h (by decide)) (fun _ => ?_)
    refine z_iload B dL_law_380 13 rfl ?_
    refine z_iconst B (v := 4) dL_law_382 rfl ?_
    refine z_icne B 424 dL_law_383 (by decide) (fun _ => ?_) (fun h => absurd (by decide) h)
    refine z_lsub [0, 1, 2, 3, 4, 5, 6, 7, 8, 9, 10, 11, 12] rfl ?_
    exact la_bound l hl B hk9 hn9 hT hy hj next n f so sc X Z W D Cs F O Ft Ot Tc Gz Gn Ge Gv Gl Gx Gh hR hf1 hf2
  · refine z_iload B dL_law_180 13 rfl ?_
    refine z_ifeq B 192 dL_law_182 (by decide) (fun h => absurd h (by decide)) (fun _ => ?_)
    refine z_iload B dL_law_185 13 rfl ?_
    refine z_bipush B (v := 14) dL_law_187 rfl ?_
    refine z_icne B 257 dL_law_189 (by decide) (fun h => absurd h (by decide)) (fun _ => ?_)
    refine z_iload B dL_law_257 13 rfl ?_
    refine z_iconst B (v := 3) dL_law_259 rfl ?_
    refine z_icge B 338 dL_law_260 (by decide) (fun _ => ?_) (fun h => absurd (by decide) h)
    refine z_iload B dL_law_338 13 rfl ?_
    refine z_iconst B (v := 3) dL_law_340 rfl ?_
    refine z_icne B 380 dL_law_341 (by decide) (fun h => absurd h (by decide)) (fun _ => ?_)
    refine z_iload B dL_law_380 13 rfl ?_
    refine z_iconst B (v := 4) dL_law_382 rfl ?_
    refine z_icne B 424 dL_law_383 (by decide) (fun h => absurd h (by decide)) (fun _ => ?_)
    refine z_iload B dL_law_424 13 rfl ?_
    refine z_iconst B (v := 5) dL_law_426 rfl ?_
    refine z_icne B 490 dL_law_427 (by decide) (fun _ => ?_) (fun h => absurd (by decide) h)
    refine z_lsub [0, 1, 2, 3, 4, 5, 6, 7, 8, 9, 10, 11, 12] rfl ?_
    exact la_auth l hl B hk9 hn9 hT hy hj next n f so sc X Z W D Cs F O Ft Ot Tc Gz Gn Ge Gv Gl Gx Gh hR hf1 hf2
  · refine z_iload B dL_law_180 13 rfl ?_
    refine z_ifeq B 192 dL_law_182 (by decide) (fun h => absurd h (by decide)) (fun _ => ?_)
    refine z_iload B dL_law_185 13 rfl ?_
    refine z_bipush B (v := 14) dL_law_187 rfl ?_
    refine z_icne B 257 dL_law_189 (by decide) (fun h => absurd h (by decide)) (fun _ => ?_)
    refine z_iload B dL_law_257 13 rfl ?_
    refine z_iconst B (v := 3) dL_law_259 rfl ?_
    refine z_icge B 338 dL_law_260 (by decide) (fun _ => ?_) (fun h => absurd (by decide) h)
    refine z_iload B dL_law_338 13 rfl ?_
    refine z_iconst B (v := 3) dL_law_340 rfl ?_
    refine z_icne B 380 dL_law_341 (by decide) (fun h => absurd h (by decide)) (fun _ => ?_)
    refine z_iload B dL_law_380 13 rfl ?_
    refine z_iconst B (v := 4) dL_law_382 rfl ?_
    refine z_icne B 424 dL_law_383 (by decide) (fun h => absurd h (by decide)) (fun _ => ?_)
    refine z_iload B dL_law_424 13 rfl ?_
    refine z_iconst B (v := 5) dL_law_426 rfl ?_
    refine z_icne B 490 dL_law_427 (by decide) (fun h => absurd h (by decide)) (fun _ => ?_)
    refine z_iload B dL_law_490 13 rfl ?_
    refine z_bipush B (v := 12) dL_law_492 rfl ?_
    refine z_icne B 575 dL_law_494 (by decide) (fun h => absurd h (by decide)) (fun _ => ?_)
    refine z_iload B dL_law_575 13 rfl ?_
    refine z_bipush B (v := 13) dL_law_577 rfl ?_
    refine z_icne B 683 dL_law_579 (by decide) (fun h => absurd h (by decide)) (fun _ => ?_)
    refine z_iload B dL_law_683 13 rfl ?_
    refine z_bipush B (v := 15) dL_law_685 rfl ?_
    refine z_icne B 776 dL_law_687 (by decide) (fun h => absurd h (by decide)) (fun _ => ?_)
    refine z_iload B dL_law_776 13 rfl ?_
    refine z_bipush B (v := 15) dL_law_778 rfl ?_
    refine z_icle B 857 dL_law_780 (by decide) (fun _ => ?_) (fun h => absurd (by decide) h)
    refine z_lsub [0, 1, 2, 3, 4, 5, 6, 7, 8, 9, 10, 11, 12] rfl ?_
    exact la_query l hl B hk9 hn9 hT hy hj next n f so sc X Z W D Cs F O Ft Ot Tc Gz Gn Ge Gv Gl Gx Gh hR hf1 hf2
  · refine z_iload B dL_law_180 13 rfl ?_
    refine z_ifeq B 192 dL_law_182 (by decide) (fun h => absurd h (by decide)) (fun _ => ?_)
    refine z_iload B dL_law_185 13 rfl ?_
    refine z_bipush B (v := 14) dL_law_187 rfl ?_
    refine z_icne B 257 dL_law_189 (by decide) (fun h => absurd h (by decide)) (fun _ => ?_)
    refine z_iload B dL_law_257 13 rfl ?_
    refine z_iconst B (v := 3) dL_law_259 rfl ?_
    refine z_icge B 338 dL_law_260 (by decide) (fun _ => ?_) (fun h => absurd (by decide) h)
    refine z_iload B dL_law_338 13 rfl ?_
    refine z_iconst B (v := 3) dL_law_340 rfl ?_
    refine z_icne B 380 dL_law_341 (by decide) (fun h => absurd h (by decide)) (fun _ => ?_)
    refine z_iload B dL_law_380 13 rfl ?_
    refine z_iconst B (v := 4) dL_law_382 rfl ?_
    refine z_icne B 424 dL_law_383 (by decide) (fun h => absurd h (by decide)) (fun _ => ?_)
    refine z_iload B dL_law_424 13 rfl ?_
    refine z_iconst B (v := 5) dL_law_426 rfl ?_
    refine z_icne B 490 dL_law_427 (by decide) (fun h => absurd h (by decide)) (fun _ => ?_)
    refine z_iload B dL_law_490 13 rfl ?_
    refine z_bipush B (v := 12) dL_law_492 rfl ?_
    refine z_icne B 575 dL_law_494 (by decide) (fun h => absurd h (by decide)) (fun _ => ?_)
    refine z_iload B dL_law_575 13 rfl ?_
    refine z_bipush B (v := 13) dL_law_577 rfl ?_
    refine z_icne B 683 dL_law_579 (by decide) (fun h => absurd h (by decide)) (fun _ => ?_)
    refine z_iload B dL_law_683 13 rfl ?_
    refine z_bipush B (v := 15) dL_law_685 rfl ?_
    refine z_icne B 776 dL_law_687 (by decide) (fun h => absurd h (by decide)) (fun _ => ?_)
    refine z_iload B dL_law_776 13 rfl ?_
    refine z_bipush B (v := 15) dL_law_778 rfl ?_
    refine z_icle B 857 dL_law_780 (by decide) (fun _ => ?_) (fun h => absurd (by decide) h)
    refine z_lsub [0, 1, 2, 3, 4, 5, 6, 7, 8, 9, 10, 11, 12] rfl ?_
    exact la_query l hl B hk9 hn9 hT hy hj next n f so sc X Z W D Cs F O Ft Ot Tc Gz Gn Ge Gv Gl Gx Gh hR hf1 hf2
  · refine z_iload B dL_law_180 13 rfl ?_
    refine z_ifeq B 192 dL_law_182 (by decide) (fun h => absurd h (by decide)) (fun _ => ?_)
    refine z_iload B dL_law_185 13 rfl ?_
    refine z_bipush B (v := 14) dL_law_187 rfl ?_
    refine z_icne B 257 dL_law_189 (by decide) (fun h => absurd h (by decide)) (fun _ => ?_)
    refine z_iload B dL_law_257 13 rfl ?_
    refine z_iconst B (v := 3) dL_law_259 rfl ?_
    refine z_icge B 338 dL_law_260 (by decide) (fun _ => ?_) (fun h => absurd (by decide) h)
    refine z_iload B dL_law_338 13 rfl ?_
    refine z_iconst B (v := 3) dL_law_340 rfl ?_
    refine z_icne B 380 dL_law_341 (by decide) (fun h => absurd h (by decide)) (fun _ => ?_)
    refine z_iload B dL_law_380 13 rfl ?_
    refine z_iconst B (v := 4) dL_law_382 rfl ?_
    refine z_icne B 424 dL_law_383 (by decide) (fun h => absurd h (by decide)) (fun _ => ?_)
    refine z_iload B dL_law_424 13 rfl ?_
    refine z_iconst B (v := 5) dL_law_426 rfl ?_
    refine z_icne B 490 dL_law_427 (by decide) (fun h => absurd h (by decide)) (fun _ => ?_)
    refine z_iload B dL_law_490 13 rfl ?_
    refine z_bipush B (v := 12) dL_law_492 rfl ?_
    refine z_icne B 575 dL_law_494 (by decide) (fun h => absurd h (by decide)) (fun _ => ?_)
    refine z_iload B dL_law_575 13 rfl ?_
    refine z_bipush B (v := 13) dL_law_577 rfl ?_
    refine z_icne B 683 dL_law_579 (by decide) (fun h => absurd h (by decide)) (fun _ => ?_)
    refine z_iload B dL_law_683 13 rfl ?_
    refine z_bipush B (v := 15) dL_law_685 rfl ?_
    refine z_icne B 776 dL_law_687 (by decide) (fun h => absurd h (by decide)) (fun _ => ?_)
    refine z_iload B dL_law_776 13 rfl ?_
    refine z_bipush B (v := 15) dL_law_778 rfl ?_
    refine z_icle B 857 dL_law_780 (by decide) (fun _ => ?_) (fun h => absurd (by decide) h)
    refine z_lsub [0, 1, 2, 3, 4, 5, 6, 7, 8, 9, 10, 11, 12] rfl ?_
    exact la_query l hl B hk9 hn9 hT hy hj next n f so sc X Z W D Cs F O Ft Ot Tc Gz Gn Ge Gv Gl Gx Gh hR hf1 hf2
  · refine z_iload B dL_law_180 13 rfl ?_
    refine z_ifeq B 192 dL_law_182 (by decide) (fun h => absurd h (by decide)) (fun _ => ?_)
    refine z_iload B dL_law_185 13 rfl ?_
    refine z_bipush B (v := 14) dL_law_187 rfl ?_
    refine z_icne B 257 dL_law_189 (by decide) (fun h => absurd h (by decide)) (fun _ => ?_)
    refine z_iload B dL_law_257 13 rfl ?_
    refine z_iconst B (v := 3) dL_law_259 rfl ?_
    refine z_icge B 338 dL_law_260 (by decide) (fun _ => ?_) (fun h => absurd (by decide) h)
    refine z_iload B dL_law_338 13 rfl ?_
    refine z_iconst B (v := 3) dL_law_340 rfl ?_
    refine z_icne B 380 dL_law_341 (by decide) (fun h => absurd h (by decide)) (fun _ => ?_)
    refine z_iload B dL_law_380 13 rfl ?_
    refine z_iconst B (v := 4) dL_law_382 rfl ?_
    refine z_icne B 424 dL_law_383 (by decide) (fun h => absurd h (by decide)) (fun _ => ?_)
    refine z_iload B dL_law_424 13 rfl ?_
    refine z_iconst B (v := 5) dL_law_426 rfl ?_
    refine z_icne B 490 dL_law_427 (by decide) (fun h => absurd h (by decide)) (fun _ => ?_)
    refine z_iload B dL_law_490 13 rfl ?_
    refine z_bipush B (v := 12) dL_law_492 rfl ?_
    refine z_icne B 575 dL_law_494 (by decide) (fun h => absurd h (by decide)) (fun _ => ?_)
    refine z_iload B dL_law_575 13 rfl ?_
    refine z_bipush B (v := 13) dL_law_577 rfl ?_
    refine z_icne B 683 dL_law_579 (by decide) (fun h => absurd h (by decide)) (fun _ => ?_)
    refine z_iload B dL_law_683 13 rfl ?_
    refine z_bipush B (v := 15) dL_law_685 rfl ?_
    refine z_icne B 776 dL_law_687 (by decide) (fun h => absurd h (by decide)) (fun _ => ?_)
    refine z_iload B dL_law_776 13 rfl ?_
    refine z_bipush B (v := 15) dL_law_778 rfl ?_
    refine z_icle B 857 dL_law_780 (by decide) (fun _ => ?_) (fun h => absurd (by decide) h)
    refine z_lsub [0, 1, 2, 3, 4, 5, 6, 7, 8, 9, 10, 11, 12] rfl ?_
    exact la_query l hl B hk9 hn9 hT hy hj next n f so sc X Z W D Cs F O Ft Ot Tc Gz Gn Ge Gv Gl Gx Gh hR hf1 hf2
  · refine z_iload B dL_law_180 13 rfl ?_
    refine z_ifeq B 192 dL_law_182 (by decide) (fun h => absurd h (by decide)) (fun _ => ?_)
    refine z_iload B dL_law_185 13 rfl ?_
    refine z_bipush B (v := 14) dL_law_187 rfl ?_
    refine z_icne B 257 dL_law_189 (by decide) (fun h => absurd h (by decide)) (fun _ => ?_)
    refine z_iload B dL_law_257 13 rfl ?_
    refine z_iconst B (v := 3) dL_law_259 rfl ?_
    refine z_icge B 338 dL_law_260 (by decide) (fun _ => ?_) (fun h => absurd (by decide) h)
    refine z_iload B dL_law_338 13 rfl ?_
    refine z_iconst B (v := 3) dL_law_340 rfl ?_
    refine z_icne B 380 dL_law_341 (by decide) (fun h => absurd h (by decide)) (fun _ => ?_)
    refine z_iload B dL_law_380 13 rfl ?_
    refine z_iconst B (v := 4) dL_law_382 rfl ?_
    refine z_icne B 424 dL_law_383 (by decide) (fun h => absurd h (by decide)) (fun _ => ?_)
    refine z_iload B dL_law_424 13 rfl ?_
    refine z_iconst B (v := 5) dL_law_426 rfl ?_
    refine z_icne B 490 dL_law_427 (by decide) (fun h => absurd h (by decide)) (fun _ => ?_)
    refine z_iload B dL_law_490 13 rfl ?_
    refine z_bipush B (v := 12) dL_law_492 rfl ?_
    refine z_icne B 575 dL_law_494 (by decide) (fun h => absurd h (by decide)) (fun _ => ?_)
    refine z_iload B dL_law_575 13 rfl ?_
    refine z_bipush B (v := 13) dL_law_577 rfl ?_
    refine z_icne B 683 dL_law_579 (by decide) (fun h => absurd h (by decide)) (fun _ => ?_)
    refine z_iload B dL_law_683 13 rfl ?_
    refine z_bipush B (v := 15) dL_law_685 rfl ?_
    refine z_icne B 776 dL_law_687 (by decide) (fun h => absurd h (by decide)) (fun _ => ?_)
    refine z_iload B dL_law_776 13 rfl ?_
    refine z_bipush B (v := 15) dL_law_778 rfl ?_
    refine z_icle B 857 dL_law_780 (by decide) (fun _ => ?_) (fun h => absurd (by decide) h)
    refine z_lsub [0, 1, 2, 3, 4, 5, 6, 7, 8, 9, 10, 11, 12] rfl ?_
    exact la_query l hl B hk9 hn9 hT hy hj next n f so sc X Z W D Cs F O Ft Ot Tc Gz Gn Ge Gv Gl Gx Gh hR hf1 hf2
  · refine z_iload B dL_law_180 13 rfl ?_
    refine z_ifeq B 192 dL_law_182 (by decide) (fun h => absurd h (by decide)) (fun _ => ?_)
    refine z_iload B dL_law_185 13 rfl ?_
    refine z_bipush B (v := 14) dL_law_187 rfl ?_
    refine z_icne B 257 dL_law_189 (by decide) (fun h => absurd h (by decide)) (fun _ => ?_)
    refine z_iload B dL_law_257 13 rfl ?_
    refine z_iconst B (v := 3) dL_law_259 rfl ?_
    refine z_icge B 338 dL_law_260 (by decide) (fun _ => ?_) (fun h => absurd (by decide) h)
    refine z_iload B dL_law_338 13 rfl ?_
    refine z_iconst B (v := 3) dL_law_340 rfl ?_
    refine z_icne B 380 dL_law_341 (by decide) (fun h => absurd h (by decide)) (fun _ => ?_)
    refine z_iload B dL_law_380 13 rfl ?_
    refine z_iconst B (v := 4) dL_law_382 rfl ?_
    refine z_icne B 424 dL_law_383 (by decide) (fun h => absurd h (by decide)) (fun _ => ?_)
    refine z_iload B dL_law_424 13 rfl ?_
    refine z_iconst B (v := 5) dL_law_426 rfl ?_
    refine z_icne B 490 dL_law_427 (by decide) (fun h => absurd h (by decide)) (fun _ => ?_)
    refine z_iload B dL_law_490 13 rfl ?_
    refine z_bipush B (v := 12) dL_law_492 rfl ?_
    refine z_icne B 575 dL_law_494 (by decide) (fun h => absurd h (by decide)) (fun _ => ?_)
    refine z_iload B dL_law_575 13 rfl ?_
    refine z_bipush B (v := 13) dL_law_577 rfl ?_
    refine z_icne B 683 dL_law_579 (by decide) (fun h => absurd h (by decide)) (fun _ => ?_)
    refine z_iload B dL_law_683 13 rfl ?_
    refine z_bipush B (v := 15) dL_law_685 rfl ?_
    refine z_icne B 776 dL_law_687 (by decide) (fun h => absurd h (by decide)) (fun _ => ?_)
    refine z_iload B dL_law_776 13 rfl ?_
    refine z_bipush B (v := 15) dL_law_778 rfl ?_
    refine z_icle B 857 dL_law_780 (by decide) (fun _ => ?_) (fun h => absurd (by decide) h)
    refine z_lsub [0, 1, 2, 3, 4, 5, 6, 7, 8, 9, 10, 11, 12] rfl ?_
    exact la_query l hl B hk9 hn9 hT hy hj next n f so sc X Z W D Cs F O Ft Ot Tc Gz Gn Ge Gv Gl Gx Gh hR hf1 hf2
  · refine z_iload B dL_law_180 13 rfl ?_
    refine z_ifeq B 192 dL_law_182 (by decide) (fun h => absurd h (by decide)) (fun _ => ?_)
    refine z_iload B dL_law_185 13 rfl ?_
    refine z_bipush B (v := 14) dL_law_187 rfl ?_
    refine z_icne B 257 dL_law_189 (by decide) (fun h => absurd h (by decide)) (fun _ => ?_)
    refine z_iload B dL_law_257 13 rfl ?_
    refine z_iconst B (v := 3) dL_law_259 rfl ?_
    refine z_icge B 338 dL_law_260 (by decide) (fun _ => ?_) (fun h => absurd (by decide) h)
    refine z_iload B dL_law_338 13 rfl ?_
    refine z_iconst B (v := 3) dL_law_340 rfl ?_
    refine z_icne B 380 dL_law_341 (by decide) (fun h => absurd h (by decide)) (fun _ => ?_)
    refine z_iload B dL_law_380 13 rfl ?_
    refine z_iconst B (v := 4) dL_law_382 rfl ?_
    refine z_icne B 424 dL_law_383 (by decide) (fun h => absurd h (by decide)) (fun _ => ?_)
    refine z_iload B dL_law_424 13 rfl ?_
    refine z_iconst B (v := 5) dL_law_426 rfl ?_
    refine z_icne B 490 dL_law_427 (by decide) (fun h => absurd h (by decide)) (fun _ => ?_)
    refine z_iload B dL_law_490 13 rfl ?_
    refine z_bipush B (v := 12) dL_law_492 rfl ?_
    refine z_icne B 575 dL_law_494 (by decide) (fun _ => ?_) (fun h => absurd (by decide) h)
    refine z_lsub [0, 1, 2, 3, 4, 5, 6, 7, 8, 9, 10, 11, 12] rfl ?_
    rcases Nat.lt_or_eq_of_le hR.1.1 with hn4 | hn4
    · exact la_addY l hl B hk9 hn9 hT hy hj next n f so sc X Z W D Cs F O Ft Ot Tc Gz Gn Ge Gv Gl Gx Gh hR hf1 hf2 hn4
    · exact la_addN l hl B hk9 hn9 hT hy hj next n f so sc X Z W D Cs F O Ft Ot Tc Gz Gn Ge Gv Gl Gx Gh hR hf1 hf2 hn4
  · rcases Nat.eq_zero_or_pos n with hn0 | hn0
    · refine z_iload B dL_law_180 13 rfl ?_
      refine z_ifeq B 192 dL_law_182 (by decide) (fun h => absurd h (by decide)) (fun _ => ?_)
      refine z_iload B dL_law_185 13 rfl ?_
      refine z_bipush B (v := 14) dL_law_187 rfl ?_
      refine z_icne B 257 dL_law_189 (by decide) (fun h => absurd h (by decide)) (fun _ => ?_)
      refine z_iload B dL_law_257 13 rfl ?_
      refine z_iconst B (v := 3) dL_law_259 rfl ?_
      refine z_icge B 338 dL_law_260 (by decide) (fun _ => ?_) (fun h => absurd (by decide) h)
      refine z_iload B dL_law_338 13 rfl ?_
      refine z_iconst B (v := 3) dL_law_340 rfl ?_
      refine z_icne B 380 dL_law_341 (by decide) (fun h => absurd h (by decide)) (fun _ => ?_)
      refine z_iload B dL_law_380 13 rfl ?_
      refine z_iconst B (v := 4) dL_law_382 rfl ?_
      refine z_icne B 424 dL_law_383 (by decide) (fun h => absurd h (by decide)) (fun _ => ?_)
      refine z_iload B dL_law_424 13 rfl ?_
      refine z_iconst B (v := 5) dL_law_426 rfl ?_
      refine z_icne B 490 dL_law_427 (by decide) (fun h => absurd h (by decide)) (fun _ => ?_)
      refine z_iload B dL_law_490 13 rfl ?_
      refine z_bipush B (v := 12) dL_law_492 rfl ?_
      refine z_icne B 575 dL_law_494 (by decide) (fun h => absurd h (by decide)) (fun _ => ?_)
      refine z_iload B dL_law_575 13 rfl ?_
      refine z_bipush B (v := 13) dL_law_577 rfl ?_
      refine z_icne B 683 dL_law_579 (by decide) (fun _ => ?_) (fun h => absurd (by decide) h)
      refine z_aload_n B dL_law_582 3 rfl ?_
      refine z_iconst B (v := 3) dL_law_583 rfl ?_
      refine z_ialdn B (N := 20) (f := Gn) (k0 := 3) (v := (Gn 3)) 9 0 rfl rfl (z_vpc (k := 3) rfl (by decide)) rfl rfl dL_law_584 ?_
      refine z_tope (y := nI n) hR.1.2.1 ?_
      refine z_ifle B 683 dL_law_585 (by decide) (fun _ => ?_) (fun h => absurd (by rw [hn0]; decide) h)
      refine z_iload B dL_law_683 13 rfl ?_
      refine z_bipush B (v := 15) dL_law_685 rfl ?_
      refine z_icne B 776 dL_law_687 (by decide) (fun h => absurd h (by decide)) (fun _ => ?_)
      refine z_iload B dL_law_776 13 rfl ?_
      refine z_bipush B (v := 15) dL_law_778 rfl ?_
      refine z_icle B 857 dL_law_780 (by decide) (fun _ => ?_) (fun h => absurd (by decide) h)
      refine z_lsub [0, 1, 2, 3, 4, 5, 6, 7, 8, 9, 10, 11, 12] rfl ?_
      exact la_query l hl B hk9 hn9 hT hy hj next n f so sc X Z W D Cs F O Ft Ot Tc Gz Gn Ge Gv Gl Gx Gh hR hf1 hf2
    · refine z_iload B dL_law_180 13 rfl ?_
      refine z_ifeq B 192 dL_law_182 (by decide) (fun h => absurd h (by decide)) (fun _ => ?_)
      refine z_iload B dL_law_185 13 rfl ?_
      refine z_bipush B (v := 14) dL_law_187 rfl ?_
      refine z_icne B 257 dL_law_189 (by decide) (fun h => absurd h (by decide)) (fun _ => ?_)
      refine z_iload B dL_law_257 13 rfl ?_
      refine z_iconst B (v := 3) dL_law_259 rfl ?_
      refine z_icge B 338 dL_law_260 (by decide) (fun _ => ?_) (fun h => absurd (by decide) h)
      refine z_iload B dL_law_338 13 rfl ?_
      refine z_iconst B (v := 3) dL_law_340 rfl ?_
      refine z_icne B 380 dL_law_341 (by decide) (fun h => absurd h (by decide)) (fun _ => ?_)
      refine z_iload B dL_law_380 13 rfl ?_
      refine z_iconst B (v := 4) dL_law_382 rfl ?_
      refine z_icne B 424 dL_law_383 (by decide) (fun h => absurd h (by decide)) (fun _ => ?_)
      refine z_iload B dL_law_424 13 rfl ?_
      refine z_iconst B (v := 5) dL_law_426 rfl ?_
      refine z_icne B 490 dL_law_427 (by decide) (fun h => absurd h (by decide)) (fun _ => ?_)
      refine z_iload B dL_law_490 13 rfl ?_
      refine z_bipush B (v := 12) dL_law_492 rfl ?_
      refine z_icne B 575 dL_law_494 (by decide) (fun h => absurd h (by decide)) (fun _ => ?_)
      refine z_iload B dL_law_575 13 rfl ?_
      refine z_bipush B (v := 13) dL_law_577 rfl ?_
      refine z_icne B 683 dL_law_579 (by decide) (fun _ => ?_) (fun h => absurd (by decide) h)
      refine z_aload_n B dL_law_582 3 rfl ?_
      refine z_iconst B (v := 3) dL_law_583 rfl ?_
      refine z_ialdn B (N := 20) (f := Gn) (k0 := 3) (v := (Gn 3)) 9 0 rfl rfl (z_vpc (k := 3) rfl (by decide)) rfl rfl dL_law_584 ?_
      refine z_tope (y := nI n) hR.1.2.1 ?_
      refine z_ifle B 683 dL_law_585 (by decide) (fun h => absurd h (nI_nle hn0 (by have := hR.1.1; omega))) (fun _ => ?_)
      refine z_lsub [0, 1, 2, 3, 4, 5, 6, 7, 8, 9, 10, 11, 12] rfl ?_
      exact la_ann l hl B hk9 hn9 hT hy hj next n f so sc X Z W D Cs F O Ft Ot Tc Gz Gn Ge Gv Gl Gx Gh hR hf1 hf2 hn0
  · refine z_iload B dL_law_180 13 rfl ?_
    refine z_ifeq B 192 dL_law_182 (by decide) (fun h => absurd h (by decide)) (fun _ => ?_)
    refine z_iload B dL_law_185 13 rfl ?_
    refine z_bipush B (v := 14) dL_law_187 rfl ?_
    refine z_icne B 257 dL_law_189 (by decide) (fun _ => ?_) (fun h => absurd (by decide) h)
    refine z_lsub [0, 1, 2, 3, 4, 5, 6, 7, 8, 9, 10, 11, 12] rfl ?_
    exact la_addr l hl B hk9 hn9 hT hy hj next n f so sc X Z W D Cs F O Ft Ot Tc Gz Gn Ge Gv Gl Gx Gh hR hf1 hf2
  · rcases Nat.eq_zero_or_pos n with hn0 | hn0
    · refine z_iload B dL_law_180 13 rfl ?_
      refine z_ifeq B 192 dL_law_182 (by decide) (fun h => absurd h (by decide)) (fun _ => ?_)
      refine z_iload B dL_law_185 13 rfl ?_
      refine z_bipush B (v := 14) dL_law_187 rfl ?_
      refine z_icne B 257 dL_law_189 (by decide) (fun h => absurd h (by decide)) (fun _ => ?_)
      refine z_iload B dL_law_257 13 rfl ?_
      refine z_iconst B (v := 3) dL_law_259 rfl ?_
      refine z_icge B 338 dL_law_260 (by decide) (fun _ => ?_) (fun h => absurd (by decide) h)
      refine z_iload B dL_law_338 13 rfl ?_
      refine z_iconst B (v := 3) dL_law_340 rfl ?_
      refine z_icne B 380 dL_law_341 (by decide) (fun h => absurd h (by decide)) (fun _ => ?_)
      refine z_iload B dL_law_380 13 rfl ?_
      refine z_iconst B (v := 4) dL_law_382 rfl ?_
      refine z_icne B 424 dL_law_383 (by decide) (fun h => absurd h (by decide)) (fun _ => ?_)
      refine z_iload B dL_law_424 13 rfl ?_
      refine z_iconst B (v := 5) dL_law_426 rfl ?_
      refine z_icne B 490 dL_law_427 (by decide) (fun h => absurd h (by decide)) (fun _ => ?_)
      refine z_iload B dL_law_490 13 rfl ?_
      refine z_bipush B (v := 12) dL_law_492 rfl ?_
      refine z_icne B 575 dL_law_494 (by decide) (fun h => absurd h (by decide)) (fun _ => ?_)
      refine z_iload B dL_law_575 13 rfl ?_
      refine z_bipush B (v := 13) dL_law_577 rfl ?_
      refine z_icne B 683 dL_law_579 (by decide) (fun h => absurd h (by decide)) (fun _ => ?_)
      refine z_iload B dL_law_683 13 rfl ?_
      refine z_bipush B (v := 15) dL_law_685 rfl ?_
      refine z_icne B 776 dL_law_687 (by decide) (fun _ => ?_) (fun h => absurd (by decide) h)
      refine z_aload_n B dL_law_690 3 rfl ?_
      refine z_iconst B (v := 3) dL_law_691 rfl ?_
      refine z_ialdn B (N := 20) (f := Gn) (k0 := 3) (v := (Gn 3)) 9 0 rfl rfl (z_vpc (k := 3) rfl (by decide)) rfl rfl dL_law_692 ?_
      refine z_tope (y := nI n) hR.1.2.1 ?_
      refine z_ifle B 776 dL_law_693 (by decide) (fun _ => ?_) (fun h => absurd (by rw [hn0]; decide) h)
      refine z_iload B dL_law_776 13 rfl ?_
      refine z_bipush B (v := 15) dL_law_778 rfl ?_
      refine z_icle B 857 dL_law_780 (by decide) (fun _ => ?_) (fun h => absurd (by decide) h)
      refine z_lsub [0, 1, 2, 3, 4, 5, 6, 7, 8, 9, 10, 11, 12] rfl ?_
      exact la_query l hl B hk9 hn9 hT hy hj next n f so sc X Z W D Cs F O Ft Ot Tc Gz Gn Ge Gv Gl Gx Gh hR hf1 hf2
    · refine z_iload B dL_law_180 13 rfl ?_
      refine z_ifeq B 192 dL_law_182 (by decide) (fun h => absurd h (by decide)) (fun _ => ?_)
      refine z_iload B dL_law_185 13 rfl ?_
      refine z_bipush B (v := 14) dL_law_187 rfl ?_
      refine z_icne B 257 dL_law_189 (by decide) (fun h => absurd h (by decide)) (fun _ => ?_)
      refine z_iload B dL_law_257 13 rfl ?_
      refine z_iconst B (v := 3) dL_law_259 rfl ?_
      refine z_icge B 338 dL_law_260 (by decide) (fun _ => ?_) (fun h => absurd (by decide) h)
      refine z_iload B dL_law_338 13 rfl ?_
      refine z_iconst B (v := 3) dL_law_340 rfl ?_
      refine z_icne B 380 dL_law_341 (by decide) (fun h => absurd h (by decide)) (fun _ => ?_)
      refine z_iload B dL_law_380 13 rfl ?_
      refine z_iconst B (v := 4) dL_law_382 rfl ?_
      refine z_icne B 424 dL_law_383 (by decide) (fun h => absurd h (by decide)) (fun _ => ?_)
      refine z_iload B dL_law_424 13 rfl ?_
      refine z_iconst B (v := 5) dL_law_426 rfl ?_
      refine z_icne B 490 dL_law_427 (by decide) (fun h => absurd h (by decide)) (fun _ => ?_)
      refine z_iload B dL_law_490 13 rfl ?_
      refine z_bipush B (v := 12) dL_law_492 rfl ?_
      refine z_icne B 575 dL_law_494 (by decide) (fun h => absurd h (by decide)) (fun _ => ?_)
      refine z_iload B dL_law_575 13 rfl ?_
      refine z_bipush B (v := 13) dL_law_577 rfl ?_
      refine z_icne B 683 dL_law_579 (by decide) (fun h => absurd h (by decide)) (fun _ => ?_)
      refine z_iload B dL_law_683 13 rfl ?_
      refine z_bipush B (v := 15) dL_law_685 rfl ?_
      refine z_icne B 776 dL_law_687 (by decide) (fun _ => ?_) (fun h => absurd (by decide) h)
      refine z_aload_n B dL_law_690 3 rfl ?_
      refine z_iconst B (v := 3) dL_law_691 rfl ?_
      refine z_ialdn B (N := 20) (f := Gn) (k0 := 3) (v := (Gn 3)) 9 0 rfl rfl (z_vpc (k := 3) rfl (by decide)) rfl rfl dL_law_692 ?_
      refine z_tope (y := nI n) hR.1.2.1 ?_
      refine z_ifle B 776 dL_law_693 (by decide) (fun h => absurd h (nI_nle hn0 (by have := hR.1.1; omega))) (fun _ => ?_)
      refine z_lsub [0, 1, 2, 3, 4, 5, 6, 7, 8, 9, 10, 11, 12] rfl ?_
      exact la_flush l hl B hk9 hn9 hT hy hj next n f so sc X Z W D Cs F O Ft Ot Tc Gz Gn Ge Gv Gl Gx Gh hR hf1 hf2 hn0
  · refine z_iload B dL_law_180 13 rfl ?_
    refine z_ifeq B 192 dL_law_182 (by decide) (fun h => absurd h (by decide)) (fun _ => ?_)
    refine z_iload B dL_law_185 13 rfl ?_
    refine z_bipush B (v := 14) dL_law_187 rfl ?_
    refine z_icne B 257 dL_law_189 (by decide) (fun h => absurd h (by decide)) (fun _ => ?_)
    refine z_iload B dL_law_257 13 rfl ?_
    refine z_iconst B (v := 3) dL_law_259 rfl ?_
    refine z_icge B 338 dL_law_260 (by decide) (fun _ => ?_) (fun h => absurd (by decide) h)
    refine z_iload B dL_law_338 13 rfl ?_
    refine z_iconst B (v := 3) dL_law_340 rfl ?_
    refine z_icne B 380 dL_law_341 (by decide) (fun h => absurd h (by decide)) (fun _ => ?_)
    refine z_iload B dL_law_380 13 rfl ?_
    refine z_iconst B (v := 4) dL_law_382 rfl ?_
    refine z_icne B 424 dL_law_383 (by decide) (fun h => absurd h (by decide)) (fun _ => ?_)
    refine z_iload B dL_law_424 13 rfl ?_
    refine z_iconst B (v := 5) dL_law_426 rfl ?_
    refine z_icne B 490 dL_law_427 (by decide) (fun h => absurd h (by decide)) (fun _ => ?_)
    refine z_iload B dL_law_490 13 rfl ?_
    refine z_bipush B (v := 12) dL_law_492 rfl ?_
    refine z_icne B 575 dL_law_494 (by decide) (fun h => absurd h (by decide)) (fun _ => ?_)
    refine z_iload B dL_law_575 13 rfl ?_
    refine z_bipush B (v := 13) dL_law_577 rfl ?_
    refine z_icne B 683 dL_law_579 (by decide) (fun h => absurd h (by decide)) (fun _ => ?_)
    refine z_iload B dL_law_683 13 rfl ?_
    refine z_bipush B (v := 15) dL_law_685 rfl ?_
    refine z_icne B 776 dL_law_687 (by decide) (fun h => absurd h (by decide)) (fun _ => ?_)
    refine z_iload B dL_law_776 13 rfl ?_
    refine z_bipush B (v := 15) dL_law_778 rfl ?_
    refine z_icle B 857 dL_law_780 (by decide) (fun h => absurd h (by decide)) (fun _ => ?_)
    refine z_iload B dL_law_783 13 rfl ?_
    refine z_bipush B (v := 19) dL_law_785 rfl ?_
    refine z_icge B 857 dL_law_787 (by decide) (fun h => absurd h (by decide)) (fun _ => ?_)
    refine z_lsub [0, 1, 2, 3, 4, 5, 6, 7, 8, 9, 10, 11, 12, 13] rfl ?_
    exact la_pass16 l hl B hk9 hn9 hT hy hj next n f so sc X Z W D Cs F O Ft Ot Tc Gz Gn Ge Gv Gl Gx Gh hR hf1 hf2
  · refine z_iload B dL_law_180 13 rfl ?_
    refine z_ifeq B 192 dL_law_182 (by decide) (fun h => absurd h (by decide)) (fun _ => ?_)
    refine z_iload B dL_law_185 13 rfl ?_
    refine z_bipush B (v := 14) dL_law_187 rfl ?_
    refine z_icne B 257 dL_law_189 (by decide) (fun h => absurd h (by decide)) (fun _ => ?_)
    refine z_iload B dL_law_257 13 rfl ?_
    refine z_iconst B (v := 3) dL_law_259 rfl ?_
    refine z_icge B 338 dL_law_260 (by decide) (fun _ => ?_) (fun h => absurd (by decide) h)
    refine z_iload B dL_law_338 13 rfl ?_
    refine z_iconst B (v := 3) dL_law_340 rfl ?_
    refine z_icne B 380 dL_law_341 (by decide) (fun h => absurd h (by decide)) (fun _ => ?_)
    refine z_iload B dL_law_380 13 rfl ?_
    refine z_iconst B (v := 4) dL_law_382 rfl ?_
    refine z_icne B 424 dL_law_383 (by decide) (fun h => absurd h (by decide)) (fun _ => ?_)
    refine z_iload B dL_law_424 13 rfl ?_
    refine z_iconst B (v := 5) dL_law_426 rfl ?_
    refine z_icne B 490 dL_law_427 (by decide) (fun h => absurd h (by decide)) (fun _ => ?_)
    refine z_iload B dL_law_490 13 rfl ?_
    refine z_bipush B (v := 12) dL_law_492 rfl ?_
    refine z_icne B 575 dL_law_494 (by decide) (fun h => absurd h (by decide)) (fun _ => ?_)
    refine z_iload B dL_law_575 13 rfl ?_
    refine z_bipush B (v := 13) dL_law_577 rfl ?_
    refine z_icne B 683 dL_law_579 (by decide) (fun h => absurd h (by decide)) (fun _ => ?_)
    refine z_iload B dL_law_683 13 rfl ?_
    refine z_bipush B (v := 15) dL_law_685 rfl ?_
    refine z_icne B 776 dL_law_687 (by decide) (fun h => absurd h (by decide)) (fun _ => ?_)
    refine z_iload B dL_law_776 13 rfl ?_
    refine z_bipush B (v := 15) dL_law_778 rfl ?_
    refine z_icle B 857 dL_law_780 (by decide) (fun h => absurd h (by decide)) (fun _ => ?_)
    refine z_iload B dL_law_783 13 rfl ?_
    refine z_bipush B (v := 19) dL_law_785 rfl ?_
    refine z_icge B 857 dL_law_787 (by decide) (fun h => absurd h (by decide)) (fun _ => ?_)
    refine z_lsub [0, 1, 2, 3, 4, 5, 6, 7, 8, 9, 10, 11, 12, 13] rfl ?_
    exact la_pass17 l hl B hk9 hn9 hT hy hj next n f so sc X Z W D Cs F O Ft Ot Tc Gz Gn Ge Gv Gl Gx Gh hR hf1 hf2
  · refine z_iload B dL_law_180 13 rfl ?_
    refine z_ifeq B 192 dL_law_182 (by decide) (fun h => absurd h (by decide)) (fun _ => ?_)
    refine z_iload B dL_law_185 13 rfl ?_
    refine z_bipush B (v := 14) dL_law_187 rfl ?_
    refine z_icne B 257 dL_law_189 (by decide) (fun h => absurd h (by decide)) (fun _ => ?_)
    refine z_iload B dL_law_257 13 rfl ?_
    refine z_iconst B (v := 3) dL_law_259 rfl ?_
    refine z_icge B 338 dL_law_260 (by decide) (fun _ => ?_) (fun h => absurd (by decide) h)
    refine z_iload B dL_law_338 13 rfl ?_
    refine z_iconst B (v := 3) dL_law_340 rfl ?_
    refine z_icne B 380 dL_law_341 (by decide) (fun h => absurd h (by decide)) (fun _ => ?_)
    refine z_iload B dL_law_380 13 rfl ?_
    refine z_iconst B (v := 4) dL_law_382 rfl ?_
    refine z_icne B 424 dL_law_383 (by decide) (fun h => absurd h (by decide)) (fun _ => ?_)
    refine z_iload B dL_law_424 13 rfl ?_
    refine z_iconst B (v := 5) dL_law_426 rfl ?_
    refine z_icne B 490 dL_law_427 (by decide) (fun h => absurd h (by decide)) (fun _ => ?_)
    refine z_iload B dL_law_490 13 rfl ?_
    refine z_bipush B (v := 12) dL_law_492 rfl ?_
    refine z_icne B 575 dL_law_494 (by decide) (fun h => absurd h (by decide)) (fun _ => ?_)
    refine z_iload B dL_law_575 13 rfl ?_
    refine z_bipush B (v := 13) dL_law_577 rfl ?_
    refine z_icne B 683 dL_law_579 (by decide) (fun h => absurd h (by decide)) (fun _ => ?_)
    refine z_iload B dL_law_683 13 rfl ?_
    refine z_bipush B (v := 15) dL_law_685 rfl ?_
    refine z_icne B 776 dL_law_687 (by decide) (fun h => absurd h (by decide)) (fun _ => ?_)
    refine z_iload B dL_law_776 13 rfl ?_
    refine z_bipush B (v := 15) dL_law_778 rfl ?_
    refine z_icle B 857 dL_law_780 (by decide) (fun h => absurd h (by decide)) (fun _ => ?_)
    refine z_iload B dL_law_783 13 rfl ?_
    refine z_bipush B (v := 19) dL_law_785 rfl ?_
    refine z_icge B 857 dL_law_787 (by decide) (fun h => absurd h (by decide)) (fun _ => ?_)
    refine z_lsub [0, 1, 2, 3, 4, 5, 6, 7, 8, 9, 10, 11, 12, 13] rfl ?_
    exact la_pass18 l hl B hk9 hn9 hT hy hj next n f so sc X Z W D Cs F O Ft Ot Tc Gz Gn Ge Gv Gl Gx Gh hR hf1 hf2
  · refine z_iload B dL_law_180 13 rfl ?_
    refine z_ifeq B 192 dL_law_182 (by decide) (fun h => absurd h (by decide)) (fun _ => ?_)
    refine z_iload B dL_law_185 13 rfl ?_
    refine z_bipush B (v := 14) dL_law_187 rfl ?_
    refine z_icne B 257 dL_law_189 (by decide) (fun h => absurd h (by decide)) (fun _ => ?_)
    refine z_iload B dL_law_257 13 rfl ?_
    refine z_iconst B (v := 3) dL_law_259 rfl ?_
    refine z_icge B 338 dL_law_260 (by decide) (fun _ => ?_) (fun h => absurd (by decide) h)
    refine z_iload B dL_law_338 13 rfl ?_
    refine z_iconst B (v := 3) dL_law_340 rfl ?_
    refine z_icne B 380 dL_law_341 (by decide) (fun h => absurd h (by decide)) (fun _ => ?_)
    refine z_iload B dL_law_380 13 rfl ?_
    refine z_iconst B (v := 4) dL_law_382 rfl ?_
    refine z_icne B 424 dL_law_383 (by decide) (fun h => absurd h (by decide)) (fun _ => ?_)
    refine z_iload B dL_law_424 13 rfl ?_
    refine z_iconst B (v := 5) dL_law_426 rfl ?_
    refine z_icne B 490 dL_law_427 (by decide) (fun h => absurd h (by decide)) (fun _ => ?_)
    refine z_iload B dL_law_490 13 rfl ?_
    refine z_bipush B (v := 12) dL_law_492 rfl ?_
    refine z_icne B 575 dL_law_494 (by decide) (fun h => absurd h (by decide)) (fun _ => ?_)
    refine z_iload B dL_law_575 13 rfl ?_
    refine z_bipush B (v := 13) dL_law_577 rfl ?_
    refine z_icne B 683 dL_law_579 (by decide) (fun h => absurd h (by decide)) (fun _ => ?_)
    refine z_iload B dL_law_683 13 rfl ?_
    refine z_bipush B (v := 15) dL_law_685 rfl ?_
    refine z_icne B 776 dL_law_687 (by decide) (fun h => absurd h (by decide)) (fun _ => ?_)
    refine z_iload B dL_law_776 13 rfl ?_
    refine z_bipush B (v := 15) dL_law_778 rfl ?_
    refine z_icle B 857 dL_law_780 (by decide) (fun h => absurd h (by decide)) (fun _ => ?_)
    refine z_iload B dL_law_783 13 rfl ?_
    refine z_bipush B (v := 19) dL_law_785 rfl ?_
    refine z_icge B 857 dL_law_787 (by decide) (fun _ => ?_) (fun h => absurd (by decide) h)
    refine z_lsub [0, 1, 2, 3, 4, 5, 6, 7, 8, 9, 10, 11, 12] rfl ?_
    exact la_query l hl B hk9 hn9 hT hy hj next n f so sc X Z W D Cs F O Ft Ot Tc Gz Gn Ge Gv Gl Gx Gh hR hf1 hf2
  · refine z_iload B dL_law_180 13 rfl ?_
    refine z_ifeq B 192 dL_law_182 (by decide) (fun h => absurd h (by decide)) (fun _ => ?_)
    refine z_iload B dL_law_185 13 rfl ?_
    refine z_bipush B (v := 14) dL_law_187 rfl ?_
    refine z_icne B 257 dL_law_189 (by decide) (fun h => absurd h (by decide)) (fun _ => ?_)
    refine z_iload B dL_law_257 13 rfl ?_
    refine z_iconst B (v := 3) dL_law_259 rfl ?_
    refine z_icge B 338 dL_law_260 (by decide) (fun _ => ?_) (fun h => absurd (by decide) h)
    refine z_iload B dL_law_338 13 rfl ?_
    refine z_iconst B (v := 3) dL_law_340 rfl ?_
    refine z_icne B 380 dL_law_341 (by decide) (fun h => absurd h (by decide)) (fun _ => ?_)
    refine z_iload B dL_law_380 13 rfl ?_
    refine z_iconst B (v := 4) dL_law_382 rfl ?_
    refine z_icne B 424 dL_law_383 (by decide) (fun h => absurd h (by decide)) (fun _ => ?_)
    refine z_iload B dL_law_424 13 rfl ?_
    refine z_iconst B (v := 5) dL_law_426 rfl ?_
    refine z_icne B 490 dL_law_427 (by decide) (fun h => absurd h (by decide)) (fun _ => ?_)
    refine z_iload B dL_law_490 13 rfl ?_
    refine z_bipush B (v := 12) dL_law_492 rfl ?_
    refine z_icne B 575 dL_law_494 (by decide) (fun h => absurd h (by decide)) (fun _ => ?_)
    refine z_iload B dL_law_575 13 rfl ?_
    refine z_bipush B (v := 13) dL_law_577 rfl ?_
    refine z_icne B 683 dL_law_579 (by decide) (fun h => absurd h (by decide)) (fun _ => ?_)
    refine z_iload B dL_law_683 13 rfl ?_
    refine z_bipush B (v := 15) dL_law_685 rfl ?_
    refine z_icne B 776 dL_law_687 (by decide) (fun h => absurd h (by decide)) (fun _ => ?_)
    refine z_iload B dL_law_776 13 rfl ?_
    refine z_bipush B (v := 15) dL_law_778 rfl ?_
    refine z_icle B 857 dL_law_780 (by decide) (fun h => absurd h (by decide)) (fun _ => ?_)
    refine z_iload B dL_law_783 13 rfl ?_
    refine z_bipush B (v := 19) dL_law_785 rfl ?_
    refine z_icge B 857 dL_law_787 (by decide) (fun _ => ?_) (fun h => absurd (by decide) h)
    refine z_lsub [0, 1, 2, 3, 4, 5, 6, 7, 8, 9, 10, 11, 12] rfl ?_
    exact la_query l hl B hk9 hn9 hT hy hj next n f so sc X Z W D Cs F O Ft Ot Tc Gz Gn Ge Gv Gl Gx Gh hR hf1 hf2
  · refine z_iload B dL_law_180 13 rfl ?_
    refine z_ifeq B 192 dL_law_182 (by decide) (fun h => absurd h (by decide)) (fun _ => ?_)
    refine z_iload B dL_law_185 13 rfl ?_
    refine z_bipush B (v := 14) dL_law_187 rfl ?_
    refine z_icne B 257 dL_law_189 (by decide) (fun h => absurd h (by decide)) (fun _ => ?_)
    refine z_iload B dL_law_257 13 rfl ?_
    refine z_iconst B (v := 3) dL_law_259 rfl ?_
    refine z_icge B 338 dL_law_260 (by decide) (fun _ => ?_) (fun h => absurd (by decide) h)
    refine z_iload B dL_law_338 13 rfl ?_
    refine z_iconst B (v := 3) dL_law_340 rfl ?_
    refine z_icne B 380 dL_law_341 (by decide) (fun h => absurd h (by decide)) (fun _ => ?_)
    refine z_iload B dL_law_380 13 rfl ?_
    refine z_iconst B (v := 4) dL_law_382 rfl ?_
    refine z_icne B 424 dL_law_383 (by decide) (fun h => absurd h (by decide)) (fun _ => ?_)
    refine z_iload B dL_law_424 13 rfl ?_
    refine z_iconst B (v := 5) dL_law_426 rfl ?_
    refine z_icne B 490 dL_law_427 (by decide) (fun h => absurd h (by decide)) (fun _ => ?_)
    refine z_iload B dL_law_490 13 rfl ?_
    refine z_bipush B (v := 12) dL_law_492 rfl ?_
    refine z_icne B 575 dL_law_494 (by decide) (fun h => absurd h (by decide)) (fun _ => ?_)
    refine z_iload B dL_law_575 13 rfl ?_
    refine z_bipush B (v := 13) dL_law_577 rfl ?_
    refine z_icne B 683 dL_law_579 (by decide) (fun h => absurd h (by decide)) (fun _ => ?_)
    refine z_iload B dL_law_683 13 rfl ?_
    refine z_bipush B (v := 15) dL_law_685 rfl ?_
    refine z_icne B 776 dL_law_687 (by decide) (fun h => absurd h (by decide)) (fun _ => ?_)
    refine z_iload B dL_law_776 13 rfl ?_
    refine z_bipush B (v := 15) dL_law_778 rfl ?_
    refine z_icle B 857 dL_law_780 (by decide) (fun h => absurd h (by decide)) (fun _ => ?_)
    refine z_iload B dL_law_783 13 rfl ?_
    refine z_bipush B (v := 19) dL_law_785 rfl ?_
    refine z_icge B 857 dL_law_787 (by decide) (fun _ => ?_) (fun h => absurd (by decide) h)
    refine z_lsub [0, 1, 2, 3, 4, 5, 6, 7, 8, 9, 10, 11, 12] rfl ?_
    exact la_query l hl B hk9 hn9 hT hy hj next n f so sc X Z W D Cs F O Ft Ot Tc Gz Gn Ge Gv Gl Gx Gh hR hf1 hf2
set_option maxHeartbeats 4000000 in
set_option maxRecDepth 100000 in
theorem la_kind (l : Launch) (hl : l.stackTraces = false) {K : zK} {ax : Nat} {sa : Nat} {az : Nat → Nat} {ak : Nat → Nat} {tk : Nat → Nat} {tc : Nat → Nat} {pz : Nat} {pn : Nat} {pe : Nat} {pv : Nat} {pl : Nat} {px : Nat} {ph : Nat} {p : Program} {e : Env} {s : State} {m : MethodId} {below : List Frame} {meth : Method} {c : Code} {A : Nat → Prop} {Q : State → Prop} {ret9 : Option FieldType} {nm9 : String} {tb9 : List ExceptionTableEntry} {args : Array Value} {b tn k9 n9 T cc9 kd : Nat} (B : zF K p l s m args meth c A cL_law 19 RL nm9 wsL_law ret9 tb9) (hkd : kd < 22) (hk9 : k9 + 64 ≤ 600130) (hn9 : n9 + 1024 ≤ 7301080) (hT : T ≤ 99000) (hc : cc9 < 2147483648) (next : ∀ (n : Nat) (f : Nat → Option Nat) (so : Nat → Nat) (sc : Nat → Nat → Nat) (X : Nat → Int32) (Z : Nat → Nat → Int32) (W : Nat → Int32) (D : Nat → Nat → Int32) (Cs : Nat → Nat → Nat → Int32) (F : Nat → Int32) (O : Nat → Int32) (Ft : Nat → Int32) (Ot : Nat → Int32) (Tc : Nat → Nat → Int32) (Gz : Nat → Int32) (Gn : Nat → Int32) (Ge : Nat → Int32) (Gv : Nat → Int32) (Gl : Nat → Int32) (Gx : Nat → Int32) (Gh : Nat → Int32), rA (T + 1000) n X Z W D Cs O Gz Gn Ge Gv Gl Gx Gh → (∀ a, a < n → f a = some (so a)) → (∀ a, n ≤ a → a < 4 → f a = none) → zW K p l e zR s m args below meth c A Q (k9 + 64) (n9 + 1024) [zXo ax (az 0) sa (ak 0) (tk 0) (tc 0) X, zSa K sa f, zSO n so sc D, zSC K n sc Cs, zZo K az Z W, zCo K ak F O, zCo K tk Ft Ot, zCa K tc Tc, [(pz, .inl (zI K, 32, .inl Gz))], [(pn, .inl (zI K, 20, .inl Gn))], [(pe, .inl (zI K, 24, .inl Ge))], [(pv, .inl (zI K, 24, .inl Gv))], [(pl, .inl (zI K, 24, .inl Gl))], [(px, .inl (zI K, 24, .inl Gx))], [(ph, .inl (zI K, 24, .inl Gh))]] [(0, .ref b), (1, .ref ax), (2, .ref pz), (3, .ref pn), (4, .ref pe), (5, .ref pv), (6, .ref pl), (7, .ref px), (8, .ref ph), (9, .int 1), (10, .int (nI tn))] [] 995) : ∀ (n : Nat) (f : Nat → Option Nat) (so : Nat → Nat) (sc : Nat → Nat → Nat) (X : Nat → Int32) (Z : Nat → Nat → Int32) (W : Nat → Int32) (D : Nat → Nat → Int32) (Cs : Nat → Nat → Nat → Int32) (F : Nat → Int32) (O : Nat → Int32) (Ft : Nat → Int32) (Ot : Nat → Int32) (Tc : Nat → Nat → Int32) (Gz : Nat → Int32) (Gn : Nat → Int32) (Ge : Nat → Int32) (Gv : Nat → Int32) (Gl : Nat → Int32) (Gx : Nat → Int32) (Gh : Nat → Int32), rA T n X Z W D Cs O Gz Gn Ge Gv Gl Gx Gh → (∀ a, a < n → f a = some (so a)) → (∀ a, n ≤ a → a < 4 → f a = none) → zW K p l e zR s m args below meth c A Q k9 n9 [zXo ax (az 0) sa (ak 0) (tk 0) (tc 0) X, zSa K sa f, zSO n so sc D, zSC K n sc Cs, zZo K az Z W, zCo K ak F O, zCo K tk Ft Ot, zCa K tc Tc, [(pz, .inl (zI K, 32, .inl Gz))], [(pn, .inl (zI K, 20, .inl Gn))], [(pe, .inl (zI K, 24, .inl Ge))], [(pv, .inl (zI K, 24, .inl Gv))], [(pl, .inl (zI K, 24, .inl Gl))], [(px, .inl (zI K, 24, .inl Gx))], [(ph, .inl (zI K, 24, .inl Gh))]] [(0, .ref b), (1, .ref ax), (2, .ref pz), (3, .ref pn), (4, .ref pe), (5, .ref pv), (6, .ref pl), (7, .ref px), (8, .ref ph), (9, .int 1), (10, .int (nI tn)), (11, .int (nI cc9))] [.int (nI kd)] 164 := by
  intro n f so sc X Z W D Cs F O Ft Ot Tc Gz Gn Ge Gv Gl Gx Gh hR hf1 hf2
  refine z_istore B (lv' := [(12, .int (nI kd)), (0, .ref b), (1, .ref ax), (2, .ref pz), (3, .ref pn), (4, .ref pe), (5, .ref pv), (6, .ref pl), (7, .ref px), (8, .ref ph), (9, .int 1), (10, .int (nI tn)), (11, .int (nI cc9))]) dL_law_164 (by decide) rfl ?_
  refine z_iload B dL_law_166 12 rfl ?_
  refine z_bipush B (v := 22) dL_law_168 rfl ?_
  refine z_idivN B (a := cc9) (b := 22) (by omega) (by decide) (by decide) dL_law_170 ?_
  obtain ⟨yy, hv_y, hy⟩ : ∃ yy, cc9 / 22 = yy ∧ yy < 2147483648 := ⟨_, rfl, by omega⟩
  rw [hv_y]
  refine z_istore B (lv' := [(13, .int (nI yy)), (12, .int (nI kd)), (0, .ref b), (1, .ref ax), (2, .ref pz), (3, .ref pn), (4, .ref pe), (5, .ref pv), (6, .ref pl), (7, .ref px), (8, .ref ph), (9, .int 1), (10, .int (nI tn)), (11, .int (nI cc9))]) dL_law_171 (by decide) rfl ?_
  refine z_iload B dL_law_173 0 rfl ?_
  refine z_bipush B (v := 16) dL_law_175 rfl ?_
  refine z_iremN B (a := yy) (b := 16) (by omega) (by decide) (by decide) dL_law_177 ?_
  obtain ⟨j, hv_j, hj⟩ : ∃ j, yy % 16 = j ∧ j < 16 := ⟨_, rfl, by omega⟩
  rw [hv_j]
  refine z_istore B (lv' := [(14, .int (nI j)), (13, .int (nI yy)), (12, .int (nI kd)), (0, .ref b), (1, .ref ax), (2, .ref pz), (3, .ref pn), (4, .ref pe), (5, .ref pv), (6, .ref pl), (7, .ref px), (8, .ref ph), (9, .int 1), (10, .int (nI tn)), (11, .int (nI cc9))]) dL_law_178 (by decide) rfl ?_
  refine z_lsub [3, 4, 5, 6, 7, 8, 9, 10, 11, 12, 13, 1, 0, 2] rfl ?_
  exact la_kinds l hl B hkd hk9 hn9 hT hy hj next n f so sc X Z W D Cs F O Ft Ot Tc Gz Gn Ge Gv Gl Gx Gh hR hf1 hf2
set_option maxHeartbeats 4000000 in
set_option maxRecDepth 100000 in
theorem la_mid (l : Launch) (hl : l.stackTraces = false) {K : zK} {ax : Nat} {sa : Nat} {az : Nat → Nat} {ak : Nat → Nat} {tk : Nat → Nat} {tc : Nat → Nat} {pz : Nat} {pn : Nat} {pe : Nat} {pv : Nat} {pl : Nat} {px : Nat} {ph : Nat} {p : Program} {e : Env} {s : State} {m : MethodId} {below : List Frame} {meth : Method} {c : Code} {A : Nat → Prop} {Q : State → Prop} {ret9 : Option FieldType} {nm9 : String} {tb9 : List ExceptionTableEntry} {args : Array Value} {b tn k9 n9 T cc9 : Nat} (B : zF K p l s m args meth c A cL_law 19 RL nm9 wsL_law ret9 tb9) (htn : tn < 100) (hk9 : k9 + 64 ≤ 600130) (hn9 : n9 + 1024 ≤ 7301080) (hT : T ≤ 99000) (hc : cc9 < 2147483648) (next : ∀ (n : Nat) (f : Nat → Option Nat) (so : Nat → Nat) (sc : Nat → Nat → Nat) (X : Nat → Int32) (Z : Nat → Nat → Int32) (W : Nat → Int32) (D : Nat → Nat → Int32) (Cs : Nat → Nat → Nat → Int32) (F : Nat → Int32) (O : Nat → Int32) (Ft : Nat → Int32) (Ot : Nat → Int32) (Tc : Nat → Nat → Int32) (Gz : Nat → Int32) (Gn : Nat → Int32) (Ge : Nat → Int32) (Gv : Nat → Int32) (Gl : Nat → Int32) (Gx : Nat → Int32) (Gh : Nat → Int32), rA (T + 1000) n X Z W D Cs O Gz Gn Ge Gv Gl Gx Gh → (∀ a, a < n → f a = some (so a)) → (∀ a, n ≤ a → a < 4 → f a = none) → zW K p l e zR s m args below meth c A Q (k9 + 64) (n9 + 1024) [zXo ax (az 0) sa (ak 0) (tk 0) (tc 0) X, zSa K sa f, zSO n so sc D, zSC K n sc Cs, zZo K az Z W, zCo K ak F O, zCo K tk Ft Ot, zCa K tc Tc, [(pz, .inl (zI K, 32, .inl Gz))], [(pn, .inl (zI K, 20, .inl Gn))], [(pe, .inl (zI K, 24, .inl Ge))], [(pv, .inl (zI K, 24, .inl Gv))], [(pl, .inl (zI K, 24, .inl Gl))], [(px, .inl (zI K, 24, .inl Gx))], [(ph, .inl (zI K, 24, .inl Gh))]] [(0, .ref b), (1, .ref ax), (2, .ref pz), (3, .ref pn), (4, .ref pe), (5, .ref pv), (6, .ref pl), (7, .ref px), (8, .ref ph), (9, .int 1), (10, .int (nI tn))] [] 995) : ∀ (n : Nat) (f : Nat → Option Nat) (so : Nat → Nat) (sc : Nat → Nat → Nat) (X : Nat → Int32) (Z : Nat → Nat → Int32) (W : Nat → Int32) (D : Nat → Nat → Int32) (Cs : Nat → Nat → Nat → Int32) (F : Nat → Int32) (O : Nat → Int32) (Ft : Nat → Int32) (Ot : Nat → Int32) (Tc : Nat → Nat → Int32) (Gz : Nat → Int32) (Gn : Nat → Int32) (Ge : Nat → Int32) (Gv : Nat → Int32) (Gl : Nat → Int32) (Gx : Nat → Int32) (Gh : Nat → Int32), rA T n X Z W D Cs O Gz Gn Ge Gv Gl Gx Gh → (∀ a, a < n → f a = some (so a)) → (∀ a, n ≤ a → a < 4 → f a = none) → zW K p l e zR s m args below meth c A Q k9 n9 [zXo ax (az 0) sa (ak 0) (tk 0) (tc 0) X, zSa K sa f, zSO n so sc D, zSC K n sc Cs, zZo K az Z W, zCo K ak F O, zCo K tk Ft Ot, zCa K tc Tc, [(pz, .inl (zI K, 32, .inl Gz))], [(pn, .inl (zI K, 20, .inl Gn))], [(pe, .inl (zI K, 24, .inl Ge))], [(pv, .inl (zI K, 24, .inl Gv))], [(pl, .inl (zI K, 24, .inl Gl))], [(px, .inl (zI K, 24, .inl Gx))], [(ph, .inl (zI K, 24, .inl Gh))]] [(0, .ref b), (1, .ref ax), (2, .ref pz), (3, .ref pn), (4, .ref pe), (5, .ref pv), (6, .ref pl), (7, .ref px), (8, .ref ph), (9, .int 1), (10, .int (nI tn))] [.int (nI cc9)] 132 := by
  intro n f so sc X Z W D Cs F O Ft Ot Tc Gz Gn Ge Gv Gl Gx Gh hR hf1 hf2
  refine z_istore B (lv' := [(11, .int (nI cc9)), (0, .ref b), (1, .ref ax), (2, .ref pz), (3, .ref pn), (4, .ref pe), (5, .ref pv), (6, .ref pl), (7, .ref px), (8, .ref ph), (9, .int 1), (10, .int (nI tn))]) dL_law_132 (by decide) rfl ?_
  refine z_iload B dL_law_134 11 rfl ?_
  refine z_iconst B (v := 2) dL_law_136 rfl ?_
  refine z_icge B 145 dL_law_137 (by decide) (fun c1 => ?_) (fun c1 => ?_)
  · refine z_iload B dL_law_145 11 rfl ?_
    refine z_bipush B (v := 8) dL_law_147 rfl ?_
    refine z_icge B 159 dL_law_149 (by decide) (fun c2 => ?_) (fun c2 => ?_)
    · refine z_iload B dL_law_159 0 rfl ?_
      refine z_bipush B (v := 22) dL_law_161 rfl ?_
      refine z_iremN B (a := cc9) (b := 22) (by omega) (by decide) (by decide) dL_law_163 ?_
      refine z_lsub [1, 2, 3, 4, 5, 6, 7, 8, 9, 10, 11, 0] rfl ?_
      exact la_kind l hl B (kd := cc9 % 22) (by omega) hk9 hn9 hT hc next n f so sc X Z W D Cs F O Ft Ot Tc Gz Gn Ge Gv Gl Gx Gh hR hf1 hf2
    · refine z_iload B dL_law_152 11 rfl ?_
      refine z_iconst B (v := 3) dL_law_154 rfl ?_
      refine z_iremN B (a := tn) (b := 3) (by omega) (by decide) (by decide) dL_law_155 ?_
      refine z_goto B (tgt := 164) dL_law_156 (by decide) ?_
      refine z_lsub [1, 2, 3, 4, 5, 6, 7, 8, 9, 10, 11, 0] rfl ?_
      exact la_kind l hl B (kd := tn % 3) (by omega) hk9 hn9 hT hc next n f so sc X Z W D Cs F O Ft Ot Tc Gz Gn Ge Gv Gl Gx Gh hR hf1 hf2
  · refine z_bipush B (v := 12) dL_law_140 rfl ?_
    refine z_goto B (tgt := 164) dL_law_142 (by decide) ?_
    refine z_lsub [1, 2, 3, 4, 5, 6, 7, 8, 9, 10, 11, 0] rfl ?_
    exact la_kind l hl B (kd := 12) (by omega) hk9 hn9 hT hc next n f so sc X Z W D Cs F O Ft Ot Tc Gz Gn Ge Gv Gl Gx Gh hR hf1 hf2
set_option maxHeartbeats 4000000 in
set_option maxRecDepth 100000 in
theorem la_tail (l : Launch) (hl : l.stackTraces = false) {K : zK} {ax : Nat} {sa : Nat} {az : Nat → Nat} {ak : Nat → Nat} {tk : Nat → Nat} {tc : Nat → Nat} {pz : Nat} {pn : Nat} {pe : Nat} {pv : Nat} {pl : Nat} {px : Nat} {ph : Nat} {p : Program} {e : Env} {s : State} {m : MethodId} {below : List Frame} {meth : Method} {c : Code} {A : Nat → Prop} {Q : State → Prop} {ret9 : Option FieldType} {nm9 : String} {tb9 : List ExceptionTableEntry} {args : Array Value} {b tn k9 n9 T : Nat} (B : zF K p l s m args meth c A cL_law 19 RL nm9 wsL_law ret9 tb9) (hk9 : k9 ≤ 600130) (hn9 : n9 ≤ 7301080) : ∀ (n : Nat) (f : Nat → Option Nat) (so : Nat → Nat) (sc : Nat → Nat → Nat) (X : Nat → Int32) (Z : Nat → Nat → Int32) (W : Nat → Int32) (D : Nat → Nat → Int32) (Cs : Nat → Nat → Nat → Int32) (F : Nat → Int32) (O : Nat → Int32) (Ft : Nat → Int32) (Ot : Nat → Int32) (Tc : Nat → Nat → Int32) (Gz : Nat → Int32) (Gn : Nat → Int32) (Ge : Nat → Int32) (Gv : Nat → Int32) (Gl : Nat → Int32) (Gx : Nat → Int32) (Gh : Nat → Int32), rA T n X Z W D Cs O Gz Gn Ge Gv Gl Gx Gh → (∀ a, a < n → f a = some (so a)) → zW K p l e zR s m args below meth c A Q k9 n9 [zXo ax (az 0) sa (ak 0) (tk 0) (tc 0) X, zSa K sa f, zSO n so sc D, zSC K n sc Cs, zZo K az Z W, zCo K ak F O, zCo K tk Ft Ot, zCa K tc Tc, [(pz, .inl (zI K, 32, .inl Gz))], [(pn, .inl (zI K, 20, .inl Gn))], [(pe, .inl (zI K, 24, .inl Ge))], [(pv, .inl (zI K, 24, .inl Gv))], [(pl, .inl (zI K, 24, .inl Gl))], [(px, .inl (zI K, 24, .inl Gx))], [(ph, .inl (zI K, 24, .inl Gh))]] [(0, .ref b), (1, .ref ax), (2, .ref pz), (3, .ref pn), (4, .ref pe), (5, .ref pv), (6, .ref pl), (7, .ref px), (8, .ref ph), (9, .int 1), (10, .int (nI (tn + 1)))] [] 82 → zW K p l e zR s m args below meth c A Q k9 n9 [zXo ax (az 0) sa (ak 0) (tk 0) (tc 0) X, zSa K sa f, zSO n so sc D, zSC K n sc Cs, zZo K az Z W, zCo K ak F O, zCo K tk Ft Ot, zCa K tc Tc, [(pz, .inl (zI K, 32, .inl Gz))], [(pn, .inl (zI K, 20, .inl Gn))], [(pe, .inl (zI K, 24, .inl Ge))], [(pv, .inl (zI K, 24, .inl Gv))], [(pl, .inl (zI K, 24, .inl Gl))], [(px, .inl (zI K, 24, .inl Gx))], [(ph, .inl (zI K, 24, .inl Gh))]] [(0, .ref b), (1, .ref ax), (2, .ref pz), (3, .ref pn), (4, .ref pe), (5, .ref pv), (6, .ref pl), (7, .ref px), (8, .ref ph), (9, .int 1), (10, .int (nI tn))] [] 995 := by
  intro n f so sc X Z W D Cs F O Ft Ot Tc Gz Gn Ge Gv Gl Gx Gh hR hf1 nx
  refine z_iload B dL_law_995 9 rfl ?_
  refine z_ifeq B 1021 dL_law_997 (by decide) (fun h => absurd h (by decide)) (fun _ => ?_)
  refine z_aload_n B dL_law_1000 1 rfl ?_
  refine z_aload_n B dL_law_1001 2 rfl ?_
  refine z_aload_n B dL_law_1002 3 rfl ?_
  refine z_aload B dL_law_1003 4 rfl ?_
  refine z_aload B dL_law_1005 5 rfl ?_
  refine z_aload B dL_law_1007 7 rfl ?_
  refine z_aload B dL_law_1009 8 rfl ?_
  refine z_S1 B (kL_isFleet l hl K ax az sa ak (tk 0) (tc 0) X f n so sc D Cs Z W F O pz pn pe pv px ph Gz Gn Ge Gv Gl Gx Gh T hf1 hR) [0, 1, 2, 3, 4, 5, 8, 9, 10, 11, 13, 14] [6, 7, 12] (br := [zCo K tk Ft Ot, zCa K tc Tc, [(pl, .inl (zI K, 24, .inl Gl))]]) (bs' := [zXo ax (az 0) sa (ak 0) (tk 0) (tc 0) X, zSa K sa f, zSO n so sc D, zSC K n sc Cs, zZo K az Z W, zCo K ak F O, zCo K tk Ft Ot, zCa K tc Tc, [(pz, .inl (zI K, 32, .inl Gz))], [(pn, .inl (zI K, 20, .inl Gn))], [(pe, .inl (zI K, 24, .inl Ge))], [(pv, .inl (zI K, 24, .inl Gv))], [(pl, .inl (zI K, 24, .inl Gl))], [(px, .inl (zI K, 24, .inl Gx))], [(ph, .inl (zI K, 24, .inl Gh))]]) (st := []) (nA := 7) (zspN 15 rfl rfl rfl (by decide +kernel)) (zspN 15 rfl rfl rfl (by decide +kernel)) gL_law_L_isFleet rfl (by decide +kernel) ⟨Nat.le_of_ble_eq_true rfl, Nat.le_of_ble_eq_true rfl⟩ rfl rfl (Nat.le_of_ble_eq_true rfl) ⟨(show k9 + 0 ≤ 600130 by omega), (show n9 + 0 ≤ 7301080 by omega)⟩ dL_law_1011 z_noX (fun _ => ?_)
  refine z_ifeq B 1021 dL_law_1014 (by decide) (fun h => absurd h (by decide)) (fun _ => ?_)
  refine z_iconst B (v := 1) dL_law_1017 rfl ?_
  refine z_goto B (tgt := 1022) dL_law_1018 (by decide) ?_
  refine z_istore B (lv' := [(9, .int 1), (0, .ref b), (1, .ref ax), (2, .ref pz), (3, .ref pn), (4, .ref pe), (5, .ref pv), (6, .ref pl), (7, .ref px), (8, .ref ph), (10, .int (nI tn))]) dL_law_1022 (by decide) rfl ?_
  refine z_iinc B (v := nI (tn + 1)) (lv' := [(10, .int (nI (tn + 1))), (9, .int 1), (0, .ref b), (1, .ref ax), (2, .ref pz), (3, .ref pn), (4, .ref pe), (5, .ref pv), (6, .ref pl), (7, .ref px), (8, .ref ph)]) dL_law_1024 10 rfl (nI_1 tn) (by decide) rfl ?_
  refine z_goto B (tgt := 82) dL_law_1027 (by decide) ?_
  refine z_lsub [2, 3, 4, 5, 6, 7, 8, 9, 10, 1, 0] rfl ?_
  exact nx
set_option maxHeartbeats 4000000 in
set_option maxRecDepth 100000 in
theorem la_one (l : Launch) (hl : l.stackTraces = false) {K : zK} {ax : Nat} {sa : Nat} {az : Nat → Nat} {ak : Nat → Nat} {tk : Nat → Nat} {tc : Nat → Nat} {pz : Nat} {pn : Nat} {pe : Nat} {pv : Nat} {pl : Nat} {px : Nat} {ph : Nat} {p : Program} {e : Env} {s : State} {m : MethodId} {below : List Frame} {meth : Method} {c : Code} {A : Nat → Prop} {Q : State → Prop} {ret9 : Option FieldType} {nm9 : String} {tb9 : List ExceptionTableEntry} {args : Array Value} {b tn k9 n9 T : Nat} (B : zF K p l s m args meth c A cL_law 19 RL nm9 wsL_law ret9 tb9) (hk9 : k9 ≤ 600130) (hn9 : n9 ≤ 7301080) : ∀ (n : Nat) (f : Nat → Option Nat) (so : Nat → Nat) (sc : Nat → Nat → Nat) (X : Nat → Int32) (Z : Nat → Nat → Int32) (W : Nat → Int32) (D : Nat → Nat → Int32) (Cs : Nat → Nat → Nat → Int32) (F : Nat → Int32) (O : Nat → Int32) (Ft : Nat → Int32) (Ot : Nat → Int32) (Tc : Nat → Nat → Int32) (Gz : Nat → Int32) (Gn : Nat → Int32) (Ge : Nat → Int32) (Gv : Nat → Int32) (Gl : Nat → Int32) (Gx : Nat → Int32) (Gh : Nat → Int32), rA T n X Z W D Cs O Gz Gn Ge Gv Gl Gx Gh → (∀ a, a < n → f a = some (so a)) → zW K p l e zR s m args below meth c A Q k9 n9 [zXo ax (az 0) sa (ak 0) (tk 0) (tc 0) X, zSa K sa f, zSO n so sc D, zSC K n sc Cs, zZo K az Z W, zCo K ak F O, zCo K tk Ft Ot, zCa K tc Tc, [(pz, .inl (zI K, 32, .inl Gz))], [(pn, .inl (zI K, 20, .inl Gn))], [(pe, .inl (zI K, 24, .inl Ge))], [(pv, .inl (zI K, 24, .inl Gv))], [(pl, .inl (zI K, 24, .inl Gl))], [(px, .inl (zI K, 24, .inl Gx))], [(ph, .inl (zI K, 24, .inl Gh))]] [(0, .ref b), (1, .ref ax), (2, .ref pz), (3, .ref pn), (4, .ref pe), (5, .ref pv), (6, .ref pl), (7, .ref px), (8, .ref ph), (9, .int 1), (10, .int 0)] [] 82 → zW K p l e zR s m args below meth c A Q k9 n9 [zXo ax (az 0) sa (ak 0) (tk 0) (tc 0) X, zSa K sa f, zSO n so sc D, zSC K n sc Cs, zZo K az Z W, zCo K ak F O, zCo K tk Ft Ot, zCa K tc Tc, [(pz, .inl (zI K, 32, .inl Gz))], [(pn, .inl (zI K, 20, .inl Gn))], [(pe, .inl (zI K, 24, .inl Ge))], [(pv, .inl (zI K, 24, .inl Gv))], [(pl, .inl (zI K, 24, .inl Gl))], [(px, .inl (zI K, 24, .inl Gx))], [(ph, .inl (zI K, 24, .inl Gh))]] [(0, .ref b), (1, .ref ax), (2, .ref pz), (3, .ref pn), (4, .ref pe), (5, .ref pv), (6, .ref pl), (7, .ref px), (8, .ref ph)] [] 63 := by
  intro n f so sc X Z W D Cs F O Ft Ot Tc Gz Gn Ge Gv Gl Gx Gh hR hf1 nx
  refine z_aload_n B dL_law_63 1 rfl ?_
  refine z_aload_n B dL_law_64 2 rfl ?_
  refine z_aload_n B dL_law_65 3 rfl ?_
  refine z_aload B dL_law_66 4 rfl ?_
  refine z_aload B dL_law_68 5 rfl ?_
  refine z_aload B dL_law_70 7 rfl ?_
  refine z_aload B dL_law_72 8 rfl ?_
  refine z_S1 B (kL_isFleet l hl K ax az sa ak (tk 0) (tc 0) X f n so sc D Cs Z W F O pz pn pe pv px ph Gz Gn Ge Gv Gl Gx Gh T hf1 hR) [0, 1, 2, 3, 4, 5, 8, 9, 10, 11, 13, 14] [6, 7, 12] (br := [zCo K tk Ft Ot, zCa K tc Tc, [(pl, .inl (zI K, 24, .inl Gl))]]) (bs' := [zXo ax (az 0) sa (ak 0) (tk 0) (tc 0) X, zSa K sa f, zSO n so sc D, zSC K n sc Cs, zZo K az Z W, zCo K ak F O, zCo K tk Ft Ot, zCa K tc Tc, [(pz, .inl (zI K, 32, .inl Gz))], [(pn, .inl (zI K, 20, .inl Gn))], [(pe, .inl (zI K, 24, .inl Ge))], [(pv, .inl (zI K, 24, .inl Gv))], [(pl, .inl (zI K, 24, .inl Gl))], [(px, .inl (zI K, 24, .inl Gx))], [(ph, .inl (zI K, 24, .inl Gh))]]) (st := []) (nA := 7) (zspN 15 rfl rfl rfl (by decide +kernel)) (zspN 15 rfl rfl rfl (by decide +kernel)) gL_law_L_isFleet rfl (by decide +kernel) ⟨Nat.le_of_ble_eq_true rfl, Nat.le_of_ble_eq_true rfl⟩ rfl rfl (Nat.le_of_ble_eq_true rfl) ⟨(show k9 + 0 ≤ 600130 by omega), (show n9 + 0 ≤ 7301080 by omega)⟩ dL_law_74 z_noX (fun _ => ?_)
  refine z_istore B (lv' := [(9, .int 1), (0, .ref b), (1, .ref ax), (2, .ref pz), (3, .ref pn), (4, .ref pe), (5, .ref pv), (6, .ref pl), (7, .ref px), (8, .ref ph)]) dL_law_77 (by decide) rfl ?_
  refine z_iconst B (v := 0) dL_law_79 rfl ?_
  refine z_istore B (lv' := [(10, .int 0), (9, .int 1), (0, .ref b), (1, .ref ax), (2, .ref pz), (3, .ref pn), (4, .ref pe), (5, .ref pv), (6, .ref pl), (7, .ref px), (8, .ref ph)]) dL_law_80 (by decide) rfl ?_
  refine z_lsub [2, 3, 4, 5, 6, 7, 8, 9, 10, 1, 0] rfl ?_
  exact nx
theorem hwL_law_ldc100 : Cond.constant RL 100 44497 ∈ wsL_law := by decide +kernel
theorem hwL_law_ldc99 : Cond.constant RL 99 2147483647 ∈ wsL_law := by decide +kernel
set_option maxHeartbeats 4000000 in
set_option maxRecDepth 100000 in
theorem la_loop (l : Launch) (hl : l.stackTraces = false) {K : zK} {ax : Nat} {sa : Nat} {az : Nat → Nat} {ak : Nat → Nat} {tk : Nat → Nat} {tc : Nat → Nat} {pz : Nat} {pn : Nat} {pe : Nat} {pv : Nat} {pl : Nat} {px : Nat} {ph : Nat} {p : Program} {e : Env} {s : State} {m : MethodId} {below : List Frame} {meth : Method} {c : Code} {A : Nat → Prop} {Q : State → Prop} {ret9 : Option FieldType} {nm9 : String} {tb9 : List ExceptionTableEntry} {args : Array Value} {b L : Nat} {xs : Nat → Int32} (B : zF K p l s m args meth c A cL_law 19 RL nm9 wsL_law ret9 tb9) (hX : va_X b L xs s s.heap) (hbl : b < s.heap.size) (hbA : ¬ A b) (hL : L ≤ 260) (hend : ∀ (k n : Nat) (bs : zB) (lv : List (Nat × Value)), k ≤ 600130 → n ≤ 7301080 → zW K p l e zR s m args below meth c A Q k n bs lv [.int 1] 1032) : ∀ (t tn k9 n9 : Nat) (n : Nat) (f : Nat → Option Nat) (so : Nat → Nat) (sc : Nat → Nat → Nat) (X : Nat → Int32) (Z : Nat → Nat → Int32) (W : Nat → Int32) (D : Nat → Nat → Int32) (Cs : Nat → Nat → Nat → Int32) (F : Nat → Int32) (O : Nat → Int32) (Ft : Nat → Int32) (Ot : Nat → Int32) (Tc : Nat → Nat → Int32) (Gz : Nat → Int32) (Gn : Nat → Int32) (Ge : Nat → Int32) (Gv : Nat → Int32) (Gl : Nat → Int32) (Gx : Nat → Int32) (Gh : Nat → Int32), tn + t = 90 → k9 + 64 * t ≤ 600130 → n9 + 1024 * t ≤ 7301080 → rA (1000 * tn) n X Z W D Cs O Gz Gn Ge Gv Gl Gx Gh → (∀ a, a < n → f a = some (so a)) → (∀ a, n ≤ a → a < 4 → f a = none) → zW K p l e zR s m args below meth c A Q k9 n9 [zXo ax (az 0) sa (ak 0) (tk 0) (tc 0) X, zSa K sa f, zSO n so sc D, zSC K n sc Cs, zZo K az Z W, zCo K ak F O, zCo K tk Ft Ot, zCa K tc Tc, [(pz, .inl (zI K, 32, .inl Gz))], [(pn, .inl (zI K, 20, .inl Gn))], [(pe, .inl (zI K, 24, .inl Ge))], [(pv, .inl (zI K, 24, .inl Gv))], [(pl, .inl (zI K, 24, .inl Gl))], [(px, .inl (zI K, 24, .inl Gx))], [(ph, .inl (zI K, 24, .inl Gh))]] [(0, .ref b), (1, .ref ax), (2, .ref pz), (3, .ref pn), (4, .ref pe), (5, .ref pv), (6, .ref pl), (7, .ref px), (8, .ref ph), (9, .int 1), (10, .int (nI tn))] [] 82 := by
  intro t
  induction t with
  | zero =>
    intro tn k9 n9 n f so sc X Z W D Cs F O Ft Ot Tc Gz Gn Ge Gv Gl Gx Gh h2 h3 h4 hR hf1 hf2
    refine z_iload B dL_law_82 10 rfl ?_
    refine z_bipush B (v := 90) dL_law_84 rfl ?_
    refine z_icge B 1030 dL_law_86 (by decide) (fun _ => ?_) (fun h => absurd (show nI 90 ≤ nI tn from nI_le (by omega) (by omega)) h)
    refine z_iload B dL_law_1030 9 rfl ?_
    exact hend _ _ _ _ (l_room0 h3) (l_room0 h4)
  | succ t ih =>
    intro tn k9 n9 n f so sc X Z W D Cs F O Ft Ot Tc Gz Gn Ge Gv Gl Gx Gh h2 h3 h4 hR hf1 hf2
    refine z_iload B dL_law_82 10 rfl ?_
    refine z_bipush B (v := 90) dL_law_84 rfl ?_
    refine z_icge B 1030 dL_law_86 (by decide) (fun h => absurd h (show ¬ nI 90 ≤ nI tn from nI_ge (by omega) (by decide))) (fun _ => ?_)
    refine z_iload B dL_law_89 9 rfl ?_
    refine z_ifeq B 1030 dL_law_91 (by decide) (fun h => absurd h (by decide)) (fun _ => ?_)
    refine z_iload B dL_law_94 10 rfl ?_
    refine z_aload_n B dL_law_96 0 rfl ?_
    refine z_slen B hX hbl hbA dL_law_97 ?_
    refine z_icge B 111 dL_law_98 (by decide) (fun c1 => ?_) (fun c1 => ?_)
    · refine z_ldc B (v := 44497) hwL_law_ldc100 dL_law_111 ?_
      refine z_iload B dL_law_113 10 rfl ?_
      refine z_imulN B (a := 44497) (b := tn) dL_law_115 ?_
      refine z_iload B dL_law_116 10 rfl ?_
      refine z_imulN B (a := 44497 * tn) (b := tn) dL_law_118 ?_
      refine z_sipush B (v := 2713) dL_law_119 rfl ?_
      refine z_iload B dL_law_122 10 rfl ?_
      refine z_imulN B (a := 2713) (b := tn) dL_law_124 ?_
      refine z_iaddN B (a := (44497 * tn) * tn) (b := 2713 * tn) dL_law_125 ?_
      refine z_bipush B (v := 19) dL_law_126 rfl ?_
      refine z_iaddN B (a := (44497 * tn) * tn + (2713 * tn)) (b := 19) dL_law_128 ?_
      refine z_ldc B (v := 2147483647) hwL_law_ldc99 dL_law_129 ?_
      refine z_iand B dL_law_131 ?_
      obtain ⟨cc9, hc, ec⟩ := z_and31 (x := nI ((44497 * tn) * tn + (2713 * tn) + 19))
      rw [ec]
      refine z_lsub [0, 1, 2, 3, 4, 5, 6, 7, 8, 9, 10] rfl ?_
      refine la_mid l hl B (T := 1000 * tn) (by omega) (l_room h3).1 (l_room h4).1 (by omega) hc ?_ n f so sc X Z W D Cs F O Ft Ot Tc Gz Gn Ge Gv Gl Gx Gh hR hf1 hf2
      intro n f so sc X Z W D Cs F O Ft Ot Tc Gz Gn Ge Gv Gl Gx Gh hR hf1 hf2
      exact la_tail l hl B (l_room h3).1 (l_room h4).1 n f so sc X Z W D Cs F O Ft Ot Tc Gz Gn Ge Gv Gl Gx Gh hR hf1 (ih (tn + 1) (k9 + 64) (n9 + 1024) n f so sc X Z W D Cs F O Ft Ot Tc Gz Gn Ge Gv Gl Gx Gh (by omega) (l_room h3).2 (l_room h4).2 (hR.up (by omega)) hf1 hf2)
    · refine z_aload_n B dL_law_101 0 rfl ?_
      refine z_iload B dL_law_102 10 rfl ?_
      refine z_sld B hX hbl hbA (l_vin hL (by omega) c1) rfl dL_law_104 ?_
      refine z_ldc B (v := 2147483647) hwL_law_ldc99 dL_law_105 ?_
      refine z_iand B dL_law_107 ?_
      refine z_goto B (tgt := 132) dL_law_108 (by decide) ?_
      obtain ⟨cc9, hc, ec⟩ := z_and31 (x := (xs (nI tn).toNatClampNeg))
      rw [ec]
      refine z_lsub [0, 1, 2, 3, 4, 5, 6, 7, 8, 9, 10] rfl ?_
      refine la_mid l hl B (T := 1000 * tn) (by omega) (l_room h3).1 (l_room h4).1 (by omega) hc ?_ n f so sc X Z W D Cs F O Ft Ot Tc Gz Gn Ge Gv Gl Gx Gh hR hf1 hf2
      intro n f so sc X Z W D Cs F O Ft Ot Tc Gz Gn Ge Gv Gl Gx Gh hR hf1 hf2
      exact la_tail l hl B (l_room h3).1 (l_room h4).1 n f so sc X Z W D Cs F O Ft Ot Tc Gz Gn Ge Gv Gl Gx Gh hR hf1 (ih (tn + 1) (k9 + 64) (n9 + 1024) n f so sc X Z W D Cs F O Ft Ot Tc Gz Gn Ge Gv Gl Gx Gh (by omega) (l_room h3).2 (l_room h4).2 (hR.up (by omega)) hf1 hf2)

