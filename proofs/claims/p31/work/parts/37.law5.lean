set_option maxHeartbeats 4000000 in
set_option maxRecDepth 100000 in
theorem la_addY (l : Launch) (hl : l.stackTraces = false) {K : zK} {ax : Nat} {sa : Nat} {az : Nat → Nat} {ak : Nat → Nat} {tk : Nat → Nat} {tc : Nat → Nat} {pz : Nat} {pn : Nat} {pe : Nat} {pv : Nat} {pl : Nat} {px : Nat} {ph : Nat} {p : Program} {e : Env} {s : State} {m : MethodId} {below : List Frame} {meth : Method} {c : Code} {A : Nat → Prop} {Q : State → Prop} {ret9 : Option FieldType} {nm9 : String} {tb9 : List ExceptionTableEntry} {args : Array Value} {b tn k9 n9 yy j T : Nat} (B : zF K p l s m args meth c A cL_law 19 RL nm9 wsL_law ret9 tb9) (hk9 : k9 + 64 ≤ 600130) (hn9 : n9 + 1024 ≤ 7301080) (hT : T ≤ 99000) (hy : yy < 2147483648) (hj : j < 16) (next : ∀ (n : Nat) (f : Nat → Option Nat) (so : Nat → Nat) (sc : Nat → Nat → Nat) (X : Nat → Int32) (Z : Nat → Nat → Int32) (W : Nat → Int32) (D : Nat → Nat → Int32) (Cs : Nat → Nat → Nat → Int32) (F : Nat → Int32) (O : Nat → Int32) (Ft : Nat → Int32) (Ot : Nat → Int32) (Tc : Nat → Nat → Int32) (Gz : Nat → Int32) (Gn : Nat → Int32) (Ge : Nat → Int32) (Gv : Nat → Int32) (Gl : Nat → Int32) (Gx : Nat → Int32) (Gh : Nat → Int32), rA (T + 1000) n X Z W D Cs O Gz Gn Ge Gv Gl Gx Gh → (∀ a, a < n → f a = some (so a)) → (∀ a, n ≤ a → a < 4 → f a = none) → zW K p l e zR s m args below meth c A Q (k9 + 64) (n9 + 1024) [zXo ax (az 0) sa (ak 0) (tk 0) (tc 0) X, zSa K sa f, zSO n so sc D, zSC K n sc Cs, zZo K az Z W, zCo K ak F O, zCo K tk Ft Ot, zCa K tc Tc, [(pz, .inl (zI K, 32, .inl Gz))], [(pn, .inl (zI K, 20, .inl Gn))], [(pe, .inl (zI K, 24, .inl Ge))], [(pv, .inl (zI K, 24, .inl Gv))], [(pl, .inl (zI K, 24, .inl Gl))], [(px, .inl (zI K, 24, .inl Gx))], [(ph, .inl (zI K, 24, .inl Gh))]] [(0, .ref b), (1, .ref ax), (2, .ref pz), (3, .ref pn), (4, .ref pe), (5, .ref pv), (6, .ref pl), (7, .ref px), (8, .ref ph), (9, .int 1), (10, .int (nI tn))] [] 995) : ∀ (n : Nat) (f : Nat → Option Nat) (so : Nat → Nat) (sc : Nat → Nat → Nat) (X : Nat → Int32) (Z : Nat → Nat → Int32) (W : Nat → Int32) (D : Nat → Nat → Int32) (Cs : Nat → Nat → Nat → Int32) (F : Nat → Int32) (O : Nat → Int32) (Ft : Nat → Int32) (Ot : Nat → Int32) (Tc : Nat → Nat → Int32) (Gz : Nat → Int32) (Gn : Nat → Int32) (Ge : Nat → Int32) (Gv : Nat → Int32) (Gl : Nat → Int32) (Gx : Nat → Int32) (Gh : Nat → Int32), rA T n X Z W D Cs O Gz Gn Ge Gv Gl Gx Gh → (∀ a, a < n → f a = some (so a)) → (∀ a, n ≤ a → a < 4 → f a = none) → n < 4 → zW K p l e zR s m args below meth c A Q k9 n9 [zXo ax (az 0) sa (ak 0) (tk 0) (tc 0) X, zSa K sa f, zSO n so sc D, zSC K n sc Cs, zZo K az Z W, zCo K ak F O, zCo K tk Ft Ot, zCa K tc Tc, [(pz, .inl (zI K, 32, .inl Gz))], [(pn, .inl (zI K, 20, .inl Gn))], [(pe, .inl (zI K, 24, .inl Ge))], [(pv, .inl (zI K, 24, .inl Gv))], [(pl, .inl (zI K, 24, .inl Gl))], [(px, .inl (zI K, 24, .inl Gx))], [(ph, .inl (zI K, 24, .inl Gh))]] [(0, .ref b), (1, .ref ax), (2, .ref pz), (3, .ref pn), (4, .ref pe), (5, .ref pv), (6, .ref pl), (7, .ref px), (8, .ref ph), (9, .int 1), (10, .int (nI tn)), (13, .int (nI yy)), (14, .int (nI j))] [] 497 := by
  intro n f so sc X Z W D Cs F O Ft Ot Tc Gz Gn Ge Gv Gl Gx Gh hR hf1 hf2 hn
  refine z_aload_n B dL_law_497 3 rfl ?_
  refine z_iconst B (v := 3) dL_law_498 rfl ?_
  refine z_ialdn B (N := 20) (f := Gn) (k0 := 3) (v := (Gn 3)) 9 0 rfl rfl (z_vpc (k := 3) rfl (by decide)) rfl rfl dL_law_499 ?_
  refine z_tope (y := nI n) hR.1.2.1 ?_
  refine z_iconst B (v := 4) dL_law_500 rfl ?_
  refine z_icne B 509 dL_law_501 (by decide) (fun h => absurd h (l_n4 hn)) (fun _ => ?_)
  refine z_aload_n B dL_law_509 3 rfl ?_
  refine z_iconst B (v := 3) dL_law_510 rfl ?_
  refine z_ialdn B (N := 20) (f := Gn) (k0 := 3) (v := (Gn 3)) 9 0 rfl rfl (z_vpc (k := 3) rfl (by decide)) rfl rfl dL_law_511 ?_
  refine z_tope (y := nI n) hR.1.2.1 ?_
  refine z_istore B (lv' := [(15, .int (nI n)), (0, .ref b), (1, .ref ax), (2, .ref pz), (3, .ref pn), (4, .ref pe), (5, .ref pv), (6, .ref pl), (7, .ref px), (8, .ref ph), (9, .int 1), (10, .int (nI tn)), (13, .int (nI yy)), (14, .int (nI j))]) dL_law_512 (by decide) rfl ?_
  refine z_aload_n B dL_law_514 2 rfl ?_
  refine z_iconst B (v := 2) dL_law_515 rfl ?_
  refine z_iload B dL_law_516 12 rfl ?_
  refine z_bipush B (v := 100) dL_law_518 rfl ?_
  refine z_iremN B (a := yy) (b := 100) (by omega) (by decide) (by decide) dL_law_520 ?_
  refine z_iconst B (v := 0) dL_law_521 rfl ?_
  refine z_callH B (kL_told_ay l hl K ax (az 0) sa (ak 0) (tk 0) (tc 0) X f n so sc D Cs (nI (yy % 100)) hR.2.2.1.1 hR.1.1 (nI_pos (by omega)) (show nI (yy % 100) ≤ nI 99 from nI_le (by omega) (by decide)) (by rw [hR.2.2.1.1]; exact nI_lt (b := 4) hn (by decide))) [0, 1, 2, 3] [4, 5, 6, 7, 8, 9, 10, 11, 12, 13, 14] (br := [zZo K az Z W, zCo K ak F O, zCo K tk Ft Ot, zCa K tc Tc, [(pz, .inl (zI K, 32, .inl Gz))], [(pn, .inl (zI K, 20, .inl Gn))], [(pe, .inl (zI K, 24, .inl Ge))], [(pv, .inl (zI K, 24, .inl Gv))], [(pl, .inl (zI K, 24, .inl Gl))], [(px, .inl (zI K, 24, .inl Gx))], [(ph, .inl (zI K, 24, .inl Gh))]]) (bs' := fun u9 => [zXo ax (az 0) sa (ak 0) (tk 0) (tc 0) (va_up X 2 ((X 2) + 1)), zSa K sa (va_up f n (some u9.1)), zSO (n + 1) (va_up so n u9.1) (va_up sc n u9.2) (va_up D n (va_up (va_up (va_up (fun _ => 0) 0 (X 2)) 1 (nI (yy % 100))) 3 1)), zSC K (n + 1) (va_up sc n u9.2) (va_up Cs n zC0), zZo K az Z W, zCo K ak F O, zCo K tk Ft Ot, zCa K tc Tc, [(pz, .inl (zI K, 32, .inl Gz))], [(pn, .inl (zI K, 20, .inl Gn))], [(pe, .inl (zI K, 24, .inl Ge))], [(pv, .inl (zI K, 24, .inl Gv))], [(pl, .inl (zI K, 24, .inl Gl))], [(px, .inl (zI K, 24, .inl Gx))], [(ph, .inl (zI K, 24, .inl Gh))]]) (st := []) (nA := 4) (zspN 15 rfl rfl rfl (by decide +kernel)) (fun _ => zspN 15 rfl rfl rfl (by decide +kernel)) gL_law_L_told rfl (by decide +kernel) ⟨Nat.le_of_ble_eq_true rfl, Nat.le_of_ble_eq_true rfl⟩ rfl rfl (Nat.le_of_ble_eq_true rfl) ⟨(show k9 + 7 ≤ 600130 by omega), (show n9 + 90 ≤ 7301080 by omega)⟩ dL_law_522 z_noX (fun u9 _ => ?_)
  refine z_iload B dL_law_525 0 rfl ?_
  refine z_icne B 534 dL_law_527 (by decide) (fun _ => ?_) (fun h => absurd hR.2.2.1.1 h)
  refine z_iconst B (v := 1) dL_law_530 rfl ?_
  refine z_goto B (tgt := 535) dL_law_531 (by decide) ?_
  refine z_istore B (lv' := [(9, .int 1), (15, .int (nI n)), (0, .ref b), (1, .ref ax), (2, .ref pz), (3, .ref pn), (4, .ref pe), (5, .ref pv), (6, .ref pl), (7, .ref px), (8, .ref ph), (10, .int (nI tn)), (13, .int (nI yy)), (14, .int (nI j))]) dL_law_535 (by decide) rfl ?_
  refine z_iload B dL_law_537 1 rfl ?_
  refine z_iflt B 572 dL_law_539 (by decide) (fun h => absurd h (nI_pos (by omega))) (fun _ => ?_)
  refine z_aload_n B dL_law_542 5 rfl ?_
  refine z_iconst B (v := 5) dL_law_543 rfl ?_
  refine z_aload_n B dL_law_544 5 rfl ?_
  refine z_iconst B (v := 3) dL_law_545 rfl ?_
  refine z_ialdn B (N := 20) (f := Gn) (k0 := 3) (v := (Gn 3)) 9 0 rfl rfl (z_vpc (k := 3) rfl (by decide)) rfl rfl dL_law_546 ?_
  refine z_tope (y := nI n) hR.1.2.1 ?_
  refine z_iaddN B (a := 5) (b := n) dL_law_547 ?_
  refine z_iload B dL_law_548 12 rfl ?_
  refine z_bipush B (v := 100) dL_law_550 rfl ?_
  refine z_iremN B (a := yy) (b := 100) (by omega) (by decide) (by decide) dL_law_552 ?_
  refine z_iastn B (N := 20) (f := Gn) (k0 := 5 + n) 9 0 rfl rfl (z_nIr (by omega) (by decide)) (nI_clamp (by omega)) (bs' := [zXo ax (az 0) sa (ak 0) (tk 0) (tc 0) (va_up X 2 ((X 2) + 1)), zSa K sa (va_up f n (some u9.1)), zSO (n + 1) (va_up so n u9.1) (va_up sc n u9.2) (va_up D n (va_up (va_up (va_up (fun _ => 0) 0 (X 2)) 1 (nI (yy % 100))) 3 1)), zSC K (n + 1) (va_up sc n u9.2) (va_up Cs n zC0), zZo K az Z W, zCo K ak F O, zCo K tk Ft Ot, zCa K tc Tc, [(pz, .inl (zI K, 32, .inl Gz))], [(pn, .inl (zI K, 20, .inl (upd Gn (5 + n) (nI (yy % 100)))))], [(pe, .inl (zI K, 24, .inl Ge))], [(pv, .inl (zI K, 24, .inl Gv))], [(pl, .inl (zI K, 24, .inl Gl))], [(px, .inl (zI K, 24, .inl Gx))], [(ph, .inl (zI K, 24, .inl Gh))]]) rfl dL_law_553 ?_
  refine z_aload_n B dL_law_554 5 rfl ?_
  refine z_iconst B (v := 4) dL_law_555 rfl ?_
  refine z_dup2 B dL_law_556 rfl rfl ?_
  refine z_ialdn B (N := 20) (f := (upd Gn (5 + n) (nI (yy % 100)))) (k0 := 4) (v := ((upd Gn (5 + n) (nI (yy % 100))) 4)) 9 0 rfl rfl (z_vpc (k := 4) rfl (by decide)) rfl rfl dL_law_557 ?_
  refine z_tope (y := (Gn 4)) ((pk_un (by omega)).trans rfl) ?_
  refine z_iconst B (v := 1) dL_law_558 rfl ?_
  refine z_aload_n B dL_law_559 5 rfl ?_
  refine z_iconst B (v := 3) dL_law_560 rfl ?_
  refine z_ialdn B (N := 20) (f := (upd Gn (5 + n) (nI (yy % 100)))) (k0 := 3) (v := ((upd Gn (5 + n) (nI (yy % 100))) 3)) 9 0 rfl rfl (z_vpc (k := 3) rfl (by decide)) rfl rfl dL_law_561 ?_
  refine z_tope (y := nI n) ((pk_un (by omega)).trans hR.1.2.1) ?_
  refine z_ishl B dL_law_562 ?_
  refine z_ior B dL_law_563 ?_
  refine z_iastn B (N := 20) (f := (upd Gn (5 + n) (nI (yy % 100)))) (k0 := 4) 9 0 rfl rfl (z_vpc (k := 4) rfl (by decide)) rfl (bs' := [zXo ax (az 0) sa (ak 0) (tk 0) (tc 0) (va_up X 2 ((X 2) + 1)), zSa K sa (va_up f n (some u9.1)), zSO (n + 1) (va_up so n u9.1) (va_up sc n u9.2) (va_up D n (va_up (va_up (va_up (fun _ => 0) 0 (X 2)) 1 (nI (yy % 100))) 3 1)), zSC K (n + 1) (va_up sc n u9.2) (va_up Cs n zC0), zZo K az Z W, zCo K ak F O, zCo K tk Ft Ot, zCa K tc Tc, [(pz, .inl (zI K, 32, .inl Gz))], [(pn, .inl (zI K, 20, .inl (upd (upd Gn (5 + n) (nI (yy % 100))) 4 ((Gn 4) ||| (1 <<< ((nI n) &&& 31))))))], [(pe, .inl (zI K, 24, .inl Ge))], [(pv, .inl (zI K, 24, .inl Gv))], [(pl, .inl (zI K, 24, .inl Gl))], [(px, .inl (zI K, 24, .inl Gx))], [(ph, .inl (zI K, 24, .inl Gh))]]) rfl dL_law_564 ?_
  refine z_aload_n B dL_law_565 5 rfl ?_
  refine z_iconst B (v := 3) dL_law_566 rfl ?_
  refine z_dup2 B dL_law_567 rfl rfl ?_
  refine z_ialdn B (N := 20) (f := (upd (upd Gn (5 + n) (nI (yy % 100))) 4 ((Gn 4) ||| (1 <<< ((nI n) &&& 31))))) (k0 := 3) (v := ((upd (upd Gn (5 + n) (nI (yy % 100))) 4 ((Gn 4) ||| (1 <<< ((nI n) &&& 31)))) 3)) 9 0 rfl rfl (z_vpc (k := 3) rfl (by decide)) rfl rfl dL_law_568 ?_
  refine z_tope (y := nI n) ((pk_un (by omega)).trans ((pk_un (by omega)).trans hR.1.2.1)) ?_
  refine z_iconst B (v := 1) dL_law_569 rfl ?_
  refine z_iaddN B (a := n) (b := 1) dL_law_570 ?_
  refine z_iastn B (N := 20) (f := (upd (upd Gn (5 + n) (nI (yy % 100))) 4 ((Gn 4) ||| (1 <<< ((nI n) &&& 31))))) (k0 := 3) 9 0 rfl rfl (z_vpc (k := 3) rfl (by decide)) rfl (bs' := [zXo ax (az 0) sa (ak 0) (tk 0) (tc 0) (va_up X 2 ((X 2) + 1)), zSa K sa (va_up f n (some u9.1)), zSO (n + 1) (va_up so n u9.1) (va_up sc n u9.2) (va_up D n (va_up (va_up (va_up (fun _ => 0) 0 (X 2)) 1 (nI (yy % 100))) 3 1)), zSC K (n + 1) (va_up sc n u9.2) (va_up Cs n zC0), zZo K az Z W, zCo K ak F O, zCo K tk Ft Ot, zCa K tc Tc, [(pz, .inl (zI K, 32, .inl Gz))], [(pn, .inl (zI K, 20, .inl (upd (upd (upd Gn (5 + n) (nI (yy % 100))) 4 ((Gn 4) ||| (1 <<< ((nI n) &&& 31)))) 3 (nI (n + 1)))))], [(pe, .inl (zI K, 24, .inl Ge))], [(pv, .inl (zI K, 24, .inl Gv))], [(pl, .inl (zI K, 24, .inl Gl))], [(px, .inl (zI K, 24, .inl Gx))], [(ph, .inl (zI K, 24, .inl Gh))]]) rfl dL_law_571 ?_
  refine z_goto B (tgt := 995) dL_law_572 (by decide) ?_
  refine z_lsub [2, 3, 4, 5, 6, 7, 8, 9, 10, 0, 11] rfl ?_
  refine z_widen (k' := k9 + 64) (n' := n9 + 1024) (show k9 + 7 ≤ _ by omega) (show n9 + 90 ≤ _ by omega) ?_
  exact next (n + 1) (va_up f n (some u9.1)) (va_up so n u9.1) (va_up sc n u9.2) (va_up X 2 ((X 2) + 1)) Z W (va_up D n (va_up (va_up (va_up (fun _ => 0) 0 (X 2)) 1 (nI (yy % 100))) 3 1)) (va_up Cs n zC0) F O Ft Ot Tc Gz (upd (upd (upd Gn (5 + n) (nI (yy % 100))) 4 ((Gn 4) ||| (1 <<< ((nI n) &&& 31)))) 3 (nI (n + 1))) Ge Gv Gl Gx Gh ((q_addSite hR hn (by omega)).up (by omega)) (fun a ha => by
        by_cases q9 : a = n
        · rw [q9, va_up_self, va_up_self]
        · rw [va_up_ne _ _ q9, va_up_ne _ _ q9]; exact hf1 a (by omega)) (fun a ha h4 => by rw [va_up_ne _ _ (by omega)]; exact hf2 a (by omega) h4)
set_option maxHeartbeats 4000000 in
set_option maxRecDepth 100000 in
theorem la_addN (l : Launch) (hl : l.stackTraces = false) {K : zK} {ax : Nat} {sa : Nat} {az : Nat → Nat} {ak : Nat → Nat} {tk : Nat → Nat} {tc : Nat → Nat} {pz : Nat} {pn : Nat} {pe : Nat} {pv : Nat} {pl : Nat} {px : Nat} {ph : Nat} {p : Program} {e : Env} {s : State} {m : MethodId} {below : List Frame} {meth : Method} {c : Code} {A : Nat → Prop} {Q : State → Prop} {ret9 : Option FieldType} {nm9 : String} {tb9 : List ExceptionTableEntry} {args : Array Value} {b tn k9 n9 yy j T : Nat} (B : zF K p l s m args meth c A cL_law 19 RL nm9 wsL_law ret9 tb9) (hk9 : k9 + 64 ≤ 600130) (hn9 : n9 + 1024 ≤ 7301080) (hT : T ≤ 99000) (hy : yy < 2147483648) (hj : j < 16) (next : ∀ (n : Nat) (f : Nat → Option Nat) (so : Nat → Nat) (sc : Nat → Nat → Nat) (X : Nat → Int32) (Z : Nat → Nat → Int32) (W : Nat → Int32) (D : Nat → Nat → Int32) (Cs : Nat → Nat → Nat → Int32) (F : Nat → Int32) (O : Nat → Int32) (Ft : Nat → Int32) (Ot : Nat → Int32) (Tc : Nat → Nat → Int32) (Gz : Nat → Int32) (Gn : Nat → Int32) (Ge : Nat → Int32) (Gv : Nat → Int32) (Gl : Nat → Int32) (Gx : Nat → Int32) (Gh : Nat → Int32), rA (T + 1000) n X Z W D Cs O Gz Gn Ge Gv Gl Gx Gh → (∀ a, a < n → f a = some (so a)) → (∀ a, n ≤ a → a < 4 → f a = none) → zW K p l e zR s m args below meth c A Q (k9 + 64) (n9 + 1024) [zXo ax (az 0) sa (ak 0) (tk 0) (tc 0) X, zSa K sa f, zSO n so sc D, zSC K n sc Cs, zZo K az Z W, zCo K ak F O, zCo K tk Ft Ot, zCa K tc Tc, [(pz, .inl (zI K, 32, .inl Gz))], [(pn, .inl (zI K, 20, .inl Gn))], [(pe, .inl (zI K, 24, .inl Ge))], [(pv, .inl (zI K, 24, .inl Gv))], [(pl, .inl (zI K, 24, .inl Gl))], [(px, .inl (zI K, 24, .inl Gx))], [(ph, .inl (zI K, 24, .inl Gh))]] [(0, .ref b), (1, .ref ax), (2, .ref pz), (3, .ref pn), (4, .ref pe), (5, .ref pv), (6, .ref pl), (7, .ref px), (8, .ref ph), (9, .int 1), (10, .int (nI tn))] [] 995) : ∀ (n : Nat) (f : Nat → Option Nat) (so : Nat → Nat) (sc : Nat → Nat → Nat) (X : Nat → Int32) (Z : Nat → Nat → Int32) (W : Nat → Int32) (D : Nat → Nat → Int32) (Cs : Nat → Nat → Nat → Int32) (F : Nat → Int32) (O : Nat → Int32) (Ft : Nat → Int32) (Ot : Nat → Int32) (Tc : Nat → Nat → Int32) (Gz : Nat → Int32) (Gn : Nat → Int32) (Ge : Nat → Int32) (Gv : Nat → Int32) (Gl : Nat → Int32) (Gx : Nat → Int32) (Gh : Nat → Int32), rA T n X Z W D Cs O Gz Gn Ge Gv Gl Gx Gh → (∀ a, a < n → f a = some (so a)) → (∀ a, n ≤ a → a < 4 → f a = none) → n = 4 → zW K p l e zR s m args below meth c A Q k9 n9 [zXo ax (az 0) sa (ak 0) (tk 0) (tc 0) X, zSa K sa f, zSO n so sc D, zSC K n sc Cs, zZo K az Z W, zCo K ak F O, zCo K tk Ft Ot, zCa K tc Tc, [(pz, .inl (zI K, 32, .inl Gz))], [(pn, .inl (zI K, 20, .inl Gn))], [(pe, .inl (zI K, 24, .inl Ge))], [(pv, .inl (zI K, 24, .inl Gv))], [(pl, .inl (zI K, 24, .inl Gl))], [(px, .inl (zI K, 24, .inl Gx))], [(ph, .inl (zI K, 24, .inl Gh))]] [(0, .ref b), (1, .ref ax), (2, .ref pz), (3, .ref pn), (4, .ref pe), (5, .ref pv), (6, .ref pl), (7, .ref px), (8, .ref ph), (9, .int 1), (10, .int (nI tn)), (13, .int (nI yy)), (14, .int (nI j))] [] 497 := by
  intro n f so sc X Z W D Cs F O Ft Ot Tc Gz Gn Ge Gv Gl Gx Gh hR hf1 hf2 hn
  refine z_aload_n B dL_law_497 3 rfl ?_
  refine z_iconst B (v := 3) dL_law_498 rfl ?_
  refine z_ialdn B (N := 20) (f := Gn) (k0 := 3) (v := (Gn 3)) 9 0 rfl rfl (z_vpc (k := 3) rfl (by decide)) rfl rfl dL_law_499 ?_
  refine z_tope (y := nI n) hR.1.2.1 ?_
  refine z_iconst B (v := 4) dL_law_500 rfl ?_
  refine z_icne B 509 dL_law_501 (by decide) (fun _ => ?_) (fun h => absurd (by rw [hn]; rfl) h)
  refine z_bipush B (v := (-13)) dL_law_504 rfl ?_
  refine z_goto B (tgt := 512) dL_law_506 (by decide) ?_
  refine z_istore B (lv' := [(15, .int (-13)), (0, .ref b), (1, .ref ax), (2, .ref pz), (3, .ref pn), (4, .ref pe), (5, .ref pv), (6, .ref pl), (7, .ref px), (8, .ref ph), (9, .int 1), (10, .int (nI tn)), (13, .int (nI yy)), (14, .int (nI j))]) dL_law_512 (by decide) rfl ?_
  refine z_aload_n B dL_law_514 2 rfl ?_
  refine z_iconst B (v := 2) dL_law_515 rfl ?_
  refine z_iload B dL_law_516 12 rfl ?_
  refine z_bipush B (v := 100) dL_law_518 rfl ?_
  refine z_iremN B (a := yy) (b := 100) (by omega) (by decide) (by decide) dL_law_520 ?_
  refine z_iconst B (v := 0) dL_law_521 rfl ?_
  refine z_H1 B (kL_told_an l hl K ax (az 0) sa (ak 0) (tk 0) (tc 0) X f n so sc D (nI (yy % 100)) hR.2.2.1.1 hR.1.1 (nI_pos (by omega)) (show nI (yy % 100) ≤ nI 99 from nI_le (by omega) (by decide)) (by rw [hR.2.2.1.1, hn]; decide)) [0, 1, 2] [3, 4, 5, 6, 7, 8, 9, 10, 11, 12, 13, 14] (br := [zSC K n sc Cs, zZo K az Z W, zCo K ak F O, zCo K tk Ft Ot, zCa K tc Tc, [(pz, .inl (zI K, 32, .inl Gz))], [(pn, .inl (zI K, 20, .inl Gn))], [(pe, .inl (zI K, 24, .inl Ge))], [(pv, .inl (zI K, 24, .inl Gv))], [(pl, .inl (zI K, 24, .inl Gl))], [(px, .inl (zI K, 24, .inl Gx))], [(ph, .inl (zI K, 24, .inl Gh))]]) (bs' := [zXo ax (az 0) sa (ak 0) (tk 0) (tc 0) X, zSa K sa f, zSO n so sc D, zSC K n sc Cs, zZo K az Z W, zCo K ak F O, zCo K tk Ft Ot, zCa K tc Tc, [(pz, .inl (zI K, 32, .inl Gz))], [(pn, .inl (zI K, 20, .inl Gn))], [(pe, .inl (zI K, 24, .inl Ge))], [(pv, .inl (zI K, 24, .inl Gv))], [(pl, .inl (zI K, 24, .inl Gl))], [(px, .inl (zI K, 24, .inl Gx))], [(ph, .inl (zI K, 24, .inl Gh))]]) (st := []) (nA := 4) (zspN 15 rfl rfl rfl (by decide +kernel)) (zspN 15 rfl rfl rfl (by decide +kernel)) gL_law_L_told rfl (by decide +kernel) ⟨Nat.le_of_ble_eq_true rfl, Nat.le_of_ble_eq_true rfl⟩ rfl rfl (Nat.le_of_ble_eq_true rfl) ⟨(show k9 + 1 ≤ 600130 by omega), (show n9 + 6 ≤ 7301080 by omega)⟩ dL_law_522 z_noX (fun _ => ?_)
  refine z_iload B dL_law_525 0 rfl ?_
  refine z_icne B 534 dL_law_527 (by decide) (fun _ => ?_) (fun h => absurd rfl h)
  refine z_iconst B (v := 1) dL_law_530 rfl ?_
  refine z_goto B (tgt := 535) dL_law_531 (by decide) ?_
  refine z_istore B (lv' := [(9, .int 1), (15, .int (-13)), (0, .ref b), (1, .ref ax), (2, .ref pz), (3, .ref pn), (4, .ref pe), (5, .ref pv), (6, .ref pl), (7, .ref px), (8, .ref ph), (10, .int (nI tn)), (13, .int (nI yy)), (14, .int (nI j))]) dL_law_535 (by decide) rfl ?_
  refine z_iload B dL_law_537 1 rfl ?_
  refine z_iflt B 572 dL_law_539 (by decide) (fun _ => ?_) (fun h => absurd (by decide) h)
  refine z_goto B (tgt := 995) dL_law_572 (by decide) ?_
  refine z_lsub [2, 3, 4, 5, 6, 7, 8, 9, 10, 0, 11] rfl ?_
  refine z_widen (k' := k9 + 64) (n' := n9 + 1024) (show k9 + 1 ≤ _ by omega) (show n9 + 6 ≤ _ by omega) ?_
  exact next n f so sc X Z W D Cs F O Ft Ot Tc Gz Gn Ge Gv Gl Gx Gh ((hR).up (by omega)) hf1 hf2
set_option maxHeartbeats 4000000 in
set_option maxRecDepth 100000 in
theorem la_ann (l : Launch) (hl : l.stackTraces = false) {K : zK} {ax : Nat} {sa : Nat} {az : Nat → Nat} {ak : Nat → Nat} {tk : Nat → Nat} {tc : Nat → Nat} {pz : Nat} {pn : Nat} {pe : Nat} {pv : Nat} {pl : Nat} {px : Nat} {ph : Nat} {p : Program} {e : Env} {s : State} {m : MethodId} {below : List Frame} {meth : Method} {c : Code} {A : Nat → Prop} {Q : State → Prop} {ret9 : Option FieldType} {nm9 : String} {tb9 : List ExceptionTableEntry} {args : Array Value} {b tn k9 n9 yy j T : Nat} (B : zF K p l s m args meth c A cL_law 19 RL nm9 wsL_law ret9 tb9) (hk9 : k9 + 64 ≤ 600130) (hn9 : n9 + 1024 ≤ 7301080) (hT : T ≤ 99000) (hy : yy < 2147483648) (hj : j < 16) (next : ∀ (n : Nat) (f : Nat → Option Nat) (so : Nat → Nat) (sc : Nat → Nat → Nat) (X : Nat → Int32) (Z : Nat → Nat → Int32) (W : Nat → Int32) (D : Nat → Nat → Int32) (Cs : Nat → Nat → Nat → Int32) (F : Nat → Int32) (O : Nat → Int32) (Ft : Nat → Int32) (Ot : Nat → Int32) (Tc : Nat → Nat → Int32) (Gz : Nat → Int32) (Gn : Nat → Int32) (Ge : Nat → Int32) (Gv : Nat → Int32) (Gl : Nat → Int32) (Gx : Nat → Int32) (Gh : Nat → Int32), rA (T + 1000) n X Z W D Cs O Gz Gn Ge Gv Gl Gx Gh → (∀ a, a < n → f a = some (so a)) → (∀ a, n ≤ a → a < 4 → f a = none) → zW K p l e zR s m args below meth c A Q (k9 + 64) (n9 + 1024) [zXo ax (az 0) sa (ak 0) (tk 0) (tc 0) X, zSa K sa f, zSO n so sc D, zSC K n sc Cs, zZo K az Z W, zCo K ak F O, zCo K tk Ft Ot, zCa K tc Tc, [(pz, .inl (zI K, 32, .inl Gz))], [(pn, .inl (zI K, 20, .inl Gn))], [(pe, .inl (zI K, 24, .inl Ge))], [(pv, .inl (zI K, 24, .inl Gv))], [(pl, .inl (zI K, 24, .inl Gl))], [(px, .inl (zI K, 24, .inl Gx))], [(ph, .inl (zI K, 24, .inl Gh))]] [(0, .ref b), (1, .ref ax), (2, .ref pz), (3, .ref pn), (4, .ref pe), (5, .ref pv), (6, .ref pl), (7, .ref px), (8, .ref ph), (9, .int 1), (10, .int (nI tn))] [] 995) : ∀ (n : Nat) (f : Nat → Option Nat) (so : Nat → Nat) (sc : Nat → Nat → Nat) (X : Nat → Int32) (Z : Nat → Nat → Int32) (W : Nat → Int32) (D : Nat → Nat → Int32) (Cs : Nat → Nat → Nat → Int32) (F : Nat → Int32) (O : Nat → Int32) (Ft : Nat → Int32) (Ot : Nat → Int32) (Tc : Nat → Nat → Int32) (Gz : Nat → Int32) (Gn : Nat → Int32) (Ge : Nat → Int32) (Gv : Nat → Int32) (Gl : Nat → Int32) (Gx : Nat → Int32) (Gh : Nat → Int32), rA T n X Z W D Cs O Gz Gn Ge Gv Gl Gx Gh → (∀ a, a < n → f a = some (so a)) → (∀ a, n ≤ a → a < 4 → f a = none) → 0 < n → zW K p l e zR s m args below meth c A Q k9 n9 [zXo ax (az 0) sa (ak 0) (tk 0) (tc 0) X, zSa K sa f, zSO n so sc D, zSC K n sc Cs, zZo K az Z W, zCo K ak F O, zCo K tk Ft Ot, zCa K tc Tc, [(pz, .inl (zI K, 32, .inl Gz))], [(pn, .inl (zI K, 20, .inl Gn))], [(pe, .inl (zI K, 24, .inl Ge))], [(pv, .inl (zI K, 24, .inl Gv))], [(pl, .inl (zI K, 24, .inl Gl))], [(px, .inl (zI K, 24, .inl Gx))], [(ph, .inl (zI K, 24, .inl Gh))]] [(0, .ref b), (1, .ref ax), (2, .ref pz), (3, .ref pn), (4, .ref pe), (5, .ref pv), (6, .ref pl), (7, .ref px), (8, .ref ph), (9, .int 1), (10, .int (nI tn)), (13, .int (nI yy)), (14, .int (nI j))] [] 588 := by
  intro n f so sc X Z W D Cs F O Ft Ot Tc Gz Gn Ge Gv Gl Gx Gh hR hf1 hf2 hn
  refine z_iload B dL_law_588 11 rfl ?_
  refine z_aload_n B dL_law_590 3 rfl ?_
  refine z_iconst B (v := 3) dL_law_591 rfl ?_
  refine z_ialdn B (N := 20) (f := Gn) (k0 := 3) (v := (Gn 3)) 9 0 rfl rfl (z_vpc (k := 3) rfl (by decide)) rfl rfl dL_law_592 ?_
  refine z_tope (y := nI n) hR.1.2.1 ?_
  refine z_iremN B (a := yy) (b := n) (by omega) (by omega) (by have := hR.1.1; omega) dL_law_593 ?_
  obtain ⟨i, hv_i, hi⟩ : ∃ i, yy % n = i ∧ i < n := ⟨_, rfl, Nat.mod_lt _ hn⟩
  rw [hv_i]
  have hi4 : i < 4 := by have := hR.1.1; omega
  refine z_istore B (lv' := [(15, .int (nI i)), (0, .ref b), (1, .ref ax), (2, .ref pz), (3, .ref pn), (4, .ref pe), (5, .ref pv), (6, .ref pl), (7, .ref px), (8, .ref ph), (9, .int 1), (10, .int (nI tn)), (13, .int (nI yy)), (14, .int (nI j))]) dL_law_594 (by decide) rfl ?_
  refine z_aload_n B dL_law_596 4 rfl ?_
  refine z_iconst B (v := 4) dL_law_597 rfl ?_
  refine z_ialdn B (N := 20) (f := Gn) (k0 := 4) (v := (Gn 4)) 9 0 rfl rfl (z_vpc (k := 4) rfl (by decide)) rfl rfl dL_law_598 ?_
  refine z_iload B dL_law_599 0 rfl ?_
  refine z_ishr B dL_law_601 ?_
  refine z_iconst B (v := 1) dL_law_602 rfl ?_
  refine z_iand B dL_law_603 ?_
  refine z_iconst B (v := 1) dL_law_604 rfl ?_
  refine z_icne B 612 dL_law_605 (by decide) (fun c1 => ?_) (fun c1 => ?_)
  · refine z_iconst B (v := 1) dL_law_608 rfl ?_
    refine z_goto B (tgt := 613) dL_law_609 (by decide) ?_
    refine z_istore B (lv' := [(16, .int 1), (15, .int (nI i)), (0, .ref b), (1, .ref ax), (2, .ref pz), (3, .ref pn), (4, .ref pe), (5, .ref pv), (6, .ref pl), (7, .ref px), (8, .ref ph), (9, .int 1), (10, .int (nI tn)), (13, .int (nI yy)), (14, .int (nI j))]) dL_law_613 (by decide) rfl ?_
    refine z_aload_n B dL_law_615 5 rfl ?_
    refine z_iconst B (v := 4) dL_law_616 rfl ?_
    refine z_iload B dL_law_617 13 rfl ?_
    refine z_iconst B (v := 4) dL_law_619 rfl ?_
    refine z_idivN B (a := yy) (b := 4) (by omega) (by decide) (by decide) dL_law_620 ?_
    refine z_iconst B (v := 3) dL_law_621 rfl ?_
    refine z_iremN B (a := yy / 4) (b := 3) (by omega) (by decide) (by decide) dL_law_622 ?_
    refine z_ifne B 639 dL_law_623 (by decide) (fun c2 => ?_) (fun c2 => ?_)
    · refine z_aload_n B dL_law_626 5 rfl ?_
      refine z_iconst B (v := 4) dL_law_627 rfl ?_
      refine z_ialdn B (N := 20) (f := Gn) (k0 := 4) (v := (Gn 4)) 9 0 rfl rfl (z_vpc (k := 4) rfl (by decide)) rfl rfl dL_law_628 ?_
      refine z_iconst B (v := 1) dL_law_629 rfl ?_
      refine z_iload B dL_law_630 1 rfl ?_
      refine z_ishl B dL_law_632 ?_
      refine z_iconst B (v := (-1)) dL_law_633 rfl ?_
      refine z_ixor B dL_law_634 ?_
      refine z_iand B dL_law_635 ?_
      refine z_goto B (tgt := 647) dL_law_636 (by decide) ?_
      refine z_iastn B (N := 20) (f := Gn) (k0 := 4) 9 0 rfl rfl (z_vpc (k := 4) rfl (by decide)) rfl (bs' := [zXo ax (az 0) sa (ak 0) (tk 0) (tc 0) X, zSa K sa f, zSO n so sc D, zSC K n sc Cs, zZo K az Z W, zCo K ak F O, zCo K tk Ft Ot, zCa K tc Tc, [(pz, .inl (zI K, 32, .inl Gz))], [(pn, .inl (zI K, 20, .inl (upd Gn 4 ((Gn 4) &&& ((1 <<< ((nI i) &&& 31)) ^^^ (-1))))))], [(pe, .inl (zI K, 24, .inl Ge))], [(pv, .inl (zI K, 24, .inl Gv))], [(pl, .inl (zI K, 24, .inl Gl))], [(px, .inl (zI K, 24, .inl Gx))], [(ph, .inl (zI K, 24, .inl Gh))]]) rfl dL_law_647 ?_
      refine z_aload_n B dL_law_648 3 rfl ?_
      refine z_iload B dL_law_649 1 rfl ?_
      refine z_iload B dL_law_651 13 rfl ?_
      refine z_iconst B (v := 4) dL_law_653 rfl ?_
      refine z_idivN B (a := yy) (b := 4) (by omega) (by decide) (by decide) dL_law_654 ?_
      refine z_iconst B (v := 3) dL_law_655 rfl ?_
      refine z_iremN B (a := yy / 4) (b := 3) (by omega) (by decide) (by decide) dL_law_656 ?_
      refine z_ifle B 664 dL_law_657 (by decide) (fun _ => ?_) (fun h => absurd (l_z0 c2) h)
      refine z_iconst B (v := 0) dL_law_664 rfl ?_
      refine z_V1 B (kX4_announce_h l hl K ax (az 0) sa (ak 0) (tk 0) (tc 0) X f n so sc D i 0 (by have := hR.1.1; omega) hi (l_i4 hf1 hi hR.1.1) (Or.inl rfl) (l_D3 hR hi)) [0, 1, 2] [3, 4, 5, 6, 7, 8, 9, 10, 11, 12, 13, 14] (br := [zSC K n sc Cs, zZo K az Z W, zCo K ak F O, zCo K tk Ft Ot, zCa K tc Tc, [(pz, .inl (zI K, 32, .inl Gz))], [(pn, .inl (zI K, 20, .inl (upd Gn 4 ((Gn 4) &&& ((1 <<< ((nI i) &&& 31)) ^^^ (-1))))))], [(pe, .inl (zI K, 24, .inl Ge))], [(pv, .inl (zI K, 24, .inl Gv))], [(pl, .inl (zI K, 24, .inl Gl))], [(px, .inl (zI K, 24, .inl Gx))], [(ph, .inl (zI K, 24, .inl Gh))]]) (bs' := [zXo ax (az 0) sa (ak 0) (tk 0) (tc 0) X, zSa K sa f, zSO n so sc ((fX4_announce_h D i 0).2), zSC K n sc Cs, zZo K az Z W, zCo K ak F O, zCo K tk Ft Ot, zCa K tc Tc, [(pz, .inl (zI K, 32, .inl Gz))], [(pn, .inl (zI K, 20, .inl (upd Gn 4 ((Gn 4) &&& ((1 <<< ((nI i) &&& 31)) ^^^ (-1))))))], [(pe, .inl (zI K, 24, .inl Ge))], [(pv, .inl (zI K, 24, .inl Gv))], [(pl, .inl (zI K, 24, .inl Gl))], [(px, .inl (zI K, 24, .inl Gx))], [(ph, .inl (zI K, 24, .inl Gh))]]) (st := []) (nA := 2) (zspN 15 rfl rfl rfl (by decide +kernel)) (zspN 15 rfl rfl rfl (by decide +kernel)) 0 0 rfl rfl rfl rfl gL_law_X4_announce rfl (by decide +kernel) ⟨Nat.le_of_ble_eq_true rfl, Nat.le_of_ble_eq_true rfl⟩ rfl rfl (Nat.le_of_ble_eq_true rfl) ⟨(show k9 + 0 ≤ 600130 by omega), (show n9 + 0 ≤ 7301080 by omega)⟩ dL_law_665 z_noX (fun _ => ?_)
      refine z_iload B dL_law_668 0 rfl ?_
      refine z_icne B 677 dL_law_670 (by decide) (fun _ => ?_) (fun h => absurd ((q_announce hR hi (Or.inr ⟨rfl, rfl⟩)).1 c1) h)
      refine z_iconst B (v := 1) dL_law_673 rfl ?_
      refine z_goto B (tgt := 678) dL_law_674 (by decide) ?_
      refine z_istore B (lv' := [(9, .int 1), (16, .int 1), (15, .int (nI i)), (0, .ref b), (1, .ref ax), (2, .ref pz), (3, .ref pn), (4, .ref pe), (5, .ref pv), (6, .ref pl), (7, .ref px), (8, .ref ph), (10, .int (nI tn)), (13, .int (nI yy)), (14, .int (nI j))]) dL_law_678 (by decide) rfl ?_
      refine z_goto B (tgt := 995) dL_law_680 (by decide) ?_
      refine z_lsub [3, 4, 5, 6, 7, 8, 9, 10, 11, 0, 12] rfl ?_
      refine z_widen (k' := k9 + 64) (n' := n9 + 1024) (show k9 + 0 ≤ _ by omega) (show n9 + 0 ≤ _ by omega) ?_
      exact next n f so sc X Z W ((fX4_announce_h D i 0).2) Cs F O Ft Ot Tc Gz (upd Gn 4 ((Gn 4) &&& ((1 <<< ((nI i) &&& 31)) ^^^ (-1)))) Ge Gv Gl Gx Gh (((q_announce hR hi (Or.inr ⟨rfl, rfl⟩)).2.2).up (by omega)) hf1 hf2
    · refine z_aload_n B dL_law_639 5 rfl ?_
      refine z_iconst B (v := 4) dL_law_640 rfl ?_
      refine z_ialdn B (N := 20) (f := Gn) (k0 := 4) (v := (Gn 4)) 9 0 rfl rfl (z_vpc (k := 4) rfl (by decide)) rfl rfl dL_law_641 ?_
      refine z_iconst B (v := 1) dL_law_642 rfl ?_
      refine z_iload B dL_law_643 1 rfl ?_
      refine z_ishl B dL_law_645 ?_
      refine z_ior B dL_law_646 ?_
      refine z_iastn B (N := 20) (f := Gn) (k0 := 4) 9 0 rfl rfl (z_vpc (k := 4) rfl (by decide)) rfl (bs' := [zXo ax (az 0) sa (ak 0) (tk 0) (tc 0) X, zSa K sa f, zSO n so sc D, zSC K n sc Cs, zZo K az Z W, zCo K ak F O, zCo K tk Ft Ot, zCa K tc Tc, [(pz, .inl (zI K, 32, .inl Gz))], [(pn, .inl (zI K, 20, .inl (upd Gn 4 ((Gn 4) ||| (1 <<< ((nI i) &&& 31))))))], [(pe, .inl (zI K, 24, .inl Ge))], [(pv, .inl (zI K, 24, .inl Gv))], [(pl, .inl (zI K, 24, .inl Gl))], [(px, .inl (zI K, 24, .inl Gx))], [(ph, .inl (zI K, 24, .inl Gh))]]) rfl dL_law_647 ?_
      refine z_aload_n B dL_law_648 3 rfl ?_
      refine z_iload B dL_law_649 1 rfl ?_
      refine z_iload B dL_law_651 13 rfl ?_
      refine z_iconst B (v := 4) dL_law_653 rfl ?_
      refine z_idivN B (a := yy) (b := 4) (by omega) (by decide) (by decide) dL_law_654 ?_
      refine z_iconst B (v := 3) dL_law_655 rfl ?_
      refine z_iremN B (a := yy / 4) (b := 3) (by omega) (by decide) (by decide) dL_law_656 ?_
      refine z_ifle B 664 dL_law_657 (by decide) (fun h => absurd h (l_z3 (by omega) c2)) (fun _ => ?_)
      refine z_iconst B (v := 1) dL_law_660 rfl ?_
      refine z_goto B (tgt := 665) dL_law_661 (by decide) ?_
      refine z_V1 B (kX4_announce_h l hl K ax (az 0) sa (ak 0) (tk 0) (tc 0) X f n so sc D i 1 (by have := hR.1.1; omega) hi (l_i4 hf1 hi hR.1.1) (Or.inr rfl) (l_D3 hR hi)) [0, 1, 2] [3, 4, 5, 6, 7, 8, 9, 10, 11, 12, 13, 14] (br := [zSC K n sc Cs, zZo K az Z W, zCo K ak F O, zCo K tk Ft Ot, zCa K tc Tc, [(pz, .inl (zI K, 32, .inl Gz))], [(pn, .inl (zI K, 20, .inl (upd Gn 4 ((Gn 4) ||| (1 <<< ((nI i) &&& 31))))))], [(pe, .inl (zI K, 24, .inl Ge))], [(pv, .inl (zI K, 24, .inl Gv))], [(pl, .inl (zI K, 24, .inl Gl))], [(px, .inl (zI K, 24, .inl Gx))], [(ph, .inl (zI K, 24, .inl Gh))]]) (bs' := [zXo ax (az 0) sa (ak 0) (tk 0) (tc 0) X, zSa K sa f, zSO n so sc ((fX4_announce_h D i 1).2), zSC K n sc Cs, zZo K az Z W, zCo K ak F O, zCo K tk Ft Ot, zCa K tc Tc, [(pz, .inl (zI K, 32, .inl Gz))], [(pn, .inl (zI K, 20, .inl (upd Gn 4 ((Gn 4) ||| (1 <<< ((nI i) &&& 31))))))], [(pe, .inl (zI K, 24, .inl Ge))], [(pv, .inl (zI K, 24, .inl Gv))], [(pl, .inl (zI K, 24, .inl Gl))], [(px, .inl (zI K, 24, .inl Gx))], [(ph, .inl (zI K, 24, .inl Gh))]]) (st := []) (nA := 2) (zspN 15 rfl rfl rfl (by decide +kernel)) (zspN 15 rfl rfl rfl (by decide +kernel)) 0 0 rfl rfl rfl rfl gL_law_X4_announce rfl (by decide +kernel) ⟨Nat.le_of_ble_eq_true rfl, Nat.le_of_ble_eq_true rfl⟩ rfl rfl (Nat.le_of_ble_eq_true rfl) ⟨(show k9 + 0 ≤ 600130 by omega), (show n9 + 0 ≤ 7301080 by omega)⟩ dL_law_665 z_noX (fun _ => ?_)
      refine z_iload B dL_law_668 0 rfl ?_
      refine z_icne B 677 dL_law_670 (by decide) (fun _ => ?_) (fun h => absurd ((q_announce hR hi (Or.inl ⟨rfl, rfl⟩)).1 c1) h)
      refine z_iconst B (v := 1) dL_law_673 rfl ?_
      refine z_goto B (tgt := 678) dL_law_674 (by decide) ?_
      refine z_istore B (lv' := [(9, .int 1), (16, .int 1), (15, .int (nI i)), (0, .ref b), (1, .ref ax), (2, .ref pz), (3, .ref pn), (4, .ref pe), (5, .ref pv), (6, .ref pl), (7, .ref px), (8, .ref ph), (10, .int (nI tn)), (13, .int (nI yy)), (14, .int (nI j))]) dL_law_678 (by decide) rfl ?_
      refine z_goto B (tgt := 995) dL_law_680 (by decide) ?_
      refine z_lsub [3, 4, 5, 6, 7, 8, 9, 10, 11, 0, 12] rfl ?_
      refine z_widen (k' := k9 + 64) (n' := n9 + 1024) (show k9 + 0 ≤ _ by omega) (show n9 + 0 ≤ _ by omega) ?_
      exact next n f so sc X Z W ((fX4_announce_h D i 1).2) Cs F O Ft Ot Tc Gz (upd Gn 4 ((Gn 4) ||| (1 <<< ((nI i) &&& 31)))) Ge Gv Gl Gx Gh (((q_announce hR hi (Or.inl ⟨rfl, rfl⟩)).2.2).up (by omega)) hf1 hf2
  · refine z_iconst B (v := 0) dL_law_612 rfl ?_
    refine z_istore B (lv' := [(16, .int 0), (15, .int (nI i)), (0, .ref b), (1, .ref ax), (2, .ref pz), (3, .ref pn), (4, .ref pe), (5, .ref pv), (6, .ref pl), (7, .ref px), (8, .ref ph), (9, .int 1), (10, .int (nI tn)), (13, .int (nI yy)), (14, .int (nI j))]) dL_law_613 (by decide) rfl ?_
    refine z_aload_n B dL_law_615 5 rfl ?_
    refine z_iconst B (v := 4) dL_law_616 rfl ?_
    refine z_iload B dL_law_617 13 rfl ?_
    refine z_iconst B (v := 4) dL_law_619 rfl ?_
    refine z_idivN B (a := yy) (b := 4) (by omega) (by decide) (by decide) dL_law_620 ?_
    refine z_iconst B (v := 3) dL_law_621 rfl ?_
    refine z_iremN B (a := yy / 4) (b := 3) (by omega) (by decide) (by decide) dL_law_622 ?_
    refine z_ifne B 639 dL_law_623 (by decide) (fun c3 => ?_) (fun c3 => ?_)
    · refine z_aload_n B dL_law_626 5 rfl ?_
      refine z_iconst B (v := 4) dL_law_627 rfl ?_
      refine z_ialdn B (N := 20) (f := Gn) (k0 := 4) (v := (Gn 4)) 9 0 rfl rfl (z_vpc (k := 4) rfl (by decide)) rfl rfl dL_law_628 ?_
      refine z_iconst B (v := 1) dL_law_629 rfl ?_
      refine z_iload B dL_law_630 1 rfl ?_
      refine z_ishl B dL_law_632 ?_
      refine z_iconst B (v := (-1)) dL_law_633 rfl ?_
      refine z_ixor B dL_law_634 ?_
      refine z_iand B dL_law_635 ?_
      refine z_goto B (tgt := 647) dL_law_636 (by decide) ?_
      refine z_iastn B (N := 20) (f := Gn) (k0 := 4) 9 0 rfl rfl (z_vpc (k := 4) rfl (by decide)) rfl (bs' := [zXo ax (az 0) sa (ak 0) (tk 0) (tc 0) X, zSa K sa f, zSO n so sc D, zSC K n sc Cs, zZo K az Z W, zCo K ak F O, zCo K tk Ft Ot, zCa K tc Tc, [(pz, .inl (zI K, 32, .inl Gz))], [(pn, .inl (zI K, 20, .inl (upd Gn 4 ((Gn 4) &&& ((1 <<< ((nI i) &&& 31)) ^^^ (-1))))))], [(pe, .inl (zI K, 24, .inl Ge))], [(pv, .inl (zI K, 24, .inl Gv))], [(pl, .inl (zI K, 24, .inl Gl))], [(px, .inl (zI K, 24, .inl Gx))], [(ph, .inl (zI K, 24, .inl Gh))]]) rfl dL_law_647 ?_
      refine z_aload_n B dL_law_648 3 rfl ?_
      refine z_iload B dL_law_649 1 rfl ?_
      refine z_iload B dL_law_651 13 rfl ?_
      refine z_iconst B (v := 4) dL_law_653 rfl ?_
      refine z_idivN B (a := yy) (b := 4) (by omega) (by decide) (by decide) dL_law_654 ?_
      refine z_iconst B (v := 3) dL_law_655 rfl ?_
      refine z_iremN B (a := yy / 4) (b := 3) (by omega) (by decide) (by decide) dL_law_656 ?_
      refine z_ifle B 664 dL_law_657 (by decide) (fun _ => ?_) (fun h => absurd (l_z0 c3) h)
      refine z_iconst B (v := 0) dL_law_664 rfl ?_
      refine z_V1 B (kX4_announce_h l hl K ax (az 0) sa (ak 0) (tk 0) (tc 0) X f n so sc D i 0 (by have := hR.1.1; omega) hi (l_i4 hf1 hi hR.1.1) (Or.inl rfl) (l_D3 hR hi)) [0, 1, 2] [3, 4, 5, 6, 7, 8, 9, 10, 11, 12, 13, 14] (br := [zSC K n sc Cs, zZo K az Z W, zCo K ak F O, zCo K tk Ft Ot, zCa K tc Tc, [(pz, .inl (zI K, 32, .inl Gz))], [(pn, .inl (zI K, 20, .inl (upd Gn 4 ((Gn 4) &&& ((1 <<< ((nI i) &&& 31)) ^^^ (-1))))))], [(pe, .inl (zI K, 24, .inl Ge))], [(pv, .inl (zI K, 24, .inl Gv))], [(pl, .inl (zI K, 24, .inl Gl))], [(px, .inl (zI K, 24, .inl Gx))], [(ph, .inl (zI K, 24, .inl Gh))]]) (bs' := [zXo ax (az 0) sa (ak 0) (tk 0) (tc 0) X, zSa K sa f, zSO n so sc ((fX4_announce_h D i 0).2), zSC K n sc Cs, zZo K az Z W, zCo K ak F O, zCo K tk Ft Ot, zCa K tc Tc, [(pz, .inl (zI K, 32, .inl Gz))], [(pn, .inl (zI K, 20, .inl (upd Gn 4 ((Gn 4) &&& ((1 <<< ((nI i) &&& 31)) ^^^ (-1))))))], [(pe, .inl (zI K, 24, .inl Ge))], [(pv, .inl (zI K, 24, .inl Gv))], [(pl, .inl (zI K, 24, .inl Gl))], [(px, .inl (zI K, 24, .inl Gx))], [(ph, .inl (zI K, 24, .inl Gh))]]) (st := []) (nA := 2) (zspN 15 rfl rfl rfl (by decide +kernel)) (zspN 15 rfl rfl rfl (by decide +kernel)) 0 0 rfl rfl rfl rfl gL_law_X4_announce rfl (by decide +kernel) ⟨Nat.le_of_ble_eq_true rfl, Nat.le_of_ble_eq_true rfl⟩ rfl rfl (Nat.le_of_ble_eq_true rfl) ⟨(show k9 + 0 ≤ 600130 by omega), (show n9 + 0 ≤ 7301080 by omega)⟩ dL_law_665 z_noX (fun _ => ?_)
      refine z_iload B dL_law_668 0 rfl ?_
      refine z_icne B 677 dL_law_670 (by decide) (fun _ => ?_) (fun h => absurd ((q_announce hR hi (Or.inr ⟨rfl, rfl⟩)).2.1 c1) h)
      refine z_iconst B (v := 1) dL_law_673 rfl ?_
      refine z_goto B (tgt := 678) dL_law_674 (by decide) ?_
      refine z_istore B (lv' := [(9, .int 1), (16, .int 0), (15, .int (nI i)), (0, .ref b), (1, .ref ax), (2, .ref pz), (3, .ref pn), (4, .ref pe), (5, .ref pv), (6, .ref pl), (7, .ref px), (8, .ref ph), (10, .int (nI tn)), (13, .int (nI yy)), (14, .int (nI j))]) dL_law_678 (by decide) rfl ?_
      refine z_goto B (tgt := 995) dL_law_680 (by decide) ?_
      refine z_lsub [3, 4, 5, 6, 7, 8, 9, 10, 11, 0, 12] rfl ?_
      refine z_widen (k' := k9 + 64) (n' := n9 + 1024) (show k9 + 0 ≤ _ by omega) (show n9 + 0 ≤ _ by omega) ?_
      exact next n f so sc X Z W ((fX4_announce_h D i 0).2) Cs F O Ft Ot Tc Gz (upd Gn 4 ((Gn 4) &&& ((1 <<< ((nI i) &&& 31)) ^^^ (-1)))) Ge Gv Gl Gx Gh (((q_announce hR hi (Or.inr ⟨rfl, rfl⟩)).2.2).up (by omega)) hf1 hf2
    · refine z_aload_n B dL_law_639 5 rfl ?_
      refine z_iconst B (v := 4) dL_law_640 rfl ?_
      refine z_ialdn B (N := 20) (f := Gn) (k0 := 4) (v := (Gn 4)) 9 0 rfl rfl (z_vpc (k := 4) rfl (by decide)) rfl rfl dL_law_641 ?_
      refine z_iconst B (v := 1) dL_law_642 rfl ?_
      refine z_iload B dL_law_643 1 rfl ?_
      refine z_ishl B dL_law_645 ?_
      refine z_ior B dL_law_646 ?_
      refine z_iastn B (N := 20) (f := Gn) (k0 := 4) 9 0 rfl rfl (z_vpc (k := 4) rfl (by decide)) rfl (bs' := [zXo ax (az 0) sa (ak 0) (tk 0) (tc 0) X, zSa K sa f, zSO n so sc D, zSC K n sc Cs, zZo K az Z W, zCo K ak F O, zCo K tk Ft Ot, zCa K tc Tc, [(pz, .inl (zI K, 32, .inl Gz))], [(pn, .inl (zI K, 20, .inl (upd Gn 4 ((Gn 4) ||| (1 <<< ((nI i) &&& 31))))))], [(pe, .inl (zI K, 24, .inl Ge))], [(pv, .inl (zI K, 24, .inl Gv))], [(pl, .inl (zI K, 24, .inl Gl))], [(px, .inl (zI K, 24, .inl Gx))], [(ph, .inl (zI K, 24, .inl Gh))]]) rfl dL_law_647 ?_
      refine z_aload_n B dL_law_648 3 rfl ?_
      refine z_iload B dL_law_649 1 rfl ?_
      refine z_iload B dL_law_651 13 rfl ?_
      refine z_iconst B (v := 4) dL_law_653 rfl ?_
      refine z_idivN B (a := yy) (b := 4) (by omega) (by decide) (by decide) dL_law_654 ?_
      refine z_iconst B (v := 3) dL_law_655 rfl ?_
      refine z_iremN B (a := yy / 4) (b := 3) (by omega) (by decide) (by decide) dL_law_656 ?_
      refine z_ifle B 664 dL_law_657 (by decide) (fun h => absurd h (l_z3 (by omega) c3)) (fun _ => ?_)
      refine z_iconst B (v := 1) dL_law_660 rfl ?_
      refine z_goto B (tgt := 665) dL_law_661 (by decide) ?_
      refine z_V1 B (kX4_announce_h l hl K ax (az 0) sa (ak 0) (tk 0) (tc 0) X f n so sc D i 1 (by have := hR.1.1; omega) hi (l_i4 hf1 hi hR.1.1) (Or.inr rfl) (l_D3 hR hi)) [0, 1, 2] [3, 4, 5, 6, 7, 8, 9, 10, 11, 12, 13, 14] (br := [zSC K n sc Cs, zZo K az Z W, zCo K ak F O, zCo K tk Ft Ot, zCa K tc Tc, [(pz, .inl (zI K, 32, .inl Gz))], [(pn, .inl (zI K, 20, .inl (upd Gn 4 ((Gn 4) ||| (1 <<< ((nI i) &&& 31))))))], [(pe, .inl (zI K, 24, .inl Ge))], [(pv, .inl (zI K, 24, .inl Gv))], [(pl, .inl (zI K, 24, .inl Gl))], [(px, .inl (zI K, 24, .inl Gx))], [(ph, .inl (zI K, 24, .inl Gh))]]) (bs' := [zXo ax (az 0) sa (ak 0) (tk 0) (tc 0) X, zSa K sa f, zSO n so sc ((fX4_announce_h D i 1).2), zSC K n sc Cs, zZo K az Z W, zCo K ak F O, zCo K tk Ft Ot, zCa K tc Tc, [(pz, .inl (zI K, 32, .inl Gz))], [(pn, .inl (zI K, 20, .inl (upd Gn 4 ((Gn 4) ||| (1 <<< ((nI i) &&& 31))))))], [(pe, .inl (zI K, 24, .inl Ge))], [(pv, .inl (zI K, 24, .inl Gv))], [(pl, .inl (zI K, 24, .inl Gl))], [(px, .inl (zI K, 24, .inl Gx))], [(ph, .inl (zI K, 24, .inl Gh))]]) (st := []) (nA := 2) (zspN 15 rfl rfl rfl (by decide +kernel)) (zspN 15 rfl rfl rfl (by decide +kernel)) 0 0 rfl rfl rfl rfl gL_law_X4_announce rfl (by decide +kernel) ⟨Nat.le_of_ble_eq_true rfl, Nat.le_of_ble_eq_true rfl⟩ rfl rfl (Nat.le_of_ble_eq_true rfl) ⟨(show k9 + 0 ≤ 600130 by omega), (show n9 + 0 ≤ 7301080 by omega)⟩ dL_law_665 z_noX (fun _ => ?_)
      refine z_iload B dL_law_668 0 rfl ?_
      refine z_icne B 677 dL_law_670 (by decide) (fun _ => ?_) (fun h => absurd ((q_announce hR hi (Or.inl ⟨rfl, rfl⟩)).2.1 c1) h)
      refine z_iconst B (v := 1) dL_law_673 rfl ?_
      refine z_goto B (tgt := 678) dL_law_674 (by decide) ?_
      refine z_istore B (lv' := [(9, .int 1), (16, .int 0), (15, .int (nI i)), (0, .ref b), (1, .ref ax), (2, .ref pz), (3, .ref pn), (4, .ref pe), (5, .ref pv), (6, .ref pl), (7, .ref px), (8, .ref ph), (10, .int (nI tn)), (13, .int (nI yy)), (14, .int (nI j))]) dL_law_678 (by decide) rfl ?_
      refine z_goto B (tgt := 995) dL_law_680 (by decide) ?_
      refine z_lsub [3, 4, 5, 6, 7, 8, 9, 10, 11, 0, 12] rfl ?_
      refine z_widen (k' := k9 + 64) (n' := n9 + 1024) (show k9 + 0 ≤ _ by omega) (show n9 + 0 ≤ _ by omega) ?_
      exact next n f so sc X Z W ((fX4_announce_h D i 1).2) Cs F O Ft Ot Tc Gz (upd Gn 4 ((Gn 4) ||| (1 <<< ((nI i) &&& 31)))) Ge Gv Gl Gx Gh (((q_announce hR hi (Or.inl ⟨rfl, rfl⟩)).2.2).up (by omega)) hf1 hf2
set_option maxHeartbeats 4000000 in
set_option maxRecDepth 100000 in
theorem la_flush (l : Launch) (hl : l.stackTraces = false) {K : zK} {ax : Nat} {sa : Nat} {az : Nat → Nat} {ak : Nat → Nat} {tk : Nat → Nat} {tc : Nat → Nat} {pz : Nat} {pn : Nat} {pe : Nat} {pv : Nat} {pl : Nat} {px : Nat} {ph : Nat} {p : Program} {e : Env} {s : State} {m : MethodId} {below : List Frame} {meth : Method} {c : Code} {A : Nat → Prop} {Q : State → Prop} {ret9 : Option FieldType} {nm9 : String} {tb9 : List ExceptionTableEntry} {args : Array Value} {b tn k9 n9 yy j T : Nat} (B : zF K p l s m args meth c A cL_law 19 RL nm9 wsL_law ret9 tb9) (hk9 : k9 + 64 ≤ 600130) (hn9 : n9 + 1024 ≤ 7301080) (hT : T ≤ 99000) (hy : yy < 2147483648) (hj : j < 16) (next : ∀ (n : Nat) (f : Nat → Option Nat) (so : Nat → Nat) (sc : Nat → Nat → Nat) (X : Nat → Int32) (Z : Nat → Nat → Int32) (W : Nat → Int32) (D : Nat → Nat → Int32) (Cs : Nat → Nat → Nat → Int32) (F : Nat → Int32) (O : Nat → Int32) (Ft : Nat → Int32) (Ot : Nat → Int32) (Tc : Nat → Nat → Int32) (Gz : Nat → Int32) (Gn : Nat → Int32) (Ge : Nat → Int32) (Gv : Nat → Int32) (Gl : Nat → Int32) (Gx : Nat → Int32) (Gh : Nat → Int32), rA (T + 1000) n X Z W D Cs O Gz Gn Ge Gv Gl Gx Gh → (∀ a, a < n → f a = some (so a)) → (∀ a, n ≤ a → a < 4 → f a = none) → zW K p l e zR s m args below meth c A Q (k9 + 64) (n9 + 1024) [zXo ax (az 0) sa (ak 0) (tk 0) (tc 0) X, zSa K sa f, zSO n so sc D, zSC K n sc Cs, zZo K az Z W, zCo K ak F O, zCo K tk Ft Ot, zCa K tc Tc, [(pz, .inl (zI K, 32, .inl Gz))], [(pn, .inl (zI K, 20, .inl Gn))], [(pe, .inl (zI K, 24, .inl Ge))], [(pv, .inl (zI K, 24, .inl Gv))], [(pl, .inl (zI K, 24, .inl Gl))], [(px, .inl (zI K, 24, .inl Gx))], [(ph, .inl (zI K, 24, .inl Gh))]] [(0, .ref b), (1, .ref ax), (2, .ref pz), (3, .ref pn), (4, .ref pe), (5, .ref pv), (6, .ref pl), (7, .ref px), (8, .ref ph), (9, .int 1), (10, .int (nI tn))] [] 995) : ∀ (n : Nat) (f : Nat → Option Nat) (so : Nat → Nat) (sc : Nat → Nat → Nat) (X : Nat → Int32) (Z : Nat → Nat → Int32) (W : Nat → Int32) (D : Nat → Nat → Int32) (Cs : Nat → Nat → Nat → Int32) (F : Nat → Int32) (O : Nat → Int32) (Ft : Nat → Int32) (Ot : Nat → Int32) (Tc : Nat → Nat → Int32) (Gz : Nat → Int32) (Gn : Nat → Int32) (Ge : Nat → Int32) (Gv : Nat → Int32) (Gl : Nat → Int32) (Gx : Nat → Int32) (Gh : Nat → Int32), rA T n X Z W D Cs O Gz Gn Ge Gv Gl Gx Gh → (∀ a, a < n → f a = some (so a)) → (∀ a, n ≤ a → a < 4 → f a = none) → 0 < n → zW K p l e zR s m args below meth c A Q k9 n9 [zXo ax (az 0) sa (ak 0) (tk 0) (tc 0) X, zSa K sa f, zSO n so sc D, zSC K n sc Cs, zZo K az Z W, zCo K ak F O, zCo K tk Ft Ot, zCa K tc Tc, [(pz, .inl (zI K, 32, .inl Gz))], [(pn, .inl (zI K, 20, .inl Gn))], [(pe, .inl (zI K, 24, .inl Ge))], [(pv, .inl (zI K, 24, .inl Gv))], [(pl, .inl (zI K, 24, .inl Gl))], [(px, .inl (zI K, 24, .inl Gx))], [(ph, .inl (zI K, 24, .inl Gh))]] [(0, .ref b), (1, .ref ax), (2, .ref pz), (3, .ref pn), (4, .ref pe), (5, .ref pv), (6, .ref pl), (7, .ref px), (8, .ref ph), (9, .int 1), (10, .int (nI tn)), (13, .int (nI yy)), (14, .int (nI j))] [] 696 := by
  intro n f so sc X Z W D Cs F O Ft Ot Tc Gz Gn Ge Gv Gl Gx Gh hR hf1 hf2 hn
  refine z_iload B dL_law_696 11 rfl ?_
  refine z_bipush B (v := 16) dL_law_698 rfl ?_
  refine z_idivN B (a := yy) (b := 16) (by omega) (by decide) (by decide) dL_law_700 ?_
  refine z_aload_n B dL_law_701 3 rfl ?_
  refine z_iconst B (v := 3) dL_law_702 rfl ?_
  refine z_ialdn B (N := 20) (f := Gn) (k0 := 3) (v := (Gn 3)) 9 0 rfl rfl (z_vpc (k := 3) rfl (by decide)) rfl rfl dL_law_703 ?_
  refine z_tope (y := nI n) hR.1.2.1 ?_
  refine z_iremN B (a := yy / 16) (b := n) (by omega) (by omega) (by have := hR.1.1; omega) dL_law_704 ?_
  obtain ⟨i, hv_i, hi⟩ : ∃ i, yy / 16 % n = i ∧ i < n := ⟨_, rfl, Nat.mod_lt _ hn⟩
  rw [hv_i]
  have hi4 : i < 4 := by have := hR.1.1; omega
  refine z_istore B (lv' := [(15, .int (nI i)), (0, .ref b), (1, .ref ax), (2, .ref pz), (3, .ref pn), (4, .ref pe), (5, .ref pv), (6, .ref pl), (7, .ref px), (8, .ref ph), (9, .int 1), (10, .int (nI tn)), (13, .int (nI yy)), (14, .int (nI j))]) dL_law_705 (by decide) rfl ?_
  refine z_perm (bs' := [zXo ax (az 0) sa (ak 0) (tk 0) (tc 0) X, zSa K sa f, zSO n so sc D, zCa K (sc i) (Cs i), zZo K az Z W, zCo K ak F O, zCo K tk Ft Ot, zCa K tc Tc, [(pz, .inl (zI K, 32, .inl Gz))], [(pn, .inl (zI K, 20, .inl Gn))], [(pe, .inl (zI K, 24, .inl Ge))], [(pv, .inl (zI K, 24, .inl Gv))], [(pl, .inl (zI K, 24, .inl Gl))], [(px, .inl (zI K, 24, .inl Gx))], [(ph, .inl (zI K, 24, .inl Gh))], zSX K n sc Cs i]) (zI_p (zSC_split hi)) ?_
  refine z_aload B dL_law_707 5 rfl ?_
  refine z_iload B dL_law_709 0 rfl ?_
  refine z_iload B dL_law_711 13 rfl ?_
  refine z_S1 B (kL_slot l hl K pe Ge i (nI j) (by have := hR.1.1; omega)) [10] [0, 1, 2, 3, 4, 5, 6, 7, 8, 9, 11, 12, 13, 14, 15] (br := [zXo ax (az 0) sa (ak 0) (tk 0) (tc 0) X, zSa K sa f, zSO n so sc D, zCa K (sc i) (Cs i), zZo K az Z W, zCo K ak F O, zCo K tk Ft Ot, zCa K tc Tc, [(pz, .inl (zI K, 32, .inl Gz))], [(pn, .inl (zI K, 20, .inl Gn))], [(pv, .inl (zI K, 24, .inl Gv))], [(pl, .inl (zI K, 24, .inl Gl))], [(px, .inl (zI K, 24, .inl Gx))], [(ph, .inl (zI K, 24, .inl Gh))], zSX K n sc Cs i]) (bs' := [zXo ax (az 0) sa (ak 0) (tk 0) (tc 0) X, zSa K sa f, zSO n so sc D, zCa K (sc i) (Cs i), zZo K az Z W, zCo K ak F O, zCo K tk Ft Ot, zCa K tc Tc, [(pz, .inl (zI K, 32, .inl Gz))], [(pn, .inl (zI K, 20, .inl Gn))], [(pe, .inl (zI K, 24, .inl Ge))], [(pv, .inl (zI K, 24, .inl Gv))], [(pl, .inl (zI K, 24, .inl Gl))], [(px, .inl (zI K, 24, .inl Gx))], [(ph, .inl (zI K, 24, .inl Gh))], zSX K n sc Cs i]) (st := []) (nA := 3) (zspN 16 rfl rfl rfl (by decide +kernel)) (zspN 16 rfl rfl rfl (by decide +kernel)) gL_law_L_slot rfl (by decide +kernel) ⟨Nat.le_of_ble_eq_true rfl, Nat.le_of_ble_eq_true rfl⟩ rfl rfl (Nat.le_of_ble_eq_true rfl) ⟨(show k9 + 0 ≤ 600130 by omega), (show n9 + 0 ≤ 7301080 by omega)⟩ dL_law_713 z_noX (fun _ => ?_)
  refine z_istore B (lv' := [(16, .int (fL_slot Ge i (nI j))), (15, .int (nI i)), (0, .ref b), (1, .ref ax), (2, .ref pz), (3, .ref pn), (4, .ref pe), (5, .ref pv), (6, .ref pl), (7, .ref px), (8, .ref ph), (9, .int 1), (10, .int (nI tn)), (13, .int (nI yy)), (14, .int (nI j))]) dL_law_716 (by decide) rfl ?_
  refine z_aload_n B dL_law_718 3 rfl ?_
  refine z_iload B dL_law_719 1 rfl ?_
  refine z_iload B dL_law_721 14 rfl ?_
  refine z_V1 B (kX4_flush_o l hl K ax (az 0) sa (ak 0) (tk 0) (tc 0) X f n so sc D i (Cs i) (nI j) (by have := hR.1.1; omega) hi (l_i4 hf1 hi hR.1.1) (nI_pos (by omega)) (r_n16 (by omega))) [0, 1, 2, 3] [4, 5, 6, 7, 8, 9, 10, 11, 12, 13, 14, 15] (br := [zZo K az Z W, zCo K ak F O, zCo K tk Ft Ot, zCa K tc Tc, [(pz, .inl (zI K, 32, .inl Gz))], [(pn, .inl (zI K, 20, .inl Gn))], [(pe, .inl (zI K, 24, .inl Ge))], [(pv, .inl (zI K, 24, .inl Gv))], [(pl, .inl (zI K, 24, .inl Gl))], [(px, .inl (zI K, 24, .inl Gx))], [(ph, .inl (zI K, 24, .inl Gh))], zSX K n sc Cs i]) (bs' := [zXo ax (az 0) sa (ak 0) (tk 0) (tc 0) X, zSa K sa f, zSO n so sc D, zCa K (sc i) ((fX4_flush_o (Cs i) (nI j)).2), zZo K az Z W, zCo K ak F O, zCo K tk Ft Ot, zCa K tc Tc, [(pz, .inl (zI K, 32, .inl Gz))], [(pn, .inl (zI K, 20, .inl Gn))], [(pe, .inl (zI K, 24, .inl Ge))], [(pv, .inl (zI K, 24, .inl Gv))], [(pl, .inl (zI K, 24, .inl Gl))], [(px, .inl (zI K, 24, .inl Gx))], [(ph, .inl (zI K, 24, .inl Gh))], zSX K n sc Cs i]) (st := []) (nA := 2) (zspN 16 rfl rfl rfl (by decide +kernel)) (zspN 16 rfl rfl rfl (by decide +kernel)) 0 0 rfl rfl rfl rfl gL_law_X4_flush rfl (by decide +kernel) ⟨Nat.le_of_ble_eq_true rfl, Nat.le_of_ble_eq_true rfl⟩ rfl rfl (Nat.le_of_ble_eq_true rfl) ⟨(show k9 + 0 + 0 ≤ 600130 by omega), (show n9 + 0 + 0 ≤ 7301080 by omega)⟩ dL_law_723 z_noX (fun _ => ?_)
  refine z_iload B dL_law_726 0 rfl ?_
  refine z_iflt B 735 dL_law_728 (by decide) (fun c1 => ?_) (fun c1 => ?_)
  · refine z_iconst B (v := 0) dL_law_735 rfl ?_
    refine z_icne B 743 dL_law_736 (by decide) (fun _ => ?_) (fun h => absurd ((q_flush hR hi hj).1 c1).1 h)
    refine z_iconst B (v := 1) dL_law_739 rfl ?_
    refine z_goto B (tgt := 744) dL_law_740 (by decide) ?_
    refine z_istore B (lv' := [(9, .int 1), (16, .int (fL_slot Ge i (nI j))), (15, .int (nI i)), (0, .ref b), (1, .ref ax), (2, .ref pz), (3, .ref pn), (4, .ref pe), (5, .ref pv), (6, .ref pl), (7, .ref px), (8, .ref ph), (10, .int (nI tn)), (13, .int (nI yy)), (14, .int (nI j))]) dL_law_744 (by decide) rfl ?_
    refine z_aload B dL_law_746 7 rfl ?_
    refine z_iload B dL_law_748 1 rfl ?_
    refine z_ifge B 757 dL_law_750 (by decide) (fun h => absurd h (Int32.not_le.mpr c1)) (fun _ => ?_)
    refine z_iconst B (v := 0) dL_law_753 rfl ?_
    refine z_goto B (tgt := 759) dL_law_754 (by decide) ?_
    refine z_iload B dL_law_759 1 rfl ?_
    refine z_ifge B 771 dL_law_761 (by decide) (fun h => absurd h (Int32.not_le.mpr c1)) (fun _ => ?_)
    refine z_aload B dL_law_764 7 rfl ?_
    refine z_iconst B (v := 0) dL_law_766 rfl ?_
    refine z_ialdn B (N := 24) (f := Ge) (k0 := 0) (v := (Ge 0)) 10 0 rfl rfl (z_vpc (k := 0) rfl (by decide)) rfl rfl dL_law_767 ?_
    refine z_goto B (tgt := 772) dL_law_768 (by decide) ?_
    refine z_iastn B (N := 24) (f := Ge) (k0 := 0) 10 0 rfl rfl (z_vpc (k := 0) rfl (by decide)) rfl (bs' := [zXo ax (az 0) sa (ak 0) (tk 0) (tc 0) X, zSa K sa f, zSO n so sc D, zCa K (sc i) ((fX4_flush_o (Cs i) (nI j)).2), zZo K az Z W, zCo K ak F O, zCo K tk Ft Ot, zCa K tc Tc, [(pz, .inl (zI K, 32, .inl Gz))], [(pn, .inl (zI K, 20, .inl Gn))], [(pe, .inl (zI K, 24, .inl (upd Ge 0 (Ge 0))))], [(pv, .inl (zI K, 24, .inl Gv))], [(pl, .inl (zI K, 24, .inl Gl))], [(px, .inl (zI K, 24, .inl Gx))], [(ph, .inl (zI K, 24, .inl Gh))], zSX K n sc Cs i]) rfl dL_law_772 ?_
    refine z_goto B (tgt := 995) dL_law_773 (by decide) ?_
    refine z_lsub [3, 4, 5, 6, 7, 8, 9, 10, 11, 0, 12] rfl ?_
    refine z_perm (bs' := [zXo ax (az 0) sa (ak 0) (tk 0) (tc 0) X, zSa K sa f, zSO n so sc D, zSC K n sc (va_up Cs i ((fX4_flush_o (Cs i) (nI j)).2)), zZo K az Z W, zCo K ak F O, zCo K tk Ft Ot, zCa K tc Tc, [(pz, .inl (zI K, 32, .inl Gz))], [(pn, .inl (zI K, 20, .inl Gn))], [(pe, .inl (zI K, 24, .inl (upd Ge 0 (Ge 0))))], [(pv, .inl (zI K, 24, .inl Gv))], [(pl, .inl (zI K, 24, .inl Gl))], [(px, .inl (zI K, 24, .inl Gx))], [(ph, .inl (zI K, 24, .inl Gh))]]) (zI_q rfl (zSC_join hi)) ?_
    refine z_widen (k' := k9 + 64) (n' := n9 + 1024) (show k9 + 0 + 0 ≤ _ by omega) (show n9 + 0 + 0 ≤ _ by omega) ?_
    exact next n f so sc X Z W D (va_up Cs i ((fX4_flush_o (Cs i) (nI j)).2)) F O Ft Ot Tc Gz Gn (upd Ge 0 (Ge 0)) Gv Gl Gx Gh ((((q_flush hR hi hj).1 c1).2).up (by omega)) hf1 hf2
  · refine z_iconst B (v := 1) dL_law_731 rfl ?_
    refine z_goto B (tgt := 736) dL_law_732 (by decide) ?_
    refine z_icne B 743 dL_law_736 (by decide) (fun _ => ?_) (fun h => absurd ((q_flush hR hi hj).2 c1).1 h)
    refine z_iconst B (v := 1) dL_law_739 rfl ?_
    refine z_goto B (tgt := 744) dL_law_740 (by decide) ?_
    refine z_istore B (lv' := [(9, .int 1), (16, .int (fL_slot Ge i (nI j))), (15, .int (nI i)), (0, .ref b), (1, .ref ax), (2, .ref pz), (3, .ref pn), (4, .ref pe), (5, .ref pv), (6, .ref pl), (7, .ref px), (8, .ref ph), (10, .int (nI tn)), (13, .int (nI yy)), (14, .int (nI j))]) dL_law_744 (by decide) rfl ?_
    refine z_aload B dL_law_746 7 rfl ?_
    refine z_iload B dL_law_748 1 rfl ?_
    refine z_ifge B 757 dL_law_750 (by decide) (fun _ => ?_) (fun h => absurd (z_s3 c1) h)
    refine z_iload B dL_law_757 1 rfl ?_
    refine z_iload B dL_law_759 1 rfl ?_
    refine z_ifge B 771 dL_law_761 (by decide) (fun _ => ?_) (fun h => absurd (z_s3 c1) h)
    refine z_iconst B (v := 0) dL_law_771 rfl ?_
    refine z_iastn B (N := 24) (f := Ge) (k0 := (fL_slot Ge i (nI j)).toNatClampNeg) 10 0 rfl rfl (z_ofN (z_slO hi4) c1) rfl (bs' := [zXo ax (az 0) sa (ak 0) (tk 0) (tc 0) X, zSa K sa f, zSO n so sc D, zCa K (sc i) ((fX4_flush_o (Cs i) (nI j)).2), zZo K az Z W, zCo K ak F O, zCo K tk Ft Ot, zCa K tc Tc, [(pz, .inl (zI K, 32, .inl Gz))], [(pn, .inl (zI K, 20, .inl Gn))], [(pe, .inl (zI K, 24, .inl (upd Ge ((fL_slot Ge i (nI j)).toNatClampNeg) 0)))], [(pv, .inl (zI K, 24, .inl Gv))], [(pl, .inl (zI K, 24, .inl Gl))], [(px, .inl (zI K, 24, .inl Gx))], [(ph, .inl (zI K, 24, .inl Gh))], zSX K n sc Cs i]) rfl dL_law_772 ?_
    refine z_goto B (tgt := 995) dL_law_773 (by decide) ?_
    refine z_lsub [3, 4, 5, 6, 7, 8, 9, 10, 11, 0, 12] rfl ?_
    refine z_perm (bs' := [zXo ax (az 0) sa (ak 0) (tk 0) (tc 0) X, zSa K sa f, zSO n so sc D, zSC K n sc (va_up Cs i ((fX4_flush_o (Cs i) (nI j)).2)), zZo K az Z W, zCo K ak F O, zCo K tk Ft Ot, zCa K tc Tc, [(pz, .inl (zI K, 32, .inl Gz))], [(pn, .inl (zI K, 20, .inl Gn))], [(pe, .inl (zI K, 24, .inl (upd Ge ((fL_slot Ge i (nI j)).toNatClampNeg) 0)))], [(pv, .inl (zI K, 24, .inl Gv))], [(pl, .inl (zI K, 24, .inl Gl))], [(px, .inl (zI K, 24, .inl Gx))], [(ph, .inl (zI K, 24, .inl Gh))]]) (zI_q rfl (zSC_join hi)) ?_
    refine z_widen (k' := k9 + 64) (n' := n9 + 1024) (show k9 + 0 + 0 ≤ _ by omega) (show n9 + 0 + 0 ≤ _ by omega) ?_
    exact next n f so sc X Z W D (va_up Cs i ((fX4_flush_o (Cs i) (nI j)).2)) F O Ft Ot Tc Gz Gn (upd Ge ((fL_slot Ge i (nI j)).toNatClampNeg) 0) Gv Gl Gx Gh ((((q_flush hR hi hj).2 c1).2).up (by omega)) hf1 hf2
