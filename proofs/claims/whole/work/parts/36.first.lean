theorem hiL_law_4 : ∀ w ∈ wsX40, w ∈ wsL_law := inlX4
theorem hiL_law_5 : ∀ w ∈ wsX50, w ∈ wsL_law := inlX5
theorem hwL_law_cl8 : Cond.classLink RL 8 RX4 ∈ wsL_law := by decide +kernel
theorem hwL_law_ins4 : Cond.instantiable RX4 13 ∈ wsL_law := by decide +kernel
theorem hwL_law_init4 : Cond.initialized RX4 ∈ wsL_law := by decide +kernel
theorem hwL_law_ml72 : Cond.methodLink RL 72 yX4_init ∈ wsL_law := by decide +kernel
theorem hwL_law_miX4_init : Cond.instanceMethod yX4_init ∈ wsL_law := by decide +kernel
theorem hwL_law_inX4_init : Cond.initialized yX4_init.cls ∈ wsL_law := by decide +kernel
theorem hwL_law_cl73 : Cond.classLink RL 73 RX5 ∈ wsL_law := by decide +kernel
theorem hwL_law_ins5 : Cond.instantiable RX5 31 ∈ wsL_law := by decide +kernel
theorem hwL_law_init5 : Cond.initialized RX5 ∈ wsL_law := by decide +kernel
theorem hwL_law_ml75 : Cond.methodLink RL 75 yX5_init ∈ wsL_law := by decide +kernel
theorem hwL_law_miX5_init : Cond.instanceMethod yX5_init ∈ wsL_law := by decide +kernel
theorem hwL_law_inX5_init : Cond.initialized yX5_init.cls ∈ wsL_law := by decide +kernel
theorem hwL_law_arrlong : Cond.arrayClass .long ∈ wsL_law := by decide +kernel
set_option maxHeartbeats 4000000 in
set_option maxRecDepth 100000 in
theorem law_first (l : Launch) (hl : l.stackTraces = false) {K : zK} {p : Program} {e : Env} {s : State} {m : MethodId} {below : List Frame} {meth : Method} {c : Code} {A : Nat → Prop} {Q : State → Prop} {ret9 : Option FieldType} {nm9 : String} {tb9 : List ExceptionTableEntry} {args : Array Value} {b L : Nat} {xs : Nat → Int32} (B : zF K p l s m args meth c A cL_law 7 RL nm9 wsL_law ret9 tb9) (hX : va_X b L xs s s.heap) (hbl : b < s.heap.size) (hbA : ¬ A b) (hL : L ≤ 2048)
    (hend : ∀ (k n : Nat) (bs : zB) (lv : List (Nat × Value)), k ≤ 601024 → n ≤ 7293034 → zW K p l e zR s m args below meth c A Q k n bs lv [.int 1] 1435) : zW K p l e zR s m args below meth c A Q 0 0 [] [(0, .ref b)] [] 0 := by
  refine z_new B (ci := 4) (fs := [.null, .null, .int 0, .int 0, .null, .int 0, .null, .null, .int 0, .int 0, .int 0, .int 0, .int 0]) hiL_law_4 tyX4_ok hwL_law_cl8 hwL_law_ins4 hwL_law_init4 rfl (by decide +kernel) (Nat.le_of_ble_eq_true rfl) (Nat.le_of_ble_eq_true rfl) dL_law_0 (fun q1 => ?_)
  refine z_dup B dL_law_3 rfl ?_
  refine z_callI B (kX4_init l hl K q1) [0] [] (br := []) (bs' := fun u2 => [(zXo q1 (u2.1 0) u2.2.1 (u2.2.2.1 0) (u2.2.2.2.1 0) (u2.2.2.2.2 0) zX0 ++ (zZo K u2.1 zZ0 zW0 ++ (zSa K u2.2.1 (fun _ => none) ++ (zCo K u2.2.2.1 (fun _ => 0) (fun _ => 0) ++ (zCo K u2.2.2.2.1 (fun _ => 0) (fun _ => 0) ++ zCa K u2.2.2.2.2 zC0)))))]) (st := [.ref q1]) (nA := 0) (zsp rfl rfl rfl) (fun _ => zsp rfl rfl rfl) gL_law_X4_init hwL_law_ml72 hwL_law_miX4_init hwL_law_inX4_init rfl rfl (by decide +kernel) ⟨Nat.le_of_ble_eq_true rfl, Nat.le_of_ble_eq_true rfl⟩ rfl rfl (Nat.le_of_ble_eq_true rfl) ⟨Nat.le_of_ble_eq_true rfl, Nat.le_of_ble_eq_true rfl⟩ dL_law_4 (fun u2 hu2 => ?_)
  refine z_astore_n B (lv' := [(1, .ref q1), (0, .ref b)]) dL_law_7 (by decide) rfl ?_
  refine z_new B (ci := 5) (fs := [.null, .null, .null, .int 0, .int 0, .int 0, .null, .null, .int 0, .int 0, .null, .null, .null, .null, .null, .int 0, .int 0, .int 0, .int 0, .int 0, .int 0, .int 0, .int 0, .int 0, .null, .int 0, .null, .null, .null, .null, .null]) hiL_law_5 tyX5_ok hwL_law_cl73 hwL_law_ins5 hwL_law_init5 rfl (by decide +kernel) (Nat.le_of_ble_eq_true rfl) (Nat.le_of_ble_eq_true rfl) dL_law_8 (fun q3 => ?_)
  refine z_dup B dL_law_11 rfl ?_
  refine z_callI B (kX5_init l hl K q3) [1] [0] (br := [(zXo q1 (u2.1 0) u2.2.1 (u2.2.2.1 0) (u2.2.2.2.1 0) (u2.2.2.2.2 0) zX0 ++ (zZo K u2.1 zZ0 zW0 ++ (zSa K u2.2.1 (fun _ => none) ++ (zCo K u2.2.2.1 (fun _ => 0) (fun _ => 0) ++ (zCo K u2.2.2.2.1 (fun _ => 0) (fun _ => 0) ++ zCa K u2.2.2.2.2 zC0)))))]) (bs' := fun u4 => [(zXo q1 (u2.1 0) u2.2.1 (u2.2.2.1 0) (u2.2.2.2.1 0) (u2.2.2.2.2 0) zX0 ++ (zZo K u2.1 zZ0 zW0 ++ (zSa K u2.2.1 (fun _ => none) ++ (zCo K u2.2.2.1 (fun _ => 0) (fun _ => 0) ++ (zCo K u2.2.2.2.1 (fun _ => 0) (fun _ => 0) ++ zCa K u2.2.2.2.2 zC0))))), zMo K u4 (fX5_init (fun _ => 0) (fun _ _ => 0)).1 (fX5_init (fun _ => 0) (fun _ _ => 0)).2]) (st := [.ref q3]) (nA := 0) (zsp rfl rfl rfl) (fun _ => zsp rfl rfl rfl) gL_law_X5_init hwL_law_ml75 hwL_law_miX5_init hwL_law_inX5_init rfl rfl (by decide +kernel) ⟨Nat.le_of_ble_eq_true rfl, Nat.le_of_ble_eq_true rfl⟩ rfl rfl (Nat.le_of_ble_eq_true rfl) ⟨Nat.le_of_ble_eq_true rfl, Nat.le_of_ble_eq_true rfl⟩ dL_law_12 (fun u4 hu4 => ?_)
  subst hu4
  refine z_astore_n B (lv' := [(2, .ref (u4 0)), (1, .ref q1), (0, .ref b)]) dL_law_15 (by decide) rfl ?_
  refine z_iconst B (v := 1) dL_law_16 rfl ?_
  refine z_newJ B hwL_law_arrlong (N := 1) (by decide) rfl (by decide) (Nat.le_of_ble_eq_true rfl) (Nat.le_of_ble_eq_true rfl) dL_law_17 (fun q5 => ?_)
  refine z_astore_n B (lv' := [(3, .ref q5), (2, .ref (u4 0)), (1, .ref q1), (0, .ref b)]) dL_law_19 (by decide) rfl ?_
  refine z_iconst B (v := 0) dL_law_20 rfl ?_
  refine z_istore B (lv' := [(4, .int 0), (3, .ref q5), (2, .ref (u4 0)), (1, .ref q1), (0, .ref b)]) dL_law_21 (by decide) rfl ?_
  refine z_lsub [4, 3, 2, 1, 0] rfl ?_
  refine z_perm (bs' := zFu K q1 u2.2.1 q5 u2.1 u2.2.2.1 u2.2.2.2.1 u2.2.2.2.2 u4 0 (fun _ => none) (fun _ => 0) (fun _ _ => 0) zX0 zZ0 zW0 (fun _ _ => 0) (fun _ _ _ => 0) (fun _ => 0) (fun _ => 0) (fun _ => 0) (fun _ => 0) zC0 zI9 zR9 (fun _ => 0)) (List.Perm.of_eq ?_) ?_
  · simp [zFu, zSO, zSC, zOu, zI9, zR9]
  · exact z_widen (k' := 592832) (n' := 7030890) (Nat.le_of_ble_eq_true rfl) (Nat.le_of_ble_eq_true rfl) (law_loop l hl B hX hbl hbA hL hend 512 0 592832 7030890 (by omega) (by omega) (Nat.le_of_ble_eq_true rfl) (Nat.le_of_ble_eq_true rfl) 0 (fun _ => none) (fun _ => 0) (fun _ _ => 0) zX0 zZ0 zW0 (fun _ _ => 0) (fun _ _ _ => 0) (fun _ => 0) (fun _ => 0) (fun _ => 0) (fun _ => 0) zC0 zI9 zR9 (fun _ => 0) rR_0 (fun a ha => absurd ha (by omega)) (fun _ _ _ => rfl))
