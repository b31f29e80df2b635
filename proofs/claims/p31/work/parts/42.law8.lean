theorem hiL_law_4 : ∀ w ∈ wsX40, w ∈ wsL_law := inlX4
theorem hwL_law_cl29 : Cond.classLink RL 29 RX4 ∈ wsL_law := by decide +kernel
theorem hwL_law_ins4 : Cond.instantiable RX4 13 ∈ wsL_law := by decide +kernel
theorem hwL_law_init4 : Cond.initialized RX4 ∈ wsL_law := by decide +kernel
theorem hwL_law_ml94 : Cond.methodLink RL 94 yX4_init ∈ wsL_law := by decide +kernel
theorem hwL_law_miX4_init : Cond.instanceMethod yX4_init ∈ wsL_law := by decide +kernel
theorem hwL_law_inX4_init : Cond.initialized yX4_init.cls ∈ wsL_law := by decide +kernel
theorem hwL_law_arrint : Cond.arrayClass .int ∈ wsL_law := by decide +kernel
set_option maxHeartbeats 4000000 in
set_option maxRecDepth 100000 in
theorem law_first (l : Launch) (hl : l.stackTraces = false) {K : zK} {p : Program} {e : Env} {s : State} {m : MethodId} {below : List Frame} {meth : Method} {c : Code} {A : Nat → Prop} {Q : State → Prop} {ret9 : Option FieldType} {nm9 : String} {tb9 : List ExceptionTableEntry} {args : Array Value} {b L : Nat} {xs : Nat → Int32} (B : zF K p l s m args meth c A cL_law 19 RL nm9 wsL_law ret9 tb9) (hX : va_X b L xs s s.heap) (hbl : b < s.heap.size) (hbA : ¬ A b) (hL : L ≤ 260) (hend : ∀ (k n : Nat) (bs : zB) (lv : List (Nat × Value)), k ≤ 600130 → n ≤ 7301080 → zW K p l e zR s m args below meth c A Q k n bs lv [.int 1] 1032) : zW K p l e zR s m args below meth c A Q 0 0 [] [(0, .ref b)] [] 0 := by
  refine z_new B (ci := 4) (fs := [.null, .null, .int 0, .int 0, .null, .int 0, .null, .null, .int 0, .int 0, .int 0, .int 0, .int 0]) hiL_law_4 tyX4_ok hwL_law_cl29 hwL_law_ins4 hwL_law_init4 rfl (by decide +kernel) (Nat.le_of_ble_eq_true rfl) (Nat.le_of_ble_eq_true rfl) dL_law_0 (fun q1 => ?_)
  refine z_dup B dL_law_3 rfl ?_
  refine z_callI B (kX4_init l hl K q1) [0] [] (br := []) (bs' := fun u2 => [(zXo q1 (u2.1 0) u2.2.1 (u2.2.2.1 0) (u2.2.2.2.1 0) (u2.2.2.2.2 0) zX0 ++ (zZo K u2.1 zZ0 zW0 ++ (zSa K u2.2.1 (fun _ => none) ++ (zCo K u2.2.2.1 (fun _ => 0) (fun _ => 0) ++ (zCo K u2.2.2.2.1 (fun _ => 0) (fun _ => 0) ++ zCa K u2.2.2.2.2 zC0)))))]) (st := [.ref q1]) (nA := 0) (zsp rfl rfl rfl) (fun _ => zsp rfl rfl rfl) gL_law_X4_init hwL_law_ml94 hwL_law_miX4_init hwL_law_inX4_init rfl rfl (by decide +kernel) ⟨Nat.le_of_ble_eq_true rfl, Nat.le_of_ble_eq_true rfl⟩ rfl rfl (Nat.le_of_ble_eq_true rfl) ⟨Nat.le_of_ble_eq_true rfl, Nat.le_of_ble_eq_true rfl⟩ dL_law_4 (fun u2 hu2 => ?_)
  refine z_astore_n B (lv' := [(1, .ref q1), (0, .ref b)]) dL_law_7 (by decide) rfl ?_
  refine z_bipush B (v := 32) dL_law_8 rfl ?_
  refine z_newI B hwL_law_arrint (N := 32) (by decide) rfl (by decide) (Nat.le_of_ble_eq_true rfl) (Nat.le_of_ble_eq_true rfl) dL_law_10 (fun q3 => ?_)
  refine z_astore_n B (lv' := [(2, .ref q3), (1, .ref q1), (0, .ref b)]) dL_law_12 (by decide) rfl ?_
  refine z_bipush B (v := 20) dL_law_13 rfl ?_
  refine z_newI B hwL_law_arrint (N := 20) (by decide) rfl (by decide) (Nat.le_of_ble_eq_true rfl) (Nat.le_of_ble_eq_true rfl) dL_law_15 (fun q4 => ?_)
  refine z_astore_n B (lv' := [(3, .ref q4), (2, .ref q3), (1, .ref q1), (0, .ref b)]) dL_law_17 (by decide) rfl ?_
  refine z_bipush B (v := 24) dL_law_18 rfl ?_
  refine z_newI B hwL_law_arrint (N := 24) (by decide) rfl (by decide) (Nat.le_of_ble_eq_true rfl) (Nat.le_of_ble_eq_true rfl) dL_law_20 (fun q5 => ?_)
  refine z_astore B (lv' := [(4, .ref q5), (3, .ref q4), (2, .ref q3), (1, .ref q1), (0, .ref b)]) dL_law_22 (by decide) rfl ?_
  refine z_bipush B (v := 24) dL_law_24 rfl ?_
  refine z_newI B hwL_law_arrint (N := 24) (by decide) rfl (by decide) (Nat.le_of_ble_eq_true rfl) (Nat.le_of_ble_eq_true rfl) dL_law_26 (fun q6 => ?_)
  refine z_astore B (lv' := [(5, .ref q6), (4, .ref q5), (3, .ref q4), (2, .ref q3), (1, .ref q1), (0, .ref b)]) dL_law_28 (by decide) rfl ?_
  refine z_bipush B (v := 24) dL_law_30 rfl ?_
  refine z_newI B hwL_law_arrint (N := 24) (by decide) rfl (by decide) (Nat.le_of_ble_eq_true rfl) (Nat.le_of_ble_eq_true rfl) dL_law_32 (fun q7 => ?_)
  refine z_astore B (lv' := [(6, .ref q7), (5, .ref q6), (4, .ref q5), (3, .ref q4), (2, .ref q3), (1, .ref q1), (0, .ref b)]) dL_law_34 (by decide) rfl ?_
  refine z_bipush B (v := 24) dL_law_36 rfl ?_
  refine z_newI B hwL_law_arrint (N := 24) (by decide) rfl (by decide) (Nat.le_of_ble_eq_true rfl) (Nat.le_of_ble_eq_true rfl) dL_law_38 (fun q8 => ?_)
  refine z_astore B (lv' := [(7, .ref q8), (6, .ref q7), (5, .ref q6), (4, .ref q5), (3, .ref q4), (2, .ref q3), (1, .ref q1), (0, .ref b)]) dL_law_40 (by decide) rfl ?_
  refine z_bipush B (v := 24) dL_law_42 rfl ?_
  refine z_newI B hwL_law_arrint (N := 24) (by decide) rfl (by decide) (Nat.le_of_ble_eq_true rfl) (Nat.le_of_ble_eq_true rfl) dL_law_44 (fun q9 => ?_)
  refine z_astore B (lv' := [(8, .ref q9), (7, .ref q8), (6, .ref q7), (5, .ref q6), (4, .ref q5), (3, .ref q4), (2, .ref q3), (1, .ref q1), (0, .ref b)]) dL_law_46 (by decide) rfl ?_
  refine z_aload_n B dL_law_48 5 rfl ?_
  refine z_iconst B (v := 1) dL_law_49 rfl ?_
  refine z_bipush B (v := 30) dL_law_50 rfl ?_
  refine z_iastn B (N := 20) (f := (fun _ => 0)) (k0 := 1) 2 0 rfl rfl (z_vpc (k := 1) rfl (by decide)) rfl (bs' := [(zXo q1 (u2.1 0) u2.2.1 (u2.2.2.1 0) (u2.2.2.2.1 0) (u2.2.2.2.2 0) zX0 ++ (zZo K u2.1 zZ0 zW0 ++ (zSa K u2.2.1 (fun _ => none) ++ (zCo K u2.2.2.1 (fun _ => 0) (fun _ => 0) ++ (zCo K u2.2.2.2.1 (fun _ => 0) (fun _ => 0) ++ zCa K u2.2.2.2.2 zC0))))), [(q3, .inl (zI K, 32, .inl (fun _ => 0)))], [(q4, .inl (zI K, 20, .inl (upd (fun _ => 0) 1 30)))], [(q5, .inl (zI K, 24, .inl (fun _ => 0)))], [(q6, .inl (zI K, 24, .inl (fun _ => 0)))], [(q7, .inl (zI K, 24, .inl (fun _ => 0)))], [(q8, .inl (zI K, 24, .inl (fun _ => 0)))], [(q9, .inl (zI K, 24, .inl (fun _ => 0)))]]) rfl dL_law_52 ?_
  refine z_aload_n B dL_law_53 5 rfl ?_
  refine z_iconst B (v := 2) dL_law_54 rfl ?_
  refine z_iconst B (v := 1) dL_law_55 rfl ?_
  refine z_iastn B (N := 20) (f := (upd (fun _ => 0) 1 30)) (k0 := 2) 2 0 rfl rfl (z_vpc (k := 2) rfl (by decide)) rfl (bs' := [(zXo q1 (u2.1 0) u2.2.1 (u2.2.2.1 0) (u2.2.2.2.1 0) (u2.2.2.2.2 0) zX0 ++ (zZo K u2.1 zZ0 zW0 ++ (zSa K u2.2.1 (fun _ => none) ++ (zCo K u2.2.2.1 (fun _ => 0) (fun _ => 0) ++ (zCo K u2.2.2.2.1 (fun _ => 0) (fun _ => 0) ++ zCa K u2.2.2.2.2 zC0))))), [(q3, .inl (zI K, 32, .inl (fun _ => 0)))], [(q4, .inl (zI K, 20, .inl (upd (upd (fun _ => 0) 1 30) 2 1)))], [(q5, .inl (zI K, 24, .inl (fun _ => 0)))], [(q6, .inl (zI K, 24, .inl (fun _ => 0)))], [(q7, .inl (zI K, 24, .inl (fun _ => 0)))], [(q8, .inl (zI K, 24, .inl (fun _ => 0)))], [(q9, .inl (zI K, 24, .inl (fun _ => 0)))]]) rfl dL_law_56 ?_
  refine z_aload_n B dL_law_57 5 rfl ?_
  refine z_bipush B (v := 15) dL_law_58 rfl ?_
  refine z_bipush B (v := (-3)) dL_law_60 rfl ?_
  refine z_iastn B (N := 20) (f := (upd (upd (fun _ => 0) 1 30) 2 1)) (k0 := 15) 2 0 rfl rfl (z_vpc (k := 15) rfl (by decide)) rfl (bs' := [(zXo q1 (u2.1 0) u2.2.1 (u2.2.2.1 0) (u2.2.2.2.1 0) (u2.2.2.2.2 0) zX0 ++ (zZo K u2.1 zZ0 zW0 ++ (zSa K u2.2.1 (fun _ => none) ++ (zCo K u2.2.2.1 (fun _ => 0) (fun _ => 0) ++ (zCo K u2.2.2.2.1 (fun _ => 0) (fun _ => 0) ++ zCa K u2.2.2.2.2 zC0))))), [(q3, .inl (zI K, 32, .inl (fun _ => 0)))], [(q4, .inl (zI K, 20, .inl (upd (upd (upd (fun _ => 0) 1 30) 2 1) 15 (-3))))], [(q5, .inl (zI K, 24, .inl (fun _ => 0)))], [(q6, .inl (zI K, 24, .inl (fun _ => 0)))], [(q7, .inl (zI K, 24, .inl (fun _ => 0)))], [(q8, .inl (zI K, 24, .inl (fun _ => 0)))], [(q9, .inl (zI K, 24, .inl (fun _ => 0)))]]) rfl dL_law_62 ?_
  refine z_lsub [8, 7, 6, 5, 4, 3, 2, 1, 0] rfl ?_
  refine z_perm (bs' := [zXo q1 ((u2.1) 0) (u2.2.1) ((u2.2.2.1) 0) ((u2.2.2.2.1) 0) ((u2.2.2.2.2) 0) zX0, zZo K (u2.1) zZ0 zW0, zSa K (u2.2.1) (fun _ => none), zSO 0 (fun _ => 0) (fun _ _ => 0) (fun _ _ => 0), zSC K 0 (fun _ _ => 0) (fun _ _ _ => 0), zCo K (u2.2.2.1) (fun _ => 0) (fun _ => 0), zCo K (u2.2.2.2.1) (fun _ => 0) (fun _ => 0), zCa K (u2.2.2.2.2) zC0, [(q3, .inl (zI K, 32, .inl (fun _ => 0)))], [(q4, .inl (zI K, 20, .inl (upd (upd (upd (fun _ => 0) 1 30) 2 1) 15 (-3))))], [(q5, .inl (zI K, 24, .inl (fun _ => 0)))], [(q6, .inl (zI K, 24, .inl (fun _ => 0)))], [(q7, .inl (zI K, 24, .inl (fun _ => 0)))], [(q8, .inl (zI K, 24, .inl (fun _ => 0)))], [(q9, .inl (zI K, 24, .inl (fun _ => 0)))]]) (List.Perm.of_eq ?_) ?_
  · simp [zSO, zSC]
  refine z_drop (bc := [zXo q1 ((u2.1) 0) (u2.2.1) ((u2.2.2.1) 0) ((u2.2.2.2.1) 0) ((u2.2.2.2.2) 0) zX0, zSa K (u2.2.1) (fun _ => none), zSO 0 (fun _ => 0) (fun _ _ => 0) (fun _ _ => 0), zSC K 0 (fun _ _ => 0) (fun _ _ _ => 0), zZo K (u2.1) zZ0 zW0, zCo K (u2.2.2.1) (fun _ => 0) (fun _ => 0), zCo K (u2.2.2.2.1) (fun _ => 0) (fun _ => 0), zCa K (u2.2.2.2.2) zC0, [(q3, .inl (zI K, 32, .inl (fun _ => 0)))], [(q4, .inl (zI K, 20, .inl (upd (upd (upd (fun _ => 0) 1 30) 2 1) 15 (-3))))], [(q5, .inl (zI K, 24, .inl (fun _ => 0)))], [(q6, .inl (zI K, 24, .inl (fun _ => 0)))], [(q7, .inl (zI K, 24, .inl (fun _ => 0)))], [(q8, .inl (zI K, 24, .inl (fun _ => 0)))], [(q9, .inl (zI K, 24, .inl (fun _ => 0)))]]) (br := []) (isC := [0, 2, 3, 4, 1, 5, 6, 7, 8, 9, 10, 11, 12, 13, 14]) (isR := []) (zspN 15 rfl rfl rfl (by decide +kernel)) ?_
  refine z_widen (k' := 64) (n' := 1024) (Nat.le_of_ble_eq_true rfl) (Nat.le_of_ble_eq_true rfl) ?_
  refine la_one l hl B (tn := 0) (T := 0) (Nat.le_of_ble_eq_true rfl) (Nat.le_of_ble_eq_true rfl) 0 (fun _ => none) (fun _ => 0) (fun _ _ => 0) zX0 zZ0 zW0 (fun _ _ => 0) (fun _ _ _ => 0) (fun _ => 0) (fun _ => 0) (fun _ => 0) (fun _ => 0) zC0 (fun _ => 0) (upd (upd (upd (fun _ => 0) 1 30) 2 1) 15 (-3)) (fun _ => 0) (fun _ => 0) (fun _ => 0) (fun _ => 0) (fun _ => 0) rA_0 (fun a ha => absurd ha (by omega)) ?_
  exact la_loop l hl B hX hbl hbA hL hend 90 0 64 1024 0 (fun _ => none) (fun _ => 0) (fun _ _ => 0) zX0 zZ0 zW0 (fun _ _ => 0) (fun _ _ _ => 0) (fun _ => 0) (fun _ => 0) (fun _ => 0) (fun _ => 0) zC0 (fun _ => 0) (upd (upd (upd (fun _ => 0) 1 30) 2 1) 15 (-3)) (fun _ => 0) (fun _ => 0) (fun _ => 0) (fun _ => 0) (fun _ => 0) rfl (Nat.le_of_ble_eq_true rfl) (Nat.le_of_ble_eq_true rfl) rA_0 (fun a ha => absurd ha (by omega)) (fun _ _ _ => rfl)
