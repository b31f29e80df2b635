/-- a new cache's rows, a new zone's -/
def zC0 : Nat → Nat → Int32 := va_up (fun _ _ => 0) 0 (fJ7_fill_53178 (fun _ => 0) 3)
def zZ0 : Nat → Nat → Int32 := va_up (va_up (fun _ _ => 0) 0 (fJ7_fill_53178 (fun _ => 0) 2)) 1 (fJ7_fill_53178 (fun _ => 0) (-3))
def zW0 : Nat → Int32 := va_up (va_up (fun _ => 0) 3 30) 4 1
def zX0 : Nat → Int32 := va_up (fun _ => 0) 5 (-3)
theorem hwX0_init_ol : Cond.methodLink RX0 3 objectInit ∈ wsX0_init := by decide +kernel
theorem hwX0_init_oi : Cond.instanceMethod objectInit ∈ wsX0_init := by decide +kernel
theorem hwX0_init_oc : Cond.code objectInit ⟨#[0xb1]⟩ 1 none ∈ wsX0_init := by decide +kernel
theorem hwX0_init_arrint : Cond.arrayClass .int ∈ wsX0_init := by decide +kernel
theorem hiX0_init_0 : ∀ w ∈ wsX00, w ∈ wsX0_init := by decide +kernel
theorem hfX0_init_9 : Cond.fieldLink RX0 9 "ResolverFleet$Cache" "kinds" "[I" ∈ wsX0_init := by decide +kernel
theorem hfX0_init_15 : Cond.fieldLink RX0 15 "ResolverFleet$Cache" "values" "[I" ∈ wsX0_init := by decide +kernel
theorem hfX0_init_18 : Cond.fieldLink RX0 18 "ResolverFleet$Cache" "lives" "[I" ∈ wsX0_init := by decide +kernel
theorem hfX0_init_21 : Cond.fieldLink RX0 21 "ResolverFleet$Cache" "ends" "[I" ∈ wsX0_init := by decide +kernel
theorem hfX0_init_24 : Cond.fieldLink RX0 24 "ResolverFleet$Cache" "hits" "[I" ∈ wsX0_init := by decide +kernel
set_option maxHeartbeats 4000000 in
set_option maxRecDepth 100000 in
theorem kX0_init (l : Launch) (hl : l.stackTraces = false) (K : zK) (a9 : Nat) : zMeN l K yX0_init wsX0_init { frames := 1, cells := 5, slots := 80, locals := 23 } [.ref a9] [[(a9, .inr (0, [.null, .null, .null, .null, .null, .int 0]))]] (fun u : Nat → Nat => ((none : Option Value), ([zCa K u zC0] : zB))) (fun u : Nat → Nat => u 0 = a9) zNo := by
  refine zMeN.of (cc := cX0_init) (maxL := 1) (ret := none) (own := RX0) (nm := "<init>") hl (by decide +kernel) rfl rfl rfl (Nat.le_of_ble_eq_true rfl) (lv := [(0, .ref a9)]) rfl ?_
  intro p e s m args below meth c A B
  refine z_aload_n B dX0_init_0 0 rfl ?_
  refine z_objInit B hwX0_init_ol hwX0_init_oi hwX0_init_oc (Nat.le_of_ble_eq_true rfl) (Nat.le_of_ble_eq_true rfl) dX0_init_1 ?_
  refine z_aload_n B dX0_init_4 0 rfl ?_
  refine z_bipush B (v := 16) dX0_init_5 rfl ?_
  refine z_newI B hwX0_init_arrint (N := 16) (by decide) rfl (by decide) (Nat.le_of_ble_eq_true rfl) (Nat.le_of_ble_eq_true rfl) dX0_init_7 (fun q1 => ?_)
  refine z_putF B 0 0 0 hiX0_init_0 hfX0_init_9 tyX0_ok nmX0 rfl rfl rfl (by decide) rfl rfl rfl rfl rfl rfl rfl rfl rfl (Nat.le_of_ble_eq_true rfl) (bs' := [[(a9, .inr (0, [.ref q1, .null, .null, .null, .null, .int 0]))], [(q1, .inl (zI K, 16, .inl (fun _ => 0)))]]) rfl dX0_init_9 ?_
  refine z_aload_n B dX0_init_12 0 rfl ?_
  refine z_bipush B (v := 16) dX0_init_13 rfl ?_
  refine z_newI B hwX0_init_arrint (N := 16) (by decide) rfl (by decide) (Nat.le_of_ble_eq_true rfl) (Nat.le_of_ble_eq_true rfl) dX0_init_15 (fun q2 => ?_)
  refine z_putF B 0 0 1 hiX0_init_0 hfX0_init_15 tyX0_ok nmX0 rfl rfl rfl (by decide) rfl rfl rfl rfl rfl rfl rfl rfl rfl (Nat.le_of_ble_eq_true rfl) (bs' := [[(a9, .inr (0, [.ref q1, .ref q2, .null, .null, .null, .int 0]))], [(q1, .inl (zI K, 16, .inl (fun _ => 0)))], [(q2, .inl (zI K, 16, .inl (fun _ => 0)))]]) rfl dX0_init_17 ?_
  refine z_aload_n B dX0_init_20 0 rfl ?_
  refine z_bipush B (v := 16) dX0_init_21 rfl ?_
  refine z_newI B hwX0_init_arrint (N := 16) (by decide) rfl (by decide) (Nat.le_of_ble_eq_true rfl) (Nat.le_of_ble_eq_true rfl) dX0_init_23 (fun q3 => ?_)
  refine z_putF B 0 0 2 hiX0_init_0 hfX0_init_18 tyX0_ok nmX0 rfl rfl rfl (by decide) rfl rfl rfl rfl rfl rfl rfl rfl rfl (Nat.le_of_ble_eq_true rfl) (bs' := [[(a9, .inr (0, [.ref q1, .ref q2, .ref q3, .null, .null, .int 0]))], [(q1, .inl (zI K, 16, .inl (fun _ => 0)))], [(q2, .inl (zI K, 16, .inl (fun _ => 0)))], [(q3, .inl (zI K, 16, .inl (fun _ => 0)))]]) rfl dX0_init_25 ?_
  refine z_aload_n B dX0_init_28 0 rfl ?_
  refine z_bipush B (v := 16) dX0_init_29 rfl ?_
  refine z_newI B hwX0_init_arrint (N := 16) (by decide) rfl (by decide) (Nat.le_of_ble_eq_true rfl) (Nat.le_of_ble_eq_true rfl) dX0_init_31 (fun q4 => ?_)
  refine z_putF B 0 0 3 hiX0_init_0 hfX0_init_21 tyX0_ok nmX0 rfl rfl rfl (by decide) rfl rfl rfl rfl rfl rfl rfl rfl rfl (Nat.le_of_ble_eq_true rfl) (bs' := [[(a9, .inr (0, [.ref q1, .ref q2, .ref q3, .ref q4, .null, .int 0]))], [(q1, .inl (zI K, 16, .inl (fun _ => 0)))], [(q2, .inl (zI K, 16, .inl (fun _ => 0)))], [(q3, .inl (zI K, 16, .inl (fun _ => 0)))], [(q4, .inl (zI K, 16, .inl (fun _ => 0)))]]) rfl dX0_init_33 ?_
  refine z_aload_n B dX0_init_36 0 rfl ?_
  refine z_bipush B (v := 16) dX0_init_37 rfl ?_
  refine z_newI B hwX0_init_arrint (N := 16) (by decide) rfl (by decide) (Nat.le_of_ble_eq_true rfl) (Nat.le_of_ble_eq_true rfl) dX0_init_39 (fun q5 => ?_)
  refine z_putF B 0 0 4 hiX0_init_0 hfX0_init_24 tyX0_ok nmX0 rfl rfl rfl (by decide) rfl rfl rfl rfl rfl rfl rfl rfl rfl (Nat.le_of_ble_eq_true rfl) (bs' := [[(a9, .inr (0, [.ref q1, .ref q2, .ref q3, .ref q4, .ref q5, .int 0]))], [(q1, .inl (zI K, 16, .inl (fun _ => 0)))], [(q2, .inl (zI K, 16, .inl (fun _ => 0)))], [(q3, .inl (zI K, 16, .inl (fun _ => 0)))], [(q4, .inl (zI K, 16, .inl (fun _ => 0)))], [(q5, .inl (zI K, 16, .inl (fun _ => 0)))]]) rfl dX0_init_41 ?_
  refine z_aload_n B dX0_init_44 0 rfl ?_
  refine z_get B (v := .ref q1) 0 0 0 hiX0_init_0 hfX0_init_9 rfl rfl rfl (by decide) rfl rfl rfl rfl dX0_init_45 ?_
  refine z_iconst B (v := 3) dX0_init_48 rfl ?_
  refine z_S0 B (kJ7_fill_53178 l hl K q1 (fun _ => 0) 3) [1] [0, 2, 3, 4, 5] (br := [[(a9, .inr (0, [.ref q1, .ref q2, .ref q3, .ref q4, .ref q5, .int 0]))], [(q2, .inl (zI K, 16, .inl (fun _ => 0)))], [(q3, .inl (zI K, 16, .inl (fun _ => 0)))], [(q4, .inl (zI K, 16, .inl (fun _ => 0)))], [(q5, .inl (zI K, 16, .inl (fun _ => 0)))]]) (bs' := [[(a9, .inr (0, [.ref q1, .ref q2, .ref q3, .ref q4, .ref q5, .int 0]))], [(q1, .inl (zI K, 16, .inl (fJ7_fill_53178 (fun _ => 0) 3)))], [(q2, .inl (zI K, 16, .inl (fun _ => 0)))], [(q3, .inl (zI K, 16, .inl (fun _ => 0)))], [(q4, .inl (zI K, 16, .inl (fun _ => 0)))], [(q5, .inl (zI K, 16, .inl (fun _ => 0)))]]) (st := []) (nA := 2) (zsp rfl rfl rfl) (zsp rfl rfl rfl) gX0_init_J7_fill_53178 rfl (by decide +kernel) ⟨Nat.le_of_ble_eq_true rfl, Nat.le_of_ble_eq_true rfl⟩ rfl rfl (Nat.le_of_ble_eq_true rfl) ⟨Nat.le_of_ble_eq_true rfl, Nat.le_of_ble_eq_true rfl⟩ dX0_init_49 z_noX (fun _ => ?_)
  exact z_ret0 B dX0_init_52 (fun i => ([a9, q1, q2, q3, q4, q5] : List Nat).getD i 0) rfl (Nat.le_of_ble_eq_true rfl) (Nat.le_of_ble_eq_true rfl) rfl rfl
theorem hwX1_init_ol : Cond.methodLink RX1 3 objectInit ∈ wsX1_init := by decide +kernel
theorem hwX1_init_oi : Cond.instanceMethod objectInit ∈ wsX1_init := by decide +kernel
theorem hwX1_init_oc : Cond.code objectInit ⟨#[0xb1]⟩ 1 none ∈ wsX1_init := by decide +kernel
theorem hwX1_init_arrint : Cond.arrayClass .int ∈ wsX1_init := by decide +kernel
theorem hiX1_init_1 : ∀ w ∈ wsX10, w ∈ wsX1_init := by decide +kernel
theorem hfX1_init_9 : Cond.fieldLink RX1 9 "ResolverFleet$Course" "freshNames" "[I" ∈ wsX1_init := by decide +kernel
set_option maxHeartbeats 4000000 in
set_option maxRecDepth 100000 in
theorem kX1_init (l : Launch) (hl : l.stackTraces = false) (K : zK) (a9 : Nat) : zMeN l K yX1_init wsX1_init { frames := 1, cells := 1, slots := 5, locals := 12 } [.ref a9] [[(a9, .inr (1, [.null, .int 0, .int 0, .int 0, .int 0, .int 0]))]] (fun u : Nat → Nat => ((none : Option Value), ([zCo K u (fun _ => 0) (fun _ => 0)] : zB))) (fun u : Nat → Nat => u 0 = a9) zNo := by
  refine zMeN.of (cc := cX1_init) (maxL := 1) (ret := none) (own := RX1) (nm := "<init>") hl (by decide +kernel) rfl rfl rfl (Nat.le_of_ble_eq_true rfl) (lv := [(0, .ref a9)]) rfl ?_
  intro p e s m args below meth c A B
  refine z_aload_n B dX1_init_0 0 rfl ?_
  refine z_objInit B hwX1_init_ol hwX1_init_oi hwX1_init_oc (Nat.le_of_ble_eq_true rfl) (Nat.le_of_ble_eq_true rfl) dX1_init_1 ?_
  refine z_aload_n B dX1_init_4 0 rfl ?_
  refine z_iconst B (v := 5) dX1_init_5 rfl ?_
  refine z_newI B hwX1_init_arrint (N := 5) (by decide) rfl (by decide) (Nat.le_of_ble_eq_true rfl) (Nat.le_of_ble_eq_true rfl) dX1_init_6 (fun q1 => ?_)
  refine z_putF B 0 0 0 hiX1_init_1 hfX1_init_9 tyX1_ok nmX1 rfl rfl rfl (by decide) rfl rfl rfl rfl rfl rfl rfl rfl rfl (Nat.le_of_ble_eq_true rfl) (bs' := [[(a9, .inr (1, [.ref q1, .int 0, .int 0, .int 0, .int 0, .int 0]))], [(q1, .inl (zI K, 5, .inl (fun _ => 0)))]]) rfl dX1_init_8 ?_
  exact z_ret0 B dX1_init_11 (fun i => ([a9, q1] : List Nat).getD i 0) rfl (Nat.le_of_ble_eq_true rfl) (Nat.le_of_ble_eq_true rfl) rfl rfl
theorem hwX3_init_ol : Cond.methodLink RX3 3 objectInit ∈ wsX3_init := by decide +kernel
theorem hwX3_init_oi : Cond.instanceMethod objectInit ∈ wsX3_init := by decide +kernel
theorem hwX3_init_oc : Cond.code objectInit ⟨#[0xb1]⟩ 1 none ∈ wsX3_init := by decide +kernel
theorem hwX3_init_arrint : Cond.arrayClass .int ∈ wsX3_init := by decide +kernel
theorem hiX3_init_3 : ∀ w ∈ wsX30, w ∈ wsX3_init := by decide +kernel
theorem hfX3_init_9 : Cond.fieldLink RX3 9 "ResolverFleet$Zone" "kinds" "[I" ∈ wsX3_init := by decide +kernel
theorem hfX3_init_15 : Cond.fieldLink RX3 15 "ResolverFleet$Zone" "values" "[I" ∈ wsX3_init := by decide +kernel
theorem hfX3_init_18 : Cond.fieldLink RX3 18 "ResolverFleet$Zone" "lives" "[I" ∈ wsX3_init := by decide +kernel
theorem hfX3_init_21 : Cond.fieldLink RX3 21 "ResolverFleet$Zone" "bound" "I" ∈ wsX3_init := by decide +kernel
theorem hfX3_init_25 : Cond.fieldLink RX3 25 "ResolverFleet$Zone" "isUp" "Z" ∈ wsX3_init := by decide +kernel
set_option maxHeartbeats 4000000 in
set_option maxRecDepth 100000 in
theorem kX3_init (l : Launch) (hl : l.stackTraces = false) (K : zK) (a9 : Nat) : zMeN l K yX3_init wsX3_init { frames := 1, cells := 3, slots := 48, locals := 23 } [.ref a9] [[(a9, .inr (3, [.null, .null, .null, .int 0, .int 0]))]] (fun u : Nat → Nat => ((none : Option Value), ([zZo K u zZ0 zW0] : zB))) (fun u : Nat → Nat => u 0 = a9) zNo := by
  refine zMeN.of (cc := cX3_init) (maxL := 1) (ret := none) (own := RX3) (nm := "<init>") hl (by decide +kernel) rfl rfl rfl (Nat.le_of_ble_eq_true rfl) (lv := [(0, .ref a9)]) rfl ?_
  intro p e s m args below meth c A B
  refine z_aload_n B dX3_init_0 0 rfl ?_
  refine z_objInit B hwX3_init_ol hwX3_init_oi hwX3_init_oc (Nat.le_of_ble_eq_true rfl) (Nat.le_of_ble_eq_true rfl) dX3_init_1 ?_
  refine z_aload_n B dX3_init_4 0 rfl ?_
  refine z_bipush B (v := 16) dX3_init_5 rfl ?_
  refine z_newI B hwX3_init_arrint (N := 16) (by decide) rfl (by decide) (Nat.le_of_ble_eq_true rfl) (Nat.le_of_ble_eq_true rfl) dX3_init_7 (fun q1 => ?_)
  refine z_putF B 0 0 0 hiX3_init_3 hfX3_init_9 tyX3_ok nmX3 rfl rfl rfl (by decide) rfl rfl rfl rfl rfl rfl rfl rfl rfl (Nat.le_of_ble_eq_true rfl) (bs' := [[(a9, .inr (3, [.ref q1, .null, .null, .int 0, .int 0]))], [(q1, .inl (zI K, 16, .inl (fun _ => 0)))]]) rfl dX3_init_9 ?_
  refine z_aload_n B dX3_init_12 0 rfl ?_
  refine z_bipush B (v := 16) dX3_init_13 rfl ?_
  refine z_newI B hwX3_init_arrint (N := 16) (by decide) rfl (by decide) (Nat.le_of_ble_eq_true rfl) (Nat.le_of_ble_eq_true rfl) dX3_init_15 (fun q2 => ?_)
  refine z_putF B 0 0 1 hiX3_init_3 hfX3_init_15 tyX3_ok nmX3 rfl rfl rfl (by decide) rfl rfl rfl rfl rfl rfl rfl rfl rfl (Nat.le_of_ble_eq_true rfl) (bs' := [[(a9, .inr (3, [.ref q1, .ref q2, .null, .int 0, .int 0]))], [(q1, .inl (zI K, 16, .inl (fun _ => 0)))], [(q2, .inl (zI K, 16, .inl (fun _ => 0)))]]) rfl dX3_init_17 ?_
  refine z_aload_n B dX3_init_20 0 rfl ?_
  refine z_bipush B (v := 16) dX3_init_21 rfl ?_
  refine z_newI B hwX3_init_arrint (N := 16) (by decide) rfl (by decide) (Nat.le_of_ble_eq_true rfl) (Nat.le_of_ble_eq_true rfl) dX3_init_23 (fun q3 => ?_)
  refine z_putF B 0 0 2 hiX3_init_3 hfX3_init_18 tyX3_ok nmX3 rfl rfl rfl (by decide) rfl rfl rfl rfl rfl rfl rfl rfl rfl (Nat.le_of_ble_eq_true rfl) (bs' := [[(a9, .inr (3, [.ref q1, .ref q2, .ref q3, .int 0, .int 0]))], [(q1, .inl (zI K, 16, .inl (fun _ => 0)))], [(q2, .inl (zI K, 16, .inl (fun _ => 0)))], [(q3, .inl (zI K, 16, .inl (fun _ => 0)))]]) rfl dX3_init_25 ?_
  refine z_aload_n B dX3_init_28 0 rfl ?_
  refine z_bipush B (v := 30) dX3_init_29 rfl ?_
  refine z_put B 0 0 3 hiX3_init_3 hfX3_init_21 tyX3_ok nmX3 rfl rfl rfl (by decide) rfl rfl rfl rfl rfl rfl rfl (Nat.le_of_ble_eq_true rfl) (bs' := [[(a9, .inr (3, [.ref q1, .ref q2, .ref q3, .int 30, .int 0]))], [(q1, .inl (zI K, 16, .inl (fun _ => 0)))], [(q2, .inl (zI K, 16, .inl (fun _ => 0)))], [(q3, .inl (zI K, 16, .inl (fun _ => 0)))]]) rfl dX3_init_31 ?_
  refine z_aload_n B dX3_init_34 0 rfl ?_
  refine z_iconst B (v := 1) dX3_init_35 rfl ?_
  refine z_put B 0 0 4 hiX3_init_3 hfX3_init_25 tyX3_ok nmX3 rfl rfl rfl (by decide) rfl rfl rfl rfl rfl rfl rfl (Nat.le_of_ble_eq_true rfl) (bs' := [[(a9, .inr (3, [.ref q1, .ref q2, .ref q3, .int 30, .int 1]))], [(q1, .inl (zI K, 16, .inl (fun _ => 0)))], [(q2, .inl (zI K, 16, .inl (fun _ => 0)))], [(q3, .inl (zI K, 16, .inl (fun _ => 0)))]]) rfl dX3_init_36 ?_
  refine z_aload_n B dX3_init_39 0 rfl ?_
  refine z_get B (v := .ref q1) 0 0 0 hiX3_init_3 hfX3_init_9 rfl rfl rfl (by decide) rfl rfl rfl rfl dX3_init_40 ?_
  refine z_iconst B (v := 2) dX3_init_43 rfl ?_
  refine z_S0 B (kJ7_fill_53178 l hl K q1 (fun _ => 0) 2) [1] [0, 2, 3] (br := [[(a9, .inr (3, [.ref q1, .ref q2, .ref q3, .int 30, .int 1]))], [(q2, .inl (zI K, 16, .inl (fun _ => 0)))], [(q3, .inl (zI K, 16, .inl (fun _ => 0)))]]) (bs' := [[(a9, .inr (3, [.ref q1, .ref q2, .ref q3, .int 30, .int 1]))], [(q1, .inl (zI K, 16, .inl (fJ7_fill_53178 (fun _ => 0) 2)))], [(q2, .inl (zI K, 16, .inl (fun _ => 0)))], [(q3, .inl (zI K, 16, .inl (fun _ => 0)))]]) (st := []) (nA := 2) (zsp rfl rfl rfl) (zsp rfl rfl rfl) gX3_init_J7_fill_53178 rfl (by decide +kernel) ⟨Nat.le_of_ble_eq_true rfl, Nat.le_of_ble_eq_true rfl⟩ rfl rfl (Nat.le_of_ble_eq_true rfl) ⟨Nat.le_of_ble_eq_true rfl, Nat.le_of_ble_eq_true rfl⟩ dX3_init_44 z_noX (fun _ => ?_)
  refine z_aload_n B dX3_init_47 0 rfl ?_
  refine z_get B (v := .ref q2) 0 0 1 hiX3_init_3 hfX3_init_15 rfl rfl rfl (by decide) rfl rfl rfl rfl dX3_init_48 ?_
  refine z_bipush B (v := (-3)) dX3_init_51 rfl ?_
  refine z_S0 B (kJ7_fill_53178 l hl K q2 (fun _ => 0) (-3)) [2] [0, 1, 3] (br := [[(a9, .inr (3, [.ref q1, .ref q2, .ref q3, .int 30, .int 1]))], [(q1, .inl (zI K, 16, .inl (fJ7_fill_53178 (fun _ => 0) 2)))], [(q3, .inl (zI K, 16, .inl (fun _ => 0)))]]) (bs' := [[(a9, .inr (3, [.ref q1, .ref q2, .ref q3, .int 30, .int 1]))], [(q1, .inl (zI K, 16, .inl (fJ7_fill_53178 (fun _ => 0) 2)))], [(q2, .inl (zI K, 16, .inl (fJ7_fill_53178 (fun _ => 0) (-3))))], [(q3, .inl (zI K, 16, .inl (fun _ => 0)))]]) (st := []) (nA := 2) (zsp rfl rfl rfl) (zsp rfl rfl rfl) gX3_init_J7_fill_53178 rfl (by decide +kernel) ⟨Nat.le_of_ble_eq_true rfl, Nat.le_of_ble_eq_true rfl⟩ rfl rfl (Nat.le_of_ble_eq_true rfl) ⟨Nat.le_of_ble_eq_true rfl, Nat.le_of_ble_eq_true rfl⟩ dX3_init_53 z_noX (fun _ => ?_)
  exact z_ret0 B dX3_init_56 (fun i => ([a9, q1, q2, q3] : List Nat).getD i 0) rfl (Nat.le_of_ble_eq_true rfl) (Nat.le_of_ble_eq_true rfl) rfl rfl
theorem hwX2_init_ol : Cond.methodLink RX2 1 objectInit ∈ wsX2_init := by decide +kernel
theorem hwX2_init_oi : Cond.instanceMethod objectInit ∈ wsX2_init := by decide +kernel
theorem hwX2_init_oc : Cond.code objectInit ⟨#[0xb1]⟩ 1 none ∈ wsX2_init := by decide +kernel
theorem hiX2_init_0 : ∀ w ∈ wsX00, w ∈ wsX2_init := by decide +kernel
theorem hwX2_init_cl7 : Cond.classLink RX2 7 RX0 ∈ wsX2_init := by decide +kernel
theorem hwX2_init_ins0 : Cond.instantiable RX0 6 ∈ wsX2_init := by decide +kernel
theorem hwX2_init_init0 : Cond.initialized RX0 ∈ wsX2_init := by decide +kernel
theorem hwX2_init_ml9 : Cond.methodLink RX2 9 yX0_init ∈ wsX2_init := by decide +kernel
theorem hwX2_init_miX0_init : Cond.instanceMethod yX0_init ∈ wsX2_init := by decide +kernel
theorem hwX2_init_inX0_init : Cond.initialized yX0_init.cls ∈ wsX2_init := by decide +kernel
theorem hiX2_init_2 : ∀ w ∈ wsX20, w ∈ wsX2_init := by decide +kernel
theorem hfX2_init_10 : Cond.fieldLink RX2 10 "ResolverFleet$Site" "cache" "LResolverFleet$Cache;" ∈ wsX2_init := by decide +kernel
theorem hfX2_init_16 : Cond.fieldLink RX2 16 "ResolverFleet$Site" "isAnnounced" "Z" ∈ wsX2_init := by decide +kernel
theorem hfX2_init_20 : Cond.fieldLink RX2 20 "ResolverFleet$Site" "number" "I" ∈ wsX2_init := by decide +kernel
theorem hfX2_init_24 : Cond.fieldLink RX2 24 "ResolverFleet$Site" "position" "I" ∈ wsX2_init := by decide +kernel
set_option maxHeartbeats 4000000 in
set_option maxRecDepth 100000 in
theorem kX2_init (l : Launch) (hl : l.stackTraces = false) (K : zK) (a9 : Nat) (x1 : Int32) (x2 : Int32) : zMeN l K yX2_init wsX2_init { frames := 2, cells := 6, slots := 86, locals := 43 } [.ref a9, .int x1, .int x2] [[(a9, .inr (2, [.int 0, .int 0, .null, .int 0]))]] (fun u : Nat → Nat => ((none : Option Value), ([zSi a9 (u 0) (va_up (va_up (va_up (fun _ => 0) 0 x1) 1 x2) 3 1) :: zCa K u zC0] : zB))) (fun u : Nat → Nat => True) zNo := by
  refine zMeN.of (cc := cX2_init) (maxL := 3) (ret := none) (own := RX2) (nm := "<init>") hl (by decide +kernel) rfl rfl rfl (Nat.le_of_ble_eq_true rfl) (lv := [(0, .ref a9), (1, .int x1), (2, .int x2)]) rfl ?_
  intro p e s m args below meth c A B
  refine z_aload_n B dX2_init_0 0 rfl ?_
  refine z_objInit B hwX2_init_ol hwX2_init_oi hwX2_init_oc (Nat.le_of_ble_eq_true rfl) (Nat.le_of_ble_eq_true rfl) dX2_init_1 ?_
  refine z_aload_n B dX2_init_4 0 rfl ?_
  refine z_new B (ci := 0) (fs := [.null, .null, .null, .null, .null, .int 0]) hiX2_init_0 tyX0_ok hwX2_init_cl7 hwX2_init_ins0 hwX2_init_init0 rfl (by decide +kernel) (Nat.le_of_ble_eq_true rfl) (Nat.le_of_ble_eq_true rfl) dX2_init_5 (fun q1 => ?_)
  refine z_dup B dX2_init_8 rfl ?_
  refine z_callI B (kX0_init l hl K q1) [1] [0] (br := [[(a9, .inr (2, [.int 0, .int 0, .null, .int 0]))]]) (bs' := fun u2 => [[(a9, .inr (2, [.int 0, .int 0, .null, .int 0]))], zCa K u2 zC0]) (st := [.ref q1, .ref a9]) (nA := 0) (zsp rfl rfl rfl) (fun _ => zsp rfl rfl rfl) gX2_init_X0_init hwX2_init_ml9 hwX2_init_miX0_init hwX2_init_inX0_init rfl rfl (by decide +kernel) ⟨Nat.le_of_ble_eq_true rfl, Nat.le_of_ble_eq_true rfl⟩ rfl rfl (Nat.le_of_ble_eq_true rfl) ⟨Nat.le_of_ble_eq_true rfl, Nat.le_of_ble_eq_true rfl⟩ dX2_init_9 (fun u2 hu2 => ?_)
  subst hu2
  refine z_putF B 0 0 2 hiX2_init_2 hfX2_init_10 tyX2_ok nmX2 rfl rfl rfl (by decide) rfl rfl rfl rfl rfl rfl rfl rfl rfl (Nat.le_of_ble_eq_true rfl) (bs' := [[(a9, .inr (2, [.int 0, .int 0, .ref (u2 0), .int 0]))], zCa K u2 zC0]) rfl dX2_init_12 ?_
  refine z_aload_n B dX2_init_15 0 rfl ?_
  refine z_iconst B (v := 1) dX2_init_16 rfl ?_
  refine z_put B 0 0 3 hiX2_init_2 hfX2_init_16 tyX2_ok nmX2 rfl rfl rfl (by decide) rfl rfl rfl rfl rfl rfl rfl (Nat.le_of_ble_eq_true rfl) (bs' := [[(a9, .inr (2, [.int 0, .int 0, .ref (u2 0), .int 1]))], zCa K u2 zC0]) rfl dX2_init_17 ?_
  refine z_aload_n B dX2_init_20 0 rfl ?_
  refine z_iload_n B dX2_init_21 1 rfl ?_
  refine z_putF B 0 0 0 hiX2_init_2 hfX2_init_20 tyX2_ok nmX2 rfl rfl rfl (by decide) rfl rfl rfl rfl rfl rfl rfl rfl rfl (Nat.le_of_ble_eq_true rfl) (bs' := [[(a9, .inr (2, [.int x1, .int 0, .ref (u2 0), .int 1]))], zCa K u2 zC0]) rfl dX2_init_22 ?_
  refine z_aload_n B dX2_init_25 0 rfl ?_
  refine z_iload_n B dX2_init_26 2 rfl ?_
  refine z_putF B 0 0 1 hiX2_init_2 hfX2_init_24 tyX2_ok nmX2 rfl rfl rfl (by decide) rfl rfl rfl rfl rfl rfl rfl rfl rfl (Nat.le_of_ble_eq_true rfl) (bs' := [[(a9, .inr (2, [.int x1, .int x2, .ref (u2 0), .int 1]))], zCa K u2 zC0]) rfl dX2_init_27 ?_
  exact z_ret0 B dX2_init_30 u2 trivial (Nat.le_of_ble_eq_true rfl) (Nat.le_of_ble_eq_true rfl) rfl rfl
theorem hwX4_init_ol : Cond.methodLink RX4 1 objectInit ∈ wsX4_init := by decide +kernel
theorem hwX4_init_oi : Cond.instanceMethod objectInit ∈ wsX4_init := by decide +kernel
theorem hwX4_init_oc : Cond.code objectInit ⟨#[0xb1]⟩ 1 none ∈ wsX4_init := by decide +kernel
theorem hiX4_init_3 : ∀ w ∈ wsX30, w ∈ wsX4_init := by decide +kernel
theorem hwX4_init_cl7 : Cond.classLink RX4 7 RX3 ∈ wsX4_init := by decide +kernel
theorem hwX4_init_ins3 : Cond.instantiable RX3 5 ∈ wsX4_init := by decide +kernel
theorem hwX4_init_init3 : Cond.initialized RX3 ∈ wsX4_init := by decide +kernel
theorem hwX4_init_ml9 : Cond.methodLink RX4 9 yX3_init ∈ wsX4_init := by decide +kernel
theorem hwX4_init_miX3_init : Cond.instanceMethod yX3_init ∈ wsX4_init := by decide +kernel
theorem hwX4_init_inX3_init : Cond.initialized yX3_init.cls ∈ wsX4_init := by decide +kernel
theorem hiX4_init_4 : ∀ w ∈ wsX40, w ∈ wsX4_init := by decide +kernel
theorem hfX4_init_10 : Cond.fieldLink RX4 10 "ResolverFleet" "zone" "LResolverFleet$Zone;" ∈ wsX4_init := by decide +kernel
theorem hwX4_init_cl16 : Cond.classLink RX4 16 RX2 ∈ wsX4_init := by decide +kernel
theorem hfX4_init_18 : Cond.fieldLink RX4 18 "ResolverFleet" "sites" "[LResolverFleet$Site;" ∈ wsX4_init := by decide +kernel
theorem hiX4_init_1 : ∀ w ∈ wsX10, w ∈ wsX4_init := by decide +kernel
theorem hwX4_init_cl22 : Cond.classLink RX4 22 RX1 ∈ wsX4_init := by decide +kernel
theorem hwX4_init_ins1 : Cond.instantiable RX1 6 ∈ wsX4_init := by decide +kernel
theorem hwX4_init_init1 : Cond.initialized RX1 ∈ wsX4_init := by decide +kernel
theorem hwX4_init_ml24 : Cond.methodLink RX4 24 yX1_init ∈ wsX4_init := by decide +kernel
theorem hwX4_init_miX1_init : Cond.instanceMethod yX1_init ∈ wsX4_init := by decide +kernel
theorem hwX4_init_inX1_init : Cond.initialized yX1_init.cls ∈ wsX4_init := by decide +kernel
theorem hfX4_init_25 : Cond.fieldLink RX4 25 "ResolverFleet" "last" "LResolverFleet$Course;" ∈ wsX4_init := by decide +kernel
theorem hfX4_init_29 : Cond.fieldLink RX4 29 "ResolverFleet" "lastSiteNumber" "I" ∈ wsX4_init := by decide +kernel
theorem hfX4_init_33 : Cond.fieldLink RX4 33 "ResolverFleet" "trial" "LResolverFleet$Course;" ∈ wsX4_init := by decide +kernel
theorem hiX4_init_0 : ∀ w ∈ wsX00, w ∈ wsX4_init := by decide +kernel
theorem hwX4_init_cl36 : Cond.classLink RX4 36 RX0 ∈ wsX4_init := by decide +kernel
theorem hwX4_init_ins0 : Cond.instantiable RX0 6 ∈ wsX4_init := by decide +kernel
theorem hwX4_init_init0 : Cond.initialized RX0 ∈ wsX4_init := by decide +kernel
theorem hwX4_init_ml38 : Cond.methodLink RX4 38 yX0_init ∈ wsX4_init := by decide +kernel
theorem hwX4_init_miX0_init : Cond.instanceMethod yX0_init ∈ wsX4_init := by decide +kernel
theorem hwX4_init_inX0_init : Cond.initialized yX0_init.cls ∈ wsX4_init := by decide +kernel
theorem hfX4_init_39 : Cond.fieldLink RX4 39 "ResolverFleet" "trialCache" "LResolverFleet$Cache;" ∈ wsX4_init := by decide +kernel
set_option maxHeartbeats 4000000 in
set_option maxRecDepth 100000 in
theorem kX4_init (l : Launch) (hl : l.stackTraces = false) (K : zK) (a9 : Nat) : zMeN l K yX4_init wsX4_init { frames := 2, cells := 15, slots := 165, locals := 43 } [.ref a9] [[(a9, .inr (4, [.null, .null, .int 0, .int 0, .null, .int 0, .null, .null, .int 0, .int 0, .int 0, .int 0, .int 0]))]] (fun u : (Nat → Nat) × Nat × (Nat → Nat) × (Nat → Nat) × (Nat → Nat) => ((none : Option Value), ([zXo a9 (u.1 0) u.2.1 (u.2.2.1 0) (u.2.2.2.1 0) (u.2.2.2.2 0) zX0 ++ (zZo K u.1 zZ0 zW0 ++ (zSa K u.2.1 (fun _ => none) ++ (zCo K u.2.2.1 (fun _ => 0) (fun _ => 0) ++ (zCo K u.2.2.2.1 (fun _ => 0) (fun _ => 0) ++ zCa K u.2.2.2.2 zC0))))] : zB))) (fun u : (Nat → Nat) × Nat × (Nat → Nat) × (Nat → Nat) × (Nat → Nat) => True) zNo := by
  refine zMeN.of (cc := cX4_init) (maxL := 1) (ret := none) (own := RX4) (nm := "<init>") hl (by decide +kernel) rfl rfl rfl (Nat.le_of_ble_eq_true rfl) (lv := [(0, .ref a9)]) rfl ?_
  intro p e s m args below meth c A B
  refine z_aload_n B dX4_init_0 0 rfl ?_
  refine z_objInit B hwX4_init_ol hwX4_init_oi hwX4_init_oc (Nat.le_of_ble_eq_true rfl) (Nat.le_of_ble_eq_true rfl) dX4_init_1 ?_
  refine z_aload_n B dX4_init_4 0 rfl ?_
  refine z_new B (ci := 3) (fs := [.null, .null, .null, .int 0, .int 0]) hiX4_init_3 tyX3_ok hwX4_init_cl7 hwX4_init_ins3 hwX4_init_init3 rfl (by decide +kernel) (Nat.le_of_ble_eq_true rfl) (Nat.le_of_ble_eq_true rfl) dX4_init_5 (fun q1 => ?_)
  refine z_dup B dX4_init_8 rfl ?_
  refine z_callI B (kX3_init l hl K q1) [1] [0] (br := [[(a9, .inr (4, [.null, .null, .int 0, .int 0, .null, .int 0, .null, .null, .int 0, .int 0, .int 0, .int 0, .int 0]))]]) (bs' := fun u2 => [[(a9, .inr (4, [.null, .null, .int 0, .int 0, .null, .int 0, .null, .null, .int 0, .int 0, .int 0, .int 0, .int 0]))], zZo K u2 zZ0 zW0]) (st := [.ref q1, .ref a9]) (nA := 0) (zsp rfl rfl rfl) (fun _ => zsp rfl rfl rfl) gX4_init_X3_init hwX4_init_ml9 hwX4_init_miX3_init hwX4_init_inX3_init rfl rfl (by decide +kernel) ⟨Nat.le_of_ble_eq_true rfl, Nat.le_of_ble_eq_true rfl⟩ rfl rfl (Nat.le_of_ble_eq_true rfl) ⟨Nat.le_of_ble_eq_true rfl, Nat.le_of_ble_eq_true rfl⟩ dX4_init_9 (fun u2 hu2 => ?_)
  subst hu2
  refine z_putF B 0 0 0 hiX4_init_4 hfX4_init_10 tyX4_ok nmX4 rfl rfl rfl (by decide) rfl rfl rfl rfl rfl rfl rfl rfl rfl (Nat.le_of_ble_eq_true rfl) (bs' := [[(a9, .inr (4, [.ref (u2 0), .null, .int 0, .int 0, .null, .int 0, .null, .null, .int 0, .int 0, .int 0, .int 0, .int 0]))], zZo K u2 zZ0 zW0]) rfl dX4_init_12 ?_
  refine z_aload_n B dX4_init_15 0 rfl ?_
  refine z_iconst B (v := 4) dX4_init_16 rfl ?_
  refine z_newA B hwX4_init_cl16 (N := 4) (by decide) rfl (by decide) (Nat.le_of_ble_eq_true rfl) (Nat.le_of_ble_eq_true rfl) dX4_init_17 (fun q3 => ?_)
  refine z_putF B 0 0 1 hiX4_init_4 hfX4_init_18 tyX4_ok nmX4 rfl rfl rfl (by decide) rfl rfl rfl rfl rfl rfl rfl rfl rfl (Nat.le_of_ble_eq_true rfl) (bs' := [[(a9, .inr (4, [.ref (u2 0), .ref q3, .int 0, .int 0, .null, .int 0, .null, .null, .int 0, .int 0, .int 0, .int 0, .int 0]))], zZo K u2 zZ0 zW0, zSa K q3 (fun _ => none)]) rfl dX4_init_20 ?_
  refine z_aload_n B dX4_init_23 0 rfl ?_
  refine z_new B (ci := 1) (fs := [.null, .int 0, .int 0, .int 0, .int 0, .int 0]) hiX4_init_1 tyX1_ok hwX4_init_cl22 hwX4_init_ins1 hwX4_init_init1 rfl (by decide +kernel) (Nat.le_of_ble_eq_true rfl) (Nat.le_of_ble_eq_true rfl) dX4_init_24 (fun q4 => ?_)
  refine z_dup B dX4_init_27 rfl ?_
  refine z_callI B (kX1_init l hl K q4) [3] [0, 1, 2] (br := [[(a9, .inr (4, [.ref (u2 0), .ref q3, .int 0, .int 0, .null, .int 0, .null, .null, .int 0, .int 0, .int 0, .int 0, .int 0]))], zZo K u2 zZ0 zW0, zSa K q3 (fun _ => none)]) (bs' := fun u5 => [[(a9, .inr (4, [.ref (u2 0), .ref q3, .int 0, .int 0, .null, .int 0, .null, .null, .int 0, .int 0, .int 0, .int 0, .int 0]))], zZo K u2 zZ0 zW0, zSa K q3 (fun _ => none), zCo K u5 (fun _ => 0) (fun _ => 0)]) (st := [.ref q4, .ref a9]) (nA := 0) (zsp rfl rfl rfl) (fun _ => zsp rfl rfl rfl) gX4_init_X1_init hwX4_init_ml24 hwX4_init_miX1_init hwX4_init_inX1_init rfl rfl (by decide +kernel) ⟨Nat.le_of_ble_eq_true rfl, Nat.le_of_ble_eq_true rfl⟩ rfl rfl (Nat.le_of_ble_eq_true rfl) ⟨Nat.le_of_ble_eq_true rfl, Nat.le_of_ble_eq_true rfl⟩ dX4_init_28 (fun u5 hu5 => ?_)
  subst hu5
  refine z_putF B 0 0 4 hiX4_init_4 hfX4_init_25 tyX4_ok nmX4 rfl rfl rfl (by decide) rfl rfl rfl rfl rfl rfl rfl rfl rfl (Nat.le_of_ble_eq_true rfl) (bs' := [[(a9, .inr (4, [.ref (u2 0), .ref q3, .int 0, .int 0, .ref (u5 0), .int 0, .null, .null, .int 0, .int 0, .int 0, .int 0, .int 0]))], zZo K u2 zZ0 zW0, zSa K q3 (fun _ => none), zCo K u5 (fun _ => 0) (fun _ => 0)]) rfl dX4_init_31 ?_
  refine z_aload_n B dX4_init_34 0 rfl ?_
  refine z_bipush B (v := (-3)) dX4_init_35 rfl ?_
  refine z_put B 0 0 5 hiX4_init_4 hfX4_init_29 tyX4_ok nmX4 rfl rfl rfl (by decide) rfl rfl rfl rfl rfl rfl rfl (Nat.le_of_ble_eq_true rfl) (bs' := [[(a9, .inr (4, [.ref (u2 0), .ref q3, .int 0, .int 0, .ref (u5 0), .int (-3), .null, .null, .int 0, .int 0, .int 0, .int 0, .int 0]))], zZo K u2 zZ0 zW0, zSa K q3 (fun _ => none), zCo K u5 (fun _ => 0) (fun _ => 0)]) rfl dX4_init_37 ?_
  refine z_aload_n B dX4_init_40 0 rfl ?_
  refine z_new B (ci := 1) (fs := [.null, .int 0, .int 0, .int 0, .int 0, .int 0]) hiX4_init_1 tyX1_ok hwX4_init_cl22 hwX4_init_ins1 hwX4_init_init1 rfl (by decide +kernel) (Nat.le_of_ble_eq_true rfl) (Nat.le_of_ble_eq_true rfl) dX4_init_41 (fun q6 => ?_)
  refine z_dup B dX4_init_44 rfl ?_
  refine z_callI B (kX1_init l hl K q6) [4] [0, 1, 2, 3] (br := [[(a9, .inr (4, [.ref (u2 0), .ref q3, .int 0, .int 0, .ref (u5 0), .int (-3), .null, .null, .int 0, .int 0, .int 0, .int 0, .int 0]))], zZo K u2 zZ0 zW0, zSa K q3 (fun _ => none), zCo K u5 (fun _ => 0) (fun _ => 0)]) (bs' := fun u7 => [[(a9, .inr (4, [.ref (u2 0), .ref q3, .int 0, .int 0, .ref (u5 0), .int (-3), .null, .null, .int 0, .int 0, .int 0, .int 0, .int 0]))], zZo K u2 zZ0 zW0, zSa K q3 (fun _ => none), zCo K u5 (fun _ => 0) (fun _ => 0), zCo K u7 (fun _ => 0) (fun _ => 0)]) (st := [.ref q6, .ref a9]) (nA := 0) (zsp rfl rfl rfl) (fun _ => zsp rfl rfl rfl) gX4_init_X1_init hwX4_init_ml24 hwX4_init_miX1_init hwX4_init_inX1_init rfl rfl (by decide +kernel) ⟨Nat.le_of_ble_eq_true rfl, Nat.le_of_ble_eq_true rfl⟩ rfl rfl (Nat.le_of_ble_eq_true rfl) ⟨Nat.le_of_ble_eq_true rfl, Nat.le_of_ble_eq_true rfl⟩ dX4_init_45 (fun u7 hu7 => ?_)
  subst hu7
  refine z_putF B 0 0 6 hiX4_init_4 hfX4_init_33 tyX4_ok nmX4 rfl rfl rfl (by decide) rfl rfl rfl rfl rfl rfl rfl rfl rfl (Nat.le_of_ble_eq_true rfl) (bs' := [[(a9, .inr (4, [.ref (u2 0), .ref q3, .int 0, .int 0, .ref (u5 0), .int (-3), .ref (u7 0), .null, .int 0, .int 0, .int 0, .int 0, .int 0]))], zZo K u2 zZ0 zW0, zSa K q3 (fun _ => none), zCo K u5 (fun _ => 0) (fun _ => 0), zCo K u7 (fun _ => 0) (fun _ => 0)]) rfl dX4_init_48 ?_
  refine z_aload_n B dX4_init_51 0 rfl ?_
  refine z_new B (ci := 0) (fs := [.null, .null, .null, .null, .null, .int 0]) hiX4_init_0 tyX0_ok hwX4_init_cl36 hwX4_init_ins0 hwX4_init_init0 rfl (by decide +kernel) (Nat.le_of_ble_eq_true rfl) (Nat.le_of_ble_eq_true rfl) dX4_init_52 (fun q8 => ?_)
  refine z_dup B dX4_init_55 rfl ?_
  refine z_callI B (kX0_init l hl K q8) [5] [0, 1, 2, 3, 4] (br := [[(a9, .inr (4, [.ref (u2 0), .ref q3, .int 0, .int 0, .ref (u5 0), .int (-3), .ref (u7 0), .null, .int 0, .int 0, .int 0, .int 0, .int 0]))], zZo K u2 zZ0 zW0, zSa K q3 (fun _ => none), zCo K u5 (fun _ => 0) (fun _ => 0), zCo K u7 (fun _ => 0) (fun _ => 0)]) (bs' := fun u9 => [[(a9, .inr (4, [.ref (u2 0), .ref q3, .int 0, .int 0, .ref (u5 0), .int (-3), .ref (u7 0), .null, .int 0, .int 0, .int 0, .int 0, .int 0]))], zZo K u2 zZ0 zW0, zSa K q3 (fun _ => none), zCo K u5 (fun _ => 0) (fun _ => 0), zCo K u7 (fun _ => 0) (fun _ => 0), zCa K u9 zC0]) (st := [.ref q8, .ref a9]) (nA := 0) (zsp rfl rfl rfl) (fun _ => zsp rfl rfl rfl) gX4_init_X0_init hwX4_init_ml38 hwX4_init_miX0_init hwX4_init_inX0_init rfl rfl (by decide +kernel) ⟨Nat.le_of_ble_eq_true rfl, Nat.le_of_ble_eq_true rfl⟩ rfl rfl (Nat.le_of_ble_eq_true rfl) ⟨Nat.le_of_ble_eq_true rfl, Nat.le_of_ble_eq_true rfl⟩ dX4_init_56 (fun u9 hu9 => ?_)
  subst hu9
  refine z_putF B 0 0 7 hiX4_init_4 hfX4_init_39 tyX4_ok nmX4 rfl rfl rfl (by decide) rfl rfl rfl rfl rfl rfl rfl rfl rfl (Nat.le_of_ble_eq_true rfl) (bs' := [[(a9, .inr (4, [.ref (u2 0), .ref q3, .int 0, .int 0, .ref (u5 0), .int (-3), .ref (u7 0), .ref (u9 0), .int 0, .int 0, .int 0, .int 0, .int 0]))], zZo K u2 zZ0 zW0, zSa K q3 (fun _ => none), zCo K u5 (fun _ => 0) (fun _ => 0), zCo K u7 (fun _ => 0) (fun _ => 0), zCa K u9 zC0]) rfl dX4_init_59 ?_
  exact z_ret0 B dX4_init_62 (u2, q3, u5, u7, u9) trivial (Nat.le_of_ble_eq_true rfl) (Nat.le_of_ble_eq_true rfl) rfl rfl
