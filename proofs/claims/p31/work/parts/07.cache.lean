def fJ7_fill_53178_L5 (F : Nat → Int32) (x1 : Int32) : Nat → Nat → (Nat → Int32) → (Nat → Int32)
  | 0, a, G =>
    G
  | n + 1, a, G =>
    fJ7_fill_53178_L5 F x1 n (a + 1) (upd G (nI a).toNatClampNeg x1)
def fJ7_fill_53178 (F : Nat → Int32) (x1 : Int32) : (Nat → Int32) :=
  fJ7_fill_53178_L5 F x1 16 0 F
set_option maxHeartbeats 4000000 in
set_option maxRecDepth 100000 in
theorem kJ7_fill_53178_L5 (l : Launch) (hl : l.stackTraces = false) (K : zK) (a0 : Nat) (F : Nat → Int32) (x1 : Int32) {p : Program} {e : Env} {s : State} {m : MethodId} {args : Array Value} {below : List Frame} {meth : Method} {c : Code} {A : Nat → Prop} (B : zF K p l s m args meth c A cJ7_fill_53178 4 RJ7 "fill" wsJ7_fill_53178 none []) : ∀ (n a : Nat) (G : Nat → Int32), a + n = 16 → fJ7_fill_53178 F x1 = fJ7_fill_53178_L5 F x1 n a G → zW K p l e { frames := 0, cells := 0, slots := 0, locals := 0 } s m args below meth c A (vx_MQ below (zQ K A (fun _ : Unit => (none, [[(a0, .inl (zI K, 16, .inl (fJ7_fill_53178 F x1)))]])) (fun _ => True)) (zX K A [[(a0, .inl (zI K, 16, .inl F))]] zNo) args s 0 0 A) 0 0 [[(a0, .inl (zI K, 16, .inl G))]] [(0, .ref a0), (1, .int x1), (2, .int (nI a)), (3, .int 16)] [] 5 := by
  intro n
  induction n with
  | zero =>
    intro a G ha  hF0
    refine z_iload_n B dJ7_fill_53178_5 2 rfl ?_
    refine z_iload_n B dJ7_fill_53178_6 3 rfl ?_
    refine z_icge B 20 dJ7_fill_53178_7 (by decide) (fun _ => ?_) (fun h => absurd (z_lge0 ha (by decide)) h)
    have hF : fJ7_fill_53178 F x1 = G := hF0
    exact z_ret0 B dJ7_fill_53178_20 () (trivial) (Nat.le_of_ble_eq_true rfl) (Nat.le_of_ble_eq_true rfl) rfl (by rw [hF])
  | succ n ih =>
    intro a G ha  hF0
    refine z_iload_n B dJ7_fill_53178_5 2 rfl ?_
    refine z_iload_n B dJ7_fill_53178_6 3 rfl ?_
    refine z_icge B 20 dJ7_fill_53178_7 (by decide) (fun h => absurd h (z_lgeS ha (by decide))) (fun _ => ?_)
    refine z_aload_n B dJ7_fill_53178_10 0 rfl ?_
    refine z_iload_n B dJ7_fill_53178_11 2 rfl ?_
    refine z_iload_n B dJ7_fill_53178_12 1 rfl ?_
    refine z_iast B (N := 16) (f := G) 0 0 rfl rfl (z_nIr (by omega) (by decide)) (bs' := [[(a0, .inl (zI K, 16, .inl (upd G (nI a).toNatClampNeg x1)))]]) rfl dJ7_fill_53178_13 ?_
    refine z_iinc B (v := nI (a + 1)) (lv' := [(2, .int (nI (a + 1))), (0, .ref a0), (1, .int x1), (3, .int 16)]) dJ7_fill_53178_14 2 rfl (nI_1 a) (by decide) rfl ?_
    refine z_goto B (tgt := 5) dJ7_fill_53178_17 (by decide) ?_
    refine z_lsub [1, 2, 0, 3] rfl ?_
    have hF : fJ7_fill_53178 F x1 = fJ7_fill_53178_L5 F x1 n (a + 1) (upd G (nI a).toNatClampNeg x1) := hF0
    exact ih (a + 1) (upd G (nI a).toNatClampNeg x1) (by omega)  hF
set_option maxHeartbeats 4000000 in
set_option maxRecDepth 100000 in
theorem kJ7_fill_53178 (l : Launch) (hl : l.stackTraces = false) (K : zK) (a0 : Nat) (F : Nat → Int32) (x1 : Int32) : zMet l K yJ7_fill_53178 wsJ7_fill_53178 { frames := 0, cells := 0, slots := 0, locals := 0 } [.ref a0, .int x1] [[(a0, .inl (zI K, 16, .inl F))]] none [[(a0, .inl (zI K, 16, .inl (fJ7_fill_53178 F x1)))]] True zNo := by
  refine zMeN.of (cc := cJ7_fill_53178) (maxL := 4) (ret := none) (own := RJ7) (nm := "fill") hl (by decide +kernel) rfl rfl rfl (Nat.le_of_ble_eq_true rfl) (lv := [(0, .ref a0), (1, .int x1)]) rfl ?_
  intro p e s m args below meth c A B
  refine z_iconst B (v := 0) dJ7_fill_53178_0 rfl ?_
  refine z_istore_n B (lv' := [(2, .int 0), (0, .ref a0), (1, .int x1)]) dJ7_fill_53178_1 (by decide) rfl ?_
  refine z_aload_n B dJ7_fill_53178_2 1 rfl ?_
  refine z_alen B (v := 16) 0 0 0 rfl rfl rfl rfl dJ7_fill_53178_3 ?_
  refine z_istore_n B (lv' := [(3, .int 16), (2, .int 0), (0, .ref a0), (1, .int x1)]) dJ7_fill_53178_4 (by decide) rfl ?_
  refine z_lsub [2, 3, 1, 0] rfl ?_
  have hF : fJ7_fill_53178 F x1 = fJ7_fill_53178_L5 F x1 16 0 F := rfl
  exact kJ7_fill_53178_L5 l hl K a0 F x1 B 16 0 F (by omega)  hF
def fX1_begin (F : Nat → Int32) (O : Nat → Int32) : (Nat → Int32) :=
  (va_up (va_up (va_up (va_up (va_up O 1 0) 2 0) 3 0) 4 0) 5 0)
theorem hiX1_begin_1 : ∀ w ∈ wsX10, w ∈ wsX1_begin := by decide +kernel
theorem hfX1_begin_15 : Cond.fieldLink RX1 15 "ResolverFleet$Course" "freshCount" "I" ∈ wsX1_begin := by decide +kernel
theorem hfX1_begin_19 : Cond.fieldLink RX1 19 "ResolverFleet$Course" "lookUps" "I" ∈ wsX1_begin := by decide +kernel
theorem hfX1_begin_22 : Cond.fieldLink RX1 22 "ResolverFleet$Course" "fetches" "I" ∈ wsX1_begin := by decide +kernel
theorem hfX1_begin_25 : Cond.fieldLink RX1 25 "ResolverFleet$Course" "prefetches" "I" ∈ wsX1_begin := by decide +kernel
theorem hfX1_begin_28 : Cond.fieldLink RX1 28 "ResolverFleet$Course" "isStale" "Z" ∈ wsX1_begin := by decide +kernel
set_option maxHeartbeats 4000000 in
set_option maxRecDepth 100000 in
theorem kX1_begin (l : Launch) (hl : l.stackTraces = false) (K : zK) (al : Nat → Nat) (F : Nat → Int32) (O : Nat → Int32) : zMet l K yX1_begin wsX1_begin { frames := 0, cells := 0, slots := 0, locals := 0 } [.ref (al 0)] [zCo K al F O] none [zCo K al F (fX1_begin F O)] True zNo := by
  refine zMeN.of (cc := cX1_begin) (maxL := 1) (ret := none) (own := RX1) (nm := "begin") hl (by decide +kernel) rfl rfl rfl (Nat.le_of_ble_eq_true rfl) (lv := [(0, .ref (al 0))]) rfl ?_
  intro p e s m args below meth c A B
  refine z_aload_n B dX1_begin_0 0 rfl ?_
  refine z_iconst B (v := 0) dX1_begin_1 rfl ?_
  refine z_put B 0 0 1 hiX1_begin_1 hfX1_begin_15 tyX1_ok nmX1 rfl rfl rfl (by decide) rfl rfl rfl rfl rfl rfl rfl (Nat.le_of_ble_eq_true rfl) (bs' := [zCo K al F (va_up O 1 0)]) rfl dX1_begin_2 ?_
  refine z_aload_n B dX1_begin_5 0 rfl ?_
  refine z_iconst B (v := 0) dX1_begin_6 rfl ?_
  refine z_put B 0 0 2 hiX1_begin_1 hfX1_begin_19 tyX1_ok nmX1 rfl rfl rfl (by decide) rfl rfl rfl rfl rfl rfl rfl (Nat.le_of_ble_eq_true rfl) (bs' := [zCo K al F (va_up (va_up O 1 0) 2 0)]) rfl dX1_begin_7 ?_
  refine z_aload_n B dX1_begin_10 0 rfl ?_
  refine z_iconst B (v := 0) dX1_begin_11 rfl ?_
  refine z_put B 0 0 3 hiX1_begin_1 hfX1_begin_22 tyX1_ok nmX1 rfl rfl rfl (by decide) rfl rfl rfl rfl rfl rfl rfl (Nat.le_of_ble_eq_true rfl) (bs' := [zCo K al F (va_up (va_up (va_up O 1 0) 2 0) 3 0)]) rfl dX1_begin_12 ?_
  refine z_aload_n B dX1_begin_15 0 rfl ?_
  refine z_iconst B (v := 0) dX1_begin_16 rfl ?_
  refine z_put B 0 0 4 hiX1_begin_1 hfX1_begin_25 tyX1_ok nmX1 rfl rfl rfl (by decide) rfl rfl rfl rfl rfl rfl rfl (Nat.le_of_ble_eq_true rfl) (bs' := [zCo K al F (va_up (va_up (va_up (va_up O 1 0) 2 0) 3 0) 4 0)]) rfl dX1_begin_17 ?_
  refine z_aload_n B dX1_begin_20 0 rfl ?_
  refine z_iconst B (v := 0) dX1_begin_21 rfl ?_
  refine z_put B 0 0 5 hiX1_begin_1 hfX1_begin_28 tyX1_ok nmX1 rfl rfl rfl (by decide) rfl rfl rfl rfl rfl rfl rfl (Nat.le_of_ble_eq_true rfl) (bs' := [zCo K al F (va_up (va_up (va_up (va_up (va_up O 1 0) 2 0) 3 0) 4 0) 5 0)]) rfl dX1_begin_22 ?_
  have hF : fX1_begin F O = (va_up (va_up (va_up (va_up (va_up O 1 0) 2 0) 3 0) 4 0) 5 0) := rfl
  exact z_ret0 B dX1_begin_25 () (trivial) (Nat.le_of_ble_eq_true rfl) (Nat.le_of_ble_eq_true rfl) rfl (by rw [hF])
def fX1_noteFresh (F : Nat → Int32) (O : Nat → Int32) (x1 : Int32) : (Nat → Int32) × (Nat → Int32) :=
  if 5 ≤ (O 1) then
    (F, O)
  else
    ((upd F (O 1).toNatClampNeg x1), (va_up O 1 ((O 1) + 1)))
theorem hiX1_noteFresh_1 : ∀ w ∈ wsX10, w ∈ wsX1_noteFresh := by decide +kernel
theorem hfX1_noteFresh_15 : Cond.fieldLink RX1 15 "ResolverFleet$Course" "freshCount" "I" ∈ wsX1_noteFresh := by decide +kernel
theorem hfX1_noteFresh_9 : Cond.fieldLink RX1 9 "ResolverFleet$Course" "freshNames" "[I" ∈ wsX1_noteFresh := by decide +kernel
set_option maxHeartbeats 4000000 in
set_option maxRecDepth 100000 in
theorem kX1_noteFresh (l : Launch) (hl : l.stackTraces = false) (K : zK) (al : Nat → Nat) (F : Nat → Int32) (O : Nat → Int32) (x1 : Int32) (hO1 : ¬ (O 1) < 0) : zMet l K yX1_noteFresh wsX1_noteFresh { frames := 0, cells := 0, slots := 0, locals := 0 } [.ref (al 0), .int x1] [zCo K al F O] none [zCo K al ((fX1_noteFresh F O x1).1) ((fX1_noteFresh F O x1).2)] True zNo := by
  refine zMeN.of (cc := cX1_noteFresh) (maxL := 2) (ret := none) (own := RX1) (nm := "noteFresh") hl (by decide +kernel) rfl rfl rfl (Nat.le_of_ble_eq_true rfl) (lv := [(0, .ref (al 0)), (1, .int x1)]) rfl ?_
  intro p e s m args below meth c A B
  refine z_aload_n B dX1_noteFresh_0 0 rfl ?_
  refine z_get B (v := .int (O 1)) 0 0 1 hiX1_noteFresh_1 hfX1_noteFresh_15 rfl rfl rfl (by decide) rfl rfl rfl rfl dX1_noteFresh_1 ?_
  refine z_aload_n B dX1_noteFresh_4 0 rfl ?_
  refine z_get B (v := .ref (al 1)) 0 0 0 hiX1_noteFresh_1 hfX1_noteFresh_9 rfl rfl rfl (by decide) rfl rfl rfl rfl dX1_noteFresh_5 ?_
  refine z_alen B (v := 5) 0 1 0 rfl rfl rfl rfl dX1_noteFresh_8 ?_
  refine z_icge B 32 dX1_noteFresh_9 (by decide) (fun c1 => ?_) (fun c1 => ?_)
  · have hF : fX1_noteFresh F O x1 = (F, O) := if_pos c1
    exact z_ret0 B dX1_noteFresh_32 () (trivial) (Nat.le_of_ble_eq_true rfl) (Nat.le_of_ble_eq_true rfl) rfl (by rw [hF])
  · refine z_aload_n B dX1_noteFresh_12 0 rfl ?_
    refine z_get B (v := .ref (al 1)) 0 0 0 hiX1_noteFresh_1 hfX1_noteFresh_9 rfl rfl rfl (by decide) rfl rfl rfl rfl dX1_noteFresh_13 ?_
    refine z_aload_n B dX1_noteFresh_16 0 rfl ?_
    refine z_get B (v := .int (O 1)) 0 0 1 hiX1_noteFresh_1 hfX1_noteFresh_15 rfl rfl rfl (by decide) rfl rfl rfl rfl dX1_noteFresh_17 ?_
    refine z_iload_n B dX1_noteFresh_20 1 rfl ?_
    refine z_iast B (N := 5) (f := F) 0 1 rfl rfl (z_vp (M := 5) rfl hO1 c1) (bs' := [zCo K al (upd F (O 1).toNatClampNeg x1) O]) rfl dX1_noteFresh_21 ?_
    refine z_aload_n B dX1_noteFresh_22 0 rfl ?_
    refine z_dup B dX1_noteFresh_23 rfl ?_
    refine z_get B (v := .int (O 1)) 0 0 1 hiX1_noteFresh_1 hfX1_noteFresh_15 rfl rfl rfl (by decide) rfl rfl rfl rfl dX1_noteFresh_24 ?_
    refine z_iconst B (v := 1) dX1_noteFresh_27 rfl ?_
    refine z_iadd B dX1_noteFresh_28 ?_
    refine z_put B 0 0 1 hiX1_noteFresh_1 hfX1_noteFresh_15 tyX1_ok nmX1 rfl rfl rfl (by decide) rfl rfl rfl rfl rfl rfl rfl (Nat.le_of_ble_eq_true rfl) (bs' := [zCo K al (upd F (O 1).toNatClampNeg x1) (va_up O 1 ((O 1) + 1))]) rfl dX1_noteFresh_29 ?_
    have hF : fX1_noteFresh F O x1 = ((upd F (O 1).toNatClampNeg x1), (va_up O 1 ((O 1) + 1))) := if_neg c1
    exact z_ret0 B dX1_noteFresh_32 () (trivial) (Nat.le_of_ble_eq_true rfl) (Nat.le_of_ble_eq_true rfl) rfl (by rw [hF])
def fX1_freshNameAt (F : Nat → Int32) (O : Nat → Int32) (x1 : Int32) : Int32 :=
  if x1 < 0 then
    (-3)
  else
    if (O 1) ≤ x1 then
      (-3)
    else
      if x1 < 5 then
        (F x1.toNatClampNeg)
      else
        (-3)
theorem hiX1_freshNameAt_1 : ∀ w ∈ wsX10, w ∈ wsX1_freshNameAt := by decide +kernel
theorem hfX1_freshNameAt_15 : Cond.fieldLink RX1 15 "ResolverFleet$Course" "freshCount" "I" ∈ wsX1_freshNameAt := by decide +kernel
theorem hfX1_freshNameAt_9 : Cond.fieldLink RX1 9 "ResolverFleet$Course" "freshNames" "[I" ∈ wsX1_freshNameAt := by decide +kernel
set_option maxHeartbeats 4000000 in
set_option maxRecDepth 100000 in
theorem kX1_freshNameAt (l : Launch) (hl : l.stackTraces = false) (K : zK) (al : Nat → Nat) (F : Nat → Int32) (O : Nat → Int32) (x1 : Int32) : zMet l K yX1_freshNameAt wsX1_freshNameAt { frames := 0, cells := 0, slots := 0, locals := 0 } [.ref (al 0), .int x1] [zCo K al F O] (some (.int (fX1_freshNameAt F O x1))) [zCo K al F O] True zNo := by
  refine zMeN.of (cc := cX1_freshNameAt) (maxL := 2) (ret := (some .int)) (own := RX1) (nm := "freshNameAt") hl (by decide +kernel) rfl rfl rfl (Nat.le_of_ble_eq_true rfl) (lv := [(0, .ref (al 0)), (1, .int x1)]) rfl ?_
  intro p e s m args below meth c A B
  refine z_iload_n B dX1_freshNameAt_0 1 rfl ?_
  refine z_iflt B 21 dX1_freshNameAt_1 (by decide) (fun c1 => ?_) (fun c1 => ?_)
  · refine z_bipush B (v := (-3)) dX1_freshNameAt_21 rfl ?_
    refine z_goto B (tgt := 32) dX1_freshNameAt_23 (by decide) ?_
    have hF : fX1_freshNameAt F O x1 = (-3) := if_pos c1
    exact z_ret1 B rfl dX1_freshNameAt_32 () (trivial) (Nat.le_of_ble_eq_true rfl) (Nat.le_of_ble_eq_true rfl) (by rw [hF]) (by rw [hF])
  · refine z_iload_n B dX1_freshNameAt_4 1 rfl ?_
    refine z_aload_n B dX1_freshNameAt_5 0 rfl ?_
    refine z_get B (v := .int (O 1)) 0 0 1 hiX1_freshNameAt_1 hfX1_freshNameAt_15 rfl rfl rfl (by decide) rfl rfl rfl rfl dX1_freshNameAt_6 ?_
    refine z_icge B 21 dX1_freshNameAt_9 (by decide) (fun c2 => ?_) (fun c2 => ?_)
    · refine z_bipush B (v := (-3)) dX1_freshNameAt_21 rfl ?_
      refine z_goto B (tgt := 32) dX1_freshNameAt_23 (by decide) ?_
      have hF : fX1_freshNameAt F O x1 = (-3) := (if_neg c1).trans (if_pos c2)
      exact z_ret1 B rfl dX1_freshNameAt_32 () (trivial) (Nat.le_of_ble_eq_true rfl) (Nat.le_of_ble_eq_true rfl) (by rw [hF]) (by rw [hF])
    · refine z_iload_n B dX1_freshNameAt_12 1 rfl ?_
      refine z_aload_n B dX1_freshNameAt_13 0 rfl ?_
      refine z_get B (v := .ref (al 1)) 0 0 0 hiX1_freshNameAt_1 hfX1_freshNameAt_9 rfl rfl rfl (by decide) rfl rfl rfl rfl dX1_freshNameAt_14 ?_
      refine z_alen B (v := 5) 0 1 0 rfl rfl rfl rfl dX1_freshNameAt_17 ?_
      refine z_iclt B 26 dX1_freshNameAt_18 (by decide) (fun c3 => ?_) (fun c3 => ?_)
      · refine z_aload_n B dX1_freshNameAt_26 0 rfl ?_
        refine z_get B (v := .ref (al 1)) 0 0 0 hiX1_freshNameAt_1 hfX1_freshNameAt_9 rfl rfl rfl (by decide) rfl rfl rfl rfl dX1_freshNameAt_27 ?_
        refine z_iload_n B dX1_freshNameAt_30 1 rfl ?_
        refine z_iald B (N := 5) (f := F) 0 1 rfl rfl (z_vp2 (M := 5) rfl c1 c3) dX1_freshNameAt_31 ?_
        have hF : fX1_freshNameAt F O x1 = (F x1.toNatClampNeg) := (if_neg c1).trans ((if_neg c2).trans (if_pos c3))
        exact z_ret1 B rfl dX1_freshNameAt_32 () (trivial) (Nat.le_of_ble_eq_true rfl) (Nat.le_of_ble_eq_true rfl) (by rw [hF]) (by rw [hF])
      · refine z_bipush B (v := (-3)) dX1_freshNameAt_21 rfl ?_
        refine z_goto B (tgt := 32) dX1_freshNameAt_23 (by decide) ?_
        have hF : fX1_freshNameAt F O x1 = (-3) := (if_neg c1).trans ((if_neg c2).trans (if_neg c3))
        exact z_ret1 B rfl dX1_freshNameAt_32 () (trivial) (Nat.le_of_ble_eq_true rfl) (Nat.le_of_ble_eq_true rfl) (by rw [hF]) (by rw [hF])
def fX0_has (C : Nat → Nat → Int32) (x1 : Int32) : Int32 :=
  if x1 < 0 then
    0
  else
    if 16 ≤ x1 then
      0
    else
      if ((C 0) x1.toNatClampNeg) = 3 then
        0
      else
        1
theorem hiX0_has_0 : ∀ w ∈ wsX00, w ∈ wsX0_has := by decide +kernel
theorem hfX0_has_9 : Cond.fieldLink RX0 9 "ResolverFleet$Cache" "kinds" "[I" ∈ wsX0_has := by decide +kernel
set_option maxHeartbeats 4000000 in
set_option maxRecDepth 100000 in
theorem kX0_has (l : Launch) (hl : l.stackTraces = false) (K : zK) (ac : Nat → Nat) (C : Nat → Nat → Int32) (x1 : Int32) : zMet l K yX0_has wsX0_has { frames := 0, cells := 0, slots := 0, locals := 0 } [.ref (ac 0), .int x1] [zCa K ac C] (some (.int (fX0_has C x1))) [zCa K ac C] True zNo := by
  refine zMeN.of (cc := cX0_has) (maxL := 2) (ret := (some .boolean)) (own := RX0) (nm := "has") hl (by decide +kernel) rfl rfl rfl (Nat.le_of_ble_eq_true rfl) (lv := [(0, .ref (ac 0)), (1, .int x1)]) rfl ?_
  intro p e s m args below meth c A B
  refine z_iload_n B dX0_has_0 1 rfl ?_
  refine z_iflt B 24 dX0_has_1 (by decide) (fun c1 => ?_) (fun c1 => ?_)
  · refine z_iconst B (v := 0) dX0_has_24 rfl ?_
    have hF : fX0_has C x1 = 0 := if_pos c1
    exact z_ret1 B rfl dX0_has_25 () (trivial) (Nat.le_of_ble_eq_true rfl) (Nat.le_of_ble_eq_true rfl) (by rw [hF]) (by rw [hF])
  · refine z_iload_n B dX0_has_4 1 rfl ?_
    refine z_bipush B (v := 16) dX0_has_5 rfl ?_
    refine z_icge B 24 dX0_has_7 (by decide) (fun c2 => ?_) (fun c2 => ?_)
    · refine z_iconst B (v := 0) dX0_has_24 rfl ?_
      have hF : fX0_has C x1 = 0 := (if_neg c1).trans (if_pos c2)
      exact z_ret1 B rfl dX0_has_25 () (trivial) (Nat.le_of_ble_eq_true rfl) (Nat.le_of_ble_eq_true rfl) (by rw [hF]) (by rw [hF])
    · refine z_aload_n B dX0_has_10 0 rfl ?_
      refine z_get B (v := .ref (ac 1)) 0 0 0 hiX0_has_0 hfX0_has_9 rfl rfl rfl (by decide) rfl rfl rfl rfl dX0_has_11 ?_
      refine z_iload_n B dX0_has_14 1 rfl ?_
      refine z_iald B (N := 16) (f := (C 0)) 0 1 rfl rfl (z_vp (M := 16) rfl c1 c2) dX0_has_15 ?_
      refine z_iconst B (v := 3) dX0_has_16 rfl ?_
      refine z_iceq B 24 dX0_has_17 (by decide) (fun c3 => ?_) (fun c3 => ?_)
      · refine z_iconst B (v := 0) dX0_has_24 rfl ?_
        have hF : fX0_has C x1 = 0 := (if_neg c1).trans ((if_neg c2).trans (if_pos c3))
        exact z_ret1 B rfl dX0_has_25 () (trivial) (Nat.le_of_ble_eq_true rfl) (Nat.le_of_ble_eq_true rfl) (by rw [hF]) (by rw [hF])
      · refine z_iconst B (v := 1) dX0_has_20 rfl ?_
        refine z_goto B (tgt := 25) dX0_has_21 (by decide) ?_
        have hF : fX0_has C x1 = 1 := (if_neg c1).trans ((if_neg c2).trans (if_neg c3))
        exact z_ret1 B rfl dX0_has_25 () (trivial) (Nat.le_of_ble_eq_true rfl) (Nat.le_of_ble_eq_true rfl) (by rw [hF]) (by rw [hF])
theorem z_has {C : Nat → Nat → Int32} {x : Int32} (h : ¬ fX0_has C x = 0) : vp_in x 16 := by
  by_cases h1 : x < 0
  · exact absurd (if_pos h1) h
  by_cases h2 : (16 : Int32) ≤ x
  · exact absurd ((if_neg h1).trans (if_pos h2)) h
  exact z_vp (M := 16) rfl h1 h2
def fX0_kindOf (C : Nat → Nat → Int32) (x1 : Int32) : Int32 :=
  if (fX0_has C x1) = 0 then
    3
  else
    ((C 0) x1.toNatClampNeg)
theorem hiX0_kindOf_0 : ∀ w ∈ wsX00, w ∈ wsX0_kindOf := by decide +kernel
theorem hfX0_kindOf_9 : Cond.fieldLink RX0 9 "ResolverFleet$Cache" "kinds" "[I" ∈ wsX0_kindOf := by decide +kernel
set_option maxHeartbeats 4000000 in
set_option maxRecDepth 100000 in
theorem kX0_kindOf (l : Launch) (hl : l.stackTraces = false) (K : zK) (ac : Nat → Nat) (C : Nat → Nat → Int32) (x1 : Int32) : zMet l K yX0_kindOf wsX0_kindOf { frames := 1, cells := 0, slots := 0, locals := 21 } [.ref (ac 0), .int x1] [zCa K ac C] (some (.int (fX0_kindOf C x1))) [zCa K ac C] True zNo := by
  refine zMeN.of (cc := cX0_kindOf) (maxL := 2) (ret := (some .int)) (own := RX0) (nm := "kindOf") hl (by decide +kernel) rfl rfl rfl (Nat.le_of_ble_eq_true rfl) (lv := [(0, .ref (ac 0)), (1, .int x1)]) rfl ?_
  intro p e s m args below meth c A B
  refine z_aload_n B dX0_kindOf_0 0 rfl ?_
  refine z_iload_n B dX0_kindOf_1 1 rfl ?_
  refine z_V1 B (kX0_has l hl K ac C x1) [0] [] (br := []) (bs' := [zCa K ac C]) (st := []) (nA := 1) (zsp rfl rfl rfl) (zsp rfl rfl rfl) 0 0 rfl rfl rfl rfl gX0_kindOf_X0_has rfl (by decide +kernel) ⟨Nat.le_of_ble_eq_true rfl, Nat.le_of_ble_eq_true rfl⟩ rfl rfl (Nat.le_of_ble_eq_true rfl) ⟨Nat.le_of_ble_eq_true rfl, Nat.le_of_ble_eq_true rfl⟩ dX0_kindOf_2 z_noX (fun _ => ?_)
  refine z_ifeq B 17 dX0_kindOf_5 (by decide) (fun c1 => ?_) (fun c1 => ?_)
  · refine z_iconst B (v := 3) dX0_kindOf_17 rfl ?_
    have hF : fX0_kindOf C x1 = 3 := if_pos c1
    exact z_ret1 B rfl dX0_kindOf_18 () (trivial) (Nat.le_of_ble_eq_true rfl) (Nat.le_of_ble_eq_true rfl) (by rw [hF]) (by rw [hF])
  · refine z_aload_n B dX0_kindOf_8 0 rfl ?_
    refine z_get B (v := .ref (ac 1)) 0 0 0 hiX0_kindOf_0 hfX0_kindOf_9 rfl rfl rfl (by decide) rfl rfl rfl rfl dX0_kindOf_9 ?_
    refine z_iload_n B dX0_kindOf_12 1 rfl ?_
    refine z_iald B (N := 16) (f := (C 0)) 0 1 rfl rfl (z_has c1) dX0_kindOf_13 ?_
    refine z_goto B (tgt := 18) dX0_kindOf_14 (by decide) ?_
    have hF : fX0_kindOf C x1 = ((C 0) x1.toNatClampNeg) := if_neg c1
    exact z_ret1 B rfl dX0_kindOf_18 () (trivial) (Nat.le_of_ble_eq_true rfl) (Nat.le_of_ble_eq_true rfl) (by rw [hF]) (by rw [hF])
def fX0_valueOf (C : Nat → Nat → Int32) (x1 : Int32) : Int32 :=
  if (fX0_has C x1) = 0 then
    (-3)
  else
    ((C 1) x1.toNatClampNeg)
theorem hiX0_valueOf_0 : ∀ w ∈ wsX00, w ∈ wsX0_valueOf := by decide +kernel
theorem hfX0_valueOf_15 : Cond.fieldLink RX0 15 "ResolverFleet$Cache" "values" "[I" ∈ wsX0_valueOf := by decide +kernel
set_option maxHeartbeats 4000000 in
set_option maxRecDepth 100000 in
theorem kX0_valueOf (l : Launch) (hl : l.stackTraces = false) (K : zK) (ac : Nat → Nat) (C : Nat → Nat → Int32) (x1 : Int32) : zMet l K yX0_valueOf wsX0_valueOf { frames := 1, cells := 0, slots := 0, locals := 21 } [.ref (ac 0), .int x1] [zCa K ac C] (some (.int (fX0_valueOf C x1))) [zCa K ac C] True zNo := by
  refine zMeN.of (cc := cX0_valueOf) (maxL := 2) (ret := (some .int)) (own := RX0) (nm := "valueOf") hl (by decide +kernel) rfl rfl rfl (Nat.le_of_ble_eq_true rfl) (lv := [(0, .ref (ac 0)), (1, .int x1)]) rfl ?_
  intro p e s m args below meth c A B
  refine z_aload_n B dX0_valueOf_0 0 rfl ?_
  refine z_iload_n B dX0_valueOf_1 1 rfl ?_
  refine z_V1 B (kX0_has l hl K ac C x1) [0] [] (br := []) (bs' := [zCa K ac C]) (st := []) (nA := 1) (zsp rfl rfl rfl) (zsp rfl rfl rfl) 0 0 rfl rfl rfl rfl gX0_valueOf_X0_has rfl (by decide +kernel) ⟨Nat.le_of_ble_eq_true rfl, Nat.le_of_ble_eq_true rfl⟩ rfl rfl (Nat.le_of_ble_eq_true rfl) ⟨Nat.le_of_ble_eq_true rfl, Nat.le_of_ble_eq_true rfl⟩ dX0_valueOf_2 z_noX (fun _ => ?_)
  refine z_ifeq B 17 dX0_valueOf_5 (by decide) (fun c1 => ?_) (fun c1 => ?_)
  · refine z_bipush B (v := (-3)) dX0_valueOf_17 rfl ?_
    have hF : fX0_valueOf C x1 = (-3) := if_pos c1
    exact z_ret1 B rfl dX0_valueOf_19 () (trivial) (Nat.le_of_ble_eq_true rfl) (Nat.le_of_ble_eq_true rfl) (by rw [hF]) (by rw [hF])
  · refine z_aload_n B dX0_valueOf_8 0 rfl ?_
    refine z_get B (v := .ref (ac 2)) 0 0 1 hiX0_valueOf_0 hfX0_valueOf_15 rfl rfl rfl (by decide) rfl rfl rfl rfl dX0_valueOf_9 ?_
    refine z_iload_n B dX0_valueOf_12 1 rfl ?_
    refine z_iald B (N := 16) (f := (C 1)) 0 2 rfl rfl (z_has c1) dX0_valueOf_13 ?_
    refine z_goto B (tgt := 19) dX0_valueOf_14 (by decide) ?_
    have hF : fX0_valueOf C x1 = ((C 1) x1.toNatClampNeg) := if_neg c1
    exact z_ret1 B rfl dX0_valueOf_19 () (trivial) (Nat.le_of_ble_eq_true rfl) (Nat.le_of_ble_eq_true rfl) (by rw [hF]) (by rw [hF])
def fX0_endOf (C : Nat → Nat → Int32) (x1 : Int32) : Int32 :=
  if (fX0_has C x1) = 0 then
    0
  else
    ((C 3) x1.toNatClampNeg)
theorem hiX0_endOf_0 : ∀ w ∈ wsX00, w ∈ wsX0_endOf := by decide +kernel
theorem hfX0_endOf_21 : Cond.fieldLink RX0 21 "ResolverFleet$Cache" "ends" "[I" ∈ wsX0_endOf := by decide +kernel
set_option maxHeartbeats 4000000 in
set_option maxRecDepth 100000 in
theorem kX0_endOf (l : Launch) (hl : l.stackTraces = false) (K : zK) (ac : Nat → Nat) (C : Nat → Nat → Int32) (x1 : Int32) : zMet l K yX0_endOf wsX0_endOf { frames := 1, cells := 0, slots := 0, locals := 21 } [.ref (ac 0), .int x1] [zCa K ac C] (some (.int (fX0_endOf C x1))) [zCa K ac C] True zNo := by
  refine zMeN.of (cc := cX0_endOf) (maxL := 2) (ret := (some .int)) (own := RX0) (nm := "endOf") hl (by decide +kernel) rfl rfl rfl (Nat.le_of_ble_eq_true rfl) (lv := [(0, .ref (ac 0)), (1, .int x1)]) rfl ?_
  intro p e s m args below meth c A B
  refine z_aload_n B dX0_endOf_0 0 rfl ?_
  refine z_iload_n B dX0_endOf_1 1 rfl ?_
  refine z_V1 B (kX0_has l hl K ac C x1) [0] [] (br := []) (bs' := [zCa K ac C]) (st := []) (nA := 1) (zsp rfl rfl rfl) (zsp rfl rfl rfl) 0 0 rfl rfl rfl rfl gX0_endOf_X0_has rfl (by decide +kernel) ⟨Nat.le_of_ble_eq_true rfl, Nat.le_of_ble_eq_true rfl⟩ rfl rfl (Nat.le_of_ble_eq_true rfl) ⟨Nat.le_of_ble_eq_true rfl, Nat.le_of_ble_eq_true rfl⟩ dX0_endOf_2 z_noX (fun _ => ?_)
  refine z_ifeq B 17 dX0_endOf_5 (by decide) (fun c1 => ?_) (fun c1 => ?_)
  · refine z_iconst B (v := 0) dX0_endOf_17 rfl ?_
    have hF : fX0_endOf C x1 = 0 := if_pos c1
    exact z_ret1 B rfl dX0_endOf_18 () (trivial) (Nat.le_of_ble_eq_true rfl) (Nat.le_of_ble_eq_true rfl) (by rw [hF]) (by rw [hF])
  · refine z_aload_n B dX0_endOf_8 0 rfl ?_
    refine z_get B (v := .ref (ac 4)) 0 0 3 hiX0_endOf_0 hfX0_endOf_21 rfl rfl rfl (by decide) rfl rfl rfl rfl dX0_endOf_9 ?_
    refine z_iload_n B dX0_endOf_12 1 rfl ?_
    refine z_iald B (N := 16) (f := (C 3)) 0 4 rfl rfl (z_has c1) dX0_endOf_13 ?_
    refine z_goto B (tgt := 18) dX0_endOf_14 (by decide) ?_
    have hF : fX0_endOf C x1 = ((C 3) x1.toNatClampNeg) := if_neg c1
    exact z_ret1 B rfl dX0_endOf_18 () (trivial) (Nat.le_of_ble_eq_true rfl) (Nat.le_of_ble_eq_true rfl) (by rw [hF]) (by rw [hF])
def fX0_hitsFor (C : Nat → Nat → Int32) (x1 : Int32) : Int32 :=
  if (fX0_has C x1) = 0 then
    0
  else
    ((C 4) x1.toNatClampNeg)
theorem hiX0_hitsFor_0 : ∀ w ∈ wsX00, w ∈ wsX0_hitsFor := by decide +kernel
theorem hfX0_hitsFor_24 : Cond.fieldLink RX0 24 "ResolverFleet$Cache" "hits" "[I" ∈ wsX0_hitsFor := by decide +kernel
set_option maxHeartbeats 4000000 in
set_option maxRecDepth 100000 in
theorem kX0_hitsFor (l : Launch) (hl : l.stackTraces = false) (K : zK) (ac : Nat → Nat) (C : Nat → Nat → Int32) (x1 : Int32) : zMet l K yX0_hitsFor wsX0_hitsFor { frames := 1, cells := 0, slots := 0, locals := 21 } [.ref (ac 0), .int x1] [zCa K ac C] (some (.int (fX0_hitsFor C x1))) [zCa K ac C] True zNo := by
  refine zMeN.of (cc := cX0_hitsFor) (maxL := 2) (ret := (some .int)) (own := RX0) (nm := "hitsFor") hl (by decide +kernel) rfl rfl rfl (Nat.le_of_ble_eq_true rfl) (lv := [(0, .ref (ac 0)), (1, .int x1)]) rfl ?_
  intro p e s m args below meth c A B
  refine z_aload_n B dX0_hitsFor_0 0 rfl ?_
  refine z_iload_n B dX0_hitsFor_1 1 rfl ?_
  refine z_V1 B (kX0_has l hl K ac C x1) [0] [] (br := []) (bs' := [zCa K ac C]) (st := []) (nA := 1) (zsp rfl rfl rfl) (zsp rfl rfl rfl) 0 0 rfl rfl rfl rfl gX0_hitsFor_X0_has rfl (by decide +kernel) ⟨Nat.le_of_ble_eq_true rfl, Nat.le_of_ble_eq_true rfl⟩ rfl rfl (Nat.le_of_ble_eq_true rfl) ⟨Nat.le_of_ble_eq_true rfl, Nat.le_of_ble_eq_true rfl⟩ dX0_hitsFor_2 z_noX (fun _ => ?_)
  refine z_ifeq B 17 dX0_hitsFor_5 (by decide) (fun c1 => ?_) (fun c1 => ?_)
  · refine z_iconst B (v := 0) dX0_hitsFor_17 rfl ?_
    have hF : fX0_hitsFor C x1 = 0 := if_pos c1
    exact z_ret1 B rfl dX0_hitsFor_18 () (trivial) (Nat.le_of_ble_eq_true rfl) (Nat.le_of_ble_eq_true rfl) (by rw [hF]) (by rw [hF])
  · refine z_aload_n B dX0_hitsFor_8 0 rfl ?_
    refine z_get B (v := .ref (ac 5)) 0 0 4 hiX0_hitsFor_0 hfX0_hitsFor_24 rfl rfl rfl (by decide) rfl rfl rfl rfl dX0_hitsFor_9 ?_
    refine z_iload_n B dX0_hitsFor_12 1 rfl ?_
    refine z_iald B (N := 16) (f := (C 4)) 0 5 rfl rfl (z_has c1) dX0_hitsFor_13 ?_
    refine z_goto B (tgt := 18) dX0_hitsFor_14 (by decide) ?_
    have hF : fX0_hitsFor C x1 = ((C 4) x1.toNatClampNeg) := if_neg c1
    exact z_ret1 B rfl dX0_hitsFor_18 () (trivial) (Nat.le_of_ble_eq_true rfl) (Nat.le_of_ble_eq_true rfl) (by rw [hF]) (by rw [hF])
def fX0_isFresh (C : Nat → Nat → Int32) (x1 : Int32) (x2 : Int32) : Int32 :=
  if (fX0_has C x1) = 0 then
    0
  else
    if ((C 3) x1.toNatClampNeg) ≤ x2 then
      0
    else
      1
theorem hiX0_isFresh_0 : ∀ w ∈ wsX00, w ∈ wsX0_isFresh := by decide +kernel
theorem hfX0_isFresh_21 : Cond.fieldLink RX0 21 "ResolverFleet$Cache" "ends" "[I" ∈ wsX0_isFresh := by decide +kernel
set_option maxHeartbeats 4000000 in
set_option maxRecDepth 100000 in
theorem kX0_isFresh (l : Launch) (hl : l.stackTraces = false) (K : zK) (ac : Nat → Nat) (C : Nat → Nat → Int32) (x1 : Int32) (x2 : Int32) : zMet l K yX0_isFresh wsX0_isFresh { frames := 1, cells := 0, slots := 0, locals := 21 } [.ref (ac 0), .int x1, .int x2] [zCa K ac C] (some (.int (fX0_isFresh C x1 x2))) [zCa K ac C] True zNo := by
  refine zMeN.of (cc := cX0_isFresh) (maxL := 3) (ret := (some .boolean)) (own := RX0) (nm := "isFresh") hl (by decide +kernel) rfl rfl rfl (Nat.le_of_ble_eq_true rfl) (lv := [(0, .ref (ac 0)), (1, .int x1), (2, .int x2)]) rfl ?_
  intro p e s m args below meth c A B
  refine z_aload_n B dX0_isFresh_0 0 rfl ?_
  refine z_iload_n B dX0_isFresh_1 1 rfl ?_
  refine z_V1 B (kX0_has l hl K ac C x1) [0] [] (br := []) (bs' := [zCa K ac C]) (st := []) (nA := 1) (zsp rfl rfl rfl) (zsp rfl rfl rfl) 0 0 rfl rfl rfl rfl gX0_isFresh_X0_has rfl (by decide +kernel) ⟨Nat.le_of_ble_eq_true rfl, Nat.le_of_ble_eq_true rfl⟩ rfl rfl (Nat.le_of_ble_eq_true rfl) ⟨Nat.le_of_ble_eq_true rfl, Nat.le_of_ble_eq_true rfl⟩ dX0_isFresh_2 z_noX (fun _ => ?_)
  refine z_ifeq B 22 dX0_isFresh_5 (by decide) (fun c1 => ?_) (fun c1 => ?_)
  · refine z_iconst B (v := 0) dX0_isFresh_22 rfl ?_
    have hF : fX0_isFresh C x1 x2 = 0 := if_pos c1
    exact z_ret1 B rfl dX0_isFresh_23 () (trivial) (Nat.le_of_ble_eq_true rfl) (Nat.le_of_ble_eq_true rfl) (by rw [hF]) (by rw [hF])
  · refine z_iload_n B dX0_isFresh_8 2 rfl ?_
    refine z_aload_n B dX0_isFresh_9 0 rfl ?_
    refine z_get B (v := .ref (ac 4)) 0 0 3 hiX0_isFresh_0 hfX0_isFresh_21 rfl rfl rfl (by decide) rfl rfl rfl rfl dX0_isFresh_10 ?_
    refine z_iload_n B dX0_isFresh_13 1 rfl ?_
    refine z_iald B (N := 16) (f := (C 3)) 0 4 rfl rfl (z_has c1) dX0_isFresh_14 ?_
    refine z_icge B 22 dX0_isFresh_15 (by decide) (fun c2 => ?_) (fun c2 => ?_)
    · refine z_iconst B (v := 0) dX0_isFresh_22 rfl ?_
      have hF : fX0_isFresh C x1 x2 = 0 := (if_neg c1).trans (if_pos c2)
      exact z_ret1 B rfl dX0_isFresh_23 () (trivial) (Nat.le_of_ble_eq_true rfl) (Nat.le_of_ble_eq_true rfl) (by rw [hF]) (by rw [hF])
    · refine z_iconst B (v := 1) dX0_isFresh_18 rfl ?_
      refine z_goto B (tgt := 23) dX0_isFresh_19 (by decide) ?_
      have hF : fX0_isFresh C x1 x2 = 1 := (if_neg c1).trans (if_neg c2)
      exact z_ret1 B rfl dX0_isFresh_23 () (trivial) (Nat.le_of_ble_eq_true rfl) (Nat.le_of_ble_eq_true rfl) (by rw [hF]) (by rw [hF])
def fX0_servesStale (C : Nat → Nat → Int32) (x1 : Int32) (x2 : Int32) : Int32 :=
  if (fX0_has C x1) = 0 then
    0
  else
    if 100 ≤ (x2 - ((C 3) x1.toNatClampNeg)) then
      0
    else
      1
theorem hiX0_servesStale_0 : ∀ w ∈ wsX00, w ∈ wsX0_servesStale := by decide +kernel
theorem hfX0_servesStale_21 : Cond.fieldLink RX0 21 "ResolverFleet$Cache" "ends" "[I" ∈ wsX0_servesStale := by decide +kernel
set_option maxHeartbeats 4000000 in
set_option maxRecDepth 100000 in
theorem kX0_servesStale (l : Launch) (hl : l.stackTraces = false) (K : zK) (ac : Nat → Nat) (C : Nat → Nat → Int32) (x1 : Int32) (x2 : Int32) : zMet l K yX0_servesStale wsX0_servesStale { frames := 1, cells := 0, slots := 0, locals := 21 } [.ref (ac 0), .int x1, .int x2] [zCa K ac C] (some (.int (fX0_servesStale C x1 x2))) [zCa K ac C] True zNo := by
  refine zMeN.of (cc := cX0_servesStale) (maxL := 3) (ret := (some .boolean)) (own := RX0) (nm := "servesStale") hl (by decide +kernel) rfl rfl rfl (Nat.le_of_ble_eq_true rfl) (lv := [(0, .ref (ac 0)), (1, .int x1), (2, .int x2)]) rfl ?_
  intro p e s m args below meth c A B
  refine z_aload_n B dX0_servesStale_0 0 rfl ?_
  refine z_iload_n B dX0_servesStale_1 1 rfl ?_
  refine z_V1 B (kX0_has l hl K ac C x1) [0] [] (br := []) (bs' := [zCa K ac C]) (st := []) (nA := 1) (zsp rfl rfl rfl) (zsp rfl rfl rfl) 0 0 rfl rfl rfl rfl gX0_servesStale_X0_has rfl (by decide +kernel) ⟨Nat.le_of_ble_eq_true rfl, Nat.le_of_ble_eq_true rfl⟩ rfl rfl (Nat.le_of_ble_eq_true rfl) ⟨Nat.le_of_ble_eq_true rfl, Nat.le_of_ble_eq_true rfl⟩ dX0_servesStale_2 z_noX (fun _ => ?_)
  refine z_ifeq B 25 dX0_servesStale_5 (by decide) (fun c1 => ?_) (fun c1 => ?_)
  · refine z_iconst B (v := 0) dX0_servesStale_25 rfl ?_
    have hF : fX0_servesStale C x1 x2 = 0 := if_pos c1
    exact z_ret1 B rfl dX0_servesStale_26 () (trivial) (Nat.le_of_ble_eq_true rfl) (Nat.le_of_ble_eq_true rfl) (by rw [hF]) (by rw [hF])
  · refine z_iload_n B dX0_servesStale_8 2 rfl ?_
    refine z_aload_n B dX0_servesStale_9 0 rfl ?_
    refine z_get B (v := .ref (ac 4)) 0 0 3 hiX0_servesStale_0 hfX0_servesStale_21 rfl rfl rfl (by decide) rfl rfl rfl rfl dX0_servesStale_10 ?_
    refine z_iload_n B dX0_servesStale_13 1 rfl ?_
    refine z_iald B (N := 16) (f := (C 3)) 0 4 rfl rfl (z_has c1) dX0_servesStale_14 ?_
    refine z_isub B dX0_servesStale_15 ?_
    refine z_bipush B (v := 100) dX0_servesStale_16 rfl ?_
    refine z_icge B 25 dX0_servesStale_18 (by decide) (fun c2 => ?_) (fun c2 => ?_)
    · refine z_iconst B (v := 0) dX0_servesStale_25 rfl ?_
      have hF : fX0_servesStale C x1 x2 = 0 := (if_neg c1).trans (if_pos c2)
      exact z_ret1 B rfl dX0_servesStale_26 () (trivial) (Nat.le_of_ble_eq_true rfl) (Nat.le_of_ble_eq_true rfl) (by rw [hF]) (by rw [hF])
    · refine z_iconst B (v := 1) dX0_servesStale_21 rfl ?_
      refine z_goto B (tgt := 26) dX0_servesStale_22 (by decide) ?_
      have hF : fX0_servesStale C x1 x2 = 1 := (if_neg c1).trans (if_neg c2)
      exact z_ret1 B rfl dX0_servesStale_26 () (trivial) (Nat.le_of_ble_eq_true rfl) (Nat.le_of_ble_eq_true rfl) (by rw [hF]) (by rw [hF])
def fX0_isHot (C : Nat → Nat → Int32) (x1 : Int32) (x2 : Int32) : Int32 :=
  if (fX0_has C x1) = 0 then
    0
  else
    if ((C 4) x1.toNatClampNeg) < 3 then
      0
    else
      if ((C 2) x1.toNatClampNeg) < (4 * (((C 3) x1.toNatClampNeg) - x2)) then
        0
      else
        1
theorem hiX0_isHot_0 : ∀ w ∈ wsX00, w ∈ wsX0_isHot := by decide +kernel
theorem hfX0_isHot_24 : Cond.fieldLink RX0 24 "ResolverFleet$Cache" "hits" "[I" ∈ wsX0_isHot := by decide +kernel
theorem hfX0_isHot_21 : Cond.fieldLink RX0 21 "ResolverFleet$Cache" "ends" "[I" ∈ wsX0_isHot := by decide +kernel
theorem hfX0_isHot_18 : Cond.fieldLink RX0 18 "ResolverFleet$Cache" "lives" "[I" ∈ wsX0_isHot := by decide +kernel
set_option maxHeartbeats 4000000 in
set_option maxRecDepth 100000 in
theorem kX0_isHot (l : Launch) (hl : l.stackTraces = false) (K : zK) (ac : Nat → Nat) (C : Nat → Nat → Int32) (x1 : Int32) (x2 : Int32) : zMet l K yX0_isHot wsX0_isHot { frames := 1, cells := 0, slots := 0, locals := 21 } [.ref (ac 0), .int x1, .int x2] [zCa K ac C] (some (.int (fX0_isHot C x1 x2))) [zCa K ac C] True zNo := by
  refine zMeN.of (cc := cX0_isHot) (maxL := 3) (ret := (some .boolean)) (own := RX0) (nm := "isHot") hl (by decide +kernel) rfl rfl rfl (Nat.le_of_ble_eq_true rfl) (lv := [(0, .ref (ac 0)), (1, .int x1), (2, .int x2)]) rfl ?_
  intro p e s m args below meth c A B
  refine z_aload_n B dX0_isHot_0 0 rfl ?_
  refine z_iload_n B dX0_isHot_1 1 rfl ?_
  refine z_V1 B (kX0_has l hl K ac C x1) [0] [] (br := []) (bs' := [zCa K ac C]) (st := []) (nA := 1) (zsp rfl rfl rfl) (zsp rfl rfl rfl) 0 0 rfl rfl rfl rfl gX0_isHot_X0_has rfl (by decide +kernel) ⟨Nat.le_of_ble_eq_true rfl, Nat.le_of_ble_eq_true rfl⟩ rfl rfl (Nat.le_of_ble_eq_true rfl) ⟨Nat.le_of_ble_eq_true rfl, Nat.le_of_ble_eq_true rfl⟩ dX0_isHot_2 z_noX (fun _ => ?_)
  refine z_ifeq B 41 dX0_isHot_5 (by decide) (fun c1 => ?_) (fun c1 => ?_)
  · refine z_iconst B (v := 0) dX0_isHot_41 rfl ?_
    have hF : fX0_isHot C x1 x2 = 0 := if_pos c1
    exact z_ret1 B rfl dX0_isHot_42 () (trivial) (Nat.le_of_ble_eq_true rfl) (Nat.le_of_ble_eq_true rfl) (by rw [hF]) (by rw [hF])
  · refine z_aload_n B dX0_isHot_8 0 rfl ?_
    refine z_get B (v := .ref (ac 5)) 0 0 4 hiX0_isHot_0 hfX0_isHot_24 rfl rfl rfl (by decide) rfl rfl rfl rfl dX0_isHot_9 ?_
    refine z_iload_n B dX0_isHot_12 1 rfl ?_
    refine z_iald B (N := 16) (f := (C 4)) 0 5 rfl rfl (z_has c1) dX0_isHot_13 ?_
    refine z_iconst B (v := 3) dX0_isHot_14 rfl ?_
    refine z_iclt B 41 dX0_isHot_15 (by decide) (fun c2 => ?_) (fun c2 => ?_)
    · refine z_iconst B (v := 0) dX0_isHot_41 rfl ?_
      have hF : fX0_isHot C x1 x2 = 0 := (if_neg c1).trans (if_pos c2)
      exact z_ret1 B rfl dX0_isHot_42 () (trivial) (Nat.le_of_ble_eq_true rfl) (Nat.le_of_ble_eq_true rfl) (by rw [hF]) (by rw [hF])
    · refine z_iconst B (v := 4) dX0_isHot_18 rfl ?_
      refine z_aload_n B dX0_isHot_19 0 rfl ?_
      refine z_get B (v := .ref (ac 4)) 0 0 3 hiX0_isHot_0 hfX0_isHot_21 rfl rfl rfl (by decide) rfl rfl rfl rfl dX0_isHot_20 ?_
      refine z_iload_n B dX0_isHot_23 1 rfl ?_
      refine z_iald B (N := 16) (f := (C 3)) 0 4 rfl rfl (z_has c1) dX0_isHot_24 ?_
      refine z_iload_n B dX0_isHot_25 2 rfl ?_
      refine z_isub B dX0_isHot_26 ?_
      refine z_imul B dX0_isHot_27 ?_
      refine z_aload_n B dX0_isHot_28 0 rfl ?_
      refine z_get B (v := .ref (ac 3)) 0 0 2 hiX0_isHot_0 hfX0_isHot_18 rfl rfl rfl (by decide) rfl rfl rfl rfl dX0_isHot_29 ?_
      refine z_iload_n B dX0_isHot_32 1 rfl ?_
      refine z_iald B (N := 16) (f := (C 2)) 0 3 rfl rfl (z_has c1) dX0_isHot_33 ?_
      refine z_icgt B 41 dX0_isHot_34 (by decide) (fun c3 => ?_) (fun c3 => ?_)
      · refine z_iconst B (v := 0) dX0_isHot_41 rfl ?_
        have hF : fX0_isHot C x1 x2 = 0 := (if_neg c1).trans ((if_neg c2).trans (if_pos c3))
        exact z_ret1 B rfl dX0_isHot_42 () (trivial) (Nat.le_of_ble_eq_true rfl) (Nat.le_of_ble_eq_true rfl) (by rw [hF]) (by rw [hF])
      · refine z_iconst B (v := 1) dX0_isHot_37 rfl ?_
        refine z_goto B (tgt := 42) dX0_isHot_38 (by decide) ?_
        have hF : fX0_isHot C x1 x2 = 1 := (if_neg c1).trans ((if_neg c2).trans (if_neg c3))
        exact z_ret1 B rfl dX0_isHot_42 () (trivial) (Nat.le_of_ble_eq_true rfl) (Nat.le_of_ble_eq_true rfl) (by rw [hF]) (by rw [hF])
def fX0_countHit (C : Nat → Nat → Int32) (x1 : Int32) : (Nat → Nat → Int32) :=
  if (fX0_has C x1) = 0 then
    C
  else
    (va_up C 4 (upd (C 4) x1.toNatClampNeg (((C 4) x1.toNatClampNeg) + 1)))
theorem hiX0_countHit_0 : ∀ w ∈ wsX00, w ∈ wsX0_countHit := by decide +kernel
theorem hfX0_countHit_24 : Cond.fieldLink RX0 24 "ResolverFleet$Cache" "hits" "[I" ∈ wsX0_countHit := by decide +kernel
set_option maxHeartbeats 4000000 in
set_option maxRecDepth 100000 in
theorem kX0_countHit (l : Launch) (hl : l.stackTraces = false) (K : zK) (ac : Nat → Nat) (C : Nat → Nat → Int32) (x1 : Int32) : zMet l K yX0_countHit wsX0_countHit { frames := 1, cells := 0, slots := 0, locals := 21 } [.ref (ac 0), .int x1] [zCa K ac C] none [zCa K ac (fX0_countHit C x1)] True zNo := by
  refine zMeN.of (cc := cX0_countHit) (maxL := 2) (ret := none) (own := RX0) (nm := "countHit") hl (by decide +kernel) rfl rfl rfl (Nat.le_of_ble_eq_true rfl) (lv := [(0, .ref (ac 0)), (1, .int x1)]) rfl ?_
  intro p e s m args below meth c A B
  refine z_aload_n B dX0_countHit_0 0 rfl ?_
  refine z_iload_n B dX0_countHit_1 1 rfl ?_
  refine z_V1 B (kX0_has l hl K ac C x1) [0] [] (br := []) (bs' := [zCa K ac C]) (st := []) (nA := 1) (zsp rfl rfl rfl) (zsp rfl rfl rfl) 0 0 rfl rfl rfl rfl gX0_countHit_X0_has rfl (by decide +kernel) ⟨Nat.le_of_ble_eq_true rfl, Nat.le_of_ble_eq_true rfl⟩ rfl rfl (Nat.le_of_ble_eq_true rfl) ⟨Nat.le_of_ble_eq_true rfl, Nat.le_of_ble_eq_true rfl⟩ dX0_countHit_2 z_noX (fun _ => ?_)
  refine z_ifeq B 18 dX0_countHit_5 (by decide) (fun c1 => ?_) (fun c1 => ?_)
  · have hF : fX0_countHit C x1 = C := if_pos c1
    exact z_ret0 B dX0_countHit_18 () (trivial) (Nat.le_of_ble_eq_true rfl) (Nat.le_of_ble_eq_true rfl) rfl (by rw [hF])
  · refine z_aload_n B dX0_countHit_8 0 rfl ?_
    refine z_get B (v := .ref (ac 5)) 0 0 4 hiX0_countHit_0 hfX0_countHit_24 rfl rfl rfl (by decide) rfl rfl rfl rfl dX0_countHit_9 ?_
    refine z_iload_n B dX0_countHit_12 1 rfl ?_
    refine z_dup2 B dX0_countHit_13 rfl rfl ?_
    refine z_iald B (N := 16) (f := (C 4)) 0 5 rfl rfl (z_has c1) dX0_countHit_14 ?_
    refine z_iconst B (v := 1) dX0_countHit_15 rfl ?_
    refine z_iadd B dX0_countHit_16 ?_
    refine z_iast B (N := 16) (f := (C 4)) 0 5 rfl rfl (z_has c1) (bs' := [zCa K ac (va_up C 4 (upd (C 4) x1.toNatClampNeg (((C 4) x1.toNatClampNeg) + 1)))]) rfl dX0_countHit_17 ?_
    have hF : fX0_countHit C x1 = (va_up C 4 (upd (C 4) x1.toNatClampNeg (((C 4) x1.toNatClampNeg) + 1))) := if_neg c1
    exact z_ret0 B dX0_countHit_18 () (trivial) (Nat.le_of_ble_eq_true rfl) (Nat.le_of_ble_eq_true rfl) rfl (by rw [hF])
def fX0_drop (C : Nat → Nat → Int32) (x1 : Int32) : Int32 × (Nat → Nat → Int32) :=
  if (fX0_has C x1) = 0 then
    (0, C)
  else
    (1, (va_up (va_up C 0 (upd (C 0) x1.toNatClampNeg 3)) 5 (fun _ => ((C 5 0) - 1))))
theorem hiX0_drop_0 : ∀ w ∈ wsX00, w ∈ wsX0_drop := by decide +kernel
theorem hfX0_drop_9 : Cond.fieldLink RX0 9 "ResolverFleet$Cache" "kinds" "[I" ∈ wsX0_drop := by decide +kernel
theorem hfX0_drop_39 : Cond.fieldLink RX0 39 "ResolverFleet$Cache" "size" "I" ∈ wsX0_drop := by decide +kernel
set_option maxHeartbeats 4000000 in
set_option maxRecDepth 100000 in
theorem kX0_drop (l : Launch) (hl : l.stackTraces = false) (K : zK) (ac : Nat → Nat) (C : Nat → Nat → Int32) (x1 : Int32) : zMet l K yX0_drop wsX0_drop { frames := 1, cells := 0, slots := 0, locals := 21 } [.ref (ac 0), .int x1] [zCa K ac C] (some (.int ((fX0_drop C x1).1))) [zCa K ac ((fX0_drop C x1).2)] True zNo := by
  refine zMeN.of (cc := cX0_drop) (maxL := 2) (ret := (some .boolean)) (own := RX0) (nm := "drop") hl (by decide +kernel) rfl rfl rfl (Nat.le_of_ble_eq_true rfl) (lv := [(0, .ref (ac 0)), (1, .int x1)]) rfl ?_
  intro p e s m args below meth c A B
  refine z_aload_n B dX0_drop_0 0 rfl ?_
  refine z_iload_n B dX0_drop_1 1 rfl ?_
  refine z_V1 B (kX0_has l hl K ac C x1) [0] [] (br := []) (bs' := [zCa K ac C]) (st := []) (nA := 1) (zsp rfl rfl rfl) (zsp rfl rfl rfl) 0 0 rfl rfl rfl rfl gX0_drop_X0_has rfl (by decide +kernel) ⟨Nat.le_of_ble_eq_true rfl, Nat.le_of_ble_eq_true rfl⟩ rfl rfl (Nat.le_of_ble_eq_true rfl) ⟨Nat.le_of_ble_eq_true rfl, Nat.le_of_ble_eq_true rfl⟩ dX0_drop_2 z_noX (fun _ => ?_)
  refine z_ifne B 10 dX0_drop_5 (by decide) (fun c1 => ?_) (fun c1 => ?_)
  · refine z_iconst B (v := 0) dX0_drop_8 rfl ?_
    have hF : fX0_drop C x1 = (0, C) := if_pos c1
    exact z_ret1 B rfl dX0_drop_9 () (trivial) (Nat.le_of_ble_eq_true rfl) (Nat.le_of_ble_eq_true rfl) (by rw [hF]) (by rw [hF])
  · refine z_aload_n B dX0_drop_10 0 rfl ?_
    refine z_get B (v := .ref (ac 1)) 0 0 0 hiX0_drop_0 hfX0_drop_9 rfl rfl rfl (by decide) rfl rfl rfl rfl dX0_drop_11 ?_
    refine z_iload_n B dX0_drop_14 1 rfl ?_
    refine z_iconst B (v := 3) dX0_drop_15 rfl ?_
    refine z_iast B (N := 16) (f := (C 0)) 0 1 rfl rfl (z_has c1) (bs' := [zCa K ac (va_up C 0 (upd (C 0) x1.toNatClampNeg 3))]) rfl dX0_drop_16 ?_
    refine z_aload_n B dX0_drop_17 0 rfl ?_
    refine z_dup B dX0_drop_18 rfl ?_
    refine z_get B (v := .int (C 5 0)) 0 0 5 hiX0_drop_0 hfX0_drop_39 rfl rfl rfl (by decide) rfl rfl rfl rfl dX0_drop_19 ?_
    refine z_iconst B (v := 1) dX0_drop_22 rfl ?_
    refine z_isub B dX0_drop_23 ?_
    refine z_put B 0 0 5 hiX0_drop_0 hfX0_drop_39 tyX0_ok nmX0 rfl rfl rfl (by decide) rfl rfl rfl rfl rfl rfl rfl (Nat.le_of_ble_eq_true rfl) (bs' := [zCa K ac (va_up (va_up C 0 (upd (C 0) x1.toNatClampNeg 3)) 5 (fun _ => ((C 5 0) - 1)))]) rfl dX0_drop_24 ?_
    refine z_iconst B (v := 1) dX0_drop_27 rfl ?_
    have hF : fX0_drop C x1 = (1, (va_up (va_up C 0 (upd (C 0) x1.toNatClampNeg 3)) 5 (fun _ => ((C 5 0) - 1)))) := if_neg c1
    exact z_ret1 B rfl dX0_drop_28 () (trivial) (Nat.le_of_ble_eq_true rfl) (Nat.le_of_ble_eq_true rfl) (by rw [hF]) (by rw [hF])
def fX0_firstToEnd_L5 (C : Nat → Nat → Int32) : Nat → Nat → (Int32) → Int32
  | 0, a, g =>
    g
  | n + 1, a, g =>
    if ((C 0) (nI a).toNatClampNeg) = 3 then
      fX0_firstToEnd_L5 C n (a + 1) g
    else
      if g < 0 then
        fX0_firstToEnd_L5 C n (a + 1) (nI a)
      else
        if ((C 3) g.toNatClampNeg) ≤ ((C 3) (nI a).toNatClampNeg) then
          fX0_firstToEnd_L5 C n (a + 1) g
        else
          fX0_firstToEnd_L5 C n (a + 1) (nI a)
def fX0_firstToEnd (C : Nat → Nat → Int32) : Int32 :=
  fX0_firstToEnd_L5 C 16 0 (-3)
theorem hiX0_firstToEnd_0 : ∀ w ∈ wsX00, w ∈ wsX0_firstToEnd := by decide +kernel
theorem hfX0_firstToEnd_9 : Cond.fieldLink RX0 9 "ResolverFleet$Cache" "kinds" "[I" ∈ wsX0_firstToEnd := by decide +kernel
theorem hfX0_firstToEnd_21 : Cond.fieldLink RX0 21 "ResolverFleet$Cache" "ends" "[I" ∈ wsX0_firstToEnd := by decide +kernel
set_option maxHeartbeats 4000000 in
set_option maxRecDepth 100000 in
theorem kX0_firstToEnd_L5 (l : Launch) (hl : l.stackTraces = false) (K : zK) (ac : Nat → Nat) (C : Nat → Nat → Int32) {p : Program} {e : Env} {s : State} {m : MethodId} {args : Array Value} {below : List Frame} {meth : Method} {c : Code} {A : Nat → Prop} (B : zF K p l s m args meth c A cX0_firstToEnd 3 RX0 "firstToEnd" wsX0_firstToEnd (some .int) []) : ∀ (n a : Nat) (g : Int32), a + n = 16 → (g < 0 ∨ vp_in g 16) → fX0_firstToEnd C = fX0_firstToEnd_L5 C n a g → zW K p l e { frames := 0, cells := 0, slots := 0, locals := 0 } s m args below meth c A (vx_MQ below (zQ K A (fun _ : Unit => ((some (.int (fX0_firstToEnd C))), [zCa K ac C])) (fun _ => True)) (zX K A [zCa K ac C] zNo) args s 0 0 A) 0 0 [zCa K ac C] [(0, .ref (ac 0)), (1, .int g), (2, .int (nI a))] [] 5 := by
  intro n
  induction n with
  | zero =>
    intro a g ha hg hF0
    refine z_iload_n B dX0_firstToEnd_5 2 rfl ?_
    refine z_bipush B (v := 16) dX0_firstToEnd_6 rfl ?_
    refine z_icge B 48 dX0_firstToEnd_8 (by decide) (fun _ => ?_) (fun h => absurd (z_lge0 ha (by decide)) h)
    refine z_iload_n B dX0_firstToEnd_48 1 rfl ?_
    have hF : fX0_firstToEnd C = g := hF0
    exact z_ret1 B rfl dX0_firstToEnd_49 () (trivial) (Nat.le_of_ble_eq_true rfl) (Nat.le_of_ble_eq_true rfl) (by rw [hF]) (by rw [hF])
  | succ n ih =>
    intro a g ha hg hF0
    refine z_iload_n B dX0_firstToEnd_5 2 rfl ?_
    refine z_bipush B (v := 16) dX0_firstToEnd_6 rfl ?_
    refine z_icge B 48 dX0_firstToEnd_8 (by decide) (fun h => absurd h (z_lgeS ha (by decide))) (fun _ => ?_)
    refine z_aload_n B dX0_firstToEnd_11 0 rfl ?_
    refine z_get B (v := .ref (ac 1)) 0 0 0 hiX0_firstToEnd_0 hfX0_firstToEnd_9 rfl rfl rfl (by decide) rfl rfl rfl rfl dX0_firstToEnd_12 ?_
    refine z_iload_n B dX0_firstToEnd_15 2 rfl ?_
    refine z_iald B (N := 16) (f := (C 0)) 0 1 rfl rfl (z_nIr (by omega) (by decide)) dX0_firstToEnd_16 ?_
    refine z_iconst B (v := 3) dX0_firstToEnd_17 rfl ?_
    refine z_iceq B 42 dX0_firstToEnd_18 (by decide) (fun c1 => ?_) (fun c1 => ?_)
    · refine z_iinc B (v := nI (a + 1)) (lv' := [(2, .int (nI (a + 1))), (0, .ref (ac 0)), (1, .int g)]) dX0_firstToEnd_42 2 rfl (nI_1 a) (by decide) rfl ?_
      refine z_goto B (tgt := 5) dX0_firstToEnd_45 (by decide) ?_
      refine z_lsub [1, 2, 0] rfl ?_
      have hF : fX0_firstToEnd C = fX0_firstToEnd_L5 C n (a + 1) g := (hF0).trans (if_pos c1)
      exact ih (a + 1) g (by omega) hg hF
    · refine z_iload_n B dX0_firstToEnd_21 1 rfl ?_
      refine z_iflt B 40 dX0_firstToEnd_22 (by decide) (fun c2 => ?_) (fun c2 => ?_)
      · refine z_iload_n B dX0_firstToEnd_40 2 rfl ?_
        refine z_istore_n B (lv' := [(1, .int (nI a)), (0, .ref (ac 0)), (2, .int (nI a))]) dX0_firstToEnd_41 (by decide) rfl ?_
        refine z_iinc B (v := nI (a + 1)) (lv' := [(2, .int (nI (a + 1))), (1, .int (nI a)), (0, .ref (ac 0))]) dX0_firstToEnd_42 2 rfl (nI_1 a) (by decide) rfl ?_
        refine z_goto B (tgt := 5) dX0_firstToEnd_45 (by decide) ?_
        refine z_lsub [2, 1, 0] rfl ?_
        have hF : fX0_firstToEnd C = fX0_firstToEnd_L5 C n (a + 1) (nI a) := (hF0).trans ((if_neg c1).trans (if_pos c2))
        exact ih (a + 1) (nI a) (by omega) (Or.inr (z_nIr (by omega) (by decide))) hF
      · refine z_aload_n B dX0_firstToEnd_25 0 rfl ?_
        refine z_get B (v := .ref (ac 4)) 0 0 3 hiX0_firstToEnd_0 hfX0_firstToEnd_21 rfl rfl rfl (by decide) rfl rfl rfl rfl dX0_firstToEnd_26 ?_
        refine z_iload_n B dX0_firstToEnd_29 2 rfl ?_
        refine z_iald B (N := 16) (f := (C 3)) 0 4 rfl rfl (z_nIr (by omega) (by decide)) dX0_firstToEnd_30 ?_
        refine z_aload_n B dX0_firstToEnd_31 0 rfl ?_
        refine z_get B (v := .ref (ac 4)) 0 0 3 hiX0_firstToEnd_0 hfX0_firstToEnd_21 rfl rfl rfl (by decide) rfl rfl rfl rfl dX0_firstToEnd_32 ?_
        refine z_iload_n B dX0_firstToEnd_35 1 rfl ?_
        refine z_iald B (N := 16) (f := (C 3)) 0 4 rfl rfl (z_of hg c2) dX0_firstToEnd_36 ?_
        refine z_icge B 42 dX0_firstToEnd_37 (by decide) (fun c3 => ?_) (fun c3 => ?_)
        · refine z_iinc B (v := nI (a + 1)) (lv' := [(2, .int (nI (a + 1))), (0, .ref (ac 0)), (1, .int g)]) dX0_firstToEnd_42 2 rfl (nI_1 a) (by decide) rfl ?_
          refine z_goto B (tgt := 5) dX0_firstToEnd_45 (by decide) ?_
          refine z_lsub [1, 2, 0] rfl ?_
          have hF : fX0_firstToEnd C = fX0_firstToEnd_L5 C n (a + 1) g := (hF0).trans ((if_neg c1).trans ((if_neg c2).trans (if_pos c3)))
          exact ih (a + 1) g (by omega) hg hF
        · refine z_iload_n B dX0_firstToEnd_40 2 rfl ?_
          refine z_istore_n B (lv' := [(1, .int (nI a)), (0, .ref (ac 0)), (2, .int (nI a))]) dX0_firstToEnd_41 (by decide) rfl ?_
          refine z_iinc B (v := nI (a + 1)) (lv' := [(2, .int (nI (a + 1))), (1, .int (nI a)), (0, .ref (ac 0))]) dX0_firstToEnd_42 2 rfl (nI_1 a) (by decide) rfl ?_
          refine z_goto B (tgt := 5) dX0_firstToEnd_45 (by decide) ?_
          refine z_lsub [2, 1, 0] rfl ?_
          have hF : fX0_firstToEnd C = fX0_firstToEnd_L5 C n (a + 1) (nI a) := (hF0).trans ((if_neg c1).trans ((if_neg c2).trans (if_neg c3)))
          exact ih (a + 1) (nI a) (by omega) (Or.inr (z_nIr (by omega) (by decide))) hF
set_option maxHeartbeats 4000000 in
set_option maxRecDepth 100000 in
theorem kX0_firstToEnd (l : Launch) (hl : l.stackTraces = false) (K : zK) (ac : Nat → Nat) (C : Nat → Nat → Int32) : zMet l K yX0_firstToEnd wsX0_firstToEnd { frames := 0, cells := 0, slots := 0, locals := 0 } [.ref (ac 0)] [zCa K ac C] (some (.int (fX0_firstToEnd C))) [zCa K ac C] True zNo := by
  refine zMeN.of (cc := cX0_firstToEnd) (maxL := 3) (ret := (some .int)) (own := RX0) (nm := "firstToEnd") hl (by decide +kernel) rfl rfl rfl (Nat.le_of_ble_eq_true rfl) (lv := [(0, .ref (ac 0))]) rfl ?_
  intro p e s m args below meth c A B
  refine z_bipush B (v := (-3)) dX0_firstToEnd_0 rfl ?_
  refine z_istore_n B (lv' := [(1, .int (-3)), (0, .ref (ac 0))]) dX0_firstToEnd_2 (by decide) rfl ?_
  refine z_iconst B (v := 0) dX0_firstToEnd_3 rfl ?_
  refine z_istore_n B (lv' := [(2, .int 0), (1, .int (-3)), (0, .ref (ac 0))]) dX0_firstToEnd_4 (by decide) rfl ?_
  refine z_lsub [2, 1, 0] rfl ?_
  have hF : fX0_firstToEnd C = fX0_firstToEnd_L5 C 16 0 (-3) := rfl
  exact kX0_firstToEnd_L5 l hl K ac C B 16 0 (-3) (by omega) (Or.inl (by decide)) hF
def fX0_put_s5 (C : Nat → Nat → Int32) (x1 : Int32) (x2 : Int32) (x3 : Int32) (x4 : Int32) (x5 : Int32) (o5 : Int32 × (Nat → Nat → Int32)) : (Nat → Nat → Int32) :=
  (va_up (va_up (va_up (va_up (va_up (va_up (o5.2) 0 (upd ((o5.2) 0) x1.toNatClampNeg x2)) 1 (upd ((o5.2) 1) x1.toNatClampNeg x3)) 2 (upd ((o5.2) 2) x1.toNatClampNeg x4)) 3 (upd ((o5.2) 3) x1.toNatClampNeg (x5 + x4))) 4 (upd ((o5.2) 4) x1.toNatClampNeg 0)) 5 (fun _ => (((o5.2) 5 0) + 1)))
def fX0_put (C : Nat → Nat → Int32) (x1 : Int32) (x2 : Int32) (x3 : Int32) (x4 : Int32) (x5 : Int32) : (Nat → Nat → Int32) :=
  if x1 < 0 then
    C
  else
    if x1 < 16 then
      if ((C 0) x1.toNatClampNeg) = 3 then
        if (C 5 0) < 6 then
          (va_up (va_up (va_up (va_up (va_up (va_up C 0 (upd (C 0) x1.toNatClampNeg x2)) 1 (upd (C 1) x1.toNatClampNeg x3)) 2 (upd (C 2) x1.toNatClampNeg x4)) 3 (upd (C 3) x1.toNatClampNeg (x5 + x4))) 4 (upd (C 4) x1.toNatClampNeg 0)) 5 (fun _ => ((C 5 0) + 1)))
        else
          fX0_put_s5 C x1 x2 x3 x4 x5 (fX0_drop C (fX0_firstToEnd C))
      else
        (va_up (va_up (va_up (va_up (va_up C 0 (upd (C 0) x1.toNatClampNeg x2)) 1 (upd (C 1) x1.toNatClampNeg x3)) 2 (upd (C 2) x1.toNatClampNeg x4)) 3 (upd (C 3) x1.toNatClampNeg (x5 + x4))) 4 (upd (C 4) x1.toNatClampNeg 0))
    else
      C
theorem hiX0_put_0 : ∀ w ∈ wsX00, w ∈ wsX0_put := by decide +kernel
theorem hfX0_put_9 : Cond.fieldLink RX0 9 "ResolverFleet$Cache" "kinds" "[I" ∈ wsX0_put := by decide +kernel
theorem hfX0_put_39 : Cond.fieldLink RX0 39 "ResolverFleet$Cache" "size" "I" ∈ wsX0_put := by decide +kernel
theorem hfX0_put_15 : Cond.fieldLink RX0 15 "ResolverFleet$Cache" "values" "[I" ∈ wsX0_put := by decide +kernel
theorem hfX0_put_18 : Cond.fieldLink RX0 18 "ResolverFleet$Cache" "lives" "[I" ∈ wsX0_put := by decide +kernel
theorem hfX0_put_21 : Cond.fieldLink RX0 21 "ResolverFleet$Cache" "ends" "[I" ∈ wsX0_put := by decide +kernel
theorem hfX0_put_24 : Cond.fieldLink RX0 24 "ResolverFleet$Cache" "hits" "[I" ∈ wsX0_put := by decide +kernel
set_option maxHeartbeats 4000000 in
set_option maxRecDepth 100000 in
theorem kX0_put (l : Launch) (hl : l.stackTraces = false) (K : zK) (ac : Nat → Nat) (C : Nat → Nat → Int32) (x1 : Int32) (x2 : Int32) (x3 : Int32) (x4 : Int32) (x5 : Int32) : zMet l K yX0_put wsX0_put { frames := 2, cells := 0, slots := 0, locals := 42 } [.ref (ac 0), .int x1, .int x2, .int x3, .int x4, .int x5] [zCa K ac C] none [zCa K ac (fX0_put C x1 x2 x3 x4 x5)] True zNo := by
  refine zMeN.of (cc := cX0_put) (maxL := 6) (ret := none) (own := RX0) (nm := "put") hl (by decide +kernel) rfl rfl rfl (Nat.le_of_ble_eq_true rfl) (lv := [(0, .ref (ac 0)), (1, .int x1), (2, .int x2), (3, .int x3), (4, .int x4), (5, .int x5)]) rfl ?_
  intro p e s m args below meth c A B
  refine z_iload_n B dX0_put_0 1 rfl ?_
  refine z_iflt B 10 dX0_put_1 (by decide) (fun c1 => ?_) (fun c1 => ?_)
  · have hF : fX0_put C x1 x2 x3 x4 x5 = C := if_pos c1
    exact z_ret0 B dX0_put_10 () (trivial) (Nat.le_of_ble_eq_true rfl) (Nat.le_of_ble_eq_true rfl) rfl (by rw [hF])
  · refine z_iload_n B dX0_put_4 1 rfl ?_
    refine z_bipush B (v := 16) dX0_put_5 rfl ?_
    refine z_iclt B 11 dX0_put_7 (by decide) (fun c2 => ?_) (fun c2 => ?_)
    · refine z_aload_n B dX0_put_11 0 rfl ?_
      refine z_get B (v := .ref (ac 1)) 0 0 0 hiX0_put_0 hfX0_put_9 rfl rfl rfl (by decide) rfl rfl rfl rfl dX0_put_12 ?_
      refine z_iload_n B dX0_put_15 1 rfl ?_
      refine z_iald B (N := 16) (f := (C 0)) 0 1 rfl rfl (z_vp2 (M := 16) rfl c1 c2) dX0_put_16 ?_
      refine z_iconst B (v := 3) dX0_put_17 rfl ?_
      refine z_icne B 49 dX0_put_18 (by decide) (fun c3 => ?_) (fun c3 => ?_)
      · refine z_aload_n B dX0_put_21 0 rfl ?_
        refine z_get B (v := .int (C 5 0)) 0 0 5 hiX0_put_0 hfX0_put_39 rfl rfl rfl (by decide) rfl rfl rfl rfl dX0_put_22 ?_
        refine z_bipush B (v := 6) dX0_put_25 rfl ?_
        refine z_iclt B 39 dX0_put_27 (by decide) (fun c4 => ?_) (fun c4 => ?_)
        · refine z_aload_n B dX0_put_39 0 rfl ?_
          refine z_dup B dX0_put_40 rfl ?_
          refine z_get B (v := .int (C 5 0)) 0 0 5 hiX0_put_0 hfX0_put_39 rfl rfl rfl (by decide) rfl rfl rfl rfl dX0_put_41 ?_
          refine z_iconst B (v := 1) dX0_put_44 rfl ?_
          refine z_iadd B dX0_put_45 ?_
          refine z_put B 0 0 5 hiX0_put_0 hfX0_put_39 tyX0_ok nmX0 rfl rfl rfl (by decide) rfl rfl rfl rfl rfl rfl rfl (Nat.le_of_ble_eq_true rfl) (bs' := [zCa K ac (va_up C 5 (fun _ => ((C 5 0) + 1)))]) rfl dX0_put_46 ?_
          refine z_aload_n B dX0_put_49 0 rfl ?_
          refine z_get B (v := .ref (ac 1)) 0 0 0 hiX0_put_0 hfX0_put_9 rfl rfl rfl (by decide) rfl rfl rfl rfl dX0_put_50 ?_
          refine z_iload_n B dX0_put_53 1 rfl ?_
          refine z_iload_n B dX0_put_54 2 rfl ?_
          refine z_iast B (N := 16) (f := (C 0)) 0 1 rfl rfl (z_vp2 (M := 16) rfl c1 c2) (bs' := [zCa K ac (va_up (va_up C 0 (upd (C 0) x1.toNatClampNeg x2)) 5 (fun _ => ((C 5 0) + 1)))]) rfl dX0_put_55 ?_
          refine z_aload_n B dX0_put_56 0 rfl ?_
          refine z_get B (v := .ref (ac 2)) 0 0 1 hiX0_put_0 hfX0_put_15 rfl rfl rfl (by decide) rfl rfl rfl rfl dX0_put_57 ?_
          refine z_iload_n B dX0_put_60 1 rfl ?_
          refine z_iload_n B dX0_put_61 3 rfl ?_
          refine z_iast B (N := 16) (f := (C 1)) 0 2 rfl rfl (z_vp2 (M := 16) rfl c1 c2) (bs' := [zCa K ac (va_up (va_up (va_up C 0 (upd (C 0) x1.toNatClampNeg x2)) 1 (upd (C 1) x1.toNatClampNeg x3)) 5 (fun _ => ((C 5 0) + 1)))]) rfl dX0_put_62 ?_
          refine z_aload_n B dX0_put_63 0 rfl ?_
          refine z_get B (v := .ref (ac 3)) 0 0 2 hiX0_put_0 hfX0_put_18 rfl rfl rfl (by decide) rfl rfl rfl rfl dX0_put_64 ?_
          refine z_iload_n B dX0_put_67 1 rfl ?_
          refine z_iload B dX0_put_68 4 rfl ?_
          refine z_iast B (N := 16) (f := (C 2)) 0 3 rfl rfl (z_vp2 (M := 16) rfl c1 c2) (bs' := [zCa K ac (va_up (va_up (va_up (va_up C 0 (upd (C 0) x1.toNatClampNeg x2)) 1 (upd (C 1) x1.toNatClampNeg x3)) 2 (upd (C 2) x1.toNatClampNeg x4)) 5 (fun _ => ((C 5 0) + 1)))]) rfl dX0_put_70 ?_
          refine z_aload_n B dX0_put_71 0 rfl ?_
          refine z_get B (v := .ref (ac 4)) 0 0 3 hiX0_put_0 hfX0_put_21 rfl rfl rfl (by decide) rfl rfl rfl rfl dX0_put_72 ?_
          refine z_iload_n B dX0_put_75 1 rfl ?_
          refine z_iload B dX0_put_76 5 rfl ?_
          refine z_iload B dX0_put_78 4 rfl ?_
          refine z_iadd B dX0_put_80 ?_
          refine z_iast B (N := 16) (f := (C 3)) 0 4 rfl rfl (z_vp2 (M := 16) rfl c1 c2) (bs' := [zCa K ac (va_up (va_up (va_up (va_up (va_up C 0 (upd (C 0) x1.toNatClampNeg x2)) 1 (upd (C 1) x1.toNatClampNeg x3)) 2 (upd (C 2) x1.toNatClampNeg x4)) 3 (upd (C 3) x1.toNatClampNeg (x5 + x4))) 5 (fun _ => ((C 5 0) + 1)))]) rfl dX0_put_81 ?_
          refine z_aload_n B dX0_put_82 0 rfl ?_
          refine z_get B (v := .ref (ac 5)) 0 0 4 hiX0_put_0 hfX0_put_24 rfl rfl rfl (by decide) rfl rfl rfl rfl dX0_put_83 ?_
          refine z_iload_n B dX0_put_86 1 rfl ?_
          refine z_iconst B (v := 0) dX0_put_87 rfl ?_
          refine z_iast B (N := 16) (f := (C 4)) 0 5 rfl rfl (z_vp2 (M := 16) rfl c1 c2) (bs' := [zCa K ac (va_up (va_up (va_up (va_up (va_up (va_up C 0 (upd (C 0) x1.toNatClampNeg x2)) 1 (upd (C 1) x1.toNatClampNeg x3)) 2 (upd (C 2) x1.toNatClampNeg x4)) 3 (upd (C 3) x1.toNatClampNeg (x5 + x4))) 4 (upd (C 4) x1.toNatClampNeg 0)) 5 (fun _ => ((C 5 0) + 1)))]) rfl dX0_put_88 ?_
          have hF : fX0_put C x1 x2 x3 x4 x5 = (va_up (va_up (va_up (va_up (va_up (va_up C 0 (upd (C 0) x1.toNatClampNeg x2)) 1 (upd (C 1) x1.toNatClampNeg x3)) 2 (upd (C 2) x1.toNatClampNeg x4)) 3 (upd (C 3) x1.toNatClampNeg (x5 + x4))) 4 (upd (C 4) x1.toNatClampNeg 0)) 5 (fun _ => ((C 5 0) + 1))) := (if_neg c1).trans ((if_pos c2).trans ((if_pos c3).trans (if_pos c4)))
          exact z_ret0 B dX0_put_89 () (trivial) (Nat.le_of_ble_eq_true rfl) (Nat.le_of_ble_eq_true rfl) rfl (by rw [hF])
        · refine z_aload_n B dX0_put_30 0 rfl ?_
          refine z_aload_n B dX0_put_31 0 rfl ?_
          refine z_V1 B (kX0_firstToEnd l hl K ac C) [0] [] (br := []) (bs' := [zCa K ac C]) (st := [.ref (ac 0)]) (nA := 0) (zsp rfl rfl rfl) (zsp rfl rfl rfl) 0 0 rfl rfl rfl rfl gX0_put_X0_firstToEnd rfl (by decide +kernel) ⟨Nat.le_of_ble_eq_true rfl, Nat.le_of_ble_eq_true rfl⟩ rfl rfl (Nat.le_of_ble_eq_true rfl) ⟨Nat.le_of_ble_eq_true rfl, Nat.le_of_ble_eq_true rfl⟩ dX0_put_32 z_noX (fun _ => ?_)
          refine z_V1 B (kX0_drop l hl K ac C (fX0_firstToEnd C)) [0] [] (br := []) (bs' := [zCa K ac ((fX0_drop C (fX0_firstToEnd C)).2)]) (st := []) (nA := 1) (zsp rfl rfl rfl) (zsp rfl rfl rfl) 0 0 rfl rfl rfl rfl gX0_put_X0_drop rfl (by decide +kernel) ⟨Nat.le_of_ble_eq_true rfl, Nat.le_of_ble_eq_true rfl⟩ rfl rfl (Nat.le_of_ble_eq_true rfl) ⟨Nat.le_of_ble_eq_true rfl, Nat.le_of_ble_eq_true rfl⟩ dX0_put_35 z_noX (fun _ => ?_)
          generalize ho5 : (fX0_drop C (fX0_firstToEnd C)) = o5
          refine z_pop B dX0_put_38 rfl ?_
          refine z_aload_n B dX0_put_39 0 rfl ?_
          refine z_dup B dX0_put_40 rfl ?_
          refine z_get B (v := .int ((o5.2) 5 0)) 0 0 5 hiX0_put_0 hfX0_put_39 rfl rfl rfl (by decide) rfl rfl rfl rfl dX0_put_41 ?_
          refine z_iconst B (v := 1) dX0_put_44 rfl ?_
          refine z_iadd B dX0_put_45 ?_
          refine z_put B 0 0 5 hiX0_put_0 hfX0_put_39 tyX0_ok nmX0 rfl rfl rfl (by decide) rfl rfl rfl rfl rfl rfl rfl (Nat.le_of_ble_eq_true rfl) (bs' := [zCa K ac (va_up (o5.2) 5 (fun _ => (((o5.2) 5 0) + 1)))]) rfl dX0_put_46 ?_
          refine z_aload_n B dX0_put_49 0 rfl ?_
          refine z_get B (v := .ref (ac 1)) 0 0 0 hiX0_put_0 hfX0_put_9 rfl rfl rfl (by decide) rfl rfl rfl rfl dX0_put_50 ?_
          refine z_iload_n B dX0_put_53 1 rfl ?_
          refine z_iload_n B dX0_put_54 2 rfl ?_
          refine z_iast B (N := 16) (f := ((o5.2) 0)) 0 1 rfl rfl (z_vp2 (M := 16) rfl c1 c2) (bs' := [zCa K ac (va_up (va_up (o5.2) 0 (upd ((o5.2) 0) x1.toNatClampNeg x2)) 5 (fun _ => (((o5.2) 5 0) + 1)))]) rfl dX0_put_55 ?_
          refine z_aload_n B dX0_put_56 0 rfl ?_
          refine z_get B (v := .ref (ac 2)) 0 0 1 hiX0_put_0 hfX0_put_15 rfl rfl rfl (by decide) rfl rfl rfl rfl dX0_put_57 ?_
          refine z_iload_n B dX0_put_60 1 rfl ?_
          refine z_iload_n B dX0_put_61 3 rfl ?_
          refine z_iast B (N := 16) (f := ((o5.2) 1)) 0 2 rfl rfl (z_vp2 (M := 16) rfl c1 c2) (bs' := [zCa K ac (va_up (va_up (va_up (o5.2) 0 (upd ((o5.2) 0) x1.toNatClampNeg x2)) 1 (upd ((o5.2) 1) x1.toNatClampNeg x3)) 5 (fun _ => (((o5.2) 5 0) + 1)))]) rfl dX0_put_62 ?_
          refine z_aload_n B dX0_put_63 0 rfl ?_
          refine z_get B (v := .ref (ac 3)) 0 0 2 hiX0_put_0 hfX0_put_18 rfl rfl rfl (by decide) rfl rfl rfl rfl dX0_put_64 ?_
          refine z_iload_n B dX0_put_67 1 rfl ?_
          refine z_iload B dX0_put_68 4 rfl ?_
          refine z_iast B (N := 16) (f := ((o5.2) 2)) 0 3 rfl rfl (z_vp2 (M := 16) rfl c1 c2) (bs' := [zCa K ac (va_up (va_up (va_up (va_up (o5.2) 0 (upd ((o5.2) 0) x1.toNatClampNeg x2)) 1 (upd ((o5.2) 1) x1.toNatClampNeg x3)) 2 (upd ((o5.2) 2) x1.toNatClampNeg x4)) 5 (fun _ => (((o5.2) 5 0) + 1)))]) rfl dX0_put_70 ?_
          refine z_aload_n B dX0_put_71 0 rfl ?_
          refine z_get B (v := .ref (ac 4)) 0 0 3 hiX0_put_0 hfX0_put_21 rfl rfl rfl (by decide) rfl rfl rfl rfl dX0_put_72 ?_
          refine z_iload_n B dX0_put_75 1 rfl ?_
          refine z_iload B dX0_put_76 5 rfl ?_
          refine z_iload B dX0_put_78 4 rfl ?_
          refine z_iadd B dX0_put_80 ?_
          refine z_iast B (N := 16) (f := ((o5.2) 3)) 0 4 rfl rfl (z_vp2 (M := 16) rfl c1 c2) (bs' := [zCa K ac (va_up (va_up (va_up (va_up (va_up (o5.2) 0 (upd ((o5.2) 0) x1.toNatClampNeg x2)) 1 (upd ((o5.2) 1) x1.toNatClampNeg x3)) 2 (upd ((o5.2) 2) x1.toNatClampNeg x4)) 3 (upd ((o5.2) 3) x1.toNatClampNeg (x5 + x4))) 5 (fun _ => (((o5.2) 5 0) + 1)))]) rfl dX0_put_81 ?_
          refine z_aload_n B dX0_put_82 0 rfl ?_
          refine z_get B (v := .ref (ac 5)) 0 0 4 hiX0_put_0 hfX0_put_24 rfl rfl rfl (by decide) rfl rfl rfl rfl dX0_put_83 ?_
          refine z_iload_n B dX0_put_86 1 rfl ?_
          refine z_iconst B (v := 0) dX0_put_87 rfl ?_
          refine z_iast B (N := 16) (f := ((o5.2) 4)) 0 5 rfl rfl (z_vp2 (M := 16) rfl c1 c2) (bs' := [zCa K ac (va_up (va_up (va_up (va_up (va_up (va_up (o5.2) 0 (upd ((o5.2) 0) x1.toNatClampNeg x2)) 1 (upd ((o5.2) 1) x1.toNatClampNeg x3)) 2 (upd ((o5.2) 2) x1.toNatClampNeg x4)) 3 (upd ((o5.2) 3) x1.toNatClampNeg (x5 + x4))) 4 (upd ((o5.2) 4) x1.toNatClampNeg 0)) 5 (fun _ => (((o5.2) 5 0) + 1)))]) rfl dX0_put_88 ?_
          have hF : fX0_put C x1 x2 x3 x4 x5 = (va_up (va_up (va_up (va_up (va_up (va_up (o5.2) 0 (upd ((o5.2) 0) x1.toNatClampNeg x2)) 1 (upd ((o5.2) 1) x1.toNatClampNeg x3)) 2 (upd ((o5.2) 2) x1.toNatClampNeg x4)) 3 (upd ((o5.2) 3) x1.toNatClampNeg (x5 + x4))) 4 (upd ((o5.2) 4) x1.toNatClampNeg 0)) 5 (fun _ => (((o5.2) 5 0) + 1))) := (if_neg c1).trans ((if_pos c2).trans ((if_pos c3).trans ((if_neg c4).trans (congrArg (fun o => fX0_put_s5 C x1 x2 x3 x4 x5 o) ho5))))
          exact z_ret0 B dX0_put_89 () (trivial) (Nat.le_of_ble_eq_true rfl) (Nat.le_of_ble_eq_true rfl) rfl (by rw [hF])
      · refine z_aload_n B dX0_put_49 0 rfl ?_
        refine z_get B (v := .ref (ac 1)) 0 0 0 hiX0_put_0 hfX0_put_9 rfl rfl rfl (by decide) rfl rfl rfl rfl dX0_put_50 ?_
        refine z_iload_n B dX0_put_53 1 rfl ?_
        refine z_iload_n B dX0_put_54 2 rfl ?_
        refine z_iast B (N := 16) (f := (C 0)) 0 1 rfl rfl (z_vp2 (M := 16) rfl c1 c2) (bs' := [zCa K ac (va_up C 0 (upd (C 0) x1.toNatClampNeg x2))]) rfl dX0_put_55 ?_
        refine z_aload_n B dX0_put_56 0 rfl ?_
        refine z_get B (v := .ref (ac 2)) 0 0 1 hiX0_put_0 hfX0_put_15 rfl rfl rfl (by decide) rfl rfl rfl rfl dX0_put_57 ?_
        refine z_iload_n B dX0_put_60 1 rfl ?_
        refine z_iload_n B dX0_put_61 3 rfl ?_
        refine z_iast B (N := 16) (f := (C 1)) 0 2 rfl rfl (z_vp2 (M := 16) rfl c1 c2) (bs' := [zCa K ac (va_up (va_up C 0 (upd (C 0) x1.toNatClampNeg x2)) 1 (upd (C 1) x1.toNatClampNeg x3))]) rfl dX0_put_62 ?_
        refine z_aload_n B dX0_put_63 0 rfl ?_
        refine z_get B (v := .ref (ac 3)) 0 0 2 hiX0_put_0 hfX0_put_18 rfl rfl rfl (by decide) rfl rfl rfl rfl dX0_put_64 ?_
        refine z_iload_n B dX0_put_67 1 rfl ?_
        refine z_iload B dX0_put_68 4 rfl ?_
        refine z_iast B (N := 16) (f := (C 2)) 0 3 rfl rfl (z_vp2 (M := 16) rfl c1 c2) (bs' := [zCa K ac (va_up (va_up (va_up C 0 (upd (C 0) x1.toNatClampNeg x2)) 1 (upd (C 1) x1.toNatClampNeg x3)) 2 (upd (C 2) x1.toNatClampNeg x4))]) rfl dX0_put_70 ?_
        refine z_aload_n B dX0_put_71 0 rfl ?_
        refine z_get B (v := .ref (ac 4)) 0 0 3 hiX0_put_0 hfX0_put_21 rfl rfl rfl (by decide) rfl rfl rfl rfl dX0_put_72 ?_
        refine z_iload_n B dX0_put_75 1 rfl ?_
        refine z_iload B dX0_put_76 5 rfl ?_
        refine z_iload B dX0_put_78 4 rfl ?_
        refine z_iadd B dX0_put_80 ?_
        refine z_iast B (N := 16) (f := (C 3)) 0 4 rfl rfl (z_vp2 (M := 16) rfl c1 c2) (bs' := [zCa K ac (va_up (va_up (va_up (va_up C 0 (upd (C 0) x1.toNatClampNeg x2)) 1 (upd (C 1) x1.toNatClampNeg x3)) 2 (upd (C 2) x1.toNatClampNeg x4)) 3 (upd (C 3) x1.toNatClampNeg (x5 + x4)))]) rfl dX0_put_81 ?_
        refine z_aload_n B dX0_put_82 0 rfl ?_
        refine z_get B (v := .ref (ac 5)) 0 0 4 hiX0_put_0 hfX0_put_24 rfl rfl rfl (by decide) rfl rfl rfl rfl dX0_put_83 ?_
        refine z_iload_n B dX0_put_86 1 rfl ?_
        refine z_iconst B (v := 0) dX0_put_87 rfl ?_
        refine z_iast B (N := 16) (f := (C 4)) 0 5 rfl rfl (z_vp2 (M := 16) rfl c1 c2) (bs' := [zCa K ac (va_up (va_up (va_up (va_up (va_up C 0 (upd (C 0) x1.toNatClampNeg x2)) 1 (upd (C 1) x1.toNatClampNeg x3)) 2 (upd (C 2) x1.toNatClampNeg x4)) 3 (upd (C 3) x1.toNatClampNeg (x5 + x4))) 4 (upd (C 4) x1.toNatClampNeg 0))]) rfl dX0_put_88 ?_
        have hF : fX0_put C x1 x2 x3 x4 x5 = (va_up (va_up (va_up (va_up (va_up C 0 (upd (C 0) x1.toNatClampNeg x2)) 1 (upd (C 1) x1.toNatClampNeg x3)) 2 (upd (C 2) x1.toNatClampNeg x4)) 3 (upd (C 3) x1.toNatClampNeg (x5 + x4))) 4 (upd (C 4) x1.toNatClampNeg 0)) := (if_neg c1).trans ((if_pos c2).trans (if_neg c3))
        exact z_ret0 B dX0_put_89 () (trivial) (Nat.le_of_ble_eq_true rfl) (Nat.le_of_ble_eq_true rfl) rfl (by rw [hF])
    · have hF : fX0_put C x1 x2 x3 x4 x5 = C := (if_neg c1).trans (if_neg c2)
      exact z_ret0 B dX0_put_10 () (trivial) (Nat.le_of_ble_eq_true rfl) (Nat.le_of_ble_eq_true rfl) rfl (by rw [hF])
def fX0_copyFrom (C : Nat → Nat → Int32) (E : Nat → Nat → Int32) : (Nat → Nat → Int32) :=
  (va_up (va_up (va_up (va_up (va_up (va_up C 0 (va_cpy (E 0) (C 0) 0 0 16)) 1 (va_cpy (E 1) (C 1) 0 0 16)) 2 (va_cpy (E 2) (C 2) 0 0 16)) 3 (va_cpy (E 3) (C 3) 0 0 16)) 4 (va_cpy (E 4) (C 4) 0 0 16)) 5 (fun _ => (E 5 0)))
theorem hiX0_copyFrom_0 : ∀ w ∈ wsX00, w ∈ wsX0_copyFrom := by decide +kernel
theorem hfX0_copyFrom_9 : Cond.fieldLink RX0 9 "ResolverFleet$Cache" "kinds" "[I" ∈ wsX0_copyFrom := by decide +kernel
theorem hwX0_copyFrom_yl : Cond.methodLink RX0 33 arraycopyName ∈ wsX0_copyFrom := by decide +kernel
theorem hwX0_copyFrom_yn : Cond.native arraycopyName ∈ wsX0_copyFrom := by decide +kernel
theorem hwX0_copyFrom_ys : Cond.static arraycopyName ∈ wsX0_copyFrom := by decide +kernel
theorem hwX0_copyFrom_yi : Cond.initialized "java/lang/System" ∈ wsX0_copyFrom := by decide +kernel
theorem hfX0_copyFrom_15 : Cond.fieldLink RX0 15 "ResolverFleet$Cache" "values" "[I" ∈ wsX0_copyFrom := by decide +kernel
theorem hfX0_copyFrom_18 : Cond.fieldLink RX0 18 "ResolverFleet$Cache" "lives" "[I" ∈ wsX0_copyFrom := by decide +kernel
theorem hfX0_copyFrom_21 : Cond.fieldLink RX0 21 "ResolverFleet$Cache" "ends" "[I" ∈ wsX0_copyFrom := by decide +kernel
theorem hfX0_copyFrom_24 : Cond.fieldLink RX0 24 "ResolverFleet$Cache" "hits" "[I" ∈ wsX0_copyFrom := by decide +kernel
theorem hfX0_copyFrom_39 : Cond.fieldLink RX0 39 "ResolverFleet$Cache" "size" "I" ∈ wsX0_copyFrom := by decide +kernel
set_option maxHeartbeats 4000000 in
set_option maxRecDepth 100000 in
theorem kX0_copyFrom (l : Launch) (hl : l.stackTraces = false) (K : zK) (ac : Nat → Nat) (C : Nat → Nat → Int32) (ad : Nat → Nat) (E : Nat → Nat → Int32) : zMet l K yX0_copyFrom wsX0_copyFrom { frames := 1, cells := 0, slots := 0, locals := 60 } [.ref (ac 0), .ref (ad 0)] [zCa K ac C, zCa K ad E] none [zCa K ac (fX0_copyFrom C E), zCa K ad E] True zNo := by
  refine zMeN.of (cc := cX0_copyFrom) (maxL := 2) (ret := none) (own := RX0) (nm := "copyFrom") hl (by decide +kernel) rfl rfl rfl (Nat.le_of_ble_eq_true rfl) (lv := [(0, .ref (ac 0)), (1, .ref (ad 0))]) rfl ?_
  intro p e s m args below meth c A B
  refine z_aload_n B dX0_copyFrom_0 1 rfl ?_
  refine z_get B (v := .ref (ad 1)) 1 0 0 hiX0_copyFrom_0 hfX0_copyFrom_9 rfl rfl rfl (by decide) rfl rfl rfl rfl dX0_copyFrom_1 ?_
  refine z_iconst B (v := 0) dX0_copyFrom_4 rfl ?_
  refine z_aload_n B dX0_copyFrom_5 0 rfl ?_
  refine z_get B (v := .ref (ac 1)) 0 0 0 hiX0_copyFrom_0 hfX0_copyFrom_9 rfl rfl rfl (by decide) rfl rfl rfl rfl dX0_copyFrom_6 ?_
  refine z_iconst B (v := 0) dX0_copyFrom_9 rfl ?_
  refine z_bipush B (v := 16) dX0_copyFrom_10 rfl ?_
  refine z_copyI B hwX0_copyFrom_yl hwX0_copyFrom_yn hwX0_copyFrom_ys hwX0_copyFrom_yi 1 1 0 1 (f := (E 0)) (g := (C 0)) rfl rfl rfl rfl (bs' := [zCa K ac (va_up C 0 (va_cpy (E 0) (C 0) 0 0 16)), zCa K ad E]) rfl (Nat.le_of_ble_eq_true rfl) (Nat.le_of_ble_eq_true rfl) dX0_copyFrom_12 ?_
  refine z_aload_n B dX0_copyFrom_15 1 rfl ?_
  refine z_get B (v := .ref (ad 2)) 1 0 1 hiX0_copyFrom_0 hfX0_copyFrom_15 rfl rfl rfl (by decide) rfl rfl rfl rfl dX0_copyFrom_16 ?_
  refine z_iconst B (v := 0) dX0_copyFrom_19 rfl ?_
  refine z_aload_n B dX0_copyFrom_20 0 rfl ?_
  refine z_get B (v := .ref (ac 2)) 0 0 1 hiX0_copyFrom_0 hfX0_copyFrom_15 rfl rfl rfl (by decide) rfl rfl rfl rfl dX0_copyFrom_21 ?_
  refine z_iconst B (v := 0) dX0_copyFrom_24 rfl ?_
  refine z_bipush B (v := 16) dX0_copyFrom_25 rfl ?_
  refine z_copyI B hwX0_copyFrom_yl hwX0_copyFrom_yn hwX0_copyFrom_ys hwX0_copyFrom_yi 1 2 0 2 (f := (E 1)) (g := (C 1)) rfl rfl rfl rfl (bs' := [zCa K ac (va_up (va_up C 0 (va_cpy (E 0) (C 0) 0 0 16)) 1 (va_cpy (E 1) (C 1) 0 0 16)), zCa K ad E]) rfl (Nat.le_of_ble_eq_true rfl) (Nat.le_of_ble_eq_true rfl) dX0_copyFrom_27 ?_
  refine z_aload_n B dX0_copyFrom_30 1 rfl ?_
  refine z_get B (v := .ref (ad 3)) 1 0 2 hiX0_copyFrom_0 hfX0_copyFrom_18 rfl rfl rfl (by decide) rfl rfl rfl rfl dX0_copyFrom_31 ?_
  refine z_iconst B (v := 0) dX0_copyFrom_34 rfl ?_
  refine z_aload_n B dX0_copyFrom_35 0 rfl ?_
  refine z_get B (v := .ref (ac 3)) 0 0 2 hiX0_copyFrom_0 hfX0_copyFrom_18 rfl rfl rfl (by decide) rfl rfl rfl rfl dX0_copyFrom_36 ?_
  refine z_iconst B (v := 0) dX0_copyFrom_39 rfl ?_
  refine z_bipush B (v := 16) dX0_copyFrom_40 rfl ?_
  refine z_copyI B hwX0_copyFrom_yl hwX0_copyFrom_yn hwX0_copyFrom_ys hwX0_copyFrom_yi 1 3 0 3 (f := (E 2)) (g := (C 2)) rfl rfl rfl rfl (bs' := [zCa K ac (va_up (va_up (va_up C 0 (va_cpy (E 0) (C 0) 0 0 16)) 1 (va_cpy (E 1) (C 1) 0 0 16)) 2 (va_cpy (E 2) (C 2) 0 0 16)), zCa K ad E]) rfl (Nat.le_of_ble_eq_true rfl) (Nat.le_of_ble_eq_true rfl) dX0_copyFrom_42 ?_
  refine z_aload_n B dX0_copyFrom_45 1 rfl ?_
  refine z_get B (v := .ref (ad 4)) 1 0 3 hiX0_copyFrom_0 hfX0_copyFrom_21 rfl rfl rfl (by decide) rfl rfl rfl rfl dX0_copyFrom_46 ?_
  refine z_iconst B (v := 0) dX0_copyFrom_49 rfl ?_
  refine z_aload_n B dX0_copyFrom_50 0 rfl ?_
  refine z_get B (v := .ref (ac 4)) 0 0 3 hiX0_copyFrom_0 hfX0_copyFrom_21 rfl rfl rfl (by decide) rfl rfl rfl rfl dX0_copyFrom_51 ?_
  refine z_iconst B (v := 0) dX0_copyFrom_54 rfl ?_
  refine z_bipush B (v := 16) dX0_copyFrom_55 rfl ?_
  refine z_copyI B hwX0_copyFrom_yl hwX0_copyFrom_yn hwX0_copyFrom_ys hwX0_copyFrom_yi 1 4 0 4 (f := (E 3)) (g := (C 3)) rfl rfl rfl rfl (bs' := [zCa K ac (va_up (va_up (va_up (va_up C 0 (va_cpy (E 0) (C 0) 0 0 16)) 1 (va_cpy (E 1) (C 1) 0 0 16)) 2 (va_cpy (E 2) (C 2) 0 0 16)) 3 (va_cpy (E 3) (C 3) 0 0 16)), zCa K ad E]) rfl (Nat.le_of_ble_eq_true rfl) (Nat.le_of_ble_eq_true rfl) dX0_copyFrom_57 ?_
  refine z_aload_n B dX0_copyFrom_60 1 rfl ?_
  refine z_get B (v := .ref (ad 5)) 1 0 4 hiX0_copyFrom_0 hfX0_copyFrom_24 rfl rfl rfl (by decide) rfl rfl rfl rfl dX0_copyFrom_61 ?_
  refine z_iconst B (v := 0) dX0_copyFrom_64 rfl ?_
  refine z_aload_n B dX0_copyFrom_65 0 rfl ?_
  refine z_get B (v := .ref (ac 5)) 0 0 4 hiX0_copyFrom_0 hfX0_copyFrom_24 rfl rfl rfl (by decide) rfl rfl rfl rfl dX0_copyFrom_66 ?_
  refine z_iconst B (v := 0) dX0_copyFrom_69 rfl ?_
  refine z_bipush B (v := 16) dX0_copyFrom_70 rfl ?_
  refine z_copyI B hwX0_copyFrom_yl hwX0_copyFrom_yn hwX0_copyFrom_ys hwX0_copyFrom_yi 1 5 0 5 (f := (E 4)) (g := (C 4)) rfl rfl rfl rfl (bs' := [zCa K ac (va_up (va_up (va_up (va_up (va_up C 0 (va_cpy (E 0) (C 0) 0 0 16)) 1 (va_cpy (E 1) (C 1) 0 0 16)) 2 (va_cpy (E 2) (C 2) 0 0 16)) 3 (va_cpy (E 3) (C 3) 0 0 16)) 4 (va_cpy (E 4) (C 4) 0 0 16)), zCa K ad E]) rfl (Nat.le_of_ble_eq_true rfl) (Nat.le_of_ble_eq_true rfl) dX0_copyFrom_72 ?_
  refine z_aload_n B dX0_copyFrom_75 0 rfl ?_
  refine z_aload_n B dX0_copyFrom_76 1 rfl ?_
  refine z_get B (v := .int (E 5 0)) 1 0 5 hiX0_copyFrom_0 hfX0_copyFrom_39 rfl rfl rfl (by decide) rfl rfl rfl rfl dX0_copyFrom_77 ?_
  refine z_put B 0 0 5 hiX0_copyFrom_0 hfX0_copyFrom_39 tyX0_ok nmX0 rfl rfl rfl (by decide) rfl rfl rfl rfl rfl rfl rfl (Nat.le_of_ble_eq_true rfl) (bs' := [zCa K ac (va_up (va_up (va_up (va_up (va_up (va_up C 0 (va_cpy (E 0) (C 0) 0 0 16)) 1 (va_cpy (E 1) (C 1) 0 0 16)) 2 (va_cpy (E 2) (C 2) 0 0 16)) 3 (va_cpy (E 3) (C 3) 0 0 16)) 4 (va_cpy (E 4) (C 4) 0 0 16)) 5 (fun _ => (E 5 0))), zCa K ad E]) rfl dX0_copyFrom_80 ?_
  have hF : fX0_copyFrom C E = (va_up (va_up (va_up (va_up (va_up (va_up C 0 (va_cpy (E 0) (C 0) 0 0 16)) 1 (va_cpy (E 1) (C 1) 0 0 16)) 2 (va_cpy (E 2) (C 2) 0 0 16)) 3 (va_cpy (E 3) (C 3) 0 0 16)) 4 (va_cpy (E 4) (C 4) 0 0 16)) 5 (fun _ => (E 5 0))) := rfl
  exact z_ret0 B dX0_copyFrom_83 () (trivial) (Nat.le_of_ble_eq_true rfl) (Nat.le_of_ble_eq_true rfl) rfl (by rw [hF])
