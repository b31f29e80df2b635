def fX3_put (Z : Nat → Nat → Int32) (O : Nat → Int32) (x1 : Int32) (x2 : Int32) (x3 : Int32) (x4 : Int32) : (Nat → Nat → Int32) :=
  if x1 < 0 then
    Z
  else
    if x1 < 16 then
      (va_up (va_up (va_up Z 0 (upd (Z 0) x1.toNatClampNeg x2)) 1 (upd (Z 1) x1.toNatClampNeg x3)) 2 (upd (Z 2) x1.toNatClampNeg x4))
    else
      Z
theorem hiX3_put_3 : ∀ w ∈ wsX30, w ∈ wsX3_put := by decide +kernel
theorem hfX3_put_9 : Cond.fieldLink RX3 9 "ResolverFleet$Zone" "kinds" "[I" ∈ wsX3_put := by decide +kernel
theorem hfX3_put_15 : Cond.fieldLink RX3 15 "ResolverFleet$Zone" "values" "[I" ∈ wsX3_put := by decide +kernel
theorem hfX3_put_18 : Cond.fieldLink RX3 18 "ResolverFleet$Zone" "lives" "[I" ∈ wsX3_put := by decide +kernel
set_option maxHeartbeats 4000000 in
set_option maxRecDepth 100000 in
theorem kX3_put (l : Launch) (hl : l.stackTraces = false) (K : zK) (az : Nat → Nat) (Z : Nat → Nat → Int32) (O : Nat → Int32) (x1 : Int32) (x2 : Int32) (x3 : Int32) (x4 : Int32) : zMet l K yX3_put wsX3_put { frames := 0, cells := 0, slots := 0, locals := 0 } [.ref (az 0), .int x1, .int x2, .int x3, .int x4] [zZo K az Z O] none [zZo K az (fX3_put Z O x1 x2 x3 x4) O] True zNo := by
  refine zMeN.of (cc := cX3_put) (maxL := 5) (ret := none) (own := RX3) (nm := "put") hl (by decide +kernel) rfl rfl rfl (Nat.le_of_ble_eq_true rfl) (lv := [(0, .ref (az 0)), (1, .int x1), (2, .int x2), (3, .int x3), (4, .int x4)]) rfl ?_
  intro p e s m args below meth c A B
  refine z_iload_n B dX3_put_0 1 rfl ?_
  refine z_iflt B 10 dX3_put_1 (by decide) (fun c1 => ?_) (fun c1 => ?_)
  · have hF : fX3_put Z O x1 x2 x3 x4 = Z := if_pos c1
    exact z_ret0 B dX3_put_10 () (trivial) (Nat.le_of_ble_eq_true rfl) (Nat.le_of_ble_eq_true rfl) rfl (by rw [hF])
  · refine z_iload_n B dX3_put_4 1 rfl ?_
    refine z_bipush B (v := 16) dX3_put_5 rfl ?_
    refine z_iclt B 11 dX3_put_7 (by decide) (fun c2 => ?_) (fun c2 => ?_)
    · refine z_aload_n B dX3_put_11 0 rfl ?_
      refine z_get B (v := .ref (az 1)) 0 0 0 hiX3_put_3 hfX3_put_9 rfl rfl rfl (by decide) rfl rfl rfl rfl dX3_put_12 ?_
      refine z_iload_n B dX3_put_15 1 rfl ?_
      refine z_iload_n B dX3_put_16 2 rfl ?_
      refine z_iast B (N := 16) (f := (Z 0)) 0 1 rfl rfl (z_vp2 (M := 16) rfl c1 c2) (bs' := [zZo K az (va_up Z 0 (upd (Z 0) x1.toNatClampNeg x2)) O]) rfl dX3_put_17 ?_
      refine z_aload_n B dX3_put_18 0 rfl ?_
      refine z_get B (v := .ref (az 2)) 0 0 1 hiX3_put_3 hfX3_put_15 rfl rfl rfl (by decide) rfl rfl rfl rfl dX3_put_19 ?_
      refine z_iload_n B dX3_put_22 1 rfl ?_
      refine z_iload_n B dX3_put_23 3 rfl ?_
      refine z_iast B (N := 16) (f := (Z 1)) 0 2 rfl rfl (z_vp2 (M := 16) rfl c1 c2) (bs' := [zZo K az (va_up (va_up Z 0 (upd (Z 0) x1.toNatClampNeg x2)) 1 (upd (Z 1) x1.toNatClampNeg x3)) O]) rfl dX3_put_24 ?_
      refine z_aload_n B dX3_put_25 0 rfl ?_
      refine z_get B (v := .ref (az 3)) 0 0 2 hiX3_put_3 hfX3_put_18 rfl rfl rfl (by decide) rfl rfl rfl rfl dX3_put_26 ?_
      refine z_iload_n B dX3_put_29 1 rfl ?_
      refine z_iload B dX3_put_30 4 rfl ?_
      refine z_iast B (N := 16) (f := (Z 2)) 0 3 rfl rfl (z_vp2 (M := 16) rfl c1 c2) (bs' := [zZo K az (va_up (va_up (va_up Z 0 (upd (Z 0) x1.toNatClampNeg x2)) 1 (upd (Z 1) x1.toNatClampNeg x3)) 2 (upd (Z 2) x1.toNatClampNeg x4)) O]) rfl dX3_put_32 ?_
      have hF : fX3_put Z O x1 x2 x3 x4 = (va_up (va_up (va_up Z 0 (upd (Z 0) x1.toNatClampNeg x2)) 1 (upd (Z 1) x1.toNatClampNeg x3)) 2 (upd (Z 2) x1.toNatClampNeg x4)) := (if_neg c1).trans (if_pos c2)
      exact z_ret0 B dX3_put_33 () (trivial) (Nat.le_of_ble_eq_true rfl) (Nat.le_of_ble_eq_true rfl) rfl (by rw [hF])
    · have hF : fX3_put Z O x1 x2 x3 x4 = Z := (if_neg c1).trans (if_neg c2)
      exact z_ret0 B dX3_put_10 () (trivial) (Nat.le_of_ble_eq_true rfl) (Nat.le_of_ble_eq_true rfl) rfl (by rw [hF])
def fX3_kindOf (Z : Nat → Nat → Int32) (O : Nat → Int32) (x1 : Int32) : Int32 :=
  if x1 < 0 then
    2
  else
    if x1 < 16 then
      ((Z 0) x1.toNatClampNeg)
    else
      2
theorem hiX3_kindOf_3 : ∀ w ∈ wsX30, w ∈ wsX3_kindOf := by decide +kernel
theorem hfX3_kindOf_9 : Cond.fieldLink RX3 9 "ResolverFleet$Zone" "kinds" "[I" ∈ wsX3_kindOf := by decide +kernel
set_option maxHeartbeats 4000000 in
set_option maxRecDepth 100000 in
theorem kX3_kindOf (l : Launch) (hl : l.stackTraces = false) (K : zK) (az : Nat → Nat) (Z : Nat → Nat → Int32) (O : Nat → Int32) (x1 : Int32) : zMet l K yX3_kindOf wsX3_kindOf { frames := 0, cells := 0, slots := 0, locals := 0 } [.ref (az 0), .int x1] [zZo K az Z O] (some (.int (fX3_kindOf Z O x1))) [zZo K az Z O] True zNo := by
  refine zMeN.of (cc := cX3_kindOf) (maxL := 2) (ret := (some .int)) (own := RX3) (nm := "kindOf") hl (by decide +kernel) rfl rfl rfl (Nat.le_of_ble_eq_true rfl) (lv := [(0, .ref (az 0)), (1, .int x1)]) rfl ?_
  intro p e s m args below meth c A B
  refine z_iload_n B dX3_kindOf_0 1 rfl ?_
  refine z_iflt B 10 dX3_kindOf_1 (by decide) (fun c1 => ?_) (fun c1 => ?_)
  · refine z_iconst B (v := 2) dX3_kindOf_10 rfl ?_
    refine z_goto B (tgt := 20) dX3_kindOf_11 (by decide) ?_
    have hF : fX3_kindOf Z O x1 = 2 := if_pos c1
    exact z_ret1 B rfl dX3_kindOf_20 () (trivial) (Nat.le_of_ble_eq_true rfl) (Nat.le_of_ble_eq_true rfl) (by rw [hF]) (by rw [hF])
  · refine z_iload_n B dX3_kindOf_4 1 rfl ?_
    refine z_bipush B (v := 16) dX3_kindOf_5 rfl ?_
    refine z_iclt B 14 dX3_kindOf_7 (by decide) (fun c2 => ?_) (fun c2 => ?_)
    · refine z_aload_n B dX3_kindOf_14 0 rfl ?_
      refine z_get B (v := .ref (az 1)) 0 0 0 hiX3_kindOf_3 hfX3_kindOf_9 rfl rfl rfl (by decide) rfl rfl rfl rfl dX3_kindOf_15 ?_
      refine z_iload_n B dX3_kindOf_18 1 rfl ?_
      refine z_iald B (N := 16) (f := (Z 0)) 0 1 rfl rfl (z_vp2 (M := 16) rfl c1 c2) dX3_kindOf_19 ?_
      have hF : fX3_kindOf Z O x1 = ((Z 0) x1.toNatClampNeg) := (if_neg c1).trans (if_pos c2)
      exact z_ret1 B rfl dX3_kindOf_20 () (trivial) (Nat.le_of_ble_eq_true rfl) (Nat.le_of_ble_eq_true rfl) (by rw [hF]) (by rw [hF])
    · refine z_iconst B (v := 2) dX3_kindOf_10 rfl ?_
      refine z_goto B (tgt := 20) dX3_kindOf_11 (by decide) ?_
      have hF : fX3_kindOf Z O x1 = 2 := (if_neg c1).trans (if_neg c2)
      exact z_ret1 B rfl dX3_kindOf_20 () (trivial) (Nat.le_of_ble_eq_true rfl) (Nat.le_of_ble_eq_true rfl) (by rw [hF]) (by rw [hF])
def fX3_valueOf (Z : Nat → Nat → Int32) (O : Nat → Int32) (x1 : Int32) : Int32 :=
  if x1 < 0 then
    (-3)
  else
    if x1 < 16 then
      ((Z 1) x1.toNatClampNeg)
    else
      (-3)
theorem hiX3_valueOf_3 : ∀ w ∈ wsX30, w ∈ wsX3_valueOf := by decide +kernel
theorem hfX3_valueOf_15 : Cond.fieldLink RX3 15 "ResolverFleet$Zone" "values" "[I" ∈ wsX3_valueOf := by decide +kernel
set_option maxHeartbeats 4000000 in
set_option maxRecDepth 100000 in
theorem kX3_valueOf (l : Launch) (hl : l.stackTraces = false) (K : zK) (az : Nat → Nat) (Z : Nat → Nat → Int32) (O : Nat → Int32) (x1 : Int32) : zMet l K yX3_valueOf wsX3_valueOf { frames := 0, cells := 0, slots := 0, locals := 0 } [.ref (az 0), .int x1] [zZo K az Z O] (some (.int (fX3_valueOf Z O x1))) [zZo K az Z O] True zNo := by
  refine zMeN.of (cc := cX3_valueOf) (maxL := 2) (ret := (some .int)) (own := RX3) (nm := "valueOf") hl (by decide +kernel) rfl rfl rfl (Nat.le_of_ble_eq_true rfl) (lv := [(0, .ref (az 0)), (1, .int x1)]) rfl ?_
  intro p e s m args below meth c A B
  refine z_iload_n B dX3_valueOf_0 1 rfl ?_
  refine z_iflt B 10 dX3_valueOf_1 (by decide) (fun c1 => ?_) (fun c1 => ?_)
  · refine z_bipush B (v := (-3)) dX3_valueOf_10 rfl ?_
    refine z_goto B (tgt := 21) dX3_valueOf_12 (by decide) ?_
    have hF : fX3_valueOf Z O x1 = (-3) := if_pos c1
    exact z_ret1 B rfl dX3_valueOf_21 () (trivial) (Nat.le_of_ble_eq_true rfl) (Nat.le_of_ble_eq_true rfl) (by rw [hF]) (by rw [hF])
  · refine z_iload_n B dX3_valueOf_4 1 rfl ?_
    refine z_bipush B (v := 16) dX3_valueOf_5 rfl ?_
    refine z_iclt B 15 dX3_valueOf_7 (by decide) (fun c2 => ?_) (fun c2 => ?_)
    · refine z_aload_n B dX3_valueOf_15 0 rfl ?_
      refine z_get B (v := .ref (az 2)) 0 0 1 hiX3_valueOf_3 hfX3_valueOf_15 rfl rfl rfl (by decide) rfl rfl rfl rfl dX3_valueOf_16 ?_
      refine z_iload_n B dX3_valueOf_19 1 rfl ?_
      refine z_iald B (N := 16) (f := (Z 1)) 0 2 rfl rfl (z_vp2 (M := 16) rfl c1 c2) dX3_valueOf_20 ?_
      have hF : fX3_valueOf Z O x1 = ((Z 1) x1.toNatClampNeg) := (if_neg c1).trans (if_pos c2)
      exact z_ret1 B rfl dX3_valueOf_21 () (trivial) (Nat.le_of_ble_eq_true rfl) (Nat.le_of_ble_eq_true rfl) (by rw [hF]) (by rw [hF])
    · refine z_bipush B (v := (-3)) dX3_valueOf_10 rfl ?_
      refine z_goto B (tgt := 21) dX3_valueOf_12 (by decide) ?_
      have hF : fX3_valueOf Z O x1 = (-3) := (if_neg c1).trans (if_neg c2)
      exact z_ret1 B rfl dX3_valueOf_21 () (trivial) (Nat.le_of_ble_eq_true rfl) (Nat.le_of_ble_eq_true rfl) (by rw [hF]) (by rw [hF])
def fX3_lifeOf (Z : Nat → Nat → Int32) (O : Nat → Int32) (x1 : Int32) : Int32 :=
  if x1 < 0 then
    (O 3)
  else
    if 16 ≤ x1 then
      (O 3)
    else
      if ((Z 0) x1.toNatClampNeg) = 2 then
        (O 3)
      else
        ((Z 2) x1.toNatClampNeg)
theorem hiX3_lifeOf_3 : ∀ w ∈ wsX30, w ∈ wsX3_lifeOf := by decide +kernel
theorem hfX3_lifeOf_21 : Cond.fieldLink RX3 21 "ResolverFleet$Zone" "bound" "I" ∈ wsX3_lifeOf := by decide +kernel
theorem hfX3_lifeOf_9 : Cond.fieldLink RX3 9 "ResolverFleet$Zone" "kinds" "[I" ∈ wsX3_lifeOf := by decide +kernel
theorem hfX3_lifeOf_18 : Cond.fieldLink RX3 18 "ResolverFleet$Zone" "lives" "[I" ∈ wsX3_lifeOf := by decide +kernel
set_option maxHeartbeats 4000000 in
set_option maxRecDepth 100000 in
theorem kX3_lifeOf (l : Launch) (hl : l.stackTraces = false) (K : zK) (az : Nat → Nat) (Z : Nat → Nat → Int32) (O : Nat → Int32) (x1 : Int32) : zMet l K yX3_lifeOf wsX3_lifeOf { frames := 0, cells := 0, slots := 0, locals := 0 } [.ref (az 0), .int x1] [zZo K az Z O] (some (.int (fX3_lifeOf Z O x1))) [zZo K az Z O] True zNo := by
  refine zMeN.of (cc := cX3_lifeOf) (maxL := 2) (ret := (some .int)) (own := RX3) (nm := "lifeOf") hl (by decide +kernel) rfl rfl rfl (Nat.le_of_ble_eq_true rfl) (lv := [(0, .ref (az 0)), (1, .int x1)]) rfl ?_
  intro p e s m args below meth c A B
  refine z_iload_n B dX3_lifeOf_0 1 rfl ?_
  refine z_iflt B 20 dX3_lifeOf_1 (by decide) (fun c1 => ?_) (fun c1 => ?_)
  · refine z_aload_n B dX3_lifeOf_20 0 rfl ?_
    refine z_get B (v := .int (O 3)) 0 0 3 hiX3_lifeOf_3 hfX3_lifeOf_21 rfl rfl rfl (by decide) rfl rfl rfl rfl dX3_lifeOf_21 ?_
    refine z_goto B (tgt := 33) dX3_lifeOf_24 (by decide) ?_
    have hF : fX3_lifeOf Z O x1 = (O 3) := if_pos c1
    exact z_ret1 B rfl dX3_lifeOf_33 () (trivial) (Nat.le_of_ble_eq_true rfl) (Nat.le_of_ble_eq_true rfl) (by rw [hF]) (by rw [hF])
  · refine z_iload_n B dX3_lifeOf_4 1 rfl ?_
    refine z_bipush B (v := 16) dX3_lifeOf_5 rfl ?_
    refine z_icge B 20 dX3_lifeOf_7 (by decide) (fun c2 => ?_) (fun c2 => ?_)
    · refine z_aload_n B dX3_lifeOf_20 0 rfl ?_
      refine z_get B (v := .int (O 3)) 0 0 3 hiX3_lifeOf_3 hfX3_lifeOf_21 rfl rfl rfl (by decide) rfl rfl rfl rfl dX3_lifeOf_21 ?_
      refine z_goto B (tgt := 33) dX3_lifeOf_24 (by decide) ?_
      have hF : fX3_lifeOf Z O x1 = (O 3) := (if_neg c1).trans (if_pos c2)
      exact z_ret1 B rfl dX3_lifeOf_33 () (trivial) (Nat.le_of_ble_eq_true rfl) (Nat.le_of_ble_eq_true rfl) (by rw [hF]) (by rw [hF])
    · refine z_aload_n B dX3_lifeOf_10 0 rfl ?_
      refine z_get B (v := .ref (az 1)) 0 0 0 hiX3_lifeOf_3 hfX3_lifeOf_9 rfl rfl rfl (by decide) rfl rfl rfl rfl dX3_lifeOf_11 ?_
      refine z_iload_n B dX3_lifeOf_14 1 rfl ?_
      refine z_iald B (N := 16) (f := (Z 0)) 0 1 rfl rfl (z_vp (M := 16) rfl c1 c2) dX3_lifeOf_15 ?_
      refine z_iconst B (v := 2) dX3_lifeOf_16 rfl ?_
      refine z_icne B 27 dX3_lifeOf_17 (by decide) (fun c3 => ?_) (fun c3 => ?_)
      · refine z_aload_n B dX3_lifeOf_20 0 rfl ?_
        refine z_get B (v := .int (O 3)) 0 0 3 hiX3_lifeOf_3 hfX3_lifeOf_21 rfl rfl rfl (by decide) rfl rfl rfl rfl dX3_lifeOf_21 ?_
        refine z_goto B (tgt := 33) dX3_lifeOf_24 (by decide) ?_
        have hF : fX3_lifeOf Z O x1 = (O 3) := (if_neg c1).trans ((if_neg c2).trans (if_pos c3))
        exact z_ret1 B rfl dX3_lifeOf_33 () (trivial) (Nat.le_of_ble_eq_true rfl) (Nat.le_of_ble_eq_true rfl) (by rw [hF]) (by rw [hF])
      · refine z_aload_n B dX3_lifeOf_27 0 rfl ?_
        refine z_get B (v := .ref (az 3)) 0 0 2 hiX3_lifeOf_3 hfX3_lifeOf_18 rfl rfl rfl (by decide) rfl rfl rfl rfl dX3_lifeOf_28 ?_
        refine z_iload_n B dX3_lifeOf_31 1 rfl ?_
        refine z_iald B (N := 16) (f := (Z 2)) 0 3 rfl rfl (z_vp (M := 16) rfl c1 c2) dX3_lifeOf_32 ?_
        have hF : fX3_lifeOf Z O x1 = ((Z 2) x1.toNatClampNeg) := (if_neg c1).trans ((if_neg c2).trans (if_neg c3))
        exact z_ret1 B rfl dX3_lifeOf_33 () (trivial) (Nat.le_of_ble_eq_true rfl) (Nat.le_of_ble_eq_true rfl) (by rw [hF]) (by rw [hF])
