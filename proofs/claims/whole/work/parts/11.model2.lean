def fX5_isEntry (I : Nat → Int32) (R : Nat → Nat → Int32) (x1 : Int32) (x2 : Int32) : Int32 × (Nat → Int32) :=
  if (fX5_isSite I R x1) = 0 then
    (0, (va_up I 9 1))
  else
    if (fX5_isName x2) = 0 then
      (0, (va_up I 9 1))
    else
      (1, (va_up I 9 0))
theorem hiX5_isEntry_5 : ∀ w ∈ wsX50, w ∈ wsX5_isEntry := by decide +kernel
theorem hfX5_isEntry_70 : Cond.fieldLink RX5 70 "ResolverFleetModel" "thrown" "I" ∈ wsX5_isEntry := by decide +kernel
set_option maxHeartbeats 4000000 in
set_option maxRecDepth 100000 in
theorem kX5_isEntry (l : Launch) (hl : l.stackTraces = false) (K : zK) (am : Nat → Nat) (I : Nat → Int32) (R : Nat → Nat → Int32) (x1 : Int32) (x2 : Int32) : zMet l K yX5_isEntry wsX5_isEntry { frames := 2, cells := 0, slots := 0, locals := 43 } [.ref (am 0), .int x1, .int x2] [zMo K am I R] (some (.int ((fX5_isEntry I R x1 x2).1))) [zMo K am ((fX5_isEntry I R x1 x2).2) R] True zNo := by
  refine zMeN.of (cc := cX5_isEntry) (maxL := 3) (ret := (some .boolean)) (own := RX5) (nm := "isEntry") hl (by decide +kernel) rfl rfl rfl (Nat.le_of_ble_eq_true rfl) (lv := [(0, .ref (am 0)), (1, .int x1), (2, .int x2)]) rfl ?_
  intro p e s m args below meth c A B
  refine z_aload_n B dX5_isEntry_0 0 rfl ?_
  refine z_aload_n B dX5_isEntry_1 0 rfl ?_
  refine z_iload_n B dX5_isEntry_2 1 rfl ?_
  refine z_V1 B (kX5_isSite l hl K am I R x1) [0] [] (br := []) (bs' := [zMo K am I R]) (st := [.ref (am 0)]) (nA := 1) (zsp rfl rfl rfl) (zsp rfl rfl rfl) 0 0 rfl rfl rfl rfl gX5_isEntry_X5_isSite rfl (by decide +kernel) ⟨Nat.le_of_ble_eq_true rfl, Nat.le_of_ble_eq_true rfl⟩ rfl rfl (Nat.le_of_ble_eq_true rfl) ⟨Nat.le_of_ble_eq_true rfl, Nat.le_of_ble_eq_true rfl⟩ dX5_isEntry_3 z_noX (fun _ => ?_)
  refine z_ifeq B 20 dX5_isEntry_6 (by decide) (fun c1 => ?_) (fun c1 => ?_)
  · refine z_iconst B (v := 1) dX5_isEntry_20 rfl ?_
    refine z_put B 0 0 9 hiX5_isEntry_5 hfX5_isEntry_70 tyX5_ok nmX5 rfl rfl rfl (by decide) rfl rfl rfl rfl rfl rfl rfl (Nat.le_of_ble_eq_true rfl) (bs' := [zMo K am (va_up I 9 1) R]) rfl dX5_isEntry_21 ?_
    refine z_aload_n B dX5_isEntry_24 0 rfl ?_
    refine z_get B (v := .int 1) 0 0 9 hiX5_isEntry_5 hfX5_isEntry_70 rfl rfl rfl (by decide) rfl rfl rfl rfl dX5_isEntry_25 ?_
    refine z_ifne B 35 dX5_isEntry_28 (by decide) (fun h => absurd h (by decide)) (fun _ => ?_)
    refine z_iconst B (v := 0) dX5_isEntry_35 rfl ?_
    have hF : fX5_isEntry I R x1 x2 = (0, (va_up I 9 1)) := if_pos c1
    exact z_ret1 B rfl dX5_isEntry_36 () (trivial) (Nat.le_of_ble_eq_true rfl) (Nat.le_of_ble_eq_true rfl) (by rw [hF]) (by rw [hF])
  · refine z_iload_n B dX5_isEntry_9 2 rfl ?_
    refine z_S1 B (kX5_isName l hl K x2) [] [0] (br := [zMo K am I R]) (bs' := [zMo K am I R]) (st := [.ref (am 0)]) (nA := 1) (zsp rfl rfl rfl) (zsp rfl rfl rfl) gX5_isEntry_X5_isName rfl (by decide +kernel) ⟨Nat.le_of_ble_eq_true rfl, Nat.le_of_ble_eq_true rfl⟩ rfl rfl (Nat.le_of_ble_eq_true rfl) ⟨Nat.le_of_ble_eq_true rfl, Nat.le_of_ble_eq_true rfl⟩ dX5_isEntry_10 z_noX (fun _ => ?_)
    refine z_ifeq B 20 dX5_isEntry_13 (by decide) (fun c2 => ?_) (fun c2 => ?_)
    · refine z_iconst B (v := 1) dX5_isEntry_20 rfl ?_
      refine z_put B 0 0 9 hiX5_isEntry_5 hfX5_isEntry_70 tyX5_ok nmX5 rfl rfl rfl (by decide) rfl rfl rfl rfl rfl rfl rfl (Nat.le_of_ble_eq_true rfl) (bs' := [zMo K am (va_up I 9 1) R]) rfl dX5_isEntry_21 ?_
      refine z_aload_n B dX5_isEntry_24 0 rfl ?_
      refine z_get B (v := .int 1) 0 0 9 hiX5_isEntry_5 hfX5_isEntry_70 rfl rfl rfl (by decide) rfl rfl rfl rfl dX5_isEntry_25 ?_
      refine z_ifne B 35 dX5_isEntry_28 (by decide) (fun h => absurd h (by decide)) (fun _ => ?_)
      refine z_iconst B (v := 0) dX5_isEntry_35 rfl ?_
      have hF : fX5_isEntry I R x1 x2 = (0, (va_up I 9 1)) := (if_neg c1).trans (if_pos c2)
      exact z_ret1 B rfl dX5_isEntry_36 () (trivial) (Nat.le_of_ble_eq_true rfl) (Nat.le_of_ble_eq_true rfl) (by rw [hF]) (by rw [hF])
    · refine z_iconst B (v := 0) dX5_isEntry_16 rfl ?_
      refine z_goto B (tgt := 21) dX5_isEntry_17 (by decide) ?_
      refine z_put B 0 0 9 hiX5_isEntry_5 hfX5_isEntry_70 tyX5_ok nmX5 rfl rfl rfl (by decide) rfl rfl rfl rfl rfl rfl rfl (Nat.le_of_ble_eq_true rfl) (bs' := [zMo K am (va_up I 9 0) R]) rfl dX5_isEntry_21 ?_
      refine z_aload_n B dX5_isEntry_24 0 rfl ?_
      refine z_get B (v := .int 0) 0 0 9 hiX5_isEntry_5 hfX5_isEntry_70 rfl rfl rfl (by decide) rfl rfl rfl rfl dX5_isEntry_25 ?_
      refine z_ifne B 35 dX5_isEntry_28 (by decide) (fun _ => ?_) (fun h => absurd (by decide) h)
      refine z_iconst B (v := 1) dX5_isEntry_31 rfl ?_
      refine z_goto B (tgt := 36) dX5_isEntry_32 (by decide) ?_
      have hF : fX5_isEntry I R x1 x2 = (1, (va_up I 9 0)) := (if_neg c1).trans (if_neg c2)
      exact z_ret1 B rfl dX5_isEntry_36 () (trivial) (Nat.le_of_ble_eq_true rfl) (Nat.le_of_ble_eq_true rfl) (by rw [hF]) (by rw [hF])
theorem z_isEntry {I : Nat → Int32} {R : Nat → Nat → Int32} {x y : Int32} {o : Int32 × (Nat → Int32)} (h5 : ¬ (I 5) < 0) (h6 : (I 5).toNatClampNeg ≤ 4) (ho : fX5_isEntry I R x y = o) (h : ¬ o.1 = 0) : vp_in (16 * x + y) 64 := by
  subst ho
  by_cases h1 : fX5_isSite I R x = 0
  · exact absurd (congrArg Prod.fst (if_pos h1)) h
  · by_cases h2 : fX5_isName y = 0
    · exact absurd (congrArg Prod.fst ((if_neg h1).trans (if_pos h2))) h
    · exact z_ixn (z_isSite h5 h6 h1) (z_isName h2)
def fX5_flush_s1 (I : Nat → Int32) (R : Nat → Nat → Int32) (x1 : Int32) (x2 : Int32) (o1 : Int32 × (Nat → Int32)) : Int32 × (Nat → Int32) × (Nat → Nat → Int32) :=
  if (o1.1) = 0 then
    (0, (o1.2), R)
  else
    if ((R 6) ((16 * x1) + x2).toNatClampNeg) = 3 then
      (0, (o1.2), (va_up R 6 (upd (R 6) ((16 * x1) + x2).toNatClampNeg 3)))
    else
      (1, (o1.2), (va_up R 6 (upd (R 6) ((16 * x1) + x2).toNatClampNeg 3)))
def fX5_flush (I : Nat → Int32) (R : Nat → Nat → Int32) (x1 : Int32) (x2 : Int32) : Int32 × (Nat → Int32) × (Nat → Nat → Int32) :=
  fX5_flush_s1 I R x1 x2 (fX5_isEntry I R x1 x2)
theorem hiX5_flush_5 : ∀ w ∈ wsX50, w ∈ wsX5_flush := by decide +kernel
theorem hfX5_flush_26 : Cond.fieldLink RX5 26 "ResolverFleetModel" "told" "[I" ∈ wsX5_flush := by decide +kernel
set_option maxHeartbeats 4000000 in
set_option maxRecDepth 100000 in
theorem kX5_flush (l : Launch) (hl : l.stackTraces = false) (K : zK) (am : Nat → Nat) (I : Nat → Int32) (R : Nat → Nat → Int32) (x1 : Int32) (x2 : Int32) (h5 : ¬ (I 5) < 0) (h6 : (I 5).toNatClampNeg ≤ 4) : zMet l K yX5_flush wsX5_flush { frames := 3, cells := 0, slots := 0, locals := 65 } [.ref (am 0), .int x1, .int x2] [zMo K am I R] (some (.int ((fX5_flush I R x1 x2).1))) [zMo K am ((fX5_flush I R x1 x2).2.1) ((fX5_flush I R x1 x2).2.2)] True zNo := by
  refine zMeN.of (cc := cX5_flush) (maxL := 4) (ret := (some .boolean)) (own := RX5) (nm := "flush") hl (by decide +kernel) rfl rfl rfl (Nat.le_of_ble_eq_true rfl) (lv := [(0, .ref (am 0)), (1, .int x1), (2, .int x2)]) rfl ?_
  intro p e s m args below meth c A B
  refine z_aload_n B dX5_flush_0 0 rfl ?_
  refine z_iload_n B dX5_flush_1 1 rfl ?_
  refine z_iload_n B dX5_flush_2 2 rfl ?_
  refine z_V1 B (kX5_isEntry l hl K am I R x1 x2) [0] [] (br := []) (bs' := [zMo K am ((fX5_isEntry I R x1 x2).2) R]) (st := []) (nA := 2) (zsp rfl rfl rfl) (zsp rfl rfl rfl) 0 0 rfl rfl rfl rfl gX5_flush_X5_isEntry rfl (by decide +kernel) ⟨Nat.le_of_ble_eq_true rfl, Nat.le_of_ble_eq_true rfl⟩ rfl rfl (Nat.le_of_ble_eq_true rfl) ⟨Nat.le_of_ble_eq_true rfl, Nat.le_of_ble_eq_true rfl⟩ dX5_flush_3 z_noX (fun _ => ?_)
  generalize ho1 : (fX5_isEntry I R x1 x2) = o1
  refine z_ifne B 11 dX5_flush_6 (by decide) (fun c2 => ?_) (fun c2 => ?_)
  · refine z_iconst B (v := 0) dX5_flush_9 rfl ?_
    have hF : fX5_flush I R x1 x2 = (0, (o1.2), R) := (congrArg (fun o => fX5_flush_s1 I R x1 x2 o) ho1).trans (if_pos c2)
    exact z_ret1 B rfl dX5_flush_10 () (trivial) (Nat.le_of_ble_eq_true rfl) (Nat.le_of_ble_eq_true rfl) (by rw [hF]) (by rw [hF])
  · refine z_aload_n B dX5_flush_11 0 rfl ?_
    refine z_get B (v := .ref (am 6)) 0 0 10 hiX5_flush_5 hfX5_flush_26 rfl rfl rfl (by decide) rfl rfl rfl rfl dX5_flush_12 ?_
    refine z_bipush B (v := 16) dX5_flush_15 rfl ?_
    refine z_iload_n B dX5_flush_17 1 rfl ?_
    refine z_imul B dX5_flush_18 ?_
    refine z_iload_n B dX5_flush_19 2 rfl ?_
    refine z_iadd B dX5_flush_20 ?_
    refine z_iald B (N := 64) (f := (R 6)) 0 6 rfl rfl (z_isEntry h5 h6 ho1 c2) dX5_flush_21 ?_
    refine z_iconst B (v := 3) dX5_flush_22 rfl ?_
    refine z_iceq B 30 dX5_flush_23 (by decide) (fun c3 => ?_) (fun c3 => ?_)
    · refine z_iconst B (v := 0) dX5_flush_30 rfl ?_
      refine z_istore_n B (lv' := [(3, .int 0), (0, .ref (am 0)), (1, .int x1), (2, .int x2)]) dX5_flush_31 (by decide) rfl ?_
      refine z_aload_n B dX5_flush_32 1 rfl ?_
      refine z_get B (v := .ref (am 6)) 0 0 10 hiX5_flush_5 hfX5_flush_26 rfl rfl rfl (by decide) rfl rfl rfl rfl dX5_flush_33 ?_
      refine z_bipush B (v := 16) dX5_flush_36 rfl ?_
      refine z_iload_n B dX5_flush_38 2 rfl ?_
      refine z_imul B dX5_flush_39 ?_
      refine z_iload_n B dX5_flush_40 3 rfl ?_
      refine z_iadd B dX5_flush_41 ?_
      refine z_iconst B (v := 3) dX5_flush_42 rfl ?_
      refine z_iast B (N := 64) (f := (R 6)) 0 6 rfl rfl (z_isEntry h5 h6 ho1 c2) (bs' := [zMo K am (o1.2) (va_up R 6 (upd (R 6) ((16 * x1) + x2).toNatClampNeg 3))]) rfl dX5_flush_43 ?_
      refine z_iload_n B dX5_flush_44 0 rfl ?_
      have hF : fX5_flush I R x1 x2 = (0, (o1.2), (va_up R 6 (upd (R 6) ((16 * x1) + x2).toNatClampNeg 3))) := (congrArg (fun o => fX5_flush_s1 I R x1 x2 o) ho1).trans ((if_neg c2).trans (if_pos c3))
      exact z_ret1 B rfl dX5_flush_45 () (trivial) (Nat.le_of_ble_eq_true rfl) (Nat.le_of_ble_eq_true rfl) (by rw [hF]) (by rw [hF])
    · refine z_iconst B (v := 1) dX5_flush_26 rfl ?_
      refine z_goto B (tgt := 31) dX5_flush_27 (by decide) ?_
      refine z_istore_n B (lv' := [(3, .int 1), (0, .ref (am 0)), (1, .int x1), (2, .int x2)]) dX5_flush_31 (by decide) rfl ?_
      refine z_aload_n B dX5_flush_32 1 rfl ?_
      refine z_get B (v := .ref (am 6)) 0 0 10 hiX5_flush_5 hfX5_flush_26 rfl rfl rfl (by decide) rfl rfl rfl rfl dX5_flush_33 ?_
      refine z_bipush B (v := 16) dX5_flush_36 rfl ?_
      refine z_iload_n B dX5_flush_38 2 rfl ?_
      refine z_imul B dX5_flush_39 ?_
      refine z_iload_n B dX5_flush_40 3 rfl ?_
      refine z_iadd B dX5_flush_41 ?_
      refine z_iconst B (v := 3) dX5_flush_42 rfl ?_
      refine z_iast B (N := 64) (f := (R 6)) 0 6 rfl rfl (z_isEntry h5 h6 ho1 c2) (bs' := [zMo K am (o1.2) (va_up R 6 (upd (R 6) ((16 * x1) + x2).toNatClampNeg 3))]) rfl dX5_flush_43 ?_
      refine z_iload_n B dX5_flush_44 0 rfl ?_
      have hF : fX5_flush I R x1 x2 = (1, (o1.2), (va_up R 6 (upd (R 6) ((16 * x1) + x2).toNatClampNeg 3))) := (congrArg (fun o => fX5_flush_s1 I R x1 x2 o) ho1).trans ((if_neg c2).trans (if_neg c3))
      exact z_ret1 B rfl dX5_flush_45 () (trivial) (Nat.le_of_ble_eq_true rfl) (Nat.le_of_ble_eq_true rfl) (by rw [hF]) (by rw [hF])
def fX5_cachedKind_s1 (I : Nat → Int32) (R : Nat → Nat → Int32) (x1 : Int32) (x2 : Int32) (o1 : Int32 × (Nat → Int32)) : Int32 × (Nat → Int32) :=
  if (o1.1) = 0 then
    (0, (o1.2))
  else
    (((R 6) ((16 * x1) + x2).toNatClampNeg), (o1.2))
def fX5_cachedKind (I : Nat → Int32) (R : Nat → Nat → Int32) (x1 : Int32) (x2 : Int32) : Int32 × (Nat → Int32) :=
  fX5_cachedKind_s1 I R x1 x2 (fX5_isEntry I R x1 x2)
theorem hiX5_cachedKind_5 : ∀ w ∈ wsX50, w ∈ wsX5_cachedKind := by decide +kernel
theorem hfX5_cachedKind_26 : Cond.fieldLink RX5 26 "ResolverFleetModel" "told" "[I" ∈ wsX5_cachedKind := by decide +kernel
set_option maxHeartbeats 4000000 in
set_option maxRecDepth 100000 in
theorem kX5_cachedKind (l : Launch) (hl : l.stackTraces = false) (K : zK) (am : Nat → Nat) (I : Nat → Int32) (R : Nat → Nat → Int32) (x1 : Int32) (x2 : Int32) (h5 : ¬ (I 5) < 0) (h6 : (I 5).toNatClampNeg ≤ 4) : zMet l K yX5_cachedKind wsX5_cachedKind { frames := 3, cells := 0, slots := 0, locals := 65 } [.ref (am 0), .int x1, .int x2] [zMo K am I R] (some (.int ((fX5_cachedKind I R x1 x2).1))) [zMo K am ((fX5_cachedKind I R x1 x2).2) R] True zNo := by
  refine zMeN.of (cc := cX5_cachedKind) (maxL := 3) (ret := (some .int)) (own := RX5) (nm := "cachedKind") hl (by decide +kernel) rfl rfl rfl (Nat.le_of_ble_eq_true rfl) (lv := [(0, .ref (am 0)), (1, .int x1), (2, .int x2)]) rfl ?_
  intro p e s m args below meth c A B
  refine z_aload_n B dX5_cachedKind_0 0 rfl ?_
  refine z_iload_n B dX5_cachedKind_1 1 rfl ?_
  refine z_iload_n B dX5_cachedKind_2 2 rfl ?_
  refine z_V1 B (kX5_isEntry l hl K am I R x1 x2) [0] [] (br := []) (bs' := [zMo K am ((fX5_isEntry I R x1 x2).2) R]) (st := []) (nA := 2) (zsp rfl rfl rfl) (zsp rfl rfl rfl) 0 0 rfl rfl rfl rfl gX5_cachedKind_X5_isEntry rfl (by decide +kernel) ⟨Nat.le_of_ble_eq_true rfl, Nat.le_of_ble_eq_true rfl⟩ rfl rfl (Nat.le_of_ble_eq_true rfl) ⟨Nat.le_of_ble_eq_true rfl, Nat.le_of_ble_eq_true rfl⟩ dX5_cachedKind_3 z_noX (fun _ => ?_)
  generalize ho1 : (fX5_isEntry I R x1 x2) = o1
  refine z_ifeq B 23 dX5_cachedKind_6 (by decide) (fun c2 => ?_) (fun c2 => ?_)
  · refine z_iconst B (v := 0) dX5_cachedKind_23 rfl ?_
    have hF : fX5_cachedKind I R x1 x2 = (0, (o1.2)) := (congrArg (fun o => fX5_cachedKind_s1 I R x1 x2 o) ho1).trans (if_pos c2)
    exact z_ret1 B rfl dX5_cachedKind_24 () (trivial) (Nat.le_of_ble_eq_true rfl) (Nat.le_of_ble_eq_true rfl) (by rw [hF]) (by rw [hF])
  · refine z_aload_n B dX5_cachedKind_9 0 rfl ?_
    refine z_get B (v := .ref (am 6)) 0 0 10 hiX5_cachedKind_5 hfX5_cachedKind_26 rfl rfl rfl (by decide) rfl rfl rfl rfl dX5_cachedKind_10 ?_
    refine z_bipush B (v := 16) dX5_cachedKind_13 rfl ?_
    refine z_iload_n B dX5_cachedKind_15 1 rfl ?_
    refine z_imul B dX5_cachedKind_16 ?_
    refine z_iload_n B dX5_cachedKind_17 2 rfl ?_
    refine z_iadd B dX5_cachedKind_18 ?_
    refine z_iald B (N := 64) (f := (R 6)) 0 6 rfl rfl (z_isEntry h5 h6 ho1 c2) dX5_cachedKind_19 ?_
    refine z_goto B (tgt := 24) dX5_cachedKind_20 (by decide) ?_
    have hF : fX5_cachedKind I R x1 x2 = (((R 6) ((16 * x1) + x2).toNatClampNeg), (o1.2)) := (congrArg (fun o => fX5_cachedKind_s1 I R x1 x2 o) ho1).trans (if_neg c2)
    exact z_ret1 B rfl dX5_cachedKind_24 () (trivial) (Nat.le_of_ble_eq_true rfl) (Nat.le_of_ble_eq_true rfl) (by rw [hF]) (by rw [hF])
def fX5_cachedValue_s1 (I : Nat → Int32) (R : Nat → Nat → Int32) (x1 : Int32) (x2 : Int32) (o1 : Int32 × (Nat → Int32)) : Int32 × (Nat → Int32) :=
  if (o1.1) = 0 then
    (0, (o1.2))
  else
    if ((R 6) ((16 * x1) + x2).toNatClampNeg) = 0 then
      (((R 7) ((16 * x1) + x2).toNatClampNeg), (o1.2))
    else
      if ((R 6) ((16 * x1) + x2).toNatClampNeg) = 1 then
        (((R 7) ((16 * x1) + x2).toNatClampNeg), (o1.2))
      else
        ((-3), (o1.2))
def fX5_cachedValue (I : Nat → Int32) (R : Nat → Nat → Int32) (x1 : Int32) (x2 : Int32) : Int32 × (Nat → Int32) :=
  fX5_cachedValue_s1 I R x1 x2 (fX5_isEntry I R x1 x2)
theorem hiX5_cachedValue_5 : ∀ w ∈ wsX50, w ∈ wsX5_cachedValue := by decide +kernel
theorem hfX5_cachedValue_26 : Cond.fieldLink RX5 26 "ResolverFleetModel" "told" "[I" ∈ wsX5_cachedValue := by decide +kernel
theorem hfX5_cachedValue_29 : Cond.fieldLink RX5 29 "ResolverFleetModel" "tells" "[I" ∈ wsX5_cachedValue := by decide +kernel
set_option maxHeartbeats 4000000 in
set_option maxRecDepth 100000 in
theorem kX5_cachedValue (l : Launch) (hl : l.stackTraces = false) (K : zK) (am : Nat → Nat) (I : Nat → Int32) (R : Nat → Nat → Int32) (x1 : Int32) (x2 : Int32) (h5 : ¬ (I 5) < 0) (h6 : (I 5).toNatClampNeg ≤ 4) : zMet l K yX5_cachedValue wsX5_cachedValue { frames := 3, cells := 0, slots := 0, locals := 65 } [.ref (am 0), .int x1, .int x2] [zMo K am I R] (some (.int ((fX5_cachedValue I R x1 x2).1))) [zMo K am ((fX5_cachedValue I R x1 x2).2) R] True zNo := by
  refine zMeN.of (cc := cX5_cachedValue) (maxL := 4) (ret := (some .int)) (own := RX5) (nm := "cachedValue") hl (by decide +kernel) rfl rfl rfl (Nat.le_of_ble_eq_true rfl) (lv := [(0, .ref (am 0)), (1, .int x1), (2, .int x2)]) rfl ?_
  intro p e s m args below meth c A B
  refine z_aload_n B dX5_cachedValue_0 0 rfl ?_
  refine z_iload_n B dX5_cachedValue_1 1 rfl ?_
  refine z_iload_n B dX5_cachedValue_2 2 rfl ?_
  refine z_V1 B (kX5_isEntry l hl K am I R x1 x2) [0] [] (br := []) (bs' := [zMo K am ((fX5_isEntry I R x1 x2).2) R]) (st := []) (nA := 2) (zsp rfl rfl rfl) (zsp rfl rfl rfl) 0 0 rfl rfl rfl rfl gX5_cachedValue_X5_isEntry rfl (by decide +kernel) ⟨Nat.le_of_ble_eq_true rfl, Nat.le_of_ble_eq_true rfl⟩ rfl rfl (Nat.le_of_ble_eq_true rfl) ⟨Nat.le_of_ble_eq_true rfl, Nat.le_of_ble_eq_true rfl⟩ dX5_cachedValue_3 z_noX (fun _ => ?_)
  generalize ho1 : (fX5_isEntry I R x1 x2) = o1
  refine z_ifne B 11 dX5_cachedValue_6 (by decide) (fun c2 => ?_) (fun c2 => ?_)
  · refine z_iconst B (v := 0) dX5_cachedValue_9 rfl ?_
    have hF : fX5_cachedValue I R x1 x2 = (0, (o1.2)) := (congrArg (fun o => fX5_cachedValue_s1 I R x1 x2 o) ho1).trans (if_pos c2)
    exact z_ret1 B rfl dX5_cachedValue_10 () (trivial) (Nat.le_of_ble_eq_true rfl) (Nat.le_of_ble_eq_true rfl) (by rw [hF]) (by rw [hF])
  · refine z_bipush B (v := 16) dX5_cachedValue_11 rfl ?_
    refine z_iload_n B dX5_cachedValue_13 1 rfl ?_
    refine z_imul B dX5_cachedValue_14 ?_
    refine z_iload_n B dX5_cachedValue_15 2 rfl ?_
    refine z_iadd B dX5_cachedValue_16 ?_
    refine z_istore_n B (lv' := [(3, .int ((16 * x1) + x2)), (0, .ref (am 0)), (1, .int x1), (2, .int x2)]) dX5_cachedValue_17 (by decide) rfl ?_
    refine z_aload_n B dX5_cachedValue_18 1 rfl ?_
    refine z_get B (v := .ref (am 6)) 0 0 10 hiX5_cachedValue_5 hfX5_cachedValue_26 rfl rfl rfl (by decide) rfl rfl rfl rfl dX5_cachedValue_19 ?_
    refine z_iload_n B dX5_cachedValue_22 0 rfl ?_
    refine z_iald B (N := 64) (f := (R 6)) 0 6 rfl rfl (z_isEntry h5 h6 ho1 c2) dX5_cachedValue_23 ?_
    refine z_ifeq B 37 dX5_cachedValue_24 (by decide) (fun c3 => ?_) (fun c3 => ?_)
    · refine z_aload_n B dX5_cachedValue_37 1 rfl ?_
      refine z_get B (v := .ref (am 7)) 0 0 11 hiX5_cachedValue_5 hfX5_cachedValue_29 rfl rfl rfl (by decide) rfl rfl rfl rfl dX5_cachedValue_38 ?_
      refine z_iload_n B dX5_cachedValue_41 0 rfl ?_
      refine z_iald B (N := 64) (f := (R 7)) 0 7 rfl rfl (z_isEntry h5 h6 ho1 c2) dX5_cachedValue_42 ?_
      refine z_goto B (tgt := 48) dX5_cachedValue_43 (by decide) ?_
      have hF : fX5_cachedValue I R x1 x2 = (((R 7) ((16 * x1) + x2).toNatClampNeg), (o1.2)) := (congrArg (fun o => fX5_cachedValue_s1 I R x1 x2 o) ho1).trans ((if_neg c2).trans (if_pos c3))
      exact z_ret1 B rfl dX5_cachedValue_48 () (trivial) (Nat.le_of_ble_eq_true rfl) (Nat.le_of_ble_eq_true rfl) (by rw [hF]) (by rw [hF])
    · refine z_aload_n B dX5_cachedValue_27 1 rfl ?_
      refine z_get B (v := .ref (am 6)) 0 0 10 hiX5_cachedValue_5 hfX5_cachedValue_26 rfl rfl rfl (by decide) rfl rfl rfl rfl dX5_cachedValue_28 ?_
      refine z_iload_n B dX5_cachedValue_31 0 rfl ?_
      refine z_iald B (N := 64) (f := (R 6)) 0 6 rfl rfl (z_isEntry h5 h6 ho1 c2) dX5_cachedValue_32 ?_
      refine z_iconst B (v := 1) dX5_cachedValue_33 rfl ?_
      refine z_icne B 46 dX5_cachedValue_34 (by decide) (fun c4 => ?_) (fun c4 => ?_)
      · refine z_aload_n B dX5_cachedValue_37 1 rfl ?_
        refine z_get B (v := .ref (am 7)) 0 0 11 hiX5_cachedValue_5 hfX5_cachedValue_29 rfl rfl rfl (by decide) rfl rfl rfl rfl dX5_cachedValue_38 ?_
        refine z_iload_n B dX5_cachedValue_41 0 rfl ?_
        refine z_iald B (N := 64) (f := (R 7)) 0 7 rfl rfl (z_isEntry h5 h6 ho1 c2) dX5_cachedValue_42 ?_
        refine z_goto B (tgt := 48) dX5_cachedValue_43 (by decide) ?_
        have hF : fX5_cachedValue I R x1 x2 = (((R 7) ((16 * x1) + x2).toNatClampNeg), (o1.2)) := (congrArg (fun o => fX5_cachedValue_s1 I R x1 x2 o) ho1).trans ((if_neg c2).trans ((if_neg c3).trans (if_pos c4)))
        exact z_ret1 B rfl dX5_cachedValue_48 () (trivial) (Nat.le_of_ble_eq_true rfl) (Nat.le_of_ble_eq_true rfl) (by rw [hF]) (by rw [hF])
      · refine z_bipush B (v := (-3)) dX5_cachedValue_46 rfl ?_
        have hF : fX5_cachedValue I R x1 x2 = ((-3), (o1.2)) := (congrArg (fun o => fX5_cachedValue_s1 I R x1 x2 o) ho1).trans ((if_neg c2).trans ((if_neg c3).trans (if_neg c4)))
        exact z_ret1 B rfl dX5_cachedValue_48 () (trivial) (Nat.le_of_ble_eq_true rfl) (Nat.le_of_ble_eq_true rfl) (by rw [hF]) (by rw [hF])
def fX5_left_s1 (I : Nat → Int32) (R : Nat → Nat → Int32) (x1 : Int32) (x2 : Int32) (o1 : Int32 × (Nat → Int32)) : Int32 × (Nat → Int32) :=
  if (o1.1) = 0 then
    (0, (o1.2))
  else
    if ((R 6) ((16 * x1) + x2).toNatClampNeg) = 3 then
      (0, (va_up (o1.2) 9 2))
    else
      ((((R 9) ((16 * x1) + x2).toNatClampNeg) - ((o1.2) 8)), (va_up (o1.2) 9 0))
def fX5_left (I : Nat → Int32) (R : Nat → Nat → Int32) (x1 : Int32) (x2 : Int32) : Int32 × (Nat → Int32) :=
  fX5_left_s1 I R x1 x2 (fX5_isEntry I R x1 x2)
theorem hiX5_left_5 : ∀ w ∈ wsX50, w ∈ wsX5_left := by decide +kernel
theorem hfX5_left_26 : Cond.fieldLink RX5 26 "ResolverFleetModel" "told" "[I" ∈ wsX5_left := by decide +kernel
theorem hfX5_left_70 : Cond.fieldLink RX5 70 "ResolverFleetModel" "thrown" "I" ∈ wsX5_left := by decide +kernel
theorem hfX5_left_35 : Cond.fieldLink RX5 35 "ResolverFleetModel" "ends" "[I" ∈ wsX5_left := by decide +kernel
theorem hfX5_left_95 : Cond.fieldLink RX5 95 "ResolverFleetModel" "now" "I" ∈ wsX5_left := by decide +kernel
set_option maxHeartbeats 4000000 in
set_option maxRecDepth 100000 in
theorem kX5_left (l : Launch) (hl : l.stackTraces = false) (K : zK) (am : Nat → Nat) (I : Nat → Int32) (R : Nat → Nat → Int32) (x1 : Int32) (x2 : Int32) (h5 : ¬ (I 5) < 0) (h6 : (I 5).toNatClampNeg ≤ 4) : zMet l K yX5_left wsX5_left { frames := 3, cells := 0, slots := 0, locals := 65 } [.ref (am 0), .int x1, .int x2] [zMo K am I R] (some (.int ((fX5_left I R x1 x2).1))) [zMo K am ((fX5_left I R x1 x2).2) R] True zNo := by
  refine zMeN.of (cc := cX5_left) (maxL := 4) (ret := (some .int)) (own := RX5) (nm := "left") hl (by decide +kernel) rfl rfl rfl (Nat.le_of_ble_eq_true rfl) (lv := [(0, .ref (am 0)), (1, .int x1), (2, .int x2)]) rfl ?_
  intro p e s m args below meth c A B
  refine z_aload_n B dX5_left_0 0 rfl ?_
  refine z_iload_n B dX5_left_1 1 rfl ?_
  refine z_iload_n B dX5_left_2 2 rfl ?_
  refine z_V1 B (kX5_isEntry l hl K am I R x1 x2) [0] [] (br := []) (bs' := [zMo K am ((fX5_isEntry I R x1 x2).2) R]) (st := []) (nA := 2) (zsp rfl rfl rfl) (zsp rfl rfl rfl) 0 0 rfl rfl rfl rfl gX5_left_X5_isEntry rfl (by decide +kernel) ⟨Nat.le_of_ble_eq_true rfl, Nat.le_of_ble_eq_true rfl⟩ rfl rfl (Nat.le_of_ble_eq_true rfl) ⟨Nat.le_of_ble_eq_true rfl, Nat.le_of_ble_eq_true rfl⟩ dX5_left_3 z_noX (fun _ => ?_)
  generalize ho1 : (fX5_isEntry I R x1 x2) = o1
  refine z_ifne B 11 dX5_left_6 (by decide) (fun c2 => ?_) (fun c2 => ?_)
  · refine z_iconst B (v := 0) dX5_left_9 rfl ?_
    have hF : fX5_left I R x1 x2 = (0, (o1.2)) := (congrArg (fun o => fX5_left_s1 I R x1 x2 o) ho1).trans (if_pos c2)
    exact z_ret1 B rfl dX5_left_10 () (trivial) (Nat.le_of_ble_eq_true rfl) (Nat.le_of_ble_eq_true rfl) (by rw [hF]) (by rw [hF])
  · refine z_bipush B (v := 16) dX5_left_11 rfl ?_
    refine z_iload_n B dX5_left_13 1 rfl ?_
    refine z_imul B dX5_left_14 ?_
    refine z_iload_n B dX5_left_15 2 rfl ?_
    refine z_iadd B dX5_left_16 ?_
    refine z_istore_n B (lv' := [(3, .int ((16 * x1) + x2)), (0, .ref (am 0)), (1, .int x1), (2, .int x2)]) dX5_left_17 (by decide) rfl ?_
    refine z_aload_n B dX5_left_18 1 rfl ?_
    refine z_aload_n B dX5_left_19 1 rfl ?_
    refine z_get B (v := .ref (am 6)) 0 0 10 hiX5_left_5 hfX5_left_26 rfl rfl rfl (by decide) rfl rfl rfl rfl dX5_left_20 ?_
    refine z_iload_n B dX5_left_23 0 rfl ?_
    refine z_iald B (N := 64) (f := (R 6)) 0 6 rfl rfl (z_isEntry h5 h6 ho1 c2) dX5_left_24 ?_
    refine z_iconst B (v := 3) dX5_left_25 rfl ?_
    refine z_icne B 33 dX5_left_26 (by decide) (fun c3 => ?_) (fun c3 => ?_)
    · refine z_iconst B (v := 2) dX5_left_29 rfl ?_
      refine z_goto B (tgt := 34) dX5_left_30 (by decide) ?_
      refine z_put B 0 0 9 hiX5_left_5 hfX5_left_70 tyX5_ok nmX5 rfl rfl rfl (by decide) rfl rfl rfl rfl rfl rfl rfl (Nat.le_of_ble_eq_true rfl) (bs' := [zMo K am (va_up (o1.2) 9 2) R]) rfl dX5_left_34 ?_
      refine z_aload_n B dX5_left_37 1 rfl ?_
      refine z_get B (v := .int 2) 0 0 9 hiX5_left_5 hfX5_left_70 rfl rfl rfl (by decide) rfl rfl rfl rfl dX5_left_38 ?_
      refine z_ifne B 58 dX5_left_41 (by decide) (fun h => absurd h (by decide)) (fun _ => ?_)
      refine z_iconst B (v := 0) dX5_left_58 rfl ?_
      have hF : fX5_left I R x1 x2 = (0, (va_up (o1.2) 9 2)) := (congrArg (fun o => fX5_left_s1 I R x1 x2 o) ho1).trans ((if_neg c2).trans (if_pos c3))
      exact z_ret1 B rfl dX5_left_59 () (trivial) (Nat.le_of_ble_eq_true rfl) (Nat.le_of_ble_eq_true rfl) (by rw [hF]) (by rw [hF])
    · refine z_iconst B (v := 0) dX5_left_33 rfl ?_
      refine z_put B 0 0 9 hiX5_left_5 hfX5_left_70 tyX5_ok nmX5 rfl rfl rfl (by decide) rfl rfl rfl rfl rfl rfl rfl (Nat.le_of_ble_eq_true rfl) (bs' := [zMo K am (va_up (o1.2) 9 0) R]) rfl dX5_left_34 ?_
      refine z_aload_n B dX5_left_37 1 rfl ?_
      refine z_get B (v := .int 0) 0 0 9 hiX5_left_5 hfX5_left_70 rfl rfl rfl (by decide) rfl rfl rfl rfl dX5_left_38 ?_
      refine z_ifne B 58 dX5_left_41 (by decide) (fun _ => ?_) (fun h => absurd (by decide) h)
      refine z_aload_n B dX5_left_44 1 rfl ?_
      refine z_get B (v := .ref (am 9)) 0 0 13 hiX5_left_5 hfX5_left_35 rfl rfl rfl (by decide) rfl rfl rfl rfl dX5_left_45 ?_
      refine z_iload_n B dX5_left_48 0 rfl ?_
      refine z_iald B (N := 64) (f := (R 9)) 0 9 rfl rfl (z_isEntry h5 h6 ho1 c2) dX5_left_49 ?_
      refine z_aload_n B dX5_left_50 1 rfl ?_
      refine z_get B (v := .int ((o1.2) 8)) 0 0 8 hiX5_left_5 hfX5_left_95 rfl rfl rfl (by decide) rfl rfl rfl rfl dX5_left_51 ?_
      refine z_isub B dX5_left_54 ?_
      refine z_goto B (tgt := 59) dX5_left_55 (by decide) ?_
      have hF : fX5_left I R x1 x2 = ((((R 9) ((16 * x1) + x2).toNatClampNeg) - ((o1.2) 8)), (va_up (o1.2) 9 0)) := (congrArg (fun o => fX5_left_s1 I R x1 x2 o) ho1).trans ((if_neg c2).trans (if_neg c3))
      exact z_ret1 B rfl dX5_left_59 () (trivial) (Nat.le_of_ble_eq_true rfl) (Nat.le_of_ble_eq_true rfl) (by rw [hF]) (by rw [hF])
def fX5_hitsOf_s1 (I : Nat → Int32) (R : Nat → Nat → Int32) (x1 : Int32) (x2 : Int32) (o1 : Int32 × (Nat → Int32)) : Int32 × (Nat → Int32) :=
  if (o1.1) = 0 then
    (0, (o1.2))
  else
    if ((R 6) ((16 * x1) + x2).toNatClampNeg) = 3 then
      (0, (o1.2))
    else
      (((R 10) ((16 * x1) + x2).toNatClampNeg), (o1.2))
def fX5_hitsOf (I : Nat → Int32) (R : Nat → Nat → Int32) (x1 : Int32) (x2 : Int32) : Int32 × (Nat → Int32) :=
  fX5_hitsOf_s1 I R x1 x2 (fX5_isEntry I R x1 x2)
theorem hiX5_hitsOf_5 : ∀ w ∈ wsX50, w ∈ wsX5_hitsOf := by decide +kernel
theorem hfX5_hitsOf_26 : Cond.fieldLink RX5 26 "ResolverFleetModel" "told" "[I" ∈ wsX5_hitsOf := by decide +kernel
theorem hfX5_hitsOf_38 : Cond.fieldLink RX5 38 "ResolverFleetModel" "hits" "[I" ∈ wsX5_hitsOf := by decide +kernel
set_option maxHeartbeats 4000000 in
set_option maxRecDepth 100000 in
theorem kX5_hitsOf (l : Launch) (hl : l.stackTraces = false) (K : zK) (am : Nat → Nat) (I : Nat → Int32) (R : Nat → Nat → Int32) (x1 : Int32) (x2 : Int32) (h5 : ¬ (I 5) < 0) (h6 : (I 5).toNatClampNeg ≤ 4) : zMet l K yX5_hitsOf wsX5_hitsOf { frames := 3, cells := 0, slots := 0, locals := 65 } [.ref (am 0), .int x1, .int x2] [zMo K am I R] (some (.int ((fX5_hitsOf I R x1 x2).1))) [zMo K am ((fX5_hitsOf I R x1 x2).2) R] True zNo := by
  refine zMeN.of (cc := cX5_hitsOf) (maxL := 3) (ret := (some .int)) (own := RX5) (nm := "hitsOf") hl (by decide +kernel) rfl rfl rfl (Nat.le_of_ble_eq_true rfl) (lv := [(0, .ref (am 0)), (1, .int x1), (2, .int x2)]) rfl ?_
  intro p e s m args below meth c A B
  refine z_aload_n B dX5_hitsOf_0 0 rfl ?_
  refine z_iload_n B dX5_hitsOf_1 1 rfl ?_
  refine z_iload_n B dX5_hitsOf_2 2 rfl ?_
  refine z_V1 B (kX5_isEntry l hl K am I R x1 x2) [0] [] (br := []) (bs' := [zMo K am ((fX5_isEntry I R x1 x2).2) R]) (st := []) (nA := 2) (zsp rfl rfl rfl) (zsp rfl rfl rfl) 0 0 rfl rfl rfl rfl gX5_hitsOf_X5_isEntry rfl (by decide +kernel) ⟨Nat.le_of_ble_eq_true rfl, Nat.le_of_ble_eq_true rfl⟩ rfl rfl (Nat.le_of_ble_eq_true rfl) ⟨Nat.le_of_ble_eq_true rfl, Nat.le_of_ble_eq_true rfl⟩ dX5_hitsOf_3 z_noX (fun _ => ?_)
  generalize ho1 : (fX5_isEntry I R x1 x2) = o1
  refine z_ifeq B 38 dX5_hitsOf_6 (by decide) (fun c2 => ?_) (fun c2 => ?_)
  · refine z_iconst B (v := 0) dX5_hitsOf_38 rfl ?_
    have hF : fX5_hitsOf I R x1 x2 = (0, (o1.2)) := (congrArg (fun o => fX5_hitsOf_s1 I R x1 x2 o) ho1).trans (if_pos c2)
    exact z_ret1 B rfl dX5_hitsOf_39 () (trivial) (Nat.le_of_ble_eq_true rfl) (Nat.le_of_ble_eq_true rfl) (by rw [hF]) (by rw [hF])
  · refine z_aload_n B dX5_hitsOf_9 0 rfl ?_
    refine z_get B (v := .ref (am 6)) 0 0 10 hiX5_hitsOf_5 hfX5_hitsOf_26 rfl rfl rfl (by decide) rfl rfl rfl rfl dX5_hitsOf_10 ?_
    refine z_bipush B (v := 16) dX5_hitsOf_13 rfl ?_
    refine z_iload_n B dX5_hitsOf_15 1 rfl ?_
    refine z_imul B dX5_hitsOf_16 ?_
    refine z_iload_n B dX5_hitsOf_17 2 rfl ?_
    refine z_iadd B dX5_hitsOf_18 ?_
    refine z_iald B (N := 64) (f := (R 6)) 0 6 rfl rfl (z_isEntry h5 h6 ho1 c2) dX5_hitsOf_19 ?_
    refine z_iconst B (v := 3) dX5_hitsOf_20 rfl ?_
    refine z_iceq B 38 dX5_hitsOf_21 (by decide) (fun c3 => ?_) (fun c3 => ?_)
    · refine z_iconst B (v := 0) dX5_hitsOf_38 rfl ?_
      have hF : fX5_hitsOf I R x1 x2 = (0, (o1.2)) := (congrArg (fun o => fX5_hitsOf_s1 I R x1 x2 o) ho1).trans ((if_neg c2).trans (if_pos c3))
      exact z_ret1 B rfl dX5_hitsOf_39 () (trivial) (Nat.le_of_ble_eq_true rfl) (Nat.le_of_ble_eq_true rfl) (by rw [hF]) (by rw [hF])
    · refine z_aload_n B dX5_hitsOf_24 0 rfl ?_
      refine z_get B (v := .ref (am 10)) 0 0 14 hiX5_hitsOf_5 hfX5_hitsOf_38 rfl rfl rfl (by decide) rfl rfl rfl rfl dX5_hitsOf_25 ?_
      refine z_bipush B (v := 16) dX5_hitsOf_28 rfl ?_
      refine z_iload_n B dX5_hitsOf_30 1 rfl ?_
      refine z_imul B dX5_hitsOf_31 ?_
      refine z_iload_n B dX5_hitsOf_32 2 rfl ?_
      refine z_iadd B dX5_hitsOf_33 ?_
      refine z_iald B (N := 64) (f := (R 10)) 0 10 rfl rfl (z_isEntry h5 h6 ho1 c2) dX5_hitsOf_34 ?_
      refine z_goto B (tgt := 39) dX5_hitsOf_35 (by decide) ?_
      have hF : fX5_hitsOf I R x1 x2 = (((R 10) ((16 * x1) + x2).toNatClampNeg), (o1.2)) := (congrArg (fun o => fX5_hitsOf_s1 I R x1 x2 o) ho1).trans ((if_neg c2).trans (if_neg c3))
      exact z_ret1 B rfl dX5_hitsOf_39 () (trivial) (Nat.le_of_ble_eq_true rfl) (Nat.le_of_ble_eq_true rfl) (by rw [hF]) (by rw [hF])
def fX5_size_L4 (I : Nat → Int32) (R : Nat → Nat → Int32) (x1 : Int32) : Nat → Nat → (Int32) → Int32
  | 0, a, g =>
    g
  | n + 1, a, g =>
    if ((R 6) ((16 * x1) + nI a).toNatClampNeg) = 3 then
      fX5_size_L4 I R x1 n (a + 1) (g + 0)
    else
      fX5_size_L4 I R x1 n (a + 1) (g + 1)
def fX5_size (I : Nat → Int32) (R : Nat → Nat → Int32) (x1 : Int32) : Int32 :=
  fX5_size_L4 I R x1 16 0 0
theorem hiX5_size_5 : ∀ w ∈ wsX50, w ∈ wsX5_size := by decide +kernel
theorem hfX5_size_26 : Cond.fieldLink RX5 26 "ResolverFleetModel" "told" "[I" ∈ wsX5_size := by decide +kernel
set_option maxHeartbeats 4000000 in
set_option maxRecDepth 100000 in
theorem kX5_size_L4 (l : Launch) (hl : l.stackTraces = false) (K : zK) (am : Nat → Nat) (I : Nat → Int32) (R : Nat → Nat → Int32) (x1 : Int32) (hs : vp_in x1 4) {p : Program} {e : Env} {s : State} {m : MethodId} {args : Array Value} {below : List Frame} {meth : Method} {c : Code} {A : Nat → Prop} (B : zF K p l s m args meth c A cX5_size 4 RX5 "size" wsX5_size (some .int) []) : ∀ (n a : Nat) (g : Int32), a + n = 16 → fX5_size I R x1 = fX5_size_L4 I R x1 n a g → zW K p l e { frames := 0, cells := 0, slots := 0, locals := 0 } s m args below meth c A (vx_MQ below (zQ K A (fun _ : Unit => ((some (.int (fX5_size I R x1))), [zMo K am I R])) (fun _ => True)) (zX K A [zMo K am I R] zNo) args s 0 0 A) 0 0 [zMo K am I R] [(0, .ref (am 0)), (1, .int x1), (2, .int g), (3, .int (nI a))] [] 4 := by
  intro n
  induction n with
  | zero =>
    intro a g ha  hF0
    refine z_iload_n B dX5_size_4 3 rfl ?_
    refine z_bipush B (v := 16) dX5_size_5 rfl ?_
    refine z_icge B 39 dX5_size_7 (by decide) (fun _ => ?_) (fun h => absurd (z_lge0 ha (by decide)) h)
    refine z_iload_n B dX5_size_39 2 rfl ?_
    have hF : fX5_size I R x1 = g := hF0
    exact z_ret1 B rfl dX5_size_40 () (trivial) (Nat.le_of_ble_eq_true rfl) (Nat.le_of_ble_eq_true rfl) (by rw [hF]) (by rw [hF])
  | succ n ih =>
    intro a g ha  hF0
    refine z_iload_n B dX5_size_4 3 rfl ?_
    refine z_bipush B (v := 16) dX5_size_5 rfl ?_
    refine z_icge B 39 dX5_size_7 (by decide) (fun h => absurd h (z_lgeS ha (by decide))) (fun _ => ?_)
    refine z_iload_n B dX5_size_10 2 rfl ?_
    refine z_aload_n B dX5_size_11 0 rfl ?_
    refine z_get B (v := .ref (am 6)) 0 0 10 hiX5_size_5 hfX5_size_26 rfl rfl rfl (by decide) rfl rfl rfl rfl dX5_size_12 ?_
    refine z_bipush B (v := 16) dX5_size_15 rfl ?_
    refine z_iload_n B dX5_size_17 1 rfl ?_
    refine z_imul B dX5_size_18 ?_
    refine z_iload_n B dX5_size_19 3 rfl ?_
    refine z_iadd B dX5_size_20 ?_
    refine z_iald B (N := 64) (f := (R 6)) 0 6 rfl rfl (z_ixn hs (z_nIr (by omega) (by decide))) dX5_size_21 ?_
    refine z_iconst B (v := 3) dX5_size_22 rfl ?_
    refine z_iceq B 30 dX5_size_23 (by decide) (fun c1 => ?_) (fun c1 => ?_)
    · refine z_iconst B (v := 0) dX5_size_30 rfl ?_
      refine z_iadd B dX5_size_31 ?_
      refine z_istore_n B (lv' := [(2, .int (g + 0)), (0, .ref (am 0)), (1, .int x1), (3, .int (nI a))]) dX5_size_32 (by decide) rfl ?_
      refine z_iinc B (v := nI (a + 1)) (lv' := [(3, .int (nI (a + 1))), (2, .int (g + 0)), (0, .ref (am 0)), (1, .int x1)]) dX5_size_33 3 rfl (nI_1 a) (by decide) rfl ?_
      refine z_goto B (tgt := 4) dX5_size_36 (by decide) ?_
      refine z_lsub [2, 3, 1, 0] rfl ?_
      have hF : fX5_size I R x1 = fX5_size_L4 I R x1 n (a + 1) (g + 0) := (hF0).trans (if_pos c1)
      exact ih (a + 1) (g + 0) (by omega)  hF
    · refine z_iconst B (v := 1) dX5_size_26 rfl ?_
      refine z_goto B (tgt := 31) dX5_size_27 (by decide) ?_
      refine z_iadd B dX5_size_31 ?_
      refine z_istore_n B (lv' := [(2, .int (g + 1)), (0, .ref (am 0)), (1, .int x1), (3, .int (nI a))]) dX5_size_32 (by decide) rfl ?_
      refine z_iinc B (v := nI (a + 1)) (lv' := [(3, .int (nI (a + 1))), (2, .int (g + 1)), (0, .ref (am 0)), (1, .int x1)]) dX5_size_33 3 rfl (nI_1 a) (by decide) rfl ?_
      refine z_goto B (tgt := 4) dX5_size_36 (by decide) ?_
      refine z_lsub [2, 3, 1, 0] rfl ?_
      have hF : fX5_size I R x1 = fX5_size_L4 I R x1 n (a + 1) (g + 1) := (hF0).trans (if_neg c1)
      exact ih (a + 1) (g + 1) (by omega)  hF
set_option maxHeartbeats 4000000 in
set_option maxRecDepth 100000 in
theorem kX5_size (l : Launch) (hl : l.stackTraces = false) (K : zK) (am : Nat → Nat) (I : Nat → Int32) (R : Nat → Nat → Int32) (x1 : Int32) (hs : vp_in x1 4) : zMet l K yX5_size wsX5_size { frames := 0, cells := 0, slots := 0, locals := 0 } [.ref (am 0), .int x1] [zMo K am I R] (some (.int (fX5_size I R x1))) [zMo K am I R] True zNo := by
  refine zMeN.of (cc := cX5_size) (maxL := 4) (ret := (some .int)) (own := RX5) (nm := "size") hl (by decide +kernel) rfl rfl rfl (Nat.le_of_ble_eq_true rfl) (lv := [(0, .ref (am 0)), (1, .int x1)]) rfl ?_
  intro p e s m args below meth c A B
  refine z_iconst B (v := 0) dX5_size_0 rfl ?_
  refine z_istore_n B (lv' := [(2, .int 0), (0, .ref (am 0)), (1, .int x1)]) dX5_size_1 (by decide) rfl ?_
  refine z_iconst B (v := 0) dX5_size_2 rfl ?_
  refine z_istore_n B (lv' := [(3, .int 0), (2, .int 0), (0, .ref (am 0)), (1, .int x1)]) dX5_size_3 (by decide) rfl ?_
  refine z_lsub [2, 3, 1, 0] rfl ?_
  have hF : fX5_size I R x1 = fX5_size_L4 I R x1 16 0 0 := rfl
  exact kX5_size_L4 l hl K am I R x1 hs B 16 0 0 (by omega)  hF
theorem z_sz0 {I : Nat → Int32} {R : Nat → Nat → Int32} {x : Int32} : ∀ (n a : Nat) (g : Int32), (∀ b, a ≤ b → b < a + n → (R 6) (16 * x + nI b).toNatClampNeg = 3) → fX5_size_L4 I R x n a g = g
  | 0, a, g, _ => rfl
  | n + 1, a, g, h => by
    rw [fX5_size_L4, if_pos (h a (Nat.le_refl _) (by omega)), z_sz0 n (a + 1) (g + 0) (fun b h1 h2 => h b (by omega) (by omega))]
    exact Int32.add_zero g
theorem z_sz6 {I : Nat → Int32} {R : Nat → Nat → Int32} {x : Int32} (h : fX5_size I R x = 6) : ∃ b, b < 16 ∧ ¬ (R 6) (16 * x + nI b).toNatClampNeg = 3 := by
  by_cases h1 : ∃ b, b < 16 ∧ ¬ (R 6) (16 * x + nI b).toNatClampNeg = 3
  · exact h1
  · have h2 : fX5_size I R x = 0 := z_sz0 16 0 0 (fun b _ h3 => Classical.byContradiction fun h4 => h1 ⟨b, by omega, h4⟩)
    rw [h2] at h
    exact absurd h (by decide)
theorem z_inc2 (x : Int32) (a : Nat) : (x + nI a) + Int32.ofInt 1 = x + nI (a + 1) := by
  rw [Int32.add_assoc]
  exact congrArg (fun y => x + y) (nI_1 a)
theorem z_add0 (x : Int32) : x = x + nI 0 := (Int32.add_zero x).symm
theorem z_mr0 {x : Int32} {a : Nat} (hs : vp_in x 4) (ha : a + 0 = 16) : 16 * x + 16 ≤ 16 * x + nI a := by
  have e : a = 16 := by omega
  subst e
  exact Int32.le_iff_toInt_le.mpr (Int.le_refl _)
theorem z_mrS {x : Int32} {a n : Nat} (hs : vp_in x 4) (ha : a + (n + 1) = 16) : ¬ 16 * x + 16 ≤ 16 * x + nI a := by
  obtain ⟨i, hi, rfl⟩ := vp_in_of hs (by decide)
  show ¬ nI 16 * nI i + nI 16 ≤ nI 16 * nI i + nI a
  rw [pk_mul, nI_add, nI_add]
  exact nI_ge (by omega) (by omega)
def zMr (R : Nat → Nat → Int32) (x g : Int32) (a : Nat) : Prop := (g = (-3) ∧ ∀ b, b < a → (R 6) (16 * x + nI b).toNatClampNeg = 3) ∨ vp_in g 64
theorem z_mrI {R : Nat → Nat → Int32} {x : Int32} : zMr R x (-3) 0 := Or.inl ⟨rfl, fun b h => absurd h (Nat.not_lt_zero b)⟩
theorem z_mrA {R : Nat → Nat → Int32} {x g : Int32} {a : Nat} (h : zMr R x g a) (h3 : (R 6) (16 * x + nI a).toNatClampNeg = 3) : zMr R x g (a + 1) := by
  rcases h with ⟨h1, h2⟩ | h
  · refine Or.inl ⟨h1, fun b hb => ?_⟩
    rcases Nat.lt_or_eq_of_le (Nat.le_of_lt_succ hb) with q | q
    · exact h2 b q
    · rw [q]; exact h3
  · exact Or.inr h
theorem z_mrm {R : Nat → Nat → Int32} {x g : Int32} {a : Nat} (h : zMr R x g a) (hg : ¬ g = (-3)) : vp_in g 64 := h.resolve_left fun q => hg q.1
theorem z_mrx {R : Nat → Nat → Int32} {x g : Int32} {a : Nat} (hE : ∃ b, b < 16 ∧ ¬ (R 6) (16 * x + nI b).toNatClampNeg = 3) (h : zMr R x g a) (ha : a + 0 = 16) : vp_in g 64 := by
  obtain ⟨b, hb, hb3⟩ := hE
  exact h.resolve_left fun q => hb3 (q.2 b (by omega))
section ZT3
variable {K : zK} {p : Program} {l : Launch} {e : Env} {R : Room} {s : State} {m : MethodId} {args : Array Value} {below : List Frame} {meth : Method} {c : Code} {A : Nat → Prop} {Q : State → Prop} {k n : Nat} {bs : zB} {lv : List (Nat × Value)} {st : List Value} {pc : Nat}
theorem z_tope {x y : Int32} (h : x = y) (kk : zW K p l e R s m args below meth c A Q k n bs lv (.int y :: st) pc) : zW K p l e R s m args below meth c A Q k n bs lv (.int x :: st) pc := h ▸ kk
end ZT3
def fX5_makeRoom_L8 (I : Nat → Int32) (R : Nat → Nat → Int32) (x1 : Int32) : Nat → Nat → (Int32) → (Nat → Nat → Int32)
  | 0, a, g =>
    (va_up R 6 (upd (R 6) g.toNatClampNeg 3))
  | n + 1, a, g =>
    if ((R 6) ((16 * x1) + (nI a)).toNatClampNeg) = 3 then
      fX5_makeRoom_L8 I R x1 n (a + 1) g
    else
      if g = (-3) then
        fX5_makeRoom_L8 I R x1 n (a + 1) ((16 * x1) + (nI a))
      else
        if ((R 9) g.toNatClampNeg) ≤ ((R 9) ((16 * x1) + (nI a)).toNatClampNeg) then
          fX5_makeRoom_L8 I R x1 n (a + 1) g
        else
          fX5_makeRoom_L8 I R x1 n (a + 1) ((16 * x1) + (nI a))
def fX5_makeRoom (I : Nat → Int32) (R : Nat → Nat → Int32) (x1 : Int32) : (Nat → Nat → Int32) :=
  fX5_makeRoom_L8 I R x1 16 0 (-3)
theorem hiX5_makeRoom_5 : ∀ w ∈ wsX50, w ∈ wsX5_makeRoom := by decide +kernel
theorem hfX5_makeRoom_26 : Cond.fieldLink RX5 26 "ResolverFleetModel" "told" "[I" ∈ wsX5_makeRoom := by decide +kernel
theorem hfX5_makeRoom_35 : Cond.fieldLink RX5 35 "ResolverFleetModel" "ends" "[I" ∈ wsX5_makeRoom := by decide +kernel
set_option maxHeartbeats 4000000 in
set_option maxRecDepth 100000 in
theorem kX5_makeRoom_L8 (l : Launch) (hl : l.stackTraces = false) (K : zK) (am : Nat → Nat) (I : Nat → Int32) (R : Nat → Nat → Int32) (x1 : Int32) (hs : vp_in x1 4) (hE : ∃ b, b < 16 ∧ ¬ (R 6) (16 * x1 + nI b).toNatClampNeg = 3) {p : Program} {e : Env} {s : State} {m : MethodId} {args : Array Value} {below : List Frame} {meth : Method} {c : Code} {A : Nat → Prop} (B : zF K p l s m args meth c A cX5_makeRoom 4 RX5 "makeRoom" wsX5_makeRoom none []) : ∀ (n a : Nat) (g : Int32), a + n = 16 → (zMr R x1 g a) → fX5_makeRoom I R x1 = fX5_makeRoom_L8 I R x1 n a g → zW K p l e { frames := 0, cells := 0, slots := 0, locals := 0 } s m args below meth c A (vx_MQ below (zQ K A (fun _ : Unit => (none, [zMo K am I (fX5_makeRoom I R x1)])) (fun _ => True)) (zX K A [zMo K am I R] zNo) args s 0 0 A) 0 0 [zMo K am I R] [(0, .ref (am 0)), (1, .int x1), (2, .int g), (3, .int ((16 * x1) + (nI a)))] [] 8 := by
  intro n
  induction n with
  | zero =>
    intro a g ha hf hF0
    refine z_iload_n B dX5_makeRoom_8 3 rfl ?_
    refine z_bipush B (v := 16) dX5_makeRoom_9 rfl ?_
    refine z_iload_n B dX5_makeRoom_11 1 rfl ?_
    refine z_imul B dX5_makeRoom_12 ?_
    refine z_bipush B (v := 16) dX5_makeRoom_13 rfl ?_
    refine z_iadd B dX5_makeRoom_15 ?_
    refine z_icge B 62 dX5_makeRoom_16 (by decide) (fun _ => ?_) (fun h => absurd (z_mr0 hs ha) h)
    refine z_aload_n B dX5_makeRoom_62 0 rfl ?_
    refine z_get B (v := .ref (am 6)) 0 0 10 hiX5_makeRoom_5 hfX5_makeRoom_26 rfl rfl rfl (by decide) rfl rfl rfl rfl dX5_makeRoom_63 ?_
    refine z_iload_n B dX5_makeRoom_66 2 rfl ?_
    refine z_iconst B (v := 3) dX5_makeRoom_67 rfl ?_
    refine z_iast B (N := 64) (f := (R 6)) 0 6 rfl rfl (z_mrx hE hf ha) (bs' := [zMo K am I (va_up R 6 (upd (R 6) g.toNatClampNeg 3))]) rfl dX5_makeRoom_68 ?_
    have hF : fX5_makeRoom I R x1 = (va_up R 6 (upd (R 6) g.toNatClampNeg 3)) := hF0
    exact z_ret0 B dX5_makeRoom_69 () (trivial) (Nat.le_of_ble_eq_true rfl) (Nat.le_of_ble_eq_true rfl) rfl (by rw [hF])
  | succ n ih =>
    intro a g ha hf hF0
    refine z_iload_n B dX5_makeRoom_8 3 rfl ?_
    refine z_bipush B (v := 16) dX5_makeRoom_9 rfl ?_
    refine z_iload_n B dX5_makeRoom_11 1 rfl ?_
    refine z_imul B dX5_makeRoom_12 ?_
    refine z_bipush B (v := 16) dX5_makeRoom_13 rfl ?_
    refine z_iadd B dX5_makeRoom_15 ?_
    refine z_icge B 62 dX5_makeRoom_16 (by decide) (fun h => absurd h (z_mrS hs ha)) (fun _ => ?_)
    refine z_aload_n B dX5_makeRoom_19 0 rfl ?_
    refine z_get B (v := .ref (am 6)) 0 0 10 hiX5_makeRoom_5 hfX5_makeRoom_26 rfl rfl rfl (by decide) rfl rfl rfl rfl dX5_makeRoom_20 ?_
    refine z_iload_n B dX5_makeRoom_23 3 rfl ?_
    refine z_iald B (N := 64) (f := (R 6)) 0 6 rfl rfl (z_ixn hs (z_nIr (by omega) (by decide))) dX5_makeRoom_24 ?_
    refine z_iconst B (v := 3) dX5_makeRoom_25 rfl ?_
    refine z_iceq B 54 dX5_makeRoom_26 (by decide) (fun c1 => ?_) (fun c1 => ?_)
    · refine z_iload_n B dX5_makeRoom_54 2 rfl ?_
      refine z_istore_n B (lv' := [(2, .int g), (0, .ref (am 0)), (1, .int x1), (3, .int ((16 * x1) + (nI a)))]) dX5_makeRoom_55 (by decide) rfl ?_
      refine z_iinc B (v := ((16 * x1) + (nI (a + 1)))) (lv' := [(3, .int ((16 * x1) + (nI (a + 1)))), (2, .int g), (0, .ref (am 0)), (1, .int x1)]) dX5_makeRoom_56 3 rfl (z_inc2 _ _) (by decide) rfl ?_
      refine z_goto B (tgt := 8) dX5_makeRoom_59 (by decide) ?_
      refine z_lsub [2, 3, 1, 0] rfl ?_
      have hF : fX5_makeRoom I R x1 = fX5_makeRoom_L8 I R x1 n (a + 1) g := (hF0).trans (if_pos c1)
      exact ih (a + 1) g (by omega) (z_mrA hf c1) hF
    · refine z_iload_n B dX5_makeRoom_29 2 rfl ?_
      refine z_bipush B (v := (-3)) dX5_makeRoom_30 rfl ?_
      refine z_iceq B 50 dX5_makeRoom_32 (by decide) (fun c2 => ?_) (fun c2 => ?_)
      · refine z_iload_n B dX5_makeRoom_50 3 rfl ?_
        refine z_goto B (tgt := 55) dX5_makeRoom_51 (by decide) ?_
        refine z_istore_n B (lv' := [(2, .int ((16 * x1) + (nI a))), (0, .ref (am 0)), (1, .int x1), (3, .int ((16 * x1) + (nI a)))]) dX5_makeRoom_55 (by decide) rfl ?_
        refine z_iinc B (v := ((16 * x1) + (nI (a + 1)))) (lv' := [(3, .int ((16 * x1) + (nI (a + 1)))), (2, .int ((16 * x1) + (nI a))), (0, .ref (am 0)), (1, .int x1)]) dX5_makeRoom_56 3 rfl (z_inc2 _ _) (by decide) rfl ?_
        refine z_goto B (tgt := 8) dX5_makeRoom_59 (by decide) ?_
        refine z_lsub [2, 3, 1, 0] rfl ?_
        have hF : fX5_makeRoom I R x1 = fX5_makeRoom_L8 I R x1 n (a + 1) ((16 * x1) + (nI a)) := (hF0).trans ((if_neg c1).trans (if_pos c2))
        exact ih (a + 1) ((16 * x1) + (nI a)) (by omega) (Or.inr (z_ixn hs (z_nIr (by omega) (by decide)))) hF
      · refine z_aload_n B dX5_makeRoom_35 0 rfl ?_
        refine z_get B (v := .ref (am 9)) 0 0 13 hiX5_makeRoom_5 hfX5_makeRoom_35 rfl rfl rfl (by decide) rfl rfl rfl rfl dX5_makeRoom_36 ?_
        refine z_iload_n B dX5_makeRoom_39 3 rfl ?_
        refine z_iald B (N := 64) (f := (R 9)) 0 9 rfl rfl (z_ixn hs (z_nIr (by omega) (by decide))) dX5_makeRoom_40 ?_
        refine z_aload_n B dX5_makeRoom_41 0 rfl ?_
        refine z_get B (v := .ref (am 9)) 0 0 13 hiX5_makeRoom_5 hfX5_makeRoom_35 rfl rfl rfl (by decide) rfl rfl rfl rfl dX5_makeRoom_42 ?_
        refine z_iload_n B dX5_makeRoom_45 2 rfl ?_
        refine z_iald B (N := 64) (f := (R 9)) 0 9 rfl rfl (z_mrm hf c2) dX5_makeRoom_46 ?_
        refine z_icge B 54 dX5_makeRoom_47 (by decide) (fun c3 => ?_) (fun c3 => ?_)
        · refine z_iload_n B dX5_makeRoom_54 2 rfl ?_
          refine z_istore_n B (lv' := [(2, .int g), (0, .ref (am 0)), (1, .int x1), (3, .int ((16 * x1) + (nI a)))]) dX5_makeRoom_55 (by decide) rfl ?_
          refine z_iinc B (v := ((16 * x1) + (nI (a + 1)))) (lv' := [(3, .int ((16 * x1) + (nI (a + 1)))), (2, .int g), (0, .ref (am 0)), (1, .int x1)]) dX5_makeRoom_56 3 rfl (z_inc2 _ _) (by decide) rfl ?_
          refine z_goto B (tgt := 8) dX5_makeRoom_59 (by decide) ?_
          refine z_lsub [2, 3, 1, 0] rfl ?_
          have hF : fX5_makeRoom I R x1 = fX5_makeRoom_L8 I R x1 n (a + 1) g := (hF0).trans ((if_neg c1).trans ((if_neg c2).trans (if_pos c3)))
          exact ih (a + 1) g (by omega) (Or.inr (z_mrm hf c2)) hF
        · refine z_iload_n B dX5_makeRoom_50 3 rfl ?_
          refine z_goto B (tgt := 55) dX5_makeRoom_51 (by decide) ?_
          refine z_istore_n B (lv' := [(2, .int ((16 * x1) + (nI a))), (0, .ref (am 0)), (1, .int x1), (3, .int ((16 * x1) + (nI a)))]) dX5_makeRoom_55 (by decide) rfl ?_
          refine z_iinc B (v := ((16 * x1) + (nI (a + 1)))) (lv' := [(3, .int ((16 * x1) + (nI (a + 1)))), (2, .int ((16 * x1) + (nI a))), (0, .ref (am 0)), (1, .int x1)]) dX5_makeRoom_56 3 rfl (z_inc2 _ _) (by decide) rfl ?_
          refine z_goto B (tgt := 8) dX5_makeRoom_59 (by decide) ?_
          refine z_lsub [2, 3, 1, 0] rfl ?_
          have hF : fX5_makeRoom I R x1 = fX5_makeRoom_L8 I R x1 n (a + 1) ((16 * x1) + (nI a)) := (hF0).trans ((if_neg c1).trans ((if_neg c2).trans (if_neg c3)))
          exact ih (a + 1) ((16 * x1) + (nI a)) (by omega) (Or.inr (z_ixn hs (z_nIr (by omega) (by decide)))) hF
set_option maxHeartbeats 4000000 in
set_option maxRecDepth 100000 in
theorem kX5_makeRoom (l : Launch) (hl : l.stackTraces = false) (K : zK) (am : Nat → Nat) (I : Nat → Int32) (R : Nat → Nat → Int32) (x1 : Int32) (hs : vp_in x1 4) (hE : ∃ b, b < 16 ∧ ¬ (R 6) (16 * x1 + nI b).toNatClampNeg = 3) : zMet l K yX5_makeRoom wsX5_makeRoom { frames := 0, cells := 0, slots := 0, locals := 0 } [.ref (am 0), .int x1] [zMo K am I R] none [zMo K am I (fX5_makeRoom I R x1)] True zNo := by
  refine zMeN.of (cc := cX5_makeRoom) (maxL := 4) (ret := none) (own := RX5) (nm := "makeRoom") hl (by decide +kernel) rfl rfl rfl (Nat.le_of_ble_eq_true rfl) (lv := [(0, .ref (am 0)), (1, .int x1)]) rfl ?_
  intro p e s m args below meth c A B
  refine z_bipush B (v := (-3)) dX5_makeRoom_0 rfl ?_
  refine z_istore_n B (lv' := [(2, .int (-3)), (0, .ref (am 0)), (1, .int x1)]) dX5_makeRoom_2 (by decide) rfl ?_
  refine z_bipush B (v := 16) dX5_makeRoom_3 rfl ?_
  refine z_iload_n B dX5_makeRoom_5 2 rfl ?_
  refine z_imul B dX5_makeRoom_6 ?_
  refine z_tope (y := ((16 * x1) + (nI 0))) (z_add0 _) ?_
  refine z_istore_n B (lv' := [(3, .int ((16 * x1) + (nI 0))), (2, .int (-3)), (0, .ref (am 0)), (1, .int x1)]) dX5_makeRoom_7 (by decide) rfl ?_
  refine z_lsub [2, 3, 1, 0] rfl ?_
  have hF : fX5_makeRoom I R x1 = fX5_makeRoom_L8 I R x1 16 0 (-3) := rfl
  exact kX5_makeRoom_L8 l hl K am I R x1 hs hE B 16 0 (-3) (by omega) z_mrI hF
def fX5_fetch_s3 (I : Nat → Int32) (R : Nat → Nat → Int32) (x1 : Int32) (x2 : Int32) (o3 : (Nat → Nat → Int32)) : (Nat → Int32) × (Nat → Nat → Int32) :=
  if ((o3 1) x2.toNatClampNeg) = 2 then
    ((va_up (va_up I 18 ((I 18) + 1)) 20 ((I 20) + 1)), (va_up (va_up (va_up (va_up (va_up o3 6 (upd (o3 6) ((16 * x1) + x2).toNatClampNeg ((o3 1) x2.toNatClampNeg))) 7 (upd (o3 7) ((16 * x1) + x2).toNatClampNeg (-3))) 8 (upd (o3 8) ((16 * x1) + x2).toNatClampNeg (I 3))) 9 (upd (o3 9) ((16 * x1) + x2).toNatClampNeg ((I 8) + ((upd (o3 8) ((16 * x1) + x2).toNatClampNeg (I 3)) ((16 * x1) + x2).toNatClampNeg)))) 10 (upd (o3 10) ((16 * x1) + x2).toNatClampNeg 0)))
  else
    ((va_up (va_up I 18 ((I 18) + 1)) 20 ((I 20) + 1)), (va_up (va_up (va_up (va_up (va_up o3 6 (upd (o3 6) ((16 * x1) + x2).toNatClampNeg ((o3 1) x2.toNatClampNeg))) 7 (upd (o3 7) ((16 * x1) + x2).toNatClampNeg ((o3 2) x2.toNatClampNeg))) 8 (upd (o3 8) ((16 * x1) + x2).toNatClampNeg ((o3 3) x2.toNatClampNeg))) 9 (upd (o3 9) ((16 * x1) + x2).toNatClampNeg ((I 8) + ((upd (o3 8) ((16 * x1) + x2).toNatClampNeg ((o3 3) x2.toNatClampNeg)) ((16 * x1) + x2).toNatClampNeg)))) 10 (upd (o3 10) ((16 * x1) + x2).toNatClampNeg 0)))
def fX5_fetch (I : Nat → Int32) (R : Nat → Nat → Int32) (x1 : Int32) (x2 : Int32) : (Nat → Int32) × (Nat → Nat → Int32) :=
  if ((R 6) ((16 * x1) + x2).toNatClampNeg) = 3 then
    if (fX5_size I R x1) = 6 then
      fX5_fetch_s3 I R x1 x2 (fX5_makeRoom I R x1)
    else
      if ((R 1) x2.toNatClampNeg) = 2 then
        ((va_up (va_up I 18 ((I 18) + 1)) 20 ((I 20) + 1)), (va_up (va_up (va_up (va_up (va_up R 6 (upd (R 6) ((16 * x1) + x2).toNatClampNeg ((R 1) x2.toNatClampNeg))) 7 (upd (R 7) ((16 * x1) + x2).toNatClampNeg (-3))) 8 (upd (R 8) ((16 * x1) + x2).toNatClampNeg (I 3))) 9 (upd (R 9) ((16 * x1) + x2).toNatClampNeg ((I 8) + ((upd (R 8) ((16 * x1) + x2).toNatClampNeg (I 3)) ((16 * x1) + x2).toNatClampNeg)))) 10 (upd (R 10) ((16 * x1) + x2).toNatClampNeg 0)))
      else
        ((va_up (va_up I 18 ((I 18) + 1)) 20 ((I 20) + 1)), (va_up (va_up (va_up (va_up (va_up R 6 (upd (R 6) ((16 * x1) + x2).toNatClampNeg ((R 1) x2.toNatClampNeg))) 7 (upd (R 7) ((16 * x1) + x2).toNatClampNeg ((R 2) x2.toNatClampNeg))) 8 (upd (R 8) ((16 * x1) + x2).toNatClampNeg ((R 3) x2.toNatClampNeg))) 9 (upd (R 9) ((16 * x1) + x2).toNatClampNeg ((I 8) + ((upd (R 8) ((16 * x1) + x2).toNatClampNeg ((R 3) x2.toNatClampNeg)) ((16 * x1) + x2).toNatClampNeg)))) 10 (upd (R 10) ((16 * x1) + x2).toNatClampNeg 0)))
  else
    if ((R 1) x2.toNatClampNeg) = 2 then
      ((va_up (va_up I 18 ((I 18) + 1)) 20 ((I 20) + 1)), (va_up (va_up (va_up (va_up (va_up R 6 (upd (R 6) ((16 * x1) + x2).toNatClampNeg ((R 1) x2.toNatClampNeg))) 7 (upd (R 7) ((16 * x1) + x2).toNatClampNeg (-3))) 8 (upd (R 8) ((16 * x1) + x2).toNatClampNeg (I 3))) 9 (upd (R 9) ((16 * x1) + x2).toNatClampNeg ((I 8) + ((upd (R 8) ((16 * x1) + x2).toNatClampNeg (I 3)) ((16 * x1) + x2).toNatClampNeg)))) 10 (upd (R 10) ((16 * x1) + x2).toNatClampNeg 0)))
    else
      ((va_up (va_up I 18 ((I 18) + 1)) 20 ((I 20) + 1)), (va_up (va_up (va_up (va_up (va_up R 6 (upd (R 6) ((16 * x1) + x2).toNatClampNeg ((R 1) x2.toNatClampNeg))) 7 (upd (R 7) ((16 * x1) + x2).toNatClampNeg ((R 2) x2.toNatClampNeg))) 8 (upd (R 8) ((16 * x1) + x2).toNatClampNeg ((R 3) x2.toNatClampNeg))) 9 (upd (R 9) ((16 * x1) + x2).toNatClampNeg ((I 8) + ((upd (R 8) ((16 * x1) + x2).toNatClampNeg ((R 3) x2.toNatClampNeg)) ((16 * x1) + x2).toNatClampNeg)))) 10 (upd (R 10) ((16 * x1) + x2).toNatClampNeg 0)))
theorem hiX5_fetch_5 : ∀ w ∈ wsX50, w ∈ wsX5_fetch := by decide +kernel
theorem hfX5_fetch_26 : Cond.fieldLink RX5 26 "ResolverFleetModel" "told" "[I" ∈ wsX5_fetch := by decide +kernel
theorem hfX5_fetch_7 : Cond.fieldLink RX5 7 "ResolverFleetModel" "kinds" "[I" ∈ wsX5_fetch := by decide +kernel
theorem hfX5_fetch_29 : Cond.fieldLink RX5 29 "ResolverFleetModel" "tells" "[I" ∈ wsX5_fetch := by decide +kernel
theorem hfX5_fetch_32 : Cond.fieldLink RX5 32 "ResolverFleetModel" "lifeOf" "[I" ∈ wsX5_fetch := by decide +kernel
theorem hfX5_fetch_59 : Cond.fieldLink RX5 59 "ResolverFleetModel" "bound" "I" ∈ wsX5_fetch := by decide +kernel
theorem hfX5_fetch_35 : Cond.fieldLink RX5 35 "ResolverFleetModel" "ends" "[I" ∈ wsX5_fetch := by decide +kernel
theorem hfX5_fetch_95 : Cond.fieldLink RX5 95 "ResolverFleetModel" "now" "I" ∈ wsX5_fetch := by decide +kernel
theorem hfX5_fetch_38 : Cond.fieldLink RX5 38 "ResolverFleetModel" "hits" "[I" ∈ wsX5_fetch := by decide +kernel
theorem hfX5_fetch_105 : Cond.fieldLink RX5 105 "ResolverFleetModel" "fetchMany" "I" ∈ wsX5_fetch := by decide +kernel
theorem hfX5_fetch_108 : Cond.fieldLink RX5 108 "ResolverFleetModel" "lastFetched" "I" ∈ wsX5_fetch := by decide +kernel
theorem hfX5_fetch_13 : Cond.fieldLink RX5 13 "ResolverFleetModel" "values" "[I" ∈ wsX5_fetch := by decide +kernel
theorem hfX5_fetch_16 : Cond.fieldLink RX5 16 "ResolverFleetModel" "lives" "[I" ∈ wsX5_fetch := by decide +kernel
set_option maxHeartbeats 4000000 in
set_option maxRecDepth 100000 in
theorem kX5_fetch (l : Launch) (hl : l.stackTraces = false) (K : zK) (am : Nat → Nat) (I : Nat → Int32) (R : Nat → Nat → Int32) (x1 : Int32) (x2 : Int32) (hs : vp_in x1 4) (hn : vp_in x2 16) : zMet l K yX5_fetch wsX5_fetch { frames := 1, cells := 0, slots := 0, locals := 23 } [.ref (am 0), .int x1, .int x2] [zMo K am I R] none [zMo K am ((fX5_fetch I R x1 x2).1) ((fX5_fetch I R x1 x2).2)] True zNo := by
  refine zMeN.of (cc := cX5_fetch) (maxL := 4) (ret := none) (own := RX5) (nm := "fetch") hl (by decide +kernel) rfl rfl rfl (Nat.le_of_ble_eq_true rfl) (lv := [(0, .ref (am 0)), (1, .int x1), (2, .int x2)]) rfl ?_
  intro p e s m args below meth c A B
  refine z_bipush B (v := 16) dX5_fetch_0 rfl ?_
  refine z_iload_n B dX5_fetch_2 1 rfl ?_
  refine z_imul B dX5_fetch_3 ?_
  refine z_iload_n B dX5_fetch_4 2 rfl ?_
  refine z_iadd B dX5_fetch_5 ?_
  refine z_istore_n B (lv' := [(3, .int ((16 * x1) + x2)), (0, .ref (am 0)), (1, .int x1), (2, .int x2)]) dX5_fetch_6 (by decide) rfl ?_
  refine z_aload_n B dX5_fetch_7 1 rfl ?_
  refine z_get B (v := .ref (am 6)) 0 0 10 hiX5_fetch_5 hfX5_fetch_26 rfl rfl rfl (by decide) rfl rfl rfl rfl dX5_fetch_8 ?_
  refine z_iload_n B dX5_fetch_11 0 rfl ?_
  refine z_iald B (N := 64) (f := (R 6)) 0 6 rfl rfl (z_ixn hs hn) dX5_fetch_12 ?_
  refine z_iconst B (v := 3) dX5_fetch_13 rfl ?_
  refine z_icne B 32 dX5_fetch_14 (by decide) (fun c1 => ?_) (fun c1 => ?_)
  · refine z_aload_n B dX5_fetch_17 1 rfl ?_
    refine z_iload_n B dX5_fetch_18 2 rfl ?_
    refine z_V1 B (kX5_size l hl K am I R x1 hs) [0] [] (br := []) (bs' := [zMo K am I R]) (st := []) (nA := 1) (zsp rfl rfl rfl) (zsp rfl rfl rfl) 0 0 rfl rfl rfl rfl gX5_fetch_X5_size rfl (by decide +kernel) ⟨Nat.le_of_ble_eq_true rfl, Nat.le_of_ble_eq_true rfl⟩ rfl rfl (Nat.le_of_ble_eq_true rfl) ⟨Nat.le_of_ble_eq_true rfl, Nat.le_of_ble_eq_true rfl⟩ dX5_fetch_19 z_noX (fun _ => ?_)
    refine z_bipush B (v := 6) dX5_fetch_22 rfl ?_
    refine z_icne B 32 dX5_fetch_24 (by decide) (fun c2 => ?_) (fun c2 => ?_)
    · refine z_aload_n B dX5_fetch_27 1 rfl ?_
      refine z_iload_n B dX5_fetch_28 2 rfl ?_
      refine z_V0 B (kX5_makeRoom l hl K am I R x1 hs (z_sz6 c2)) [0] [] (br := []) (bs' := [zMo K am I (fX5_makeRoom I R x1)]) (st := []) (nA := 1) (zsp rfl rfl rfl) (zsp rfl rfl rfl) 0 0 rfl rfl rfl rfl gX5_fetch_X5_makeRoom rfl (by decide +kernel) ⟨Nat.le_of_ble_eq_true rfl, Nat.le_of_ble_eq_true rfl⟩ rfl rfl (Nat.le_of_ble_eq_true rfl) ⟨Nat.le_of_ble_eq_true rfl, Nat.le_of_ble_eq_true rfl⟩ dX5_fetch_29 z_noX (fun _ => ?_)
      generalize ho3 : (fX5_makeRoom I R x1) = o3
      refine z_aload_n B dX5_fetch_32 1 rfl ?_
      refine z_get B (v := .ref (am 6)) 0 0 10 hiX5_fetch_5 hfX5_fetch_26 rfl rfl rfl (by decide) rfl rfl rfl rfl dX5_fetch_33 ?_
      refine z_iload_n B dX5_fetch_36 0 rfl ?_
      refine z_aload_n B dX5_fetch_37 1 rfl ?_
      refine z_get B (v := .ref (am 1)) 0 0 0 hiX5_fetch_5 hfX5_fetch_7 rfl rfl rfl (by decide) rfl rfl rfl rfl dX5_fetch_38 ?_
      refine z_iload_n B dX5_fetch_41 3 rfl ?_
      refine z_iald B (N := 16) (f := (o3 1)) 0 1 rfl rfl hn dX5_fetch_42 ?_
      refine z_iast B (N := 64) (f := (o3 6)) 0 6 rfl rfl (z_ixn hs hn) (bs' := [zMo K am I (va_up o3 6 (upd (o3 6) ((16 * x1) + x2).toNatClampNeg ((o3 1) x2.toNatClampNeg)))]) rfl dX5_fetch_43 ?_
      refine z_aload_n B dX5_fetch_44 1 rfl ?_
      refine z_get B (v := .ref (am 7)) 0 0 11 hiX5_fetch_5 hfX5_fetch_29 rfl rfl rfl (by decide) rfl rfl rfl rfl dX5_fetch_45 ?_
      refine z_iload_n B dX5_fetch_48 0 rfl ?_
      refine z_aload_n B dX5_fetch_49 1 rfl ?_
      refine z_get B (v := .ref (am 1)) 0 0 0 hiX5_fetch_5 hfX5_fetch_7 rfl rfl rfl (by decide) rfl rfl rfl rfl dX5_fetch_50 ?_
      refine z_iload_n B dX5_fetch_53 3 rfl ?_
      refine z_iald B (N := 16) (f := (o3 1)) 0 1 rfl rfl hn dX5_fetch_54 ?_
      refine z_iconst B (v := 2) dX5_fetch_55 rfl ?_
      refine z_icne B 64 dX5_fetch_56 (by decide) (fun c4 => ?_) (fun c4 => ?_)
      · refine z_bipush B (v := (-3)) dX5_fetch_59 rfl ?_
        refine z_goto B (tgt := 70) dX5_fetch_61 (by decide) ?_
        refine z_iast B (N := 64) (f := (o3 7)) 0 7 rfl rfl (z_ixn hs hn) (bs' := [zMo K am I (va_up (va_up o3 6 (upd (o3 6) ((16 * x1) + x2).toNatClampNeg ((o3 1) x2.toNatClampNeg))) 7 (upd (o3 7) ((16 * x1) + x2).toNatClampNeg (-3)))]) rfl dX5_fetch_70 ?_
        refine z_aload_n B dX5_fetch_71 1 rfl ?_
        refine z_get B (v := .ref (am 8)) 0 0 12 hiX5_fetch_5 hfX5_fetch_32 rfl rfl rfl (by decide) rfl rfl rfl rfl dX5_fetch_72 ?_
        refine z_iload_n B dX5_fetch_75 0 rfl ?_
        refine z_aload_n B dX5_fetch_76 1 rfl ?_
        refine z_get B (v := .ref (am 1)) 0 0 0 hiX5_fetch_5 hfX5_fetch_7 rfl rfl rfl (by decide) rfl rfl rfl rfl dX5_fetch_77 ?_
        refine z_iload_n B dX5_fetch_80 3 rfl ?_
        refine z_iald B (N := 16) (f := (o3 1)) 0 1 rfl rfl hn dX5_fetch_81 ?_
        refine z_iconst B (v := 2) dX5_fetch_82 rfl ?_
        refine z_icne B 93 dX5_fetch_83 (by decide) (fun _ => ?_) (fun h => absurd c4 h)
        refine z_aload_n B dX5_fetch_86 1 rfl ?_
        refine z_get B (v := .int (I 3)) 0 0 3 hiX5_fetch_5 hfX5_fetch_59 rfl rfl rfl (by decide) rfl rfl rfl rfl dX5_fetch_87 ?_
        refine z_goto B (tgt := 99) dX5_fetch_90 (by decide) ?_
        refine z_iast B (N := 64) (f := (o3 8)) 0 8 rfl rfl (z_ixn hs hn) (bs' := [zMo K am I (va_up (va_up (va_up o3 6 (upd (o3 6) ((16 * x1) + x2).toNatClampNeg ((o3 1) x2.toNatClampNeg))) 7 (upd (o3 7) ((16 * x1) + x2).toNatClampNeg (-3))) 8 (upd (o3 8) ((16 * x1) + x2).toNatClampNeg (I 3)))]) rfl dX5_fetch_99 ?_
        refine z_aload_n B dX5_fetch_100 1 rfl ?_
        refine z_get B (v := .ref (am 9)) 0 0 13 hiX5_fetch_5 hfX5_fetch_35 rfl rfl rfl (by decide) rfl rfl rfl rfl dX5_fetch_101 ?_
        refine z_iload_n B dX5_fetch_104 0 rfl ?_
        refine z_aload_n B dX5_fetch_105 1 rfl ?_
        refine z_get B (v := .int (I 8)) 0 0 8 hiX5_fetch_5 hfX5_fetch_95 rfl rfl rfl (by decide) rfl rfl rfl rfl dX5_fetch_106 ?_
        refine z_aload_n B dX5_fetch_109 1 rfl ?_
        refine z_get B (v := .ref (am 8)) 0 0 12 hiX5_fetch_5 hfX5_fetch_32 rfl rfl rfl (by decide) rfl rfl rfl rfl dX5_fetch_110 ?_
        refine z_iload_n B dX5_fetch_113 0 rfl ?_
        refine z_iald B (N := 64) (f := (upd (o3 8) ((16 * x1) + x2).toNatClampNeg (I 3))) 0 8 rfl rfl (z_ixn hs hn) dX5_fetch_114 ?_
        refine z_iadd B dX5_fetch_115 ?_
        refine z_iast B (N := 64) (f := (o3 9)) 0 9 rfl rfl (z_ixn hs hn) (bs' := [zMo K am I (va_up (va_up (va_up (va_up o3 6 (upd (o3 6) ((16 * x1) + x2).toNatClampNeg ((o3 1) x2.toNatClampNeg))) 7 (upd (o3 7) ((16 * x1) + x2).toNatClampNeg (-3))) 8 (upd (o3 8) ((16 * x1) + x2).toNatClampNeg (I 3))) 9 (upd (o3 9) ((16 * x1) + x2).toNatClampNeg ((I 8) + ((upd (o3 8) ((16 * x1) + x2).toNatClampNeg (I 3)) ((16 * x1) + x2).toNatClampNeg))))]) rfl dX5_fetch_116 ?_
        refine z_aload_n B dX5_fetch_117 1 rfl ?_
        refine z_get B (v := .ref (am 10)) 0 0 14 hiX5_fetch_5 hfX5_fetch_38 rfl rfl rfl (by decide) rfl rfl rfl rfl dX5_fetch_118 ?_
        refine z_iload_n B dX5_fetch_121 0 rfl ?_
        refine z_iconst B (v := 0) dX5_fetch_122 rfl ?_
        refine z_iast B (N := 64) (f := (o3 10)) 0 10 rfl rfl (z_ixn hs hn) (bs' := [zMo K am I (va_up (va_up (va_up (va_up (va_up o3 6 (upd (o3 6) ((16 * x1) + x2).toNatClampNeg ((o3 1) x2.toNatClampNeg))) 7 (upd (o3 7) ((16 * x1) + x2).toNatClampNeg (-3))) 8 (upd (o3 8) ((16 * x1) + x2).toNatClampNeg (I 3))) 9 (upd (o3 9) ((16 * x1) + x2).toNatClampNeg ((I 8) + ((upd (o3 8) ((16 * x1) + x2).toNatClampNeg (I 3)) ((16 * x1) + x2).toNatClampNeg)))) 10 (upd (o3 10) ((16 * x1) + x2).toNatClampNeg 0))]) rfl dX5_fetch_123 ?_
        refine z_aload_n B dX5_fetch_124 1 rfl ?_
        refine z_dup B dX5_fetch_125 rfl ?_
        refine z_get B (v := .int (I 20)) 0 0 20 hiX5_fetch_5 hfX5_fetch_105 rfl rfl rfl (by decide) rfl rfl rfl rfl dX5_fetch_126 ?_
        refine z_iconst B (v := 1) dX5_fetch_129 rfl ?_
        refine z_iadd B dX5_fetch_130 ?_
        refine z_put B 0 0 20 hiX5_fetch_5 hfX5_fetch_105 tyX5_ok nmX5 rfl rfl rfl (by decide) rfl rfl rfl rfl rfl rfl rfl (Nat.le_of_ble_eq_true rfl) (bs' := [zMo K am (va_up I 20 ((I 20) + 1)) (va_up (va_up (va_up (va_up (va_up o3 6 (upd (o3 6) ((16 * x1) + x2).toNatClampNeg ((o3 1) x2.toNatClampNeg))) 7 (upd (o3 7) ((16 * x1) + x2).toNatClampNeg (-3))) 8 (upd (o3 8) ((16 * x1) + x2).toNatClampNeg (I 3))) 9 (upd (o3 9) ((16 * x1) + x2).toNatClampNeg ((I 8) + ((upd (o3 8) ((16 * x1) + x2).toNatClampNeg (I 3)) ((16 * x1) + x2).toNatClampNeg)))) 10 (upd (o3 10) ((16 * x1) + x2).toNatClampNeg 0))]) rfl dX5_fetch_131 ?_
        refine z_aload_n B dX5_fetch_134 1 rfl ?_
        refine z_dup B dX5_fetch_135 rfl ?_
        refine z_get B (v := .int (I 18)) 0 0 18 hiX5_fetch_5 hfX5_fetch_108 rfl rfl rfl (by decide) rfl rfl rfl rfl dX5_fetch_136 ?_
        refine z_iconst B (v := 1) dX5_fetch_139 rfl ?_
        refine z_iadd B dX5_fetch_140 ?_
        refine z_put B 0 0 18 hiX5_fetch_5 hfX5_fetch_108 tyX5_ok nmX5 rfl rfl rfl (by decide) rfl rfl rfl rfl rfl rfl rfl (Nat.le_of_ble_eq_true rfl) (bs' := [zMo K am (va_up (va_up I 18 ((I 18) + 1)) 20 ((I 20) + 1)) (va_up (va_up (va_up (va_up (va_up o3 6 (upd (o3 6) ((16 * x1) + x2).toNatClampNeg ((o3 1) x2.toNatClampNeg))) 7 (upd (o3 7) ((16 * x1) + x2).toNatClampNeg (-3))) 8 (upd (o3 8) ((16 * x1) + x2).toNatClampNeg (I 3))) 9 (upd (o3 9) ((16 * x1) + x2).toNatClampNeg ((I 8) + ((upd (o3 8) ((16 * x1) + x2).toNatClampNeg (I 3)) ((16 * x1) + x2).toNatClampNeg)))) 10 (upd (o3 10) ((16 * x1) + x2).toNatClampNeg 0))]) rfl dX5_fetch_141 ?_
        have hF : fX5_fetch I R x1 x2 = ((va_up (va_up I 18 ((I 18) + 1)) 20 ((I 20) + 1)), (va_up (va_up (va_up (va_up (va_up o3 6 (upd (o3 6) ((16 * x1) + x2).toNatClampNeg ((o3 1) x2.toNatClampNeg))) 7 (upd (o3 7) ((16 * x1) + x2).toNatClampNeg (-3))) 8 (upd (o3 8) ((16 * x1) + x2).toNatClampNeg (I 3))) 9 (upd (o3 9) ((16 * x1) + x2).toNatClampNeg ((I 8) + ((upd (o3 8) ((16 * x1) + x2).toNatClampNeg (I 3)) ((16 * x1) + x2).toNatClampNeg)))) 10 (upd (o3 10) ((16 * x1) + x2).toNatClampNeg 0))) := (if_pos c1).trans ((if_pos c2).trans ((congrArg (fun o => fX5_fetch_s3 I R x1 x2 o) ho3).trans (if_pos c4)))
        exact z_ret0 B dX5_fetch_144 () (trivial) (Nat.le_of_ble_eq_true rfl) (Nat.le_of_ble_eq_true rfl) rfl (by rw [hF])
      · refine z_aload_n B dX5_fetch_64 1 rfl ?_
        refine z_get B (v := .ref (am 2)) 0 0 1 hiX5_fetch_5 hfX5_fetch_13 rfl rfl rfl (by decide) rfl rfl rfl rfl dX5_fetch_65 ?_
        refine z_iload_n B dX5_fetch_68 3 rfl ?_
        refine z_iald B (N := 16) (f := (o3 2)) 0 2 rfl rfl hn dX5_fetch_69 ?_
        refine z_iast B (N := 64) (f := (o3 7)) 0 7 rfl rfl (z_ixn hs hn) (bs' := [zMo K am I (va_up (va_up o3 6 (upd (o3 6) ((16 * x1) + x2).toNatClampNeg ((o3 1) x2.toNatClampNeg))) 7 (upd (o3 7) ((16 * x1) + x2).toNatClampNeg ((o3 2) x2.toNatClampNeg)))]) rfl dX5_fetch_70 ?_
        refine z_aload_n B dX5_fetch_71 1 rfl ?_
        refine z_get B (v := .ref (am 8)) 0 0 12 hiX5_fetch_5 hfX5_fetch_32 rfl rfl rfl (by decide) rfl rfl rfl rfl dX5_fetch_72 ?_
        refine z_iload_n B dX5_fetch_75 0 rfl ?_
        refine z_aload_n B dX5_fetch_76 1 rfl ?_
        refine z_get B (v := .ref (am 1)) 0 0 0 hiX5_fetch_5 hfX5_fetch_7 rfl rfl rfl (by decide) rfl rfl rfl rfl dX5_fetch_77 ?_
        refine z_iload_n B dX5_fetch_80 3 rfl ?_
        refine z_iald B (N := 16) (f := (o3 1)) 0 1 rfl rfl hn dX5_fetch_81 ?_
        refine z_iconst B (v := 2) dX5_fetch_82 rfl ?_
        refine z_icne B 93 dX5_fetch_83 (by decide) (fun h => absurd h c4) (fun _ => ?_)
        refine z_aload_n B dX5_fetch_93 1 rfl ?_
        refine z_get B (v := .ref (am 3)) 0 0 2 hiX5_fetch_5 hfX5_fetch_16 rfl rfl rfl (by decide) rfl rfl rfl rfl dX5_fetch_94 ?_
        refine z_iload_n B dX5_fetch_97 3 rfl ?_
        refine z_iald B (N := 16) (f := (o3 3)) 0 3 rfl rfl hn dX5_fetch_98 ?_
        refine z_iast B (N := 64) (f := (o3 8)) 0 8 rfl rfl (z_ixn hs hn) (bs' := [zMo K am I (va_up (va_up (va_up o3 6 (upd (o3 6) ((16 * x1) + x2).toNatClampNeg ((o3 1) x2.toNatClampNeg))) 7 (upd (o3 7) ((16 * x1) + x2).toNatClampNeg ((o3 2) x2.toNatClampNeg))) 8 (upd (o3 8) ((16 * x1) + x2).toNatClampNeg ((o3 3) x2.toNatClampNeg)))]) rfl dX5_fetch_99 ?_
        refine z_aload_n B dX5_fetch_100 1 rfl ?_
        refine z_get B (v := .ref (am 9)) 0 0 13 hiX5_fetch_5 hfX5_fetch_35 rfl rfl rfl (by decide) rfl rfl rfl rfl dX5_fetch_101 ?_
        refine z_iload_n B dX5_fetch_104 0 rfl ?_
        refine z_aload_n B dX5_fetch_105 1 rfl ?_
        refine z_get B (v := .int (I 8)) 0 0 8 hiX5_fetch_5 hfX5_fetch_95 rfl rfl rfl (by decide) rfl rfl rfl rfl dX5_fetch_106 ?_
        refine z_aload_n B dX5_fetch_109 1 rfl ?_
        refine z_get B (v := .ref (am 8)) 0 0 12 hiX5_fetch_5 hfX5_fetch_32 rfl rfl rfl (by decide) rfl rfl rfl rfl dX5_fetch_110 ?_
        refine z_iload_n B dX5_fetch_113 0 rfl ?_
        refine z_iald B (N := 64) (f := (upd (o3 8) ((16 * x1) + x2).toNatClampNeg ((o3 3) x2.toNatClampNeg))) 0 8 rfl rfl (z_ixn hs hn) dX5_fetch_114 ?_
        refine z_iadd B dX5_fetch_115 ?_
        refine z_iast B (N := 64) (f := (o3 9)) 0 9 rfl rfl (z_ixn hs hn) (bs' := [zMo K am I (va_up (va_up (va_up (va_up o3 6 (upd (o3 6) ((16 * x1) + x2).toNatClampNeg ((o3 1) x2.toNatClampNeg))) 7 (upd (o3 7) ((16 * x1) + x2).toNatClampNeg ((o3 2) x2.toNatClampNeg))) 8 (upd (o3 8) ((16 * x1) + x2).toNatClampNeg ((o3 3) x2.toNatClampNeg))) 9 (upd (o3 9) ((16 * x1) + x2).toNatClampNeg ((I 8) + ((upd (o3 8) ((16 * x1) + x2).toNatClampNeg ((o3 3) x2.toNatClampNeg)) ((16 * x1) + x2).toNatClampNeg))))]) rfl dX5_fetch_116 ?_
        refine z_aload_n B dX5_fetch_117 1 rfl ?_
        refine z_get B (v := .ref (am 10)) 0 0 14 hiX5_fetch_5 hfX5_fetch_38 rfl rfl rfl (by decide) rfl rfl rfl rfl dX5_fetch_118 ?_
        refine z_iload_n B dX5_fetch_121 0 rfl ?_
        refine z_iconst B (v := 0) dX5_fetch_122 rfl ?_
        refine z_iast B (N := 64) (f := (o3 10)) 0 10 rfl rfl (z_ixn hs hn) (bs' := [zMo K am I (va_up (va_up (va_up (va_up (va_up o3 6 (upd (o3 6) ((16 * x1) + x2).toNatClampNeg ((o3 1) x2.toNatClampNeg))) 7 (upd (o3 7) ((16 * x1) + x2).toNatClampNeg ((o3 2) x2.toNatClampNeg))) 8 (upd (o3 8) ((16 * x1) + x2).toNatClampNeg ((o3 3) x2.toNatClampNeg))) 9 (upd (o3 9) ((16 * x1) + x2).toNatClampNeg ((I 8) + ((upd (o3 8) ((16 * x1) + x2).toNatClampNeg ((o3 3) x2.toNatClampNeg)) ((16 * x1) + x2).toNatClampNeg)))) 10 (upd (o3 10) ((16 * x1) + x2).toNatClampNeg 0))]) rfl dX5_fetch_123 ?_
        refine z_aload_n B dX5_fetch_124 1 rfl ?_
        refine z_dup B dX5_fetch_125 rfl ?_
        refine z_get B (v := .int (I 20)) 0 0 20 hiX5_fetch_5 hfX5_fetch_105 rfl rfl rfl (by decide) rfl rfl rfl rfl dX5_fetch_126 ?_
        refine z_iconst B (v := 1) dX5_fetch_129 rfl ?_
        refine z_iadd B dX5_fetch_130 ?_
        refine z_put B 0 0 20 hiX5_fetch_5 hfX5_fetch_105 tyX5_ok nmX5 rfl rfl rfl (by decide) rfl rfl rfl rfl rfl rfl rfl (Nat.le_of_ble_eq_true rfl) (bs' := [zMo K am (va_up I 20 ((I 20) + 1)) (va_up (va_up (va_up (va_up (va_up o3 6 (upd (o3 6) ((16 * x1) + x2).toNatClampNeg ((o3 1) x2.toNatClampNeg))) 7 (upd (o3 7) ((16 * x1) + x2).toNatClampNeg ((o3 2) x2.toNatClampNeg))) 8 (upd (o3 8) ((16 * x1) + x2).toNatClampNeg ((o3 3) x2.toNatClampNeg))) 9 (upd (o3 9) ((16 * x1) + x2).toNatClampNeg ((I 8) + ((upd (o3 8) ((16 * x1) + x2).toNatClampNeg ((o3 3) x2.toNatClampNeg)) ((16 * x1) + x2).toNatClampNeg)))) 10 (upd (o3 10) ((16 * x1) + x2).toNatClampNeg 0))]) rfl dX5_fetch_131 ?_
        refine z_aload_n B dX5_fetch_134 1 rfl ?_
        refine z_dup B dX5_fetch_135 rfl ?_
        refine z_get B (v := .int (I 18)) 0 0 18 hiX5_fetch_5 hfX5_fetch_108 rfl rfl rfl (by decide) rfl rfl rfl rfl dX5_fetch_136 ?_
        refine z_iconst B (v := 1) dX5_fetch_139 rfl ?_
        refine z_iadd B dX5_fetch_140 ?_
        refine z_put B 0 0 18 hiX5_fetch_5 hfX5_fetch_108 tyX5_ok nmX5 rfl rfl rfl (by decide) rfl rfl rfl rfl rfl rfl rfl (Nat.le_of_ble_eq_true rfl) (bs' := [zMo K am (va_up (va_up I 18 ((I 18) + 1)) 20 ((I 20) + 1)) (va_up (va_up (va_up (va_up (va_up o3 6 (upd (o3 6) ((16 * x1) + x2).toNatClampNeg ((o3 1) x2.toNatClampNeg))) 7 (upd (o3 7) ((16 * x1) + x2).toNatClampNeg ((o3 2) x2.toNatClampNeg))) 8 (upd (o3 8) ((16 * x1) + x2).toNatClampNeg ((o3 3) x2.toNatClampNeg))) 9 (upd (o3 9) ((16 * x1) + x2).toNatClampNeg ((I 8) + ((upd (o3 8) ((16 * x1) + x2).toNatClampNeg ((o3 3) x2.toNatClampNeg)) ((16 * x1) + x2).toNatClampNeg)))) 10 (upd (o3 10) ((16 * x1) + x2).toNatClampNeg 0))]) rfl dX5_fetch_141 ?_
        have hF : fX5_fetch I R x1 x2 = ((va_up (va_up I 18 ((I 18) + 1)) 20 ((I 20) + 1)), (va_up (va_up (va_up (va_up (va_up o3 6 (upd (o3 6) ((16 * x1) + x2).toNatClampNeg ((o3 1) x2.toNatClampNeg))) 7 (upd (o3 7) ((16 * x1) + x2).toNatClampNeg ((o3 2) x2.toNatClampNeg))) 8 (upd (o3 8) ((16 * x1) + x2).toNatClampNeg ((o3 3) x2.toNatClampNeg))) 9 (upd (o3 9) ((16 * x1) + x2).toNatClampNeg ((I 8) + ((upd (o3 8) ((16 * x1) + x2).toNatClampNeg ((o3 3) x2.toNatClampNeg)) ((16 * x1) + x2).toNatClampNeg)))) 10 (upd (o3 10) ((16 * x1) + x2).toNatClampNeg 0))) := (if_pos c1).trans ((if_pos c2).trans ((congrArg (fun o => fX5_fetch_s3 I R x1 x2 o) ho3).trans (if_neg c4)))
        exact z_ret0 B dX5_fetch_144 () (trivial) (Nat.le_of_ble_eq_true rfl) (Nat.le_of_ble_eq_true rfl) rfl (by rw [hF])
    · refine z_aload_n B dX5_fetch_32 1 rfl ?_
      refine z_get B (v := .ref (am 6)) 0 0 10 hiX5_fetch_5 hfX5_fetch_26 rfl rfl rfl (by decide) rfl rfl rfl rfl dX5_fetch_33 ?_
      refine z_iload_n B dX5_fetch_36 0 rfl ?_
      refine z_aload_n B dX5_fetch_37 1 rfl ?_
      refine z_get B (v := .ref (am 1)) 0 0 0 hiX5_fetch_5 hfX5_fetch_7 rfl rfl rfl (by decide) rfl rfl rfl rfl dX5_fetch_38 ?_
      refine z_iload_n B dX5_fetch_41 3 rfl ?_
      refine z_iald B (N := 16) (f := (R 1)) 0 1 rfl rfl hn dX5_fetch_42 ?_
      refine z_iast B (N := 64) (f := (R 6)) 0 6 rfl rfl (z_ixn hs hn) (bs' := [zMo K am I (va_up R 6 (upd (R 6) ((16 * x1) + x2).toNatClampNeg ((R 1) x2.toNatClampNeg)))]) rfl dX5_fetch_43 ?_
      refine z_aload_n B dX5_fetch_44 1 rfl ?_
      refine z_get B (v := .ref (am 7)) 0 0 11 hiX5_fetch_5 hfX5_fetch_29 rfl rfl rfl (by decide) rfl rfl rfl rfl dX5_fetch_45 ?_
      refine z_iload_n B dX5_fetch_48 0 rfl ?_
      refine z_aload_n B dX5_fetch_49 1 rfl ?_
      refine z_get B (v := .ref (am 1)) 0 0 0 hiX5_fetch_5 hfX5_fetch_7 rfl rfl rfl (by decide) rfl rfl rfl rfl dX5_fetch_50 ?_
      refine z_iload_n B dX5_fetch_53 3 rfl ?_
      refine z_iald B (N := 16) (f := (R 1)) 0 1 rfl rfl hn dX5_fetch_54 ?_
      refine z_iconst B (v := 2) dX5_fetch_55 rfl ?_
      refine z_icne B 64 dX5_fetch_56 (by decide) (fun c5 => ?_) (fun c5 => ?_)
      · refine z_bipush B (v := (-3)) dX5_fetch_59 rfl ?_
        refine z_goto B (tgt := 70) dX5_fetch_61 (by decide) ?_
        refine z_iast B (N := 64) (f := (R 7)) 0 7 rfl rfl (z_ixn hs hn) (bs' := [zMo K am I (va_up (va_up R 6 (upd (R 6) ((16 * x1) + x2).toNatClampNeg ((R 1) x2.toNatClampNeg))) 7 (upd (R 7) ((16 * x1) + x2).toNatClampNeg (-3)))]) rfl dX5_fetch_70 ?_
        refine z_aload_n B dX5_fetch_71 1 rfl ?_
        refine z_get B (v := .ref (am 8)) 0 0 12 hiX5_fetch_5 hfX5_fetch_32 rfl rfl rfl (by decide) rfl rfl rfl rfl dX5_fetch_72 ?_
        refine z_iload_n B dX5_fetch_75 0 rfl ?_
        refine z_aload_n B dX5_fetch_76 1 rfl ?_
        refine z_get B (v := .ref (am 1)) 0 0 0 hiX5_fetch_5 hfX5_fetch_7 rfl rfl rfl (by decide) rfl rfl rfl rfl dX5_fetch_77 ?_
        refine z_iload_n B dX5_fetch_80 3 rfl ?_
        refine z_iald B (N := 16) (f := (R 1)) 0 1 rfl rfl hn dX5_fetch_81 ?_
        refine z_iconst B (v := 2) dX5_fetch_82 rfl ?_
        refine z_icne B 93 dX5_fetch_83 (by decide) (fun _ => ?_) (fun h => absurd c5 h)
        refine z_aload_n B dX5_fetch_86 1 rfl ?_
        refine z_get B (v := .int (I 3)) 0 0 3 hiX5_fetch_5 hfX5_fetch_59 rfl rfl rfl (by decide) rfl rfl rfl rfl dX5_fetch_87 ?_
        refine z_goto B (tgt := 99) dX5_fetch_90 (by decide) ?_
        refine z_iast B (N := 64) (f := (R 8)) 0 8 rfl rfl (z_ixn hs hn) (bs' := [zMo K am I (va_up (va_up (va_up R 6 (upd (R 6) ((16 * x1) + x2).toNatClampNeg ((R 1) x2.toNatClampNeg))) 7 (upd (R 7) ((16 * x1) + x2).toNatClampNeg (-3))) 8 (upd (R 8) ((16 * x1) + x2).toNatClampNeg (I 3)))]) rfl dX5_fetch_99 ?_
        refine z_aload_n B dX5_fetch_100 1 rfl ?_
        refine z_get B (v := .ref (am 9)) 0 0 13 hiX5_fetch_5 hfX5_fetch_35 rfl rfl rfl (by decide) rfl rfl rfl rfl dX5_fetch_101 ?_
        refine z_iload_n B dX5_fetch_104 0 rfl ?_
        refine z_aload_n B dX5_fetch_105 1 rfl ?_
        refine z_get B (v := .int (I 8)) 0 0 8 hiX5_fetch_5 hfX5_fetch_95 rfl rfl rfl (by decide) rfl rfl rfl rfl dX5_fetch_106 ?_
        refine z_aload_n B dX5_fetch_109 1 rfl ?_
        refine z_get B (v := .ref (am 8)) 0 0 12 hiX5_fetch_5 hfX5_fetch_32 rfl rfl rfl (by decide) rfl rfl rfl rfl dX5_fetch_110 ?_
        refine z_iload_n B dX5_fetch_113 0 rfl ?_
        refine z_iald B (N := 64) (f := (upd (R 8) ((16 * x1) + x2).toNatClampNeg (I 3))) 0 8 rfl rfl (z_ixn hs hn) dX5_fetch_114 ?_
        refine z_iadd B dX5_fetch_115 ?_
        refine z_iast B (N := 64) (f := (R 9)) 0 9 rfl rfl (z_ixn hs hn) (bs' := [zMo K am I (va_up (va_up (va_up (va_up R 6 (upd (R 6) ((16 * x1) + x2).toNatClampNeg ((R 1) x2.toNatClampNeg))) 7 (upd (R 7) ((16 * x1) + x2).toNatClampNeg (-3))) 8 (upd (R 8) ((16 * x1) + x2).toNatClampNeg (I 3))) 9 (upd (R 9) ((16 * x1) + x2).toNatClampNeg ((I 8) + ((upd (R 8) ((16 * x1) + x2).toNatClampNeg (I 3)) ((16 * x1) + x2).toNatClampNeg))))]) rfl dX5_fetch_116 ?_
        refine z_aload_n B dX5_fetch_117 1 rfl ?_
        refine z_get B (v := .ref (am 10)) 0 0 14 hiX5_fetch_5 hfX5_fetch_38 rfl rfl rfl (by decide) rfl rfl rfl rfl dX5_fetch_118 ?_
        refine z_iload_n B dX5_fetch_121 0 rfl ?_
        refine z_iconst B (v := 0) dX5_fetch_122 rfl ?_
        refine z_iast B (N := 64) (f := (R 10)) 0 10 rfl rfl (z_ixn hs hn) (bs' := [zMo K am I (va_up (va_up (va_up (va_up (va_up R 6 (upd (R 6) ((16 * x1) + x2).toNatClampNeg ((R 1) x2.toNatClampNeg))) 7 (upd (R 7) ((16 * x1) + x2).toNatClampNeg (-3))) 8 (upd (R 8) ((16 * x1) + x2).toNatClampNeg (I 3))) 9 (upd (R 9) ((16 * x1) + x2).toNatClampNeg ((I 8) + ((upd (R 8) ((16 * x1) + x2).toNatClampNeg (I 3)) ((16 * x1) + x2).toNatClampNeg)))) 10 (upd (R 10) ((16 * x1) + x2).toNatClampNeg 0))]) rfl dX5_fetch_123 ?_
        refine z_aload_n B dX5_fetch_124 1 rfl ?_
        refine z_dup B dX5_fetch_125 rfl ?_
        refine z_get B (v := .int (I 20)) 0 0 20 hiX5_fetch_5 hfX5_fetch_105 rfl rfl rfl (by decide) rfl rfl rfl rfl dX5_fetch_126 ?_
        refine z_iconst B (v := 1) dX5_fetch_129 rfl ?_
        refine z_iadd B dX5_fetch_130 ?_
        refine z_put B 0 0 20 hiX5_fetch_5 hfX5_fetch_105 tyX5_ok nmX5 rfl rfl rfl (by decide) rfl rfl rfl rfl rfl rfl rfl (Nat.le_of_ble_eq_true rfl) (bs' := [zMo K am (va_up I 20 ((I 20) + 1)) (va_up (va_up (va_up (va_up (va_up R 6 (upd (R 6) ((16 * x1) + x2).toNatClampNeg ((R 1) x2.toNatClampNeg))) 7 (upd (R 7) ((16 * x1) + x2).toNatClampNeg (-3))) 8 (upd (R 8) ((16 * x1) + x2).toNatClampNeg (I 3))) 9 (upd (R 9) ((16 * x1) + x2).toNatClampNeg ((I 8) + ((upd (R 8) ((16 * x1) + x2).toNatClampNeg (I 3)) ((16 * x1) + x2).toNatClampNeg)))) 10 (upd (R 10) ((16 * x1) + x2).toNatClampNeg 0))]) rfl dX5_fetch_131 ?_
        refine z_aload_n B dX5_fetch_134 1 rfl ?_
        refine z_dup B dX5_fetch_135 rfl ?_
        refine z_get B (v := .int (I 18)) 0 0 18 hiX5_fetch_5 hfX5_fetch_108 rfl rfl rfl (by decide) rfl rfl rfl rfl dX5_fetch_136 ?_
        refine z_iconst B (v := 1) dX5_fetch_139 rfl ?_
        refine z_iadd B dX5_fetch_140 ?_
        refine z_put B 0 0 18 hiX5_fetch_5 hfX5_fetch_108 tyX5_ok nmX5 rfl rfl rfl (by decide) rfl rfl rfl rfl rfl rfl rfl (Nat.le_of_ble_eq_true rfl) (bs' := [zMo K am (va_up (va_up I 18 ((I 18) + 1)) 20 ((I 20) + 1)) (va_up (va_up (va_up (va_up (va_up R 6 (upd (R 6) ((16 * x1) + x2).toNatClampNeg ((R 1) x2.toNatClampNeg))) 7 (upd (R 7) ((16 * x1) + x2).toNatClampNeg (-3))) 8 (upd (R 8) ((16 * x1) + x2).toNatClampNeg (I 3))) 9 (upd (R 9) ((16 * x1) + x2).toNatClampNeg ((I 8) + ((upd (R 8) ((16 * x1) + x2).toNatClampNeg (I 3)) ((16 * x1) + x2).toNatClampNeg)))) 10 (upd (R 10) ((16 * x1) + x2).toNatClampNeg 0))]) rfl dX5_fetch_141 ?_
        have hF : fX5_fetch I R x1 x2 = ((va_up (va_up I 18 ((I 18) + 1)) 20 ((I 20) + 1)), (va_up (va_up (va_up (va_up (va_up R 6 (upd (R 6) ((16 * x1) + x2).toNatClampNeg ((R 1) x2.toNatClampNeg))) 7 (upd (R 7) ((16 * x1) + x2).toNatClampNeg (-3))) 8 (upd (R 8) ((16 * x1) + x2).toNatClampNeg (I 3))) 9 (upd (R 9) ((16 * x1) + x2).toNatClampNeg ((I 8) + ((upd (R 8) ((16 * x1) + x2).toNatClampNeg (I 3)) ((16 * x1) + x2).toNatClampNeg)))) 10 (upd (R 10) ((16 * x1) + x2).toNatClampNeg 0))) := (if_pos c1).trans ((if_neg c2).trans (if_pos c5))
        exact z_ret0 B dX5_fetch_144 () (trivial) (Nat.le_of_ble_eq_true rfl) (Nat.le_of_ble_eq_true rfl) rfl (by rw [hF])
      · refine z_aload_n B dX5_fetch_64 1 rfl ?_
        refine z_get B (v := .ref (am 2)) 0 0 1 hiX5_fetch_5 hfX5_fetch_13 rfl rfl rfl (by decide) rfl rfl rfl rfl dX5_fetch_65 ?_
        refine z_iload_n B dX5_fetch_68 3 rfl ?_
        refine z_iald B (N := 16) (f := (R 2)) 0 2 rfl rfl hn dX5_fetch_69 ?_
        refine z_iast B (N := 64) (f := (R 7)) 0 7 rfl rfl (z_ixn hs hn) (bs' := [zMo K am I (va_up (va_up R 6 (upd (R 6) ((16 * x1) + x2).toNatClampNeg ((R 1) x2.toNatClampNeg))) 7 (upd (R 7) ((16 * x1) + x2).toNatClampNeg ((R 2) x2.toNatClampNeg)))]) rfl dX5_fetch_70 ?_
        refine z_aload_n B dX5_fetch_71 1 rfl ?_
        refine z_get B (v := .ref (am 8)) 0 0 12 hiX5_fetch_5 hfX5_fetch_32 rfl rfl rfl (by decide) rfl rfl rfl rfl dX5_fetch_72 ?_
        refine z_iload_n B dX5_fetch_75 0 rfl ?_
        refine z_aload_n B dX5_fetch_76 1 rfl ?_
        refine z_get B (v := .ref (am 1)) 0 0 0 hiX5_fetch_5 hfX5_fetch_7 rfl rfl rfl (by decide) rfl rfl rfl rfl dX5_fetch_77 ?_
        refine z_iload_n B dX5_fetch_80 3 rfl ?_
        refine z_iald B (N := 16) (f := (R 1)) 0 1 rfl rfl hn dX5_fetch_81 ?_
        refine z_iconst B (v := 2) dX5_fetch_82 rfl ?_
        refine z_icne B 93 dX5_fetch_83 (by decide) (fun h => absurd h c5) (fun _ => ?_)
        refine z_aload_n B dX5_fetch_93 1 rfl ?_
        refine z_get B (v := .ref (am 3)) 0 0 2 hiX5_fetch_5 hfX5_fetch_16 rfl rfl rfl (by decide) rfl rfl rfl rfl dX5_fetch_94 ?_
        refine z_iload_n B dX5_fetch_97 3 rfl ?_
        refine z_iald B (N := 16) (f := (R 3)) 0 3 rfl rfl hn dX5_fetch_98 ?_
        refine z_iast B (N := 64) (f := (R 8)) 0 8 rfl rfl (z_ixn hs hn) (bs' := [zMo K am I (va_up (va_up (va_up R 6 (upd (R 6) ((16 * x1) + x2).toNatClampNeg ((R 1) x2.toNatClampNeg))) 7 (upd (R 7) ((16 * x1) + x2).toNatClampNeg ((R 2) x2.toNatClampNeg))) 8 (upd (R 8) ((16 * x1) + x2).toNatClampNeg ((R 3) x2.toNatClampNeg)))]) rfl dX5_fetch_99 ?_
        refine z_aload_n B dX5_fetch_100 1 rfl ?_
        refine z_get B (v := .ref (am 9)) 0 0 13 hiX5_fetch_5 hfX5_fetch_35 rfl rfl rfl (by decide) rfl rfl rfl rfl dX5_fetch_101 ?_
        refine z_iload_n B dX5_fetch_104 0 rfl ?_
        refine z_aload_n B dX5_fetch_105 1 rfl ?_
        refine z_get B (v := .int (I 8)) 0 0 8 hiX5_fetch_5 hfX5_fetch_95 rfl rfl rfl (by decide) rfl rfl rfl rfl dX5_fetch_106 ?_
        refine z_aload_n B dX5_fetch_109 1 rfl ?_
        refine z_get B (v := .ref (am 8)) 0 0 12 hiX5_fetch_5 hfX5_fetch_32 rfl rfl rfl (by decide) rfl rfl rfl rfl dX5_fetch_110 ?_
        refine z_iload_n B dX5_fetch_113 0 rfl ?_
        refine z_iald B (N := 64) (f := (upd (R 8) ((16 * x1) + x2).toNatClampNeg ((R 3) x2.toNatClampNeg))) 0 8 rfl rfl (z_ixn hs hn) dX5_fetch_114 ?_
        refine z_iadd B dX5_fetch_115 ?_
        refine z_iast B (N := 64) (f := (R 9)) 0 9 rfl rfl (z_ixn hs hn) (bs' := [zMo K am I (va_up (va_up (va_up (va_up R 6 (upd (R 6) ((16 * x1) + x2).toNatClampNeg ((R 1) x2.toNatClampNeg))) 7 (upd (R 7) ((16 * x1) + x2).toNatClampNeg ((R 2) x2.toNatClampNeg))) 8 (upd (R 8) ((16 * x1) + x2).toNatClampNeg ((R 3) x2.toNatClampNeg))) 9 (upd (R 9) ((16 * x1) + x2).toNatClampNeg ((I 8) + ((upd (R 8) ((16 * x1) + x2).toNatClampNeg ((R 3) x2.toNatClampNeg)) ((16 * x1) + x2).toNatClampNeg))))]) rfl dX5_fetch_116 ?_
        refine z_aload_n B dX5_fetch_117 1 rfl ?_
        refine z_get B (v := .ref (am 10)) 0 0 14 hiX5_fetch_5 hfX5_fetch_38 rfl rfl rfl (by decide) rfl rfl rfl rfl dX5_fetch_118 ?_
        refine z_iload_n B dX5_fetch_121 0 rfl ?_
        refine z_iconst B (v := 0) dX5_fetch_122 rfl ?_
        refine z_iast B (N := 64) (f := (R 10)) 0 10 rfl rfl (z_ixn hs hn) (bs' := [zMo K am I (va_up (va_up (va_up (va_up (va_up R 6 (upd (R 6) ((16 * x1) + x2).toNatClampNeg ((R 1) x2.toNatClampNeg))) 7 (upd (R 7) ((16 * x1) + x2).toNatClampNeg ((R 2) x2.toNatClampNeg))) 8 (upd (R 8) ((16 * x1) + x2).toNatClampNeg ((R 3) x2.toNatClampNeg))) 9 (upd (R 9) ((16 * x1) + x2).toNatClampNeg ((I 8) + ((upd (R 8) ((16 * x1) + x2).toNatClampNeg ((R 3) x2.toNatClampNeg)) ((16 * x1) + x2).toNatClampNeg)))) 10 (upd (R 10) ((16 * x1) + x2).toNatClampNeg 0))]) rfl dX5_fetch_123 ?_
        refine z_aload_n B dX5_fetch_124 1 rfl ?_
        refine z_dup B dX5_fetch_125 rfl ?_
        refine z_get B (v := .int (I 20)) 0 0 20 hiX5_fetch_5 hfX5_fetch_105 rfl rfl rfl (by decide) rfl rfl rfl rfl dX5_fetch_126 ?_
        refine z_iconst B (v := 1) dX5_fetch_129 rfl ?_
        refine z_iadd B dX5_fetch_130 ?_
        refine z_put B 0 0 20 hiX5_fetch_5 hfX5_fetch_105 tyX5_ok nmX5 rfl rfl rfl (by decide) rfl rfl rfl rfl rfl rfl rfl (Nat.le_of_ble_eq_true rfl) (bs' := [zMo K am (va_up I 20 ((I 20) + 1)) (va_up (va_up (va_up (va_up (va_up R 6 (upd (R 6) ((16 * x1) + x2).toNatClampNeg ((R 1) x2.toNatClampNeg))) 7 (upd (R 7) ((16 * x1) + x2).toNatClampNeg ((R 2) x2.toNatClampNeg))) 8 (upd (R 8) ((16 * x1) + x2).toNatClampNeg ((R 3) x2.toNatClampNeg))) 9 (upd (R 9) ((16 * x1) + x2).toNatClampNeg ((I 8) + ((upd (R 8) ((16 * x1) + x2).toNatClampNeg ((R 3) x2.toNatClampNeg)) ((16 * x1) + x2).toNatClampNeg)))) 10 (upd (R 10) ((16 * x1) + x2).toNatClampNeg 0))]) rfl dX5_fetch_131 ?_
        refine z_aload_n B dX5_fetch_134 1 rfl ?_
        refine z_dup B dX5_fetch_135 rfl ?_
        refine z_get B (v := .int (I 18)) 0 0 18 hiX5_fetch_5 hfX5_fetch_108 rfl rfl rfl (by decide) rfl rfl rfl rfl dX5_fetch_136 ?_
        refine z_iconst B (v := 1) dX5_fetch_139 rfl ?_
        refine z_iadd B dX5_fetch_140 ?_
        refine z_put B 0 0 18 hiX5_fetch_5 hfX5_fetch_108 tyX5_ok nmX5 rfl rfl rfl (by decide) rfl rfl rfl rfl rfl rfl rfl (Nat.le_of_ble_eq_true rfl) (bs' := [zMo K am (va_up (va_up I 18 ((I 18) + 1)) 20 ((I 20) + 1)) (va_up (va_up (va_up (va_up (va_up R 6 (upd (R 6) ((16 * x1) + x2).toNatClampNeg ((R 1) x2.toNatClampNeg))) 7 (upd (R 7) ((16 * x1) + x2).toNatClampNeg ((R 2) x2.toNatClampNeg))) 8 (upd (R 8) ((16 * x1) + x2).toNatClampNeg ((R 3) x2.toNatClampNeg))) 9 (upd (R 9) ((16 * x1) + x2).toNatClampNeg ((I 8) + ((upd (R 8) ((16 * x1) + x2).toNatClampNeg ((R 3) x2.toNatClampNeg)) ((16 * x1) + x2).toNatClampNeg)))) 10 (upd (R 10) ((16 * x1) + x2).toNatClampNeg 0))]) rfl dX5_fetch_141 ?_
        have hF : fX5_fetch I R x1 x2 = ((va_up (va_up I 18 ((I 18) + 1)) 20 ((I 20) + 1)), (va_up (va_up (va_up (va_up (va_up R 6 (upd (R 6) ((16 * x1) + x2).toNatClampNeg ((R 1) x2.toNatClampNeg))) 7 (upd (R 7) ((16 * x1) + x2).toNatClampNeg ((R 2) x2.toNatClampNeg))) 8 (upd (R 8) ((16 * x1) + x2).toNatClampNeg ((R 3) x2.toNatClampNeg))) 9 (upd (R 9) ((16 * x1) + x2).toNatClampNeg ((I 8) + ((upd (R 8) ((16 * x1) + x2).toNatClampNeg ((R 3) x2.toNatClampNeg)) ((16 * x1) + x2).toNatClampNeg)))) 10 (upd (R 10) ((16 * x1) + x2).toNatClampNeg 0))) := (if_pos c1).trans ((if_neg c2).trans (if_neg c5))
        exact z_ret0 B dX5_fetch_144 () (trivial) (Nat.le_of_ble_eq_true rfl) (Nat.le_of_ble_eq_true rfl) rfl (by rw [hF])
  · refine z_aload_n B dX5_fetch_32 1 rfl ?_
    refine z_get B (v := .ref (am 6)) 0 0 10 hiX5_fetch_5 hfX5_fetch_26 rfl rfl rfl (by decide) rfl rfl rfl rfl dX5_fetch_33 ?_
    refine z_iload_n B dX5_fetch_36 0 rfl ?_
    refine z_aload_n B dX5_fetch_37 1 rfl ?_
    refine z_get B (v := .ref (am 1)) 0 0 0 hiX5_fetch_5 hfX5_fetch_7 rfl rfl rfl (by decide) rfl rfl rfl rfl dX5_fetch_38 ?_
    refine z_iload_n B dX5_fetch_41 3 rfl ?_
    refine z_iald B (N := 16) (f := (R 1)) 0 1 rfl rfl hn dX5_fetch_42 ?_
    refine z_iast B (N := 64) (f := (R 6)) 0 6 rfl rfl (z_ixn hs hn) (bs' := [zMo K am I (va_up R 6 (upd (R 6) ((16 * x1) + x2).toNatClampNeg ((R 1) x2.toNatClampNeg)))]) rfl dX5_fetch_43 ?_
    refine z_aload_n B dX5_fetch_44 1 rfl ?_
    refine z_get B (v := .ref (am 7)) 0 0 11 hiX5_fetch_5 hfX5_fetch_29 rfl rfl rfl (by decide) rfl rfl rfl rfl dX5_fetch_45 ?_
    refine z_iload_n B dX5_fetch_48 0 rfl ?_
    refine z_aload_n B dX5_fetch_49 1 rfl ?_
    refine z_get B (v := .ref (am 1)) 0 0 0 hiX5_fetch_5 hfX5_fetch_7 rfl rfl rfl (by decide) rfl rfl rfl rfl dX5_fetch_50 ?_
    refine z_iload_n B dX5_fetch_53 3 rfl ?_
    refine z_iald B (N := 16) (f := (R 1)) 0 1 rfl rfl hn dX5_fetch_54 ?_
    refine z_iconst B (v := 2) dX5_fetch_55 rfl ?_
    refine z_icne B 64 dX5_fetch_56 (by decide) (fun c6 => ?_) (fun c6 => ?_)
    · refine z_bipush B (v := (-3)) dX5_fetch_59 rfl ?_
      refine z_goto B (tgt := 70) dX5_fetch_61 (by decide) ?_
      refine z_iast B (N := 64) (f := (R 7)) 0 7 rfl rfl (z_ixn hs hn) (bs' := [zMo K am I (va_up (va_up R 6 (upd (R 6) ((16 * x1) + x2).toNatClampNeg ((R 1) x2.toNatClampNeg))) 7 (upd (R 7) ((16 * x1) + x2).toNatClampNeg (-3)))]) rfl dX5_fetch_70 ?_
      refine z_aload_n B dX5_fetch_71 1 rfl ?_
      refine z_get B (v := .ref (am 8)) 0 0 12 hiX5_fetch_5 hfX5_fetch_32 rfl rfl rfl (by decide) rfl rfl rfl rfl dX5_fetch_72 ?_
      refine z_iload_n B dX5_fetch_75 0 rfl ?_
      refine z_aload_n B dX5_fetch_76 1 rfl ?_
      refine z_get B (v := .ref (am 1)) 0 0 0 hiX5_fetch_5 hfX5_fetch_7 rfl rfl rfl (by decide) rfl rfl rfl rfl dX5_fetch_77 ?_
      refine z_iload_n B dX5_fetch_80 3 rfl ?_
      refine z_iald B (N := 16) (f := (R 1)) 0 1 rfl rfl hn dX5_fetch_81 ?_
      refine z_iconst B (v := 2) dX5_fetch_82 rfl ?_
      refine z_icne B 93 dX5_fetch_83 (by decide) (fun _ => ?_) (fun h => absurd c6 h)
      refine z_aload_n B dX5_fetch_86 1 rfl ?_
      refine z_get B (v := .int (I 3)) 0 0 3 hiX5_fetch_5 hfX5_fetch_59 rfl rfl rfl (by decide) rfl rfl rfl rfl dX5_fetch_87 ?_
      refine z_goto B (tgt := 99) dX5_fetch_90 (by decide) ?_
      refine z_iast B (N := 64) (f := (R 8)) 0 8 rfl rfl (z_ixn hs hn) (bs' := [zMo K am I (va_up (va_up (va_up R 6 (upd (R 6) ((16 * x1) + x2).toNatClampNeg ((R 1) x2.toNatClampNeg))) 7 (upd (R 7) ((16 * x1) + x2).toNatClampNeg (-3))) 8 (upd (R 8) ((16 * x1) + x2).toNatClampNeg (I 3)))]) rfl dX5_fetch_99 ?_
      refine z_aload_n B dX5_fetch_100 1 rfl ?_
      refine z_get B (v := .ref (am 9)) 0 0 13 hiX5_fetch_5 hfX5_fetch_35 rfl rfl rfl (by decide) rfl rfl rfl rfl dX5_fetch_101 ?_
      refine z_iload_n B dX5_fetch_104 0 rfl ?_
      refine z_aload_n B dX5_fetch_105 1 rfl ?_
      refine z_get B (v := .int (I 8)) 0 0 8 hiX5_fetch_5 hfX5_fetch_95 rfl rfl rfl (by decide) rfl rfl rfl rfl dX5_fetch_106 ?_
      refine z_aload_n B dX5_fetch_109 1 rfl ?_
      refine z_get B (v := .ref (am 8)) 0 0 12 hiX5_fetch_5 hfX5_fetch_32 rfl rfl rfl (by decide) rfl rfl rfl rfl dX5_fetch_110 ?_
      refine z_iload_n B dX5_fetch_113 0 rfl ?_
      refine z_iald B (N := 64) (f := (upd (R 8) ((16 * x1) + x2).toNatClampNeg (I 3))) 0 8 rfl rfl (z_ixn hs hn) dX5_fetch_114 ?_
      refine z_iadd B dX5_fetch_115 ?_
      refine z_iast B (N := 64) (f := (R 9)) 0 9 rfl rfl (z_ixn hs hn) (bs' := [zMo K am I (va_up (va_up (va_up (va_up R 6 (upd (R 6) ((16 * x1) + x2).toNatClampNeg ((R 1) x2.toNatClampNeg))) 7 (upd (R 7) ((16 * x1) + x2).toNatClampNeg (-3))) 8 (upd (R 8) ((16 * x1) + x2).toNatClampNeg (I 3))) 9 (upd (R 9) ((16 * x1) + x2).toNatClampNeg ((I 8) + ((upd (R 8) ((16 * x1) + x2).toNatClampNeg (I 3)) ((16 * x1) + x2).toNatClampNeg))))]) rfl dX5_fetch_116 ?_
      refine z_aload_n B dX5_fetch_117 1 rfl ?_
      refine z_get B (v := .ref (am 10)) 0 0 14 hiX5_fetch_5 hfX5_fetch_38 rfl rfl rfl (by decide) rfl rfl rfl rfl dX5_fetch_118 ?_
      refine z_iload_n B dX5_fetch_121 0 rfl ?_
      refine z_iconst B (v := 0) dX5_fetch_122 rfl ?_
      refine z_iast B (N := 64) (f := (R 10)) 0 10 rfl rfl (z_ixn hs hn) (bs' := [zMo K am I (va_up (va_up (va_up (va_up (va_up R 6 (upd (R 6) ((16 * x1) + x2).toNatClampNeg ((R 1) x2.toNatClampNeg))) 7 (upd (R 7) ((16 * x1) + x2).toNatClampNeg (-3))) 8 (upd (R 8) ((16 * x1) + x2).toNatClampNeg (I 3))) 9 (upd (R 9) ((16 * x1) + x2).toNatClampNeg ((I 8) + ((upd (R 8) ((16 * x1) + x2).toNatClampNeg (I 3)) ((16 * x1) + x2).toNatClampNeg)))) 10 (upd (R 10) ((16 * x1) + x2).toNatClampNeg 0))]) rfl dX5_fetch_123 ?_
      refine z_aload_n B dX5_fetch_124 1 rfl ?_
      refine z_dup B dX5_fetch_125 rfl ?_
      refine z_get B (v := .int (I 20)) 0 0 20 hiX5_fetch_5 hfX5_fetch_105 rfl rfl rfl (by decide) rfl rfl rfl rfl dX5_fetch_126 ?_
      refine z_iconst B (v := 1) dX5_fetch_129 rfl ?_
      refine z_iadd B dX5_fetch_130 ?_
      refine z_put B 0 0 20 hiX5_fetch_5 hfX5_fetch_105 tyX5_ok nmX5 rfl rfl rfl (by decide) rfl rfl rfl rfl rfl rfl rfl (Nat.le_of_ble_eq_true rfl) (bs' := [zMo K am (va_up I 20 ((I 20) + 1)) (va_up (va_up (va_up (va_up (va_up R 6 (upd (R 6) ((16 * x1) + x2).toNatClampNeg ((R 1) x2.toNatClampNeg))) 7 (upd (R 7) ((16 * x1) + x2).toNatClampNeg (-3))) 8 (upd (R 8) ((16 * x1) + x2).toNatClampNeg (I 3))) 9 (upd (R 9) ((16 * x1) + x2).toNatClampNeg ((I 8) + ((upd (R 8) ((16 * x1) + x2).toNatClampNeg (I 3)) ((16 * x1) + x2).toNatClampNeg)))) 10 (upd (R 10) ((16 * x1) + x2).toNatClampNeg 0))]) rfl dX5_fetch_131 ?_
      refine z_aload_n B dX5_fetch_134 1 rfl ?_
      refine z_dup B dX5_fetch_135 rfl ?_
      refine z_get B (v := .int (I 18)) 0 0 18 hiX5_fetch_5 hfX5_fetch_108 rfl rfl rfl (by decide) rfl rfl rfl rfl dX5_fetch_136 ?_
      refine z_iconst B (v := 1) dX5_fetch_139 rfl ?_
      refine z_iadd B dX5_fetch_140 ?_
      refine z_put B 0 0 18 hiX5_fetch_5 hfX5_fetch_108 tyX5_ok nmX5 rfl rfl rfl (by decide) rfl rfl rfl rfl rfl rfl rfl (Nat.le_of_ble_eq_true rfl) (bs' := [zMo K am (va_up (va_up I 18 ((I 18) + 1)) 20 ((I 20) + 1)) (va_up (va_up (va_up (va_up (va_up R 6 (upd (R 6) ((16 * x1) + x2).toNatClampNeg ((R 1) x2.toNatClampNeg))) 7 (upd (R 7) ((16 * x1) + x2).toNatClampNeg (-3))) 8 (upd (R 8) ((16 * x1) + x2).toNatClampNeg (I 3))) 9 (upd (R 9) ((16 * x1) + x2).toNatClampNeg ((I 8) + ((upd (R 8) ((16 * x1) + x2).toNatClampNeg (I 3)) ((16 * x1) + x2).toNatClampNeg)))) 10 (upd (R 10) ((16 * x1) + x2).toNatClampNeg 0))]) rfl dX5_fetch_141 ?_
      have hF : fX5_fetch I R x1 x2 = ((va_up (va_up I 18 ((I 18) + 1)) 20 ((I 20) + 1)), (va_up (va_up (va_up (va_up (va_up R 6 (upd (R 6) ((16 * x1) + x2).toNatClampNeg ((R 1) x2.toNatClampNeg))) 7 (upd (R 7) ((16 * x1) + x2).toNatClampNeg (-3))) 8 (upd (R 8) ((16 * x1) + x2).toNatClampNeg (I 3))) 9 (upd (R 9) ((16 * x1) + x2).toNatClampNeg ((I 8) + ((upd (R 8) ((16 * x1) + x2).toNatClampNeg (I 3)) ((16 * x1) + x2).toNatClampNeg)))) 10 (upd (R 10) ((16 * x1) + x2).toNatClampNeg 0))) := (if_neg c1).trans (if_pos c6)
      exact z_ret0 B dX5_fetch_144 () (trivial) (Nat.le_of_ble_eq_true rfl) (Nat.le_of_ble_eq_true rfl) rfl (by rw [hF])
    · refine z_aload_n B dX5_fetch_64 1 rfl ?_
      refine z_get B (v := .ref (am 2)) 0 0 1 hiX5_fetch_5 hfX5_fetch_13 rfl rfl rfl (by decide) rfl rfl rfl rfl dX5_fetch_65 ?_
      refine z_iload_n B dX5_fetch_68 3 rfl ?_
      refine z_iald B (N := 16) (f := (R 2)) 0 2 rfl rfl hn dX5_fetch_69 ?_
      refine z_iast B (N := 64) (f := (R 7)) 0 7 rfl rfl (z_ixn hs hn) (bs' := [zMo K am I (va_up (va_up R 6 (upd (R 6) ((16 * x1) + x2).toNatClampNeg ((R 1) x2.toNatClampNeg))) 7 (upd (R 7) ((16 * x1) + x2).toNatClampNeg ((R 2) x2.toNatClampNeg)))]) rfl dX5_fetch_70 ?_
      refine z_aload_n B dX5_fetch_71 1 rfl ?_
      refine z_get B (v := .ref (am 8)) 0 0 12 hiX5_fetch_5 hfX5_fetch_32 rfl rfl rfl (by decide) rfl rfl rfl rfl dX5_fetch_72 ?_
      refine z_iload_n B dX5_fetch_75 0 rfl ?_
      refine z_aload_n B dX5_fetch_76 1 rfl ?_
      refine z_get B (v := .ref (am 1)) 0 0 0 hiX5_fetch_5 hfX5_fetch_7 rfl rfl rfl (by decide) rfl rfl rfl rfl dX5_fetch_77 ?_
      refine z_iload_n B dX5_fetch_80 3 rfl ?_
      refine z_iald B (N := 16) (f := (R 1)) 0 1 rfl rfl hn dX5_fetch_81 ?_
      refine z_iconst B (v := 2) dX5_fetch_82 rfl ?_
      refine z_icne B 93 dX5_fetch_83 (by decide) (fun h => absurd h c6) (fun _ => ?_)
      refine z_aload_n B dX5_fetch_93 1 rfl ?_
      refine z_get B (v := .ref (am 3)) 0 0 2 hiX5_fetch_5 hfX5_fetch_16 rfl rfl rfl (by decide) rfl rfl rfl rfl dX5_fetch_94 ?_
      refine z_iload_n B dX5_fetch_97 3 rfl ?_
      refine z_iald B (N := 16) (f := (R 3)) 0 3 rfl rfl hn dX5_fetch_98 ?_
      refine z_iast B (N := 64) (f := (R 8)) 0 8 rfl rfl (z_ixn hs hn) (bs' := [zMo K am I (va_up (va_up (va_up R 6 (upd (R 6) ((16 * x1) + x2).toNatClampNeg ((R 1) x2.toNatClampNeg))) 7 (upd (R 7) ((16 * x1) + x2).toNatClampNeg ((R 2) x2.toNatClampNeg))) 8 (upd (R 8) ((16 * x1) + x2).toNatClampNeg ((R 3) x2.toNatClampNeg)))]) rfl dX5_fetch_99 ?_
      refine z_aload_n B dX5_fetch_100 1 rfl ?_
      refine z_get B (v := .ref (am 9)) 0 0 13 hiX5_fetch_5 hfX5_fetch_35 rfl rfl rfl (by decide) rfl rfl rfl rfl dX5_fetch_101 ?_
      refine z_iload_n B dX5_fetch_104 0 rfl ?_
      refine z_aload_n B dX5_fetch_105 1 rfl ?_
      refine z_get B (v := .int (I 8)) 0 0 8 hiX5_fetch_5 hfX5_fetch_95 rfl rfl rfl (by decide) rfl rfl rfl rfl dX5_fetch_106 ?_
      refine z_aload_n B dX5_fetch_109 1 rfl ?_
      refine z_get B (v := .ref (am 8)) 0 0 12 hiX5_fetch_5 hfX5_fetch_32 rfl rfl rfl (by decide) rfl rfl rfl rfl dX5_fetch_110 ?_
      refine z_iload_n B dX5_fetch_113 0 rfl ?_
      refine z_iald B (N := 64) (f := (upd (R 8) ((16 * x1) + x2).toNatClampNeg ((R 3) x2.toNatClampNeg))) 0 8 rfl rfl (z_ixn hs hn) dX5_fetch_114 ?_
      refine z_iadd B dX5_fetch_115 ?_
      refine z_iast B (N := 64) (f := (R 9)) 0 9 rfl rfl (z_ixn hs hn) (bs' := [zMo K am I (va_up (va_up (va_up (va_up R 6 (upd (R 6) ((16 * x1) + x2).toNatClampNeg ((R 1) x2.toNatClampNeg))) 7 (upd (R 7) ((16 * x1) + x2).toNatClampNeg ((R 2) x2.toNatClampNeg))) 8 (upd (R 8) ((16 * x1) + x2).toNatClampNeg ((R 3) x2.toNatClampNeg))) 9 (upd (R 9) ((16 * x1) + x2).toNatClampNeg ((I 8) + ((upd (R 8) ((16 * x1) + x2).toNatClampNeg ((R 3) x2.toNatClampNeg)) ((16 * x1) + x2).toNatClampNeg))))]) rfl dX5_fetch_116 ?_
      refine z_aload_n B dX5_fetch_117 1 rfl ?_
      refine z_get B (v := .ref (am 10)) 0 0 14 hiX5_fetch_5 hfX5_fetch_38 rfl rfl rfl (by decide) rfl rfl rfl rfl dX5_fetch_118 ?_
      refine z_iload_n B dX5_fetch_121 0 rfl ?_
      refine z_iconst B (v := 0) dX5_fetch_122 rfl ?_
      refine z_iast B (N := 64) (f := (R 10)) 0 10 rfl rfl (z_ixn hs hn) (bs' := [zMo K am I (va_up (va_up (va_up (va_up (va_up R 6 (upd (R 6) ((16 * x1) + x2).toNatClampNeg ((R 1) x2.toNatClampNeg))) 7 (upd (R 7) ((16 * x1) + x2).toNatClampNeg ((R 2) x2.toNatClampNeg))) 8 (upd (R 8) ((16 * x1) + x2).toNatClampNeg ((R 3) x2.toNatClampNeg))) 9 (upd (R 9) ((16 * x1) + x2).toNatClampNeg ((I 8) + ((upd (R 8) ((16 * x1) + x2).toNatClampNeg ((R 3) x2.toNatClampNeg)) ((16 * x1) + x2).toNatClampNeg)))) 10 (upd (R 10) ((16 * x1) + x2).toNatClampNeg 0))]) rfl dX5_fetch_123 ?_
      refine z_aload_n B dX5_fetch_124 1 rfl ?_
      refine z_dup B dX5_fetch_125 rfl ?_
      refine z_get B (v := .int (I 20)) 0 0 20 hiX5_fetch_5 hfX5_fetch_105 rfl rfl rfl (by decide) rfl rfl rfl rfl dX5_fetch_126 ?_
      refine z_iconst B (v := 1) dX5_fetch_129 rfl ?_
      refine z_iadd B dX5_fetch_130 ?_
      refine z_put B 0 0 20 hiX5_fetch_5 hfX5_fetch_105 tyX5_ok nmX5 rfl rfl rfl (by decide) rfl rfl rfl rfl rfl rfl rfl (Nat.le_of_ble_eq_true rfl) (bs' := [zMo K am (va_up I 20 ((I 20) + 1)) (va_up (va_up (va_up (va_up (va_up R 6 (upd (R 6) ((16 * x1) + x2).toNatClampNeg ((R 1) x2.toNatClampNeg))) 7 (upd (R 7) ((16 * x1) + x2).toNatClampNeg ((R 2) x2.toNatClampNeg))) 8 (upd (R 8) ((16 * x1) + x2).toNatClampNeg ((R 3) x2.toNatClampNeg))) 9 (upd (R 9) ((16 * x1) + x2).toNatClampNeg ((I 8) + ((upd (R 8) ((16 * x1) + x2).toNatClampNeg ((R 3) x2.toNatClampNeg)) ((16 * x1) + x2).toNatClampNeg)))) 10 (upd (R 10) ((16 * x1) + x2).toNatClampNeg 0))]) rfl dX5_fetch_131 ?_
      refine z_aload_n B dX5_fetch_134 1 rfl ?_
      refine z_dup B dX5_fetch_135 rfl ?_
      refine z_get B (v := .int (I 18)) 0 0 18 hiX5_fetch_5 hfX5_fetch_108 rfl rfl rfl (by decide) rfl rfl rfl rfl dX5_fetch_136 ?_
      refine z_iconst B (v := 1) dX5_fetch_139 rfl ?_
      refine z_iadd B dX5_fetch_140 ?_
      refine z_put B 0 0 18 hiX5_fetch_5 hfX5_fetch_108 tyX5_ok nmX5 rfl rfl rfl (by decide) rfl rfl rfl rfl rfl rfl rfl (Nat.le_of_ble_eq_true rfl) (bs' := [zMo K am (va_up (va_up I 18 ((I 18) + 1)) 20 ((I 20) + 1)) (va_up (va_up (va_up (va_up (va_up R 6 (upd (R 6) ((16 * x1) + x2).toNatClampNeg ((R 1) x2.toNatClampNeg))) 7 (upd (R 7) ((16 * x1) + x2).toNatClampNeg ((R 2) x2.toNatClampNeg))) 8 (upd (R 8) ((16 * x1) + x2).toNatClampNeg ((R 3) x2.toNatClampNeg))) 9 (upd (R 9) ((16 * x1) + x2).toNatClampNeg ((I 8) + ((upd (R 8) ((16 * x1) + x2).toNatClampNeg ((R 3) x2.toNatClampNeg)) ((16 * x1) + x2).toNatClampNeg)))) 10 (upd (R 10) ((16 * x1) + x2).toNatClampNeg 0))]) rfl dX5_fetch_141 ?_
      have hF : fX5_fetch I R x1 x2 = ((va_up (va_up I 18 ((I 18) + 1)) 20 ((I 20) + 1)), (va_up (va_up (va_up (va_up (va_up R 6 (upd (R 6) ((16 * x1) + x2).toNatClampNeg ((R 1) x2.toNatClampNeg))) 7 (upd (R 7) ((16 * x1) + x2).toNatClampNeg ((R 2) x2.toNatClampNeg))) 8 (upd (R 8) ((16 * x1) + x2).toNatClampNeg ((R 3) x2.toNatClampNeg))) 9 (upd (R 9) ((16 * x1) + x2).toNatClampNeg ((I 8) + ((upd (R 8) ((16 * x1) + x2).toNatClampNeg ((R 3) x2.toNatClampNeg)) ((16 * x1) + x2).toNatClampNeg)))) 10 (upd (R 10) ((16 * x1) + x2).toNatClampNeg 0))) := (if_neg c1).trans (if_neg c6)
      exact z_ret0 B dX5_fetch_144 () (trivial) (Nat.le_of_ble_eq_true rfl) (Nat.le_of_ble_eq_true rfl) rfl (by rw [hF])
