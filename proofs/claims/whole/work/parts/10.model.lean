def fX5_in (x1 : Int32) (x2 : Int32) (x3 : Int32) : Int32 :=
  if x1 < x2 then
    0
  else
    if x3 < x1 then
      0
    else
      1
set_option maxHeartbeats 4000000 in
set_option maxRecDepth 100000 in
theorem kX5_in (l : Launch) (hl : l.stackTraces = false) (K : zK) (x1 : Int32) (x2 : Int32) (x3 : Int32) : zMet l K yX5_in wsX5_in { frames := 0, cells := 0, slots := 0, locals := 0 } [.int x1, .int x2, .int x3] [] (some (.int (fX5_in x1 x2 x3))) [] True zNo := by
  refine zMeN.of (cc := cX5_in) (maxL := 3) (ret := (some .boolean)) (own := RX5) (nm := "in") hl (by decide +kernel) rfl rfl rfl (Nat.le_of_ble_eq_true rfl) (lv := [(0, .int x1), (1, .int x2), (2, .int x3)]) rfl ?_
  intro p e s m args below meth c A B
  refine z_iload_n B dX5_in_0 0 rfl ?_
  refine z_iload_n B dX5_in_1 1 rfl ?_
  refine z_iclt B 14 dX5_in_2 (by decide) (fun c1 => ?_) (fun c1 => ?_)
  · refine z_iconst B (v := 0) dX5_in_14 rfl ?_
    have hF : fX5_in x1 x2 x3 = 0 := if_pos c1
    exact z_ret1 B rfl dX5_in_15 () (trivial) (Nat.le_of_ble_eq_true rfl) (Nat.le_of_ble_eq_true rfl) (by rw [hF]) (by rw [hF])
  · refine z_iload_n B dX5_in_5 0 rfl ?_
    refine z_iload_n B dX5_in_6 2 rfl ?_
    refine z_icgt B 14 dX5_in_7 (by decide) (fun c2 => ?_) (fun c2 => ?_)
    · refine z_iconst B (v := 0) dX5_in_14 rfl ?_
      have hF : fX5_in x1 x2 x3 = 0 := (if_neg c1).trans (if_pos c2)
      exact z_ret1 B rfl dX5_in_15 () (trivial) (Nat.le_of_ble_eq_true rfl) (Nat.le_of_ble_eq_true rfl) (by rw [hF]) (by rw [hF])
    · refine z_iconst B (v := 1) dX5_in_10 rfl ?_
      refine z_goto B (tgt := 15) dX5_in_11 (by decide) ?_
      have hF : fX5_in x1 x2 x3 = 1 := (if_neg c1).trans (if_neg c2)
      exact z_ret1 B rfl dX5_in_15 () (trivial) (Nat.le_of_ble_eq_true rfl) (Nat.le_of_ble_eq_true rfl) (by rw [hF]) (by rw [hF])
theorem z_in01 {a b c : Int32} : fX5_in a b c = 0 ∨ fX5_in a b c = 1 := by
  unfold fX5_in
  split
  · exact Or.inl rfl
  · split
    · exact Or.inl rfl
    · exact Or.inr rfl
def fX5_isName (x1 : Int32) : Int32 :=
  (fX5_in x1 0 15)
set_option maxHeartbeats 4000000 in
set_option maxRecDepth 100000 in
theorem kX5_isName (l : Launch) (hl : l.stackTraces = false) (K : zK) (x1 : Int32) : zMet l K yX5_isName wsX5_isName { frames := 1, cells := 0, slots := 0, locals := 22 } [.int x1] [] (some (.int (fX5_isName x1))) [] True zNo := by
  refine zMeN.of (cc := cX5_isName) (maxL := 1) (ret := (some .boolean)) (own := RX5) (nm := "isName") hl (by decide +kernel) rfl rfl rfl (Nat.le_of_ble_eq_true rfl) (lv := [(0, .int x1)]) rfl ?_
  intro p e s m args below meth c A B
  refine z_iload_n B dX5_isName_0 0 rfl ?_
  refine z_iconst B (v := 0) dX5_isName_1 rfl ?_
  refine z_bipush B (v := 15) dX5_isName_2 rfl ?_
  refine z_S1 B (kX5_in l hl K x1 0 15) [] [] (br := []) (bs' := []) (st := []) (nA := 3) (zsp rfl rfl rfl) (zsp rfl rfl rfl) gX5_isName_X5_in rfl (by decide +kernel) ⟨Nat.le_of_ble_eq_true rfl, Nat.le_of_ble_eq_true rfl⟩ rfl rfl (Nat.le_of_ble_eq_true rfl) ⟨Nat.le_of_ble_eq_true rfl, Nat.le_of_ble_eq_true rfl⟩ dX5_isName_4 z_noX (fun _ => ?_)
  have hF : fX5_isName x1 = (fX5_in x1 0 15) := rfl
  exact z_ret1 B (z_nz z_in01) dX5_isName_7 () (trivial) (Nat.le_of_ble_eq_true rfl) (Nat.le_of_ble_eq_true rfl) (by rw [hF]) (by rw [hF])
theorem z_inR {x M : Int32} {N : Nat} (hM : M.toInt = (N : Int) - 1) (h : ¬ fX5_in x 0 M = 0) : vp_in x N := by
  unfold fX5_in at h
  split at h
  · exact absurd rfl h
  · rename_i h1
    split at h
    · exact absurd rfl h
    · rename_i h2
      rw [Int32.lt_iff_toInt_lt] at h1 h2
      have e : (0 : Int32).toInt = 0 := rfl
      rw [e] at h1
      rw [hM] at h2
      exact vp_in_iff.mpr ⟨by omega, by omega⟩
theorem z_isName {x : Int32} (h : ¬ fX5_isName x = 0) : vp_in x 16 := z_inR (M := 15) (N := 16) rfl h
def fX5_isSite (I : Nat → Int32) (R : Nat → Nat → Int32) (x1 : Int32) : Int32 :=
  (fX5_in x1 0 ((I 5) - 1))
theorem hiX5_isSite_5 : ∀ w ∈ wsX50, w ∈ wsX5_isSite := by decide +kernel
theorem hfX5_isSite_77 : Cond.fieldLink RX5 77 "ResolverFleetModel" "siteMany" "I" ∈ wsX5_isSite := by decide +kernel
set_option maxHeartbeats 4000000 in
set_option maxRecDepth 100000 in
theorem kX5_isSite (l : Launch) (hl : l.stackTraces = false) (K : zK) (am : Nat → Nat) (I : Nat → Int32) (R : Nat → Nat → Int32) (x1 : Int32) : zMet l K yX5_isSite wsX5_isSite { frames := 1, cells := 0, slots := 0, locals := 22 } [.ref (am 0), .int x1] [zMo K am I R] (some (.int (fX5_isSite I R x1))) [zMo K am I R] True zNo := by
  refine zMeN.of (cc := cX5_isSite) (maxL := 2) (ret := (some .boolean)) (own := RX5) (nm := "isSite") hl (by decide +kernel) rfl rfl rfl (Nat.le_of_ble_eq_true rfl) (lv := [(0, .ref (am 0)), (1, .int x1)]) rfl ?_
  intro p e s m args below meth c A B
  refine z_iload_n B dX5_isSite_0 1 rfl ?_
  refine z_iconst B (v := 0) dX5_isSite_1 rfl ?_
  refine z_aload_n B dX5_isSite_2 0 rfl ?_
  refine z_get B (v := .int (I 5)) 0 0 5 hiX5_isSite_5 hfX5_isSite_77 rfl rfl rfl (by decide) rfl rfl rfl rfl dX5_isSite_3 ?_
  refine z_iconst B (v := 1) dX5_isSite_6 rfl ?_
  refine z_isub B dX5_isSite_7 ?_
  refine z_S1 B (kX5_in l hl K x1 0 ((I 5) - 1)) [] [0] (br := [zMo K am I R]) (bs' := [zMo K am I R]) (st := []) (nA := 3) (zsp rfl rfl rfl) (zsp rfl rfl rfl) gX5_isSite_X5_in rfl (by decide +kernel) ⟨Nat.le_of_ble_eq_true rfl, Nat.le_of_ble_eq_true rfl⟩ rfl rfl (Nat.le_of_ble_eq_true rfl) ⟨Nat.le_of_ble_eq_true rfl, Nat.le_of_ble_eq_true rfl⟩ dX5_isSite_8 z_noX (fun _ => ?_)
  have hF : fX5_isSite I R x1 = (fX5_in x1 0 ((I 5) - 1)) := rfl
  exact z_ret1 B (z_nz z_in01) dX5_isSite_11 () (trivial) (Nat.le_of_ble_eq_true rfl) (Nat.le_of_ble_eq_true rfl) (by rw [hF]) (by rw [hF])
theorem z_isSite {I : Nat → Int32} {R : Nat → Nat → Int32} {x : Int32} (h5 : ¬ (I 5) < 0) (h6 : (I 5).toNatClampNeg ≤ 4) (h : ¬ fX5_isSite I R x = 0) : vp_in x 4 := by
  obtain ⟨j, hj, ej⟩ := nI_of h5
  rw [ej, nI_clamp hj] at h6
  have e1 : (I 5 - 1).toInt = (j : Int) - 1 := by
    rw [ej]
    rcases (show j = 0 ∨ j = 1 ∨ j = 2 ∨ j = 3 ∨ j = 4 by omega) with rfl | rfl | rfl | rfl | rfl <;> rfl
  have h1 := vp_in_iff.mp (z_inR (N := j) e1 h)
  exact vp_in_iff.mpr ⟨h1.1, by omega⟩
theorem z_ixn {x y : Int32} (hx : vp_in x 4) (hy : vp_in y 16) : vp_in (16 * x + y) 64 := by
  obtain ⟨i, hi, rfl⟩ := vp_in_of hx (by decide)
  obtain ⟨j, hj, rfl⟩ := vp_in_of hy (by decide)
  show vp_in (nI 16 * nI i + nI j) 64
  rw [pk_mul, nI_add]
  exact vp_in_nI (by omega) (by decide)
theorem z_add4 {x : Int32} (h5 : ¬ x < 0) (h6 : x.toNatClampNeg ≤ 4) (h : ¬ x = 4) : vp_in x 4 := by
  obtain ⟨j, hj, rfl⟩ := nI_of h5
  rw [nI_clamp hj] at h6
  refine vp_in_nI ?_ (by decide)
  rcases Nat.lt_or_eq_of_le h6 with q | q
  · exact q
  · subst q
    exact absurd rfl h
def zwZ (R : Nat → Nat → Int32) : Prop := ∀ i, i < 16 → ((R 1) i = 0 ∨ (R 1) i = 1 ∨ (R 1) i = 2) ∧ ((R 1) i = 1 → vp_in ((R 2) i) 16)
def zwC (R : Nat → Nat → Int32) : Prop := ∀ i, i < 64 → (R 6) i = 1 → vp_in ((R 7) i) 16
theorem z_nat {x : Int32} {N : Nat} (h : vp_in x N) : x.toNatClampNeg < N := Nat.not_le.mp fun q => h (Or.inr q)
theorem z_zal {R : Nat → Nat → Int32} {x : Int32} (h : zwZ R) (hx : vp_in x 16) (h0 : ¬ ((R 1) x.toNatClampNeg) = 0) (h2 : ¬ ((R 1) x.toNatClampNeg) = 2) : vp_in ((R 2) x.toNatClampNeg) 16 := (h _ (z_nat hx)).2 (((h _ (z_nat hx)).1.resolve_left h0).resolve_right h2)
def fX5_thrown (I : Nat → Int32) (R : Nat → Nat → Int32) : Int32 :=
  (I 9)
theorem hiX5_thrown_5 : ∀ w ∈ wsX50, w ∈ wsX5_thrown := by decide +kernel
theorem hfX5_thrown_70 : Cond.fieldLink RX5 70 "ResolverFleetModel" "thrown" "I" ∈ wsX5_thrown := by decide +kernel
set_option maxHeartbeats 4000000 in
set_option maxRecDepth 100000 in
theorem kX5_thrown (l : Launch) (hl : l.stackTraces = false) (K : zK) (am : Nat → Nat) (I : Nat → Int32) (R : Nat → Nat → Int32) : zMet l K yX5_thrown wsX5_thrown { frames := 0, cells := 0, slots := 0, locals := 0 } [.ref (am 0)] [zMo K am I R] (some (.int (fX5_thrown I R))) [zMo K am I R] True zNo := by
  refine zMeN.of (cc := cX5_thrown) (maxL := 1) (ret := (some .int)) (own := RX5) (nm := "thrown") hl (by decide +kernel) rfl rfl rfl (Nat.le_of_ble_eq_true rfl) (lv := [(0, .ref (am 0))]) rfl ?_
  intro p e s m args below meth c A B
  refine z_aload_n B dX5_thrown_0 0 rfl ?_
  refine z_get B (v := .int (I 9)) 0 0 9 hiX5_thrown_5 hfX5_thrown_70 rfl rfl rfl (by decide) rfl rfl rfl rfl dX5_thrown_1 ?_
  have hF : fX5_thrown I R = (I 9) := rfl
  exact z_ret1 B rfl dX5_thrown_4 () (trivial) (Nat.le_of_ble_eq_true rfl) (Nat.le_of_ble_eq_true rfl) (by rw [hF]) (by rw [hF])
def fX5_setAddress (I : Nat → Int32) (R : Nat → Nat → Int32) (x1 : Int32) (x2 : Int32) (x3 : Int32) : (Nat → Int32) × (Nat → Nat → Int32) :=
  if (fX5_isName x1) = 0 then
    ((va_up I 9 1), R)
  else
    if (fX5_in x2 1 9999) = 0 then
      ((va_up I 9 2), R)
    else
      if (fX5_in x3 1 1000) = 0 then
        ((va_up I 9 2), R)
      else
        ((va_up I 9 0), (va_up (va_up (va_up R 1 (upd (R 1) x1.toNatClampNeg 0)) 2 (upd (R 2) x1.toNatClampNeg x2)) 3 (upd (R 3) x1.toNatClampNeg x3)))
theorem hiX5_setAddress_5 : ∀ w ∈ wsX50, w ∈ wsX5_setAddress := by decide +kernel
theorem hfX5_setAddress_70 : Cond.fieldLink RX5 70 "ResolverFleetModel" "thrown" "I" ∈ wsX5_setAddress := by decide +kernel
theorem hfX5_setAddress_7 : Cond.fieldLink RX5 7 "ResolverFleetModel" "kinds" "[I" ∈ wsX5_setAddress := by decide +kernel
theorem hfX5_setAddress_13 : Cond.fieldLink RX5 13 "ResolverFleetModel" "values" "[I" ∈ wsX5_setAddress := by decide +kernel
theorem hfX5_setAddress_16 : Cond.fieldLink RX5 16 "ResolverFleetModel" "lives" "[I" ∈ wsX5_setAddress := by decide +kernel
set_option maxHeartbeats 4000000 in
set_option maxRecDepth 100000 in
theorem kX5_setAddress (l : Launch) (hl : l.stackTraces = false) (K : zK) (am : Nat → Nat) (I : Nat → Int32) (R : Nat → Nat → Int32) (x1 : Int32) (x2 : Int32) (x3 : Int32) : zMet l K yX5_setAddress wsX5_setAddress { frames := 2, cells := 0, slots := 0, locals := 42 } [.ref (am 0), .int x1, .int x2, .int x3] [zMo K am I R] none [zMo K am ((fX5_setAddress I R x1 x2 x3).1) ((fX5_setAddress I R x1 x2 x3).2)] True zNo := by
  refine zMeN.of (cc := cX5_setAddress) (maxL := 4) (ret := none) (own := RX5) (nm := "setAddress") hl (by decide +kernel) rfl rfl rfl (Nat.le_of_ble_eq_true rfl) (lv := [(0, .ref (am 0)), (1, .int x1), (2, .int x2), (3, .int x3)]) rfl ?_
  intro p e s m args below meth c A B
  refine z_aload_n B dX5_setAddress_0 0 rfl ?_
  refine z_iload_n B dX5_setAddress_1 1 rfl ?_
  refine z_S1 B (kX5_isName l hl K x1) [] [0] (br := [zMo K am I R]) (bs' := [zMo K am I R]) (st := [.ref (am 0)]) (nA := 1) (zsp rfl rfl rfl) (zsp rfl rfl rfl) gX5_setAddress_X5_isName rfl (by decide +kernel) ⟨Nat.le_of_ble_eq_true rfl, Nat.le_of_ble_eq_true rfl⟩ rfl rfl (Nat.le_of_ble_eq_true rfl) ⟨Nat.le_of_ble_eq_true rfl, Nat.le_of_ble_eq_true rfl⟩ dX5_setAddress_2 z_noX (fun _ => ?_)
  refine z_ifne B 12 dX5_setAddress_5 (by decide) (fun c1 => ?_) (fun c1 => ?_)
  · refine z_iconst B (v := 1) dX5_setAddress_8 rfl ?_
    refine z_goto B (tgt := 39) dX5_setAddress_9 (by decide) ?_
    refine z_put B 0 0 9 hiX5_setAddress_5 hfX5_setAddress_70 tyX5_ok nmX5 rfl rfl rfl (by decide) rfl rfl rfl rfl rfl rfl rfl (Nat.le_of_ble_eq_true rfl) (bs' := [zMo K am (va_up I 9 1) R]) rfl dX5_setAddress_39 ?_
    refine z_aload_n B dX5_setAddress_42 0 rfl ?_
    refine z_get B (v := .int 1) 0 0 9 hiX5_setAddress_5 hfX5_setAddress_70 rfl rfl rfl (by decide) rfl rfl rfl rfl dX5_setAddress_43 ?_
    refine z_ifne B 70 dX5_setAddress_46 (by decide) (fun h => absurd h (by decide)) (fun _ => ?_)
    have hF : fX5_setAddress I R x1 x2 x3 = ((va_up I 9 1), R) := if_pos c1
    exact z_ret0 B dX5_setAddress_70 () (trivial) (Nat.le_of_ble_eq_true rfl) (Nat.le_of_ble_eq_true rfl) rfl (by rw [hF])
  · refine z_iload_n B dX5_setAddress_12 2 rfl ?_
    refine z_iconst B (v := 1) dX5_setAddress_13 rfl ?_
    refine z_sipush B (v := 9999) dX5_setAddress_14 rfl ?_
    refine z_S1 B (kX5_in l hl K x2 1 9999) [] [0] (br := [zMo K am I R]) (bs' := [zMo K am I R]) (st := [.ref (am 0)]) (nA := 3) (zsp rfl rfl rfl) (zsp rfl rfl rfl) gX5_setAddress_X5_in rfl (by decide +kernel) ⟨Nat.le_of_ble_eq_true rfl, Nat.le_of_ble_eq_true rfl⟩ rfl rfl (Nat.le_of_ble_eq_true rfl) ⟨Nat.le_of_ble_eq_true rfl, Nat.le_of_ble_eq_true rfl⟩ dX5_setAddress_17 z_noX (fun _ => ?_)
    refine z_ifeq B 34 dX5_setAddress_20 (by decide) (fun c2 => ?_) (fun c2 => ?_)
    · refine z_iconst B (v := 2) dX5_setAddress_34 rfl ?_
      refine z_goto B (tgt := 39) dX5_setAddress_35 (by decide) ?_
      refine z_put B 0 0 9 hiX5_setAddress_5 hfX5_setAddress_70 tyX5_ok nmX5 rfl rfl rfl (by decide) rfl rfl rfl rfl rfl rfl rfl (Nat.le_of_ble_eq_true rfl) (bs' := [zMo K am (va_up I 9 2) R]) rfl dX5_setAddress_39 ?_
      refine z_aload_n B dX5_setAddress_42 0 rfl ?_
      refine z_get B (v := .int 2) 0 0 9 hiX5_setAddress_5 hfX5_setAddress_70 rfl rfl rfl (by decide) rfl rfl rfl rfl dX5_setAddress_43 ?_
      refine z_ifne B 70 dX5_setAddress_46 (by decide) (fun h => absurd h (by decide)) (fun _ => ?_)
      have hF : fX5_setAddress I R x1 x2 x3 = ((va_up I 9 2), R) := (if_neg c1).trans (if_pos c2)
      exact z_ret0 B dX5_setAddress_70 () (trivial) (Nat.le_of_ble_eq_true rfl) (Nat.le_of_ble_eq_true rfl) rfl (by rw [hF])
    · refine z_iload_n B dX5_setAddress_23 3 rfl ?_
      refine z_iconst B (v := 1) dX5_setAddress_24 rfl ?_
      refine z_sipush B (v := 1000) dX5_setAddress_25 rfl ?_
      refine z_S1 B (kX5_in l hl K x3 1 1000) [] [0] (br := [zMo K am I R]) (bs' := [zMo K am I R]) (st := [.ref (am 0)]) (nA := 3) (zsp rfl rfl rfl) (zsp rfl rfl rfl) gX5_setAddress_X5_in rfl (by decide +kernel) ⟨Nat.le_of_ble_eq_true rfl, Nat.le_of_ble_eq_true rfl⟩ rfl rfl (Nat.le_of_ble_eq_true rfl) ⟨Nat.le_of_ble_eq_true rfl, Nat.le_of_ble_eq_true rfl⟩ dX5_setAddress_28 z_noX (fun _ => ?_)
      refine z_ifne B 38 dX5_setAddress_31 (by decide) (fun c3 => ?_) (fun c3 => ?_)
      · refine z_iconst B (v := 2) dX5_setAddress_34 rfl ?_
        refine z_goto B (tgt := 39) dX5_setAddress_35 (by decide) ?_
        refine z_put B 0 0 9 hiX5_setAddress_5 hfX5_setAddress_70 tyX5_ok nmX5 rfl rfl rfl (by decide) rfl rfl rfl rfl rfl rfl rfl (Nat.le_of_ble_eq_true rfl) (bs' := [zMo K am (va_up I 9 2) R]) rfl dX5_setAddress_39 ?_
        refine z_aload_n B dX5_setAddress_42 0 rfl ?_
        refine z_get B (v := .int 2) 0 0 9 hiX5_setAddress_5 hfX5_setAddress_70 rfl rfl rfl (by decide) rfl rfl rfl rfl dX5_setAddress_43 ?_
        refine z_ifne B 70 dX5_setAddress_46 (by decide) (fun h => absurd h (by decide)) (fun _ => ?_)
        have hF : fX5_setAddress I R x1 x2 x3 = ((va_up I 9 2), R) := (if_neg c1).trans ((if_neg c2).trans (if_pos c3))
        exact z_ret0 B dX5_setAddress_70 () (trivial) (Nat.le_of_ble_eq_true rfl) (Nat.le_of_ble_eq_true rfl) rfl (by rw [hF])
      · refine z_iconst B (v := 0) dX5_setAddress_38 rfl ?_
        refine z_put B 0 0 9 hiX5_setAddress_5 hfX5_setAddress_70 tyX5_ok nmX5 rfl rfl rfl (by decide) rfl rfl rfl rfl rfl rfl rfl (Nat.le_of_ble_eq_true rfl) (bs' := [zMo K am (va_up I 9 0) R]) rfl dX5_setAddress_39 ?_
        refine z_aload_n B dX5_setAddress_42 0 rfl ?_
        refine z_get B (v := .int 0) 0 0 9 hiX5_setAddress_5 hfX5_setAddress_70 rfl rfl rfl (by decide) rfl rfl rfl rfl dX5_setAddress_43 ?_
        refine z_ifne B 70 dX5_setAddress_46 (by decide) (fun _ => ?_) (fun h => absurd (by decide) h)
        refine z_aload_n B dX5_setAddress_49 0 rfl ?_
        refine z_get B (v := .ref (am 1)) 0 0 0 hiX5_setAddress_5 hfX5_setAddress_7 rfl rfl rfl (by decide) rfl rfl rfl rfl dX5_setAddress_50 ?_
        refine z_iload_n B dX5_setAddress_53 1 rfl ?_
        refine z_iconst B (v := 0) dX5_setAddress_54 rfl ?_
        refine z_iast B (N := 16) (f := (R 1)) 0 1 rfl rfl (z_isName c1) (bs' := [zMo K am (va_up I 9 0) (va_up R 1 (upd (R 1) x1.toNatClampNeg 0))]) rfl dX5_setAddress_55 ?_
        refine z_aload_n B dX5_setAddress_56 0 rfl ?_
        refine z_get B (v := .ref (am 2)) 0 0 1 hiX5_setAddress_5 hfX5_setAddress_13 rfl rfl rfl (by decide) rfl rfl rfl rfl dX5_setAddress_57 ?_
        refine z_iload_n B dX5_setAddress_60 1 rfl ?_
        refine z_iload_n B dX5_setAddress_61 2 rfl ?_
        refine z_iast B (N := 16) (f := (R 2)) 0 2 rfl rfl (z_isName c1) (bs' := [zMo K am (va_up I 9 0) (va_up (va_up R 1 (upd (R 1) x1.toNatClampNeg 0)) 2 (upd (R 2) x1.toNatClampNeg x2))]) rfl dX5_setAddress_62 ?_
        refine z_aload_n B dX5_setAddress_63 0 rfl ?_
        refine z_get B (v := .ref (am 3)) 0 0 2 hiX5_setAddress_5 hfX5_setAddress_16 rfl rfl rfl (by decide) rfl rfl rfl rfl dX5_setAddress_64 ?_
        refine z_iload_n B dX5_setAddress_67 1 rfl ?_
        refine z_iload_n B dX5_setAddress_68 3 rfl ?_
        refine z_iast B (N := 16) (f := (R 3)) 0 3 rfl rfl (z_isName c1) (bs' := [zMo K am (va_up I 9 0) (va_up (va_up (va_up R 1 (upd (R 1) x1.toNatClampNeg 0)) 2 (upd (R 2) x1.toNatClampNeg x2)) 3 (upd (R 3) x1.toNatClampNeg x3))]) rfl dX5_setAddress_69 ?_
        have hF : fX5_setAddress I R x1 x2 x3 = ((va_up I 9 0), (va_up (va_up (va_up R 1 (upd (R 1) x1.toNatClampNeg 0)) 2 (upd (R 2) x1.toNatClampNeg x2)) 3 (upd (R 3) x1.toNatClampNeg x3))) := (if_neg c1).trans ((if_neg c2).trans (if_neg c3))
        exact z_ret0 B dX5_setAddress_70 () (trivial) (Nat.le_of_ble_eq_true rfl) (Nat.le_of_ble_eq_true rfl) rfl (by rw [hF])
def fX5_setAlias (I : Nat → Int32) (R : Nat → Nat → Int32) (x1 : Int32) (x2 : Int32) (x3 : Int32) : (Nat → Int32) × (Nat → Nat → Int32) :=
  if (fX5_isName x1) = 0 then
    ((va_up I 9 1), R)
  else
    if (fX5_isName x2) = 0 then
      ((va_up I 9 1), R)
    else
      if x2 = x1 then
        ((va_up I 9 2), R)
      else
        if (fX5_in x3 1 1000) = 0 then
          ((va_up I 9 2), R)
        else
          ((va_up I 9 0), (va_up (va_up (va_up R 1 (upd (R 1) x1.toNatClampNeg 1)) 2 (upd (R 2) x1.toNatClampNeg x2)) 3 (upd (R 3) x1.toNatClampNeg x3)))
theorem hiX5_setAlias_5 : ∀ w ∈ wsX50, w ∈ wsX5_setAlias := by decide +kernel
theorem hfX5_setAlias_70 : Cond.fieldLink RX5 70 "ResolverFleetModel" "thrown" "I" ∈ wsX5_setAlias := by decide +kernel
theorem hfX5_setAlias_7 : Cond.fieldLink RX5 7 "ResolverFleetModel" "kinds" "[I" ∈ wsX5_setAlias := by decide +kernel
theorem hfX5_setAlias_13 : Cond.fieldLink RX5 13 "ResolverFleetModel" "values" "[I" ∈ wsX5_setAlias := by decide +kernel
theorem hfX5_setAlias_16 : Cond.fieldLink RX5 16 "ResolverFleetModel" "lives" "[I" ∈ wsX5_setAlias := by decide +kernel
set_option maxHeartbeats 4000000 in
set_option maxRecDepth 100000 in
theorem kX5_setAlias (l : Launch) (hl : l.stackTraces = false) (K : zK) (am : Nat → Nat) (I : Nat → Int32) (R : Nat → Nat → Int32) (x1 : Int32) (x2 : Int32) (x3 : Int32) : zMet l K yX5_setAlias wsX5_setAlias { frames := 2, cells := 0, slots := 0, locals := 42 } [.ref (am 0), .int x1, .int x2, .int x3] [zMo K am I R] none [zMo K am ((fX5_setAlias I R x1 x2 x3).1) ((fX5_setAlias I R x1 x2 x3).2)] True zNo := by
  refine zMeN.of (cc := cX5_setAlias) (maxL := 4) (ret := none) (own := RX5) (nm := "setAlias") hl (by decide +kernel) rfl rfl rfl (Nat.le_of_ble_eq_true rfl) (lv := [(0, .ref (am 0)), (1, .int x1), (2, .int x2), (3, .int x3)]) rfl ?_
  intro p e s m args below meth c A B
  refine z_aload_n B dX5_setAlias_0 0 rfl ?_
  refine z_iload_n B dX5_setAlias_1 1 rfl ?_
  refine z_S1 B (kX5_isName l hl K x1) [] [0] (br := [zMo K am I R]) (bs' := [zMo K am I R]) (st := [.ref (am 0)]) (nA := 1) (zsp rfl rfl rfl) (zsp rfl rfl rfl) gX5_setAlias_X5_isName rfl (by decide +kernel) ⟨Nat.le_of_ble_eq_true rfl, Nat.le_of_ble_eq_true rfl⟩ rfl rfl (Nat.le_of_ble_eq_true rfl) ⟨Nat.le_of_ble_eq_true rfl, Nat.le_of_ble_eq_true rfl⟩ dX5_setAlias_2 z_noX (fun _ => ?_)
  refine z_ifeq B 15 dX5_setAlias_5 (by decide) (fun c1 => ?_) (fun c1 => ?_)
  · refine z_iconst B (v := 1) dX5_setAlias_15 rfl ?_
    refine z_goto B (tgt := 40) dX5_setAlias_16 (by decide) ?_
    refine z_put B 0 0 9 hiX5_setAlias_5 hfX5_setAlias_70 tyX5_ok nmX5 rfl rfl rfl (by decide) rfl rfl rfl rfl rfl rfl rfl (Nat.le_of_ble_eq_true rfl) (bs' := [zMo K am (va_up I 9 1) R]) rfl dX5_setAlias_40 ?_
    refine z_aload_n B dX5_setAlias_43 0 rfl ?_
    refine z_get B (v := .int 1) 0 0 9 hiX5_setAlias_5 hfX5_setAlias_70 rfl rfl rfl (by decide) rfl rfl rfl rfl dX5_setAlias_44 ?_
    refine z_ifne B 71 dX5_setAlias_47 (by decide) (fun h => absurd h (by decide)) (fun _ => ?_)
    have hF : fX5_setAlias I R x1 x2 x3 = ((va_up I 9 1), R) := if_pos c1
    exact z_ret0 B dX5_setAlias_71 () (trivial) (Nat.le_of_ble_eq_true rfl) (Nat.le_of_ble_eq_true rfl) rfl (by rw [hF])
  · refine z_iload_n B dX5_setAlias_8 2 rfl ?_
    refine z_S1 B (kX5_isName l hl K x2) [] [0] (br := [zMo K am I R]) (bs' := [zMo K am I R]) (st := [.ref (am 0)]) (nA := 1) (zsp rfl rfl rfl) (zsp rfl rfl rfl) gX5_setAlias_X5_isName rfl (by decide +kernel) ⟨Nat.le_of_ble_eq_true rfl, Nat.le_of_ble_eq_true rfl⟩ rfl rfl (Nat.le_of_ble_eq_true rfl) ⟨Nat.le_of_ble_eq_true rfl, Nat.le_of_ble_eq_true rfl⟩ dX5_setAlias_9 z_noX (fun _ => ?_)
    refine z_ifne B 19 dX5_setAlias_12 (by decide) (fun c2 => ?_) (fun c2 => ?_)
    · refine z_iconst B (v := 1) dX5_setAlias_15 rfl ?_
      refine z_goto B (tgt := 40) dX5_setAlias_16 (by decide) ?_
      refine z_put B 0 0 9 hiX5_setAlias_5 hfX5_setAlias_70 tyX5_ok nmX5 rfl rfl rfl (by decide) rfl rfl rfl rfl rfl rfl rfl (Nat.le_of_ble_eq_true rfl) (bs' := [zMo K am (va_up I 9 1) R]) rfl dX5_setAlias_40 ?_
      refine z_aload_n B dX5_setAlias_43 0 rfl ?_
      refine z_get B (v := .int 1) 0 0 9 hiX5_setAlias_5 hfX5_setAlias_70 rfl rfl rfl (by decide) rfl rfl rfl rfl dX5_setAlias_44 ?_
      refine z_ifne B 71 dX5_setAlias_47 (by decide) (fun h => absurd h (by decide)) (fun _ => ?_)
      have hF : fX5_setAlias I R x1 x2 x3 = ((va_up I 9 1), R) := (if_neg c1).trans (if_pos c2)
      exact z_ret0 B dX5_setAlias_71 () (trivial) (Nat.le_of_ble_eq_true rfl) (Nat.le_of_ble_eq_true rfl) rfl (by rw [hF])
    · refine z_iload_n B dX5_setAlias_19 2 rfl ?_
      refine z_iload_n B dX5_setAlias_20 1 rfl ?_
      refine z_iceq B 35 dX5_setAlias_21 (by decide) (fun c3 => ?_) (fun c3 => ?_)
      · refine z_iconst B (v := 2) dX5_setAlias_35 rfl ?_
        refine z_goto B (tgt := 40) dX5_setAlias_36 (by decide) ?_
        refine z_put B 0 0 9 hiX5_setAlias_5 hfX5_setAlias_70 tyX5_ok nmX5 rfl rfl rfl (by decide) rfl rfl rfl rfl rfl rfl rfl (Nat.le_of_ble_eq_true rfl) (bs' := [zMo K am (va_up I 9 2) R]) rfl dX5_setAlias_40 ?_
        refine z_aload_n B dX5_setAlias_43 0 rfl ?_
        refine z_get B (v := .int 2) 0 0 9 hiX5_setAlias_5 hfX5_setAlias_70 rfl rfl rfl (by decide) rfl rfl rfl rfl dX5_setAlias_44 ?_
        refine z_ifne B 71 dX5_setAlias_47 (by decide) (fun h => absurd h (by decide)) (fun _ => ?_)
        have hF : fX5_setAlias I R x1 x2 x3 = ((va_up I 9 2), R) := (if_neg c1).trans ((if_neg c2).trans (if_pos c3))
        exact z_ret0 B dX5_setAlias_71 () (trivial) (Nat.le_of_ble_eq_true rfl) (Nat.le_of_ble_eq_true rfl) rfl (by rw [hF])
      · refine z_iload_n B dX5_setAlias_24 3 rfl ?_
        refine z_iconst B (v := 1) dX5_setAlias_25 rfl ?_
        refine z_sipush B (v := 1000) dX5_setAlias_26 rfl ?_
        refine z_S1 B (kX5_in l hl K x3 1 1000) [] [0] (br := [zMo K am I R]) (bs' := [zMo K am I R]) (st := [.ref (am 0)]) (nA := 3) (zsp rfl rfl rfl) (zsp rfl rfl rfl) gX5_setAlias_X5_in rfl (by decide +kernel) ⟨Nat.le_of_ble_eq_true rfl, Nat.le_of_ble_eq_true rfl⟩ rfl rfl (Nat.le_of_ble_eq_true rfl) ⟨Nat.le_of_ble_eq_true rfl, Nat.le_of_ble_eq_true rfl⟩ dX5_setAlias_29 z_noX (fun _ => ?_)
        refine z_ifne B 39 dX5_setAlias_32 (by decide) (fun c4 => ?_) (fun c4 => ?_)
        · refine z_iconst B (v := 2) dX5_setAlias_35 rfl ?_
          refine z_goto B (tgt := 40) dX5_setAlias_36 (by decide) ?_
          refine z_put B 0 0 9 hiX5_setAlias_5 hfX5_setAlias_70 tyX5_ok nmX5 rfl rfl rfl (by decide) rfl rfl rfl rfl rfl rfl rfl (Nat.le_of_ble_eq_true rfl) (bs' := [zMo K am (va_up I 9 2) R]) rfl dX5_setAlias_40 ?_
          refine z_aload_n B dX5_setAlias_43 0 rfl ?_
          refine z_get B (v := .int 2) 0 0 9 hiX5_setAlias_5 hfX5_setAlias_70 rfl rfl rfl (by decide) rfl rfl rfl rfl dX5_setAlias_44 ?_
          refine z_ifne B 71 dX5_setAlias_47 (by decide) (fun h => absurd h (by decide)) (fun _ => ?_)
          have hF : fX5_setAlias I R x1 x2 x3 = ((va_up I 9 2), R) := (if_neg c1).trans ((if_neg c2).trans ((if_neg c3).trans (if_pos c4)))
          exact z_ret0 B dX5_setAlias_71 () (trivial) (Nat.le_of_ble_eq_true rfl) (Nat.le_of_ble_eq_true rfl) rfl (by rw [hF])
        · refine z_iconst B (v := 0) dX5_setAlias_39 rfl ?_
          refine z_put B 0 0 9 hiX5_setAlias_5 hfX5_setAlias_70 tyX5_ok nmX5 rfl rfl rfl (by decide) rfl rfl rfl rfl rfl rfl rfl (Nat.le_of_ble_eq_true rfl) (bs' := [zMo K am (va_up I 9 0) R]) rfl dX5_setAlias_40 ?_
          refine z_aload_n B dX5_setAlias_43 0 rfl ?_
          refine z_get B (v := .int 0) 0 0 9 hiX5_setAlias_5 hfX5_setAlias_70 rfl rfl rfl (by decide) rfl rfl rfl rfl dX5_setAlias_44 ?_
          refine z_ifne B 71 dX5_setAlias_47 (by decide) (fun _ => ?_) (fun h => absurd (by decide) h)
          refine z_aload_n B dX5_setAlias_50 0 rfl ?_
          refine z_get B (v := .ref (am 1)) 0 0 0 hiX5_setAlias_5 hfX5_setAlias_7 rfl rfl rfl (by decide) rfl rfl rfl rfl dX5_setAlias_51 ?_
          refine z_iload_n B dX5_setAlias_54 1 rfl ?_
          refine z_iconst B (v := 1) dX5_setAlias_55 rfl ?_
          refine z_iast B (N := 16) (f := (R 1)) 0 1 rfl rfl (z_isName c1) (bs' := [zMo K am (va_up I 9 0) (va_up R 1 (upd (R 1) x1.toNatClampNeg 1))]) rfl dX5_setAlias_56 ?_
          refine z_aload_n B dX5_setAlias_57 0 rfl ?_
          refine z_get B (v := .ref (am 2)) 0 0 1 hiX5_setAlias_5 hfX5_setAlias_13 rfl rfl rfl (by decide) rfl rfl rfl rfl dX5_setAlias_58 ?_
          refine z_iload_n B dX5_setAlias_61 1 rfl ?_
          refine z_iload_n B dX5_setAlias_62 2 rfl ?_
          refine z_iast B (N := 16) (f := (R 2)) 0 2 rfl rfl (z_isName c1) (bs' := [zMo K am (va_up I 9 0) (va_up (va_up R 1 (upd (R 1) x1.toNatClampNeg 1)) 2 (upd (R 2) x1.toNatClampNeg x2))]) rfl dX5_setAlias_63 ?_
          refine z_aload_n B dX5_setAlias_64 0 rfl ?_
          refine z_get B (v := .ref (am 3)) 0 0 2 hiX5_setAlias_5 hfX5_setAlias_16 rfl rfl rfl (by decide) rfl rfl rfl rfl dX5_setAlias_65 ?_
          refine z_iload_n B dX5_setAlias_68 1 rfl ?_
          refine z_iload_n B dX5_setAlias_69 3 rfl ?_
          refine z_iast B (N := 16) (f := (R 3)) 0 3 rfl rfl (z_isName c1) (bs' := [zMo K am (va_up I 9 0) (va_up (va_up (va_up R 1 (upd (R 1) x1.toNatClampNeg 1)) 2 (upd (R 2) x1.toNatClampNeg x2)) 3 (upd (R 3) x1.toNatClampNeg x3))]) rfl dX5_setAlias_70 ?_
          have hF : fX5_setAlias I R x1 x2 x3 = ((va_up I 9 0), (va_up (va_up (va_up R 1 (upd (R 1) x1.toNatClampNeg 1)) 2 (upd (R 2) x1.toNatClampNeg x2)) 3 (upd (R 3) x1.toNatClampNeg x3))) := (if_neg c1).trans ((if_neg c2).trans ((if_neg c3).trans (if_neg c4)))
          exact z_ret0 B dX5_setAlias_71 () (trivial) (Nat.le_of_ble_eq_true rfl) (Nat.le_of_ble_eq_true rfl) rfl (by rw [hF])
def fX5_remove (I : Nat → Int32) (R : Nat → Nat → Int32) (x1 : Int32) : Int32 × (Nat → Int32) × (Nat → Nat → Int32) :=
  if (fX5_isName x1) = 0 then
    (0, (va_up I 9 1), R)
  else
    if ((R 1) x1.toNatClampNeg) = 2 then
      (0, (va_up I 9 0), R)
    else
      (1, (va_up I 9 0), (va_up R 1 (upd (R 1) x1.toNatClampNeg 2)))
theorem hiX5_remove_5 : ∀ w ∈ wsX50, w ∈ wsX5_remove := by decide +kernel
theorem hfX5_remove_70 : Cond.fieldLink RX5 70 "ResolverFleetModel" "thrown" "I" ∈ wsX5_remove := by decide +kernel
theorem hfX5_remove_7 : Cond.fieldLink RX5 7 "ResolverFleetModel" "kinds" "[I" ∈ wsX5_remove := by decide +kernel
set_option maxHeartbeats 4000000 in
set_option maxRecDepth 100000 in
theorem kX5_remove (l : Launch) (hl : l.stackTraces = false) (K : zK) (am : Nat → Nat) (I : Nat → Int32) (R : Nat → Nat → Int32) (x1 : Int32) : zMet l K yX5_remove wsX5_remove { frames := 2, cells := 0, slots := 0, locals := 42 } [.ref (am 0), .int x1] [zMo K am I R] (some (.int ((fX5_remove I R x1).1))) [zMo K am ((fX5_remove I R x1).2.1) ((fX5_remove I R x1).2.2)] True zNo := by
  refine zMeN.of (cc := cX5_remove) (maxL := 3) (ret := (some .boolean)) (own := RX5) (nm := "remove") hl (by decide +kernel) rfl rfl rfl (Nat.le_of_ble_eq_true rfl) (lv := [(0, .ref (am 0)), (1, .int x1)]) rfl ?_
  intro p e s m args below meth c A B
  refine z_aload_n B dX5_remove_0 0 rfl ?_
  refine z_iload_n B dX5_remove_1 1 rfl ?_
  refine z_S1 B (kX5_isName l hl K x1) [] [0] (br := [zMo K am I R]) (bs' := [zMo K am I R]) (st := [.ref (am 0)]) (nA := 1) (zsp rfl rfl rfl) (zsp rfl rfl rfl) gX5_remove_X5_isName rfl (by decide +kernel) ⟨Nat.le_of_ble_eq_true rfl, Nat.le_of_ble_eq_true rfl⟩ rfl rfl (Nat.le_of_ble_eq_true rfl) ⟨Nat.le_of_ble_eq_true rfl, Nat.le_of_ble_eq_true rfl⟩ dX5_remove_2 z_noX (fun _ => ?_)
  refine z_ifeq B 12 dX5_remove_5 (by decide) (fun c1 => ?_) (fun c1 => ?_)
  · refine z_iconst B (v := 1) dX5_remove_12 rfl ?_
    refine z_put B 0 0 9 hiX5_remove_5 hfX5_remove_70 tyX5_ok nmX5 rfl rfl rfl (by decide) rfl rfl rfl rfl rfl rfl rfl (Nat.le_of_ble_eq_true rfl) (bs' := [zMo K am (va_up I 9 1) R]) rfl dX5_remove_13 ?_
    refine z_aload_n B dX5_remove_16 0 rfl ?_
    refine z_get B (v := .int 1) 0 0 9 hiX5_remove_5 hfX5_remove_70 rfl rfl rfl (by decide) rfl rfl rfl rfl dX5_remove_17 ?_
    refine z_ifne B 37 dX5_remove_20 (by decide) (fun h => absurd h (by decide)) (fun _ => ?_)
    refine z_iconst B (v := 0) dX5_remove_37 rfl ?_
    refine z_istore_n B (lv' := [(2, .int 0), (0, .ref (am 0)), (1, .int x1)]) dX5_remove_38 (by decide) rfl ?_
    refine z_iload_n B dX5_remove_39 0 rfl ?_
    refine z_ifeq B 50 dX5_remove_40 (by decide) (fun _ => ?_) (fun h => absurd (by decide) h)
    refine z_iload_n B dX5_remove_50 0 rfl ?_
    have hF : fX5_remove I R x1 = (0, (va_up I 9 1), R) := if_pos c1
    exact z_ret1 B rfl dX5_remove_51 () (trivial) (Nat.le_of_ble_eq_true rfl) (Nat.le_of_ble_eq_true rfl) (by rw [hF]) (by rw [hF])
  · refine z_iconst B (v := 0) dX5_remove_8 rfl ?_
    refine z_goto B (tgt := 13) dX5_remove_9 (by decide) ?_
    refine z_put B 0 0 9 hiX5_remove_5 hfX5_remove_70 tyX5_ok nmX5 rfl rfl rfl (by decide) rfl rfl rfl rfl rfl rfl rfl (Nat.le_of_ble_eq_true rfl) (bs' := [zMo K am (va_up I 9 0) R]) rfl dX5_remove_13 ?_
    refine z_aload_n B dX5_remove_16 0 rfl ?_
    refine z_get B (v := .int 0) 0 0 9 hiX5_remove_5 hfX5_remove_70 rfl rfl rfl (by decide) rfl rfl rfl rfl dX5_remove_17 ?_
    refine z_ifne B 37 dX5_remove_20 (by decide) (fun _ => ?_) (fun h => absurd (by decide) h)
    refine z_aload_n B dX5_remove_23 0 rfl ?_
    refine z_get B (v := .ref (am 1)) 0 0 0 hiX5_remove_5 hfX5_remove_7 rfl rfl rfl (by decide) rfl rfl rfl rfl dX5_remove_24 ?_
    refine z_iload_n B dX5_remove_27 1 rfl ?_
    refine z_iald B (N := 16) (f := (R 1)) 0 1 rfl rfl (z_isName c1) dX5_remove_28 ?_
    refine z_iconst B (v := 2) dX5_remove_29 rfl ?_
    refine z_iceq B 37 dX5_remove_30 (by decide) (fun c2 => ?_) (fun c2 => ?_)
    · refine z_iconst B (v := 0) dX5_remove_37 rfl ?_
      refine z_istore_n B (lv' := [(2, .int 0), (0, .ref (am 0)), (1, .int x1)]) dX5_remove_38 (by decide) rfl ?_
      refine z_iload_n B dX5_remove_39 0 rfl ?_
      refine z_ifeq B 50 dX5_remove_40 (by decide) (fun _ => ?_) (fun h => absurd (by decide) h)
      refine z_iload_n B dX5_remove_50 0 rfl ?_
      have hF : fX5_remove I R x1 = (0, (va_up I 9 0), R) := (if_neg c1).trans (if_pos c2)
      exact z_ret1 B rfl dX5_remove_51 () (trivial) (Nat.le_of_ble_eq_true rfl) (Nat.le_of_ble_eq_true rfl) (by rw [hF]) (by rw [hF])
    · refine z_iconst B (v := 1) dX5_remove_33 rfl ?_
      refine z_goto B (tgt := 38) dX5_remove_34 (by decide) ?_
      refine z_istore_n B (lv' := [(2, .int 1), (0, .ref (am 0)), (1, .int x1)]) dX5_remove_38 (by decide) rfl ?_
      refine z_iload_n B dX5_remove_39 0 rfl ?_
      refine z_ifeq B 50 dX5_remove_40 (by decide) (fun h => absurd h (by decide)) (fun _ => ?_)
      refine z_aload_n B dX5_remove_43 1 rfl ?_
      refine z_get B (v := .ref (am 1)) 0 0 0 hiX5_remove_5 hfX5_remove_7 rfl rfl rfl (by decide) rfl rfl rfl rfl dX5_remove_44 ?_
      refine z_iload_n B dX5_remove_47 2 rfl ?_
      refine z_iconst B (v := 2) dX5_remove_48 rfl ?_
      refine z_iast B (N := 16) (f := (R 1)) 0 1 rfl rfl (z_isName c1) (bs' := [zMo K am (va_up I 9 0) (va_up R 1 (upd (R 1) x1.toNatClampNeg 2))]) rfl dX5_remove_49 ?_
      refine z_iload_n B dX5_remove_50 0 rfl ?_
      have hF : fX5_remove I R x1 = (1, (va_up I 9 0), (va_up R 1 (upd (R 1) x1.toNatClampNeg 2))) := (if_neg c1).trans (if_neg c2)
      exact z_ret1 B rfl dX5_remove_51 () (trivial) (Nat.le_of_ble_eq_true rfl) (Nat.le_of_ble_eq_true rfl) (by rw [hF]) (by rw [hF])
def fX5_setBound (I : Nat → Int32) (R : Nat → Nat → Int32) (x1 : Int32) : Int32 × (Nat → Int32) :=
  if (fX5_in x1 1 300) = 0 then
    (0, (va_up I 9 1))
  else
    ((I 3), (va_up (va_up I 3 x1) 9 0))
theorem hiX5_setBound_5 : ∀ w ∈ wsX50, w ∈ wsX5_setBound := by decide +kernel
theorem hfX5_setBound_70 : Cond.fieldLink RX5 70 "ResolverFleetModel" "thrown" "I" ∈ wsX5_setBound := by decide +kernel
theorem hfX5_setBound_59 : Cond.fieldLink RX5 59 "ResolverFleetModel" "bound" "I" ∈ wsX5_setBound := by decide +kernel
set_option maxHeartbeats 4000000 in
set_option maxRecDepth 100000 in
theorem kX5_setBound (l : Launch) (hl : l.stackTraces = false) (K : zK) (am : Nat → Nat) (I : Nat → Int32) (R : Nat → Nat → Int32) (x1 : Int32) : zMet l K yX5_setBound wsX5_setBound { frames := 1, cells := 0, slots := 0, locals := 22 } [.ref (am 0), .int x1] [zMo K am I R] (some (.int ((fX5_setBound I R x1).1))) [zMo K am ((fX5_setBound I R x1).2) R] True zNo := by
  refine zMeN.of (cc := cX5_setBound) (maxL := 3) (ret := (some .int)) (own := RX5) (nm := "setBound") hl (by decide +kernel) rfl rfl rfl (Nat.le_of_ble_eq_true rfl) (lv := [(0, .ref (am 0)), (1, .int x1)]) rfl ?_
  intro p e s m args below meth c A B
  refine z_aload_n B dX5_setBound_0 0 rfl ?_
  refine z_iload_n B dX5_setBound_1 1 rfl ?_
  refine z_iconst B (v := 1) dX5_setBound_2 rfl ?_
  refine z_sipush B (v := 300) dX5_setBound_3 rfl ?_
  refine z_S1 B (kX5_in l hl K x1 1 300) [] [0] (br := [zMo K am I R]) (bs' := [zMo K am I R]) (st := [.ref (am 0)]) (nA := 3) (zsp rfl rfl rfl) (zsp rfl rfl rfl) gX5_setBound_X5_in rfl (by decide +kernel) ⟨Nat.le_of_ble_eq_true rfl, Nat.le_of_ble_eq_true rfl⟩ rfl rfl (Nat.le_of_ble_eq_true rfl) ⟨Nat.le_of_ble_eq_true rfl, Nat.le_of_ble_eq_true rfl⟩ dX5_setBound_6 z_noX (fun _ => ?_)
  refine z_ifeq B 16 dX5_setBound_9 (by decide) (fun c1 => ?_) (fun c1 => ?_)
  · refine z_iconst B (v := 1) dX5_setBound_16 rfl ?_
    refine z_put B 0 0 9 hiX5_setBound_5 hfX5_setBound_70 tyX5_ok nmX5 rfl rfl rfl (by decide) rfl rfl rfl rfl rfl rfl rfl (Nat.le_of_ble_eq_true rfl) (bs' := [zMo K am (va_up I 9 1) R]) rfl dX5_setBound_17 ?_
    refine z_aload_n B dX5_setBound_20 0 rfl ?_
    refine z_get B (v := .int 1) 0 0 9 hiX5_setBound_5 hfX5_setBound_70 rfl rfl rfl (by decide) rfl rfl rfl rfl dX5_setBound_21 ?_
    refine z_ifle B 29 dX5_setBound_24 (by decide) (fun h => absurd h (by decide)) (fun _ => ?_)
    refine z_iconst B (v := 0) dX5_setBound_27 rfl ?_
    have hF : fX5_setBound I R x1 = (0, (va_up I 9 1)) := if_pos c1
    exact z_ret1 B rfl dX5_setBound_28 () (trivial) (Nat.le_of_ble_eq_true rfl) (Nat.le_of_ble_eq_true rfl) (by rw [hF]) (by rw [hF])
  · refine z_iconst B (v := 0) dX5_setBound_12 rfl ?_
    refine z_goto B (tgt := 17) dX5_setBound_13 (by decide) ?_
    refine z_put B 0 0 9 hiX5_setBound_5 hfX5_setBound_70 tyX5_ok nmX5 rfl rfl rfl (by decide) rfl rfl rfl rfl rfl rfl rfl (Nat.le_of_ble_eq_true rfl) (bs' := [zMo K am (va_up I 9 0) R]) rfl dX5_setBound_17 ?_
    refine z_aload_n B dX5_setBound_20 0 rfl ?_
    refine z_get B (v := .int 0) 0 0 9 hiX5_setBound_5 hfX5_setBound_70 rfl rfl rfl (by decide) rfl rfl rfl rfl dX5_setBound_21 ?_
    refine z_ifle B 29 dX5_setBound_24 (by decide) (fun _ => ?_) (fun h => absurd (by decide) h)
    refine z_aload_n B dX5_setBound_29 0 rfl ?_
    refine z_get B (v := .int (I 3)) 0 0 3 hiX5_setBound_5 hfX5_setBound_59 rfl rfl rfl (by decide) rfl rfl rfl rfl dX5_setBound_30 ?_
    refine z_istore_n B (lv' := [(2, .int (I 3)), (0, .ref (am 0)), (1, .int x1)]) dX5_setBound_33 (by decide) rfl ?_
    refine z_aload_n B dX5_setBound_34 1 rfl ?_
    refine z_iload_n B dX5_setBound_35 2 rfl ?_
    refine z_put B 0 0 3 hiX5_setBound_5 hfX5_setBound_59 tyX5_ok nmX5 rfl rfl rfl (by decide) rfl rfl rfl rfl rfl rfl rfl (Nat.le_of_ble_eq_true rfl) (bs' := [zMo K am (va_up (va_up I 3 x1) 9 0) R]) rfl dX5_setBound_36 ?_
    refine z_iload_n B dX5_setBound_39 0 rfl ?_
    have hF : fX5_setBound I R x1 = ((I 3), (va_up (va_up I 3 x1) 9 0)) := if_neg c1
    exact z_ret1 B rfl dX5_setBound_40 () (trivial) (Nat.le_of_ble_eq_true rfl) (Nat.le_of_ble_eq_true rfl) (by rw [hF]) (by rw [hF])
def fX5_setAuthority (I : Nat → Int32) (R : Nat → Nat → Int32) (x1 : Int32) : Int32 × (Nat → Int32) :=
  ((I 4), (va_up (va_up I 4 x1) 9 0))
theorem hiX5_setAuthority_5 : ∀ w ∈ wsX50, w ∈ wsX5_setAuthority := by decide +kernel
theorem hfX5_setAuthority_70 : Cond.fieldLink RX5 70 "ResolverFleetModel" "thrown" "I" ∈ wsX5_setAuthority := by decide +kernel
theorem hfX5_setAuthority_63 : Cond.fieldLink RX5 63 "ResolverFleetModel" "isUp" "Z" ∈ wsX5_setAuthority := by decide +kernel
set_option maxHeartbeats 4000000 in
set_option maxRecDepth 100000 in
theorem kX5_setAuthority (l : Launch) (hl : l.stackTraces = false) (K : zK) (am : Nat → Nat) (I : Nat → Int32) (R : Nat → Nat → Int32) (x1 : Int32) (hx1 : x1 = 0 ∨ x1 = 1) (h4 : (I 4) = 0 ∨ (I 4) = 1) : zMet l K yX5_setAuthority wsX5_setAuthority { frames := 0, cells := 0, slots := 0, locals := 0 } [.ref (am 0), .int x1] [zMo K am I R] (some (.int ((fX5_setAuthority I R x1).1))) [zMo K am ((fX5_setAuthority I R x1).2) R] True zNo := by
  refine zMeN.of (cc := cX5_setAuthority) (maxL := 3) (ret := (some .boolean)) (own := RX5) (nm := "setAuthority") hl (by decide +kernel) rfl rfl rfl (Nat.le_of_ble_eq_true rfl) (lv := [(0, .ref (am 0)), (1, .int x1)]) rfl ?_
  intro p e s m args below meth c A B
  refine z_aload_n B dX5_setAuthority_0 0 rfl ?_
  refine z_iconst B (v := 0) dX5_setAuthority_1 rfl ?_
  refine z_put B 0 0 9 hiX5_setAuthority_5 hfX5_setAuthority_70 tyX5_ok nmX5 rfl rfl rfl (by decide) rfl rfl rfl rfl rfl rfl rfl (Nat.le_of_ble_eq_true rfl) (bs' := [zMo K am (va_up I 9 0) R]) rfl dX5_setAuthority_2 ?_
  refine z_aload_n B dX5_setAuthority_5 0 rfl ?_
  refine z_get B (v := .int (I 4)) 0 0 4 hiX5_setAuthority_5 hfX5_setAuthority_63 rfl rfl rfl (by decide) rfl rfl rfl rfl dX5_setAuthority_6 ?_
  refine z_istore_n B (lv' := [(2, .int (I 4)), (0, .ref (am 0)), (1, .int x1)]) dX5_setAuthority_9 (by decide) rfl ?_
  refine z_aload_n B dX5_setAuthority_10 1 rfl ?_
  refine z_iload_n B dX5_setAuthority_11 2 rfl ?_
  refine z_put B 0 0 4 hiX5_setAuthority_5 hfX5_setAuthority_63 tyX5_ok nmX5 rfl rfl rfl (by decide) rfl rfl rfl rfl rfl (z_nz hx1) (z_fz hx1) (Nat.le_of_ble_eq_true rfl) (bs' := [zMo K am (va_up (va_up I 4 x1) 9 0) R]) rfl dX5_setAuthority_12 ?_
  refine z_iload_n B dX5_setAuthority_15 0 rfl ?_
  have hF : fX5_setAuthority I R x1 = ((I 4), (va_up (va_up I 4 x1) 9 0)) := rfl
  exact z_ret1 B (z_nz h4) dX5_setAuthority_16 () (trivial) (Nat.le_of_ble_eq_true rfl) (Nat.le_of_ble_eq_true rfl) (by rw [hF]) (by rw [hF])
def fX5_truth_L29 (I : Nat → Int32) (R : Nat → Nat → Int32) (x1 : Int32) : Nat → Nat → (Int32) → (Nat → Int32) → Int32 × (Nat → Int32)
  | 0, a, cur, I1 =>
    ((-2), I1)
  | n + 1, a, cur, I1 =>
    if ((R 1) cur.toNatClampNeg) = 0 then
      (((R 2) cur.toNatClampNeg), I1)
    else
      if ((R 1) cur.toNatClampNeg) = 2 then
        ((-1), I1)
      else
        fX5_truth_L29 I R x1 n (a + 1) ((R 2) cur.toNatClampNeg) I1
def fX5_truth (I : Nat → Int32) (R : Nat → Nat → Int32) (x1 : Int32) : Int32 × (Nat → Int32) :=
  if (fX5_isName x1) = 0 then
    (0, (va_up I 9 1))
  else
    fX5_truth_L29 I R x1 5 0 x1 (va_up I 9 0)
theorem hiX5_truth_5 : ∀ w ∈ wsX50, w ∈ wsX5_truth := by decide +kernel
theorem hfX5_truth_70 : Cond.fieldLink RX5 70 "ResolverFleetModel" "thrown" "I" ∈ wsX5_truth := by decide +kernel
theorem hfX5_truth_7 : Cond.fieldLink RX5 7 "ResolverFleetModel" "kinds" "[I" ∈ wsX5_truth := by decide +kernel
theorem hfX5_truth_13 : Cond.fieldLink RX5 13 "ResolverFleetModel" "values" "[I" ∈ wsX5_truth := by decide +kernel
set_option maxHeartbeats 4000000 in
set_option maxRecDepth 100000 in
theorem kX5_truth_L29 (l : Launch) (hl : l.stackTraces = false) (K : zK) (am : Nat → Nat) (I : Nat → Int32) (R : Nat → Nat → Int32) (x1 : Int32) (hZ : zwZ R) {p : Program} {e : Env} {s : State} {m : MethodId} {args : Array Value} {below : List Frame} {meth : Method} {c : Code} {A : Nat → Prop} (B : zF K p l s m args meth c A cX5_truth 4 RX5 "truth" wsX5_truth (some .int) []) : ∀ (n a : Nat) (cur : Int32) (I1 : Nat → Int32), a + n = 5 → (vp_in cur 16) → fX5_truth I R x1 = fX5_truth_L29 I R x1 n a cur I1 → zW K p l e { frames := 2, cells := 0, slots := 0, locals := 42 } s m args below meth c A (vx_MQ below (zQ K A (fun _ : Unit => ((some (.int ((fX5_truth I R x1).1))), [zMo K am ((fX5_truth I R x1).2) R])) (fun _ => True)) (zX K A [zMo K am I R] zNo) args s 0 0 A) 0 0 [zMo K am I1 R] [(0, .ref (am 0)), (2, .int cur), (3, .int (nI a))] [] 29 := by
  intro n
  induction n with
  | zero =>
    intro a cur I1 ha hc hF0
    refine z_iload_n B dX5_truth_29 2 rfl ?_
    refine z_iconst B (v := 4) dX5_truth_30 rfl ?_
    refine z_icgt B 75 dX5_truth_31 (by decide) (fun _ => ?_) (fun h => absurd (z_lgt0 ha (by decide)) h)
    refine z_bipush B (v := (-2)) dX5_truth_75 rfl ?_
    have hF : fX5_truth I R x1 = ((-2), I1) := hF0
    exact z_ret1 B rfl dX5_truth_77 () (trivial) (Nat.le_of_ble_eq_true rfl) (Nat.le_of_ble_eq_true rfl) (by rw [hF]) (by rw [hF])
  | succ n ih =>
    intro a cur I1 ha hc hF0
    refine z_iload_n B dX5_truth_29 2 rfl ?_
    refine z_iconst B (v := 4) dX5_truth_30 rfl ?_
    refine z_icgt B 75 dX5_truth_31 (by decide) (fun h => absurd h (z_lgtS ha (by decide))) (fun _ => ?_)
    refine z_aload_n B dX5_truth_34 0 rfl ?_
    refine z_get B (v := .ref (am 1)) 0 0 0 hiX5_truth_5 hfX5_truth_7 rfl rfl rfl (by decide) rfl rfl rfl rfl dX5_truth_35 ?_
    refine z_iload_n B dX5_truth_38 1 rfl ?_
    refine z_iald B (N := 16) (f := (R 1)) 0 1 rfl rfl hc dX5_truth_39 ?_
    refine z_ifne B 50 dX5_truth_40 (by decide) (fun c2 => ?_) (fun c2 => ?_)
    · refine z_aload_n B dX5_truth_43 0 rfl ?_
      refine z_get B (v := .ref (am 2)) 0 0 1 hiX5_truth_5 hfX5_truth_13 rfl rfl rfl (by decide) rfl rfl rfl rfl dX5_truth_44 ?_
      refine z_iload_n B dX5_truth_47 1 rfl ?_
      refine z_iald B (N := 16) (f := (R 2)) 0 2 rfl rfl hc dX5_truth_48 ?_
      have hF : fX5_truth I R x1 = (((R 2) cur.toNatClampNeg), I1) := (hF0).trans (if_pos c2)
      exact z_ret1 B rfl dX5_truth_49 () (trivial) (Nat.le_of_ble_eq_true rfl) (Nat.le_of_ble_eq_true rfl) (by rw [hF]) (by rw [hF])
    · refine z_aload_n B dX5_truth_50 0 rfl ?_
      refine z_get B (v := .ref (am 1)) 0 0 0 hiX5_truth_5 hfX5_truth_7 rfl rfl rfl (by decide) rfl rfl rfl rfl dX5_truth_51 ?_
      refine z_iload_n B dX5_truth_54 1 rfl ?_
      refine z_iald B (N := 16) (f := (R 1)) 0 1 rfl rfl hc dX5_truth_55 ?_
      refine z_iconst B (v := 2) dX5_truth_56 rfl ?_
      refine z_icne B 62 dX5_truth_57 (by decide) (fun c3 => ?_) (fun c3 => ?_)
      · refine z_iconst B (v := (-1)) dX5_truth_60 rfl ?_
        have hF : fX5_truth I R x1 = ((-1), I1) := (hF0).trans ((if_neg c2).trans (if_pos c3))
        exact z_ret1 B rfl dX5_truth_61 () (trivial) (Nat.le_of_ble_eq_true rfl) (Nat.le_of_ble_eq_true rfl) (by rw [hF]) (by rw [hF])
      · refine z_aload_n B dX5_truth_62 0 rfl ?_
        refine z_get B (v := .ref (am 2)) 0 0 1 hiX5_truth_5 hfX5_truth_13 rfl rfl rfl (by decide) rfl rfl rfl rfl dX5_truth_63 ?_
        refine z_iload_n B dX5_truth_66 1 rfl ?_
        refine z_iald B (N := 16) (f := (R 2)) 0 2 rfl rfl hc dX5_truth_67 ?_
        refine z_istore_n B (lv' := [(2, .int ((R 2) cur.toNatClampNeg)), (0, .ref (am 0)), (3, .int (nI a))]) dX5_truth_68 (by decide) rfl ?_
        refine z_iinc B (v := nI (a + 1)) (lv' := [(3, .int (nI (a + 1))), (2, .int ((R 2) cur.toNatClampNeg)), (0, .ref (am 0))]) dX5_truth_69 2 rfl (nI_1 a) (by decide) rfl ?_
        refine z_goto B (tgt := 29) dX5_truth_72 (by decide) ?_
        refine z_lsub [2, 1, 0] rfl ?_
        have hF : fX5_truth I R x1 = fX5_truth_L29 I R x1 n (a + 1) ((R 2) cur.toNatClampNeg) I1 := (hF0).trans ((if_neg c2).trans (if_neg c3))
        exact ih (a + 1) ((R 2) cur.toNatClampNeg) I1 (by omega) (z_zal hZ hc c2 c3) hF
set_option maxHeartbeats 4000000 in
set_option maxRecDepth 100000 in
theorem kX5_truth (l : Launch) (hl : l.stackTraces = false) (K : zK) (am : Nat → Nat) (I : Nat → Int32) (R : Nat → Nat → Int32) (x1 : Int32) (hZ : zwZ R) : zMet l K yX5_truth wsX5_truth { frames := 2, cells := 0, slots := 0, locals := 42 } [.ref (am 0), .int x1] [zMo K am I R] (some (.int ((fX5_truth I R x1).1))) [zMo K am ((fX5_truth I R x1).2) R] True zNo := by
  refine zMeN.of (cc := cX5_truth) (maxL := 4) (ret := (some .int)) (own := RX5) (nm := "truth") hl (by decide +kernel) rfl rfl rfl (Nat.le_of_ble_eq_true rfl) (lv := [(0, .ref (am 0)), (1, .int x1)]) rfl ?_
  intro p e s m args below meth c A B
  refine z_aload_n B dX5_truth_0 0 rfl ?_
  refine z_iload_n B dX5_truth_1 1 rfl ?_
  refine z_S1 B (kX5_isName l hl K x1) [] [0] (br := [zMo K am I R]) (bs' := [zMo K am I R]) (st := [.ref (am 0)]) (nA := 1) (zsp rfl rfl rfl) (zsp rfl rfl rfl) gX5_truth_X5_isName rfl (by decide +kernel) ⟨Nat.le_of_ble_eq_true rfl, Nat.le_of_ble_eq_true rfl⟩ rfl rfl (Nat.le_of_ble_eq_true rfl) ⟨Nat.le_of_ble_eq_true rfl, Nat.le_of_ble_eq_true rfl⟩ dX5_truth_2 z_noX (fun _ => ?_)
  refine z_ifeq B 12 dX5_truth_5 (by decide) (fun c1 => ?_) (fun c1 => ?_)
  · refine z_iconst B (v := 1) dX5_truth_12 rfl ?_
    refine z_put B 0 0 9 hiX5_truth_5 hfX5_truth_70 tyX5_ok nmX5 rfl rfl rfl (by decide) rfl rfl rfl rfl rfl rfl rfl (Nat.le_of_ble_eq_true rfl) (bs' := [zMo K am (va_up I 9 1) R]) rfl dX5_truth_13 ?_
    refine z_aload_n B dX5_truth_16 0 rfl ?_
    refine z_get B (v := .int 1) 0 0 9 hiX5_truth_5 hfX5_truth_70 rfl rfl rfl (by decide) rfl rfl rfl rfl dX5_truth_17 ?_
    refine z_ifle B 25 dX5_truth_20 (by decide) (fun h => absurd h (by decide)) (fun _ => ?_)
    refine z_iconst B (v := 0) dX5_truth_23 rfl ?_
    have hF : fX5_truth I R x1 = (0, (va_up I 9 1)) := if_pos c1
    exact z_ret1 B rfl dX5_truth_24 () (trivial) (Nat.le_of_ble_eq_true rfl) (Nat.le_of_ble_eq_true rfl) (by rw [hF]) (by rw [hF])
  · refine z_iconst B (v := 0) dX5_truth_8 rfl ?_
    refine z_goto B (tgt := 13) dX5_truth_9 (by decide) ?_
    refine z_put B 0 0 9 hiX5_truth_5 hfX5_truth_70 tyX5_ok nmX5 rfl rfl rfl (by decide) rfl rfl rfl rfl rfl rfl rfl (Nat.le_of_ble_eq_true rfl) (bs' := [zMo K am (va_up I 9 0) R]) rfl dX5_truth_13 ?_
    refine z_aload_n B dX5_truth_16 0 rfl ?_
    refine z_get B (v := .int 0) 0 0 9 hiX5_truth_5 hfX5_truth_70 rfl rfl rfl (by decide) rfl rfl rfl rfl dX5_truth_17 ?_
    refine z_ifle B 25 dX5_truth_20 (by decide) (fun _ => ?_) (fun h => absurd (by decide) h)
    refine z_iload_n B dX5_truth_25 1 rfl ?_
    refine z_istore_n B (lv' := [(2, .int x1), (0, .ref (am 0)), (1, .int x1)]) dX5_truth_26 (by decide) rfl ?_
    refine z_iconst B (v := 0) dX5_truth_27 rfl ?_
    refine z_istore_n B (lv' := [(3, .int 0), (2, .int x1), (0, .ref (am 0)), (1, .int x1)]) dX5_truth_28 (by decide) rfl ?_
    refine z_lsub [2, 1, 0] rfl ?_
    have hF : fX5_truth I R x1 = fX5_truth_L29 I R x1 5 0 x1 (va_up I 9 0) := if_neg c1
    exact kX5_truth_L29 l hl K am I R x1 hZ B 5 0 x1 (va_up I 9 0) (by omega) (z_isName c1) hF
def fX5_addSite (I : Nat → Int32) (R : Nat → Nat → Int32) (x1 : Int32) : Int32 × (Nat → Int32) × (Nat → Nat → Int32) :=
  if (fX5_in x1 0 99) = 0 then
    (0, (va_up I 9 1), R)
  else
    if (I 5) = 4 then
      (0, (va_up I 9 2), R)
    else
      ((((I 5) + 1) - 1), (va_up (va_up I 5 ((I 5) + 1)) 9 0), (va_up (va_up R 4 (upd (R 4) (I 5).toNatClampNeg x1)) 5 (upd (R 5) (I 5).toNatClampNeg 1)))
theorem hiX5_addSite_5 : ∀ w ∈ wsX50, w ∈ wsX5_addSite := by decide +kernel
theorem hfX5_addSite_70 : Cond.fieldLink RX5 70 "ResolverFleetModel" "thrown" "I" ∈ wsX5_addSite := by decide +kernel
theorem hfX5_addSite_77 : Cond.fieldLink RX5 77 "ResolverFleetModel" "siteMany" "I" ∈ wsX5_addSite := by decide +kernel
theorem hfX5_addSite_19 : Cond.fieldLink RX5 19 "ResolverFleetModel" "positions" "[I" ∈ wsX5_addSite := by decide +kernel
theorem hfX5_addSite_22 : Cond.fieldLink RX5 22 "ResolverFleetModel" "isOn" "[Z" ∈ wsX5_addSite := by decide +kernel
set_option maxHeartbeats 4000000 in
set_option maxRecDepth 100000 in
theorem kX5_addSite (l : Launch) (hl : l.stackTraces = false) (K : zK) (am : Nat → Nat) (I : Nat → Int32) (R : Nat → Nat → Int32) (x1 : Int32) (h5 : ¬ (I 5) < 0) (h6 : (I 5).toNatClampNeg ≤ 4) : zMet l K yX5_addSite wsX5_addSite { frames := 1, cells := 0, slots := 0, locals := 22 } [.ref (am 0), .int x1] [zMo K am I R] (some (.int ((fX5_addSite I R x1).1))) [zMo K am ((fX5_addSite I R x1).2.1) ((fX5_addSite I R x1).2.2)] True zNo := by
  refine zMeN.of (cc := cX5_addSite) (maxL := 2) (ret := (some .int)) (own := RX5) (nm := "addSite") hl (by decide +kernel) rfl rfl rfl (Nat.le_of_ble_eq_true rfl) (lv := [(0, .ref (am 0)), (1, .int x1)]) rfl ?_
  intro p e s m args below meth c A B
  refine z_aload_n B dX5_addSite_0 0 rfl ?_
  refine z_iload_n B dX5_addSite_1 1 rfl ?_
  refine z_iconst B (v := 0) dX5_addSite_2 rfl ?_
  refine z_bipush B (v := 99) dX5_addSite_3 rfl ?_
  refine z_S1 B (kX5_in l hl K x1 0 99) [] [0] (br := [zMo K am I R]) (bs' := [zMo K am I R]) (st := [.ref (am 0)]) (nA := 3) (zsp rfl rfl rfl) (zsp rfl rfl rfl) gX5_addSite_X5_in rfl (by decide +kernel) ⟨Nat.le_of_ble_eq_true rfl, Nat.le_of_ble_eq_true rfl⟩ rfl rfl (Nat.le_of_ble_eq_true rfl) ⟨Nat.le_of_ble_eq_true rfl, Nat.le_of_ble_eq_true rfl⟩ dX5_addSite_5 z_noX (fun _ => ?_)
  refine z_ifne B 15 dX5_addSite_8 (by decide) (fun c1 => ?_) (fun c1 => ?_)
  · refine z_iconst B (v := 1) dX5_addSite_11 rfl ?_
    refine z_goto B (tgt := 28) dX5_addSite_12 (by decide) ?_
    refine z_put B 0 0 9 hiX5_addSite_5 hfX5_addSite_70 tyX5_ok nmX5 rfl rfl rfl (by decide) rfl rfl rfl rfl rfl rfl rfl (Nat.le_of_ble_eq_true rfl) (bs' := [zMo K am (va_up I 9 1) R]) rfl dX5_addSite_28 ?_
    refine z_aload_n B dX5_addSite_31 0 rfl ?_
    refine z_get B (v := .int 1) 0 0 9 hiX5_addSite_5 hfX5_addSite_70 rfl rfl rfl (by decide) rfl rfl rfl rfl dX5_addSite_32 ?_
    refine z_ifle B 40 dX5_addSite_35 (by decide) (fun h => absurd h (by decide)) (fun _ => ?_)
    refine z_iconst B (v := 0) dX5_addSite_38 rfl ?_
    have hF : fX5_addSite I R x1 = (0, (va_up I 9 1), R) := if_pos c1
    exact z_ret1 B rfl dX5_addSite_39 () (trivial) (Nat.le_of_ble_eq_true rfl) (Nat.le_of_ble_eq_true rfl) (by rw [hF]) (by rw [hF])
  · refine z_aload_n B dX5_addSite_15 0 rfl ?_
    refine z_get B (v := .int (I 5)) 0 0 5 hiX5_addSite_5 hfX5_addSite_77 rfl rfl rfl (by decide) rfl rfl rfl rfl dX5_addSite_16 ?_
    refine z_iconst B (v := 4) dX5_addSite_19 rfl ?_
    refine z_icne B 27 dX5_addSite_20 (by decide) (fun c2 => ?_) (fun c2 => ?_)
    · refine z_iconst B (v := 2) dX5_addSite_23 rfl ?_
      refine z_goto B (tgt := 28) dX5_addSite_24 (by decide) ?_
      refine z_put B 0 0 9 hiX5_addSite_5 hfX5_addSite_70 tyX5_ok nmX5 rfl rfl rfl (by decide) rfl rfl rfl rfl rfl rfl rfl (Nat.le_of_ble_eq_true rfl) (bs' := [zMo K am (va_up I 9 2) R]) rfl dX5_addSite_28 ?_
      refine z_aload_n B dX5_addSite_31 0 rfl ?_
      refine z_get B (v := .int 2) 0 0 9 hiX5_addSite_5 hfX5_addSite_70 rfl rfl rfl (by decide) rfl rfl rfl rfl dX5_addSite_32 ?_
      refine z_ifle B 40 dX5_addSite_35 (by decide) (fun h => absurd h (by decide)) (fun _ => ?_)
      refine z_iconst B (v := 0) dX5_addSite_38 rfl ?_
      have hF : fX5_addSite I R x1 = (0, (va_up I 9 2), R) := (if_neg c1).trans (if_pos c2)
      exact z_ret1 B rfl dX5_addSite_39 () (trivial) (Nat.le_of_ble_eq_true rfl) (Nat.le_of_ble_eq_true rfl) (by rw [hF]) (by rw [hF])
    · refine z_iconst B (v := 0) dX5_addSite_27 rfl ?_
      refine z_put B 0 0 9 hiX5_addSite_5 hfX5_addSite_70 tyX5_ok nmX5 rfl rfl rfl (by decide) rfl rfl rfl rfl rfl rfl rfl (Nat.le_of_ble_eq_true rfl) (bs' := [zMo K am (va_up I 9 0) R]) rfl dX5_addSite_28 ?_
      refine z_aload_n B dX5_addSite_31 0 rfl ?_
      refine z_get B (v := .int 0) 0 0 9 hiX5_addSite_5 hfX5_addSite_70 rfl rfl rfl (by decide) rfl rfl rfl rfl dX5_addSite_32 ?_
      refine z_ifle B 40 dX5_addSite_35 (by decide) (fun _ => ?_) (fun h => absurd (by decide) h)
      refine z_aload_n B dX5_addSite_40 0 rfl ?_
      refine z_get B (v := .ref (am 4)) 0 0 6 hiX5_addSite_5 hfX5_addSite_19 rfl rfl rfl (by decide) rfl rfl rfl rfl dX5_addSite_41 ?_
      refine z_aload_n B dX5_addSite_44 0 rfl ?_
      refine z_get B (v := .int (I 5)) 0 0 5 hiX5_addSite_5 hfX5_addSite_77 rfl rfl rfl (by decide) rfl rfl rfl rfl dX5_addSite_45 ?_
      refine z_iload_n B dX5_addSite_48 1 rfl ?_
      refine z_iast B (N := 4) (f := (R 4)) 0 4 rfl rfl (z_add4 h5 h6 c2) (bs' := [zMo K am (va_up I 9 0) (va_up R 4 (upd (R 4) (I 5).toNatClampNeg x1))]) rfl dX5_addSite_49 ?_
      refine z_aload_n B dX5_addSite_50 0 rfl ?_
      refine z_get B (v := .ref (am 5)) 0 0 7 hiX5_addSite_5 hfX5_addSite_22 rfl rfl rfl (by decide) rfl rfl rfl rfl dX5_addSite_51 ?_
      refine z_aload_n B dX5_addSite_54 0 rfl ?_
      refine z_get B (v := .int (I 5)) 0 0 5 hiX5_addSite_5 hfX5_addSite_77 rfl rfl rfl (by decide) rfl rfl rfl rfl dX5_addSite_55 ?_
      refine z_iconst B (v := 1) dX5_addSite_58 rfl ?_
      refine z_zast B (N := 4) (f := (R 5)) 0 5 rfl rfl rfl (z_add4 h5 h6 c2) (bs' := [zMo K am (va_up I 9 0) (va_up (va_up R 4 (upd (R 4) (I 5).toNatClampNeg x1)) 5 (upd (R 5) (I 5).toNatClampNeg 1))]) rfl dX5_addSite_59 ?_
      refine z_aload_n B dX5_addSite_60 0 rfl ?_
      refine z_dup B dX5_addSite_61 rfl ?_
      refine z_get B (v := .int (I 5)) 0 0 5 hiX5_addSite_5 hfX5_addSite_77 rfl rfl rfl (by decide) rfl rfl rfl rfl dX5_addSite_62 ?_
      refine z_iconst B (v := 1) dX5_addSite_65 rfl ?_
      refine z_iadd B dX5_addSite_66 ?_
      refine z_put B 0 0 5 hiX5_addSite_5 hfX5_addSite_77 tyX5_ok nmX5 rfl rfl rfl (by decide) rfl rfl rfl rfl rfl rfl rfl (Nat.le_of_ble_eq_true rfl) (bs' := [zMo K am (va_up (va_up I 5 ((I 5) + 1)) 9 0) (va_up (va_up R 4 (upd (R 4) (I 5).toNatClampNeg x1)) 5 (upd (R 5) (I 5).toNatClampNeg 1))]) rfl dX5_addSite_67 ?_
      refine z_aload_n B dX5_addSite_70 0 rfl ?_
      refine z_get B (v := .int ((I 5) + 1)) 0 0 5 hiX5_addSite_5 hfX5_addSite_77 rfl rfl rfl (by decide) rfl rfl rfl rfl dX5_addSite_71 ?_
      refine z_iconst B (v := 1) dX5_addSite_74 rfl ?_
      refine z_isub B dX5_addSite_75 ?_
      have hF : fX5_addSite I R x1 = ((((I 5) + 1) - 1), (va_up (va_up I 5 ((I 5) + 1)) 9 0), (va_up (va_up R 4 (upd (R 4) (I 5).toNatClampNeg x1)) 5 (upd (R 5) (I 5).toNatClampNeg 1))) := (if_neg c1).trans (if_neg c2)
      exact z_ret1 B rfl dX5_addSite_76 () (trivial) (Nat.le_of_ble_eq_true rfl) (Nat.le_of_ble_eq_true rfl) (by rw [hF]) (by rw [hF])
def fX5_announce (I : Nat → Int32) (R : Nat → Nat → Int32) (x1 : Int32) (x2 : Int32) : Int32 × (Nat → Int32) × (Nat → Nat → Int32) :=
  if (fX5_isSite I R x1) = 0 then
    (0, (va_up I 9 1), R)
  else
    (((R 5) x1.toNatClampNeg), (va_up I 9 0), (va_up R 5 (upd (R 5) x1.toNatClampNeg x2)))
theorem hiX5_announce_5 : ∀ w ∈ wsX50, w ∈ wsX5_announce := by decide +kernel
theorem hfX5_announce_70 : Cond.fieldLink RX5 70 "ResolverFleetModel" "thrown" "I" ∈ wsX5_announce := by decide +kernel
theorem hfX5_announce_22 : Cond.fieldLink RX5 22 "ResolverFleetModel" "isOn" "[Z" ∈ wsX5_announce := by decide +kernel
set_option maxHeartbeats 4000000 in
set_option maxRecDepth 100000 in
theorem kX5_announce (l : Launch) (hl : l.stackTraces = false) (K : zK) (am : Nat → Nat) (I : Nat → Int32) (R : Nat → Nat → Int32) (x1 : Int32) (x2 : Int32) (hx2 : x2 = 0 ∨ x2 = 1) (h5 : ¬ (I 5) < 0) (h6 : (I 5).toNatClampNeg ≤ 4) (hon : ∀ i, (R 5) i = 0 ∨ (R 5) i = 1) : zMet l K yX5_announce wsX5_announce { frames := 2, cells := 0, slots := 0, locals := 43 } [.ref (am 0), .int x1, .int x2] [zMo K am I R] (some (.int ((fX5_announce I R x1 x2).1))) [zMo K am ((fX5_announce I R x1 x2).2.1) ((fX5_announce I R x1 x2).2.2)] True zNo := by
  refine zMeN.of (cc := cX5_announce) (maxL := 4) (ret := (some .boolean)) (own := RX5) (nm := "announce") hl (by decide +kernel) rfl rfl rfl (Nat.le_of_ble_eq_true rfl) (lv := [(0, .ref (am 0)), (1, .int x1), (2, .int x2)]) rfl ?_
  intro p e s m args below meth c A B
  refine z_aload_n B dX5_announce_0 0 rfl ?_
  refine z_aload_n B dX5_announce_1 0 rfl ?_
  refine z_iload_n B dX5_announce_2 1 rfl ?_
  refine z_V1 B (kX5_isSite l hl K am I R x1) [0] [] (br := []) (bs' := [zMo K am I R]) (st := [.ref (am 0)]) (nA := 1) (zsp rfl rfl rfl) (zsp rfl rfl rfl) 0 0 rfl rfl rfl rfl gX5_announce_X5_isSite rfl (by decide +kernel) ⟨Nat.le_of_ble_eq_true rfl, Nat.le_of_ble_eq_true rfl⟩ rfl rfl (Nat.le_of_ble_eq_true rfl) ⟨Nat.le_of_ble_eq_true rfl, Nat.le_of_ble_eq_true rfl⟩ dX5_announce_3 z_noX (fun _ => ?_)
  refine z_ifeq B 13 dX5_announce_6 (by decide) (fun c1 => ?_) (fun c1 => ?_)
  · refine z_iconst B (v := 1) dX5_announce_13 rfl ?_
    refine z_put B 0 0 9 hiX5_announce_5 hfX5_announce_70 tyX5_ok nmX5 rfl rfl rfl (by decide) rfl rfl rfl rfl rfl rfl rfl (Nat.le_of_ble_eq_true rfl) (bs' := [zMo K am (va_up I 9 1) R]) rfl dX5_announce_14 ?_
    refine z_aload_n B dX5_announce_17 0 rfl ?_
    refine z_get B (v := .int 1) 0 0 9 hiX5_announce_5 hfX5_announce_70 rfl rfl rfl (by decide) rfl rfl rfl rfl dX5_announce_18 ?_
    refine z_ifle B 26 dX5_announce_21 (by decide) (fun h => absurd h (by decide)) (fun _ => ?_)
    refine z_iconst B (v := 0) dX5_announce_24 rfl ?_
    have hF : fX5_announce I R x1 x2 = (0, (va_up I 9 1), R) := if_pos c1
    exact z_ret1 B rfl dX5_announce_25 () (trivial) (Nat.le_of_ble_eq_true rfl) (Nat.le_of_ble_eq_true rfl) (by rw [hF]) (by rw [hF])
  · refine z_iconst B (v := 0) dX5_announce_9 rfl ?_
    refine z_goto B (tgt := 14) dX5_announce_10 (by decide) ?_
    refine z_put B 0 0 9 hiX5_announce_5 hfX5_announce_70 tyX5_ok nmX5 rfl rfl rfl (by decide) rfl rfl rfl rfl rfl rfl rfl (Nat.le_of_ble_eq_true rfl) (bs' := [zMo K am (va_up I 9 0) R]) rfl dX5_announce_14 ?_
    refine z_aload_n B dX5_announce_17 0 rfl ?_
    refine z_get B (v := .int 0) 0 0 9 hiX5_announce_5 hfX5_announce_70 rfl rfl rfl (by decide) rfl rfl rfl rfl dX5_announce_18 ?_
    refine z_ifle B 26 dX5_announce_21 (by decide) (fun _ => ?_) (fun h => absurd (by decide) h)
    refine z_aload_n B dX5_announce_26 0 rfl ?_
    refine z_get B (v := .ref (am 5)) 0 0 7 hiX5_announce_5 hfX5_announce_22 rfl rfl rfl (by decide) rfl rfl rfl rfl dX5_announce_27 ?_
    refine z_iload_n B dX5_announce_30 1 rfl ?_
    refine z_zald B (N := 4) (f := (R 5)) 0 5 rfl rfl (z_isSite h5 h6 c1) dX5_announce_31 ?_
    refine z_istore_n B (lv' := [(3, .int ((R 5) x1.toNatClampNeg)), (0, .ref (am 0)), (1, .int x1), (2, .int x2)]) dX5_announce_32 (by decide) rfl ?_
    refine z_aload_n B dX5_announce_33 1 rfl ?_
    refine z_get B (v := .ref (am 5)) 0 0 7 hiX5_announce_5 hfX5_announce_22 rfl rfl rfl (by decide) rfl rfl rfl rfl dX5_announce_34 ?_
    refine z_iload_n B dX5_announce_37 2 rfl ?_
    refine z_iload_n B dX5_announce_38 3 rfl ?_
    refine z_zast B (N := 4) (f := (R 5)) 0 5 rfl rfl (z_vn hx2) (z_isSite h5 h6 c1) (bs' := [zMo K am (va_up I 9 0) (va_up R 5 (upd (R 5) x1.toNatClampNeg x2))]) rfl dX5_announce_39 ?_
    refine z_iload_n B dX5_announce_40 0 rfl ?_
    have hF : fX5_announce I R x1 x2 = (((R 5) x1.toNatClampNeg), (va_up I 9 0), (va_up R 5 (upd (R 5) x1.toNatClampNeg x2))) := if_neg c1
    exact z_ret1 B (z_nz (hon _)) dX5_announce_41 () (trivial) (Nat.le_of_ble_eq_true rfl) (Nat.le_of_ble_eq_true rfl) (by rw [hF]) (by rw [hF])
def fX5_nearest_L9 (I : Nat → Int32) (R : Nat → Nat → Int32) (x1 : Int32) : Nat → Nat → (Int32) → (Int32) → Int32
  | 0, a, g, ls =>
    g
  | n + 1, a, g, ls =>
    if x1 ≤ ((R 4) (nI a).toNatClampNeg) then
      if ((R 5) (nI a).toNatClampNeg) = 0 then
        fX5_nearest_L9 I R x1 n (a + 1) g ls
      else
        if ls ≤ (((R 4) (nI a).toNatClampNeg) - x1) then
          fX5_nearest_L9 I R x1 n (a + 1) g ls
        else
          fX5_nearest_L9 I R x1 n (a + 1) (nI a) (((R 4) (nI a).toNatClampNeg) - x1)
    else
      if ((R 5) (nI a).toNatClampNeg) = 0 then
        fX5_nearest_L9 I R x1 n (a + 1) g ls
      else
        if ls ≤ (x1 - ((R 4) (nI a).toNatClampNeg)) then
          fX5_nearest_L9 I R x1 n (a + 1) g ls
        else
          fX5_nearest_L9 I R x1 n (a + 1) (nI a) (x1 - ((R 4) (nI a).toNatClampNeg))
def fX5_nearest (I : Nat → Int32) (R : Nat → Nat → Int32) (x1 : Int32) : Int32 :=
  fX5_nearest_L9 I R x1 ((I 5).toNatClampNeg) 0 (-3) 100
theorem hiX5_nearest_5 : ∀ w ∈ wsX50, w ∈ wsX5_nearest := by decide +kernel
theorem hfX5_nearest_77 : Cond.fieldLink RX5 77 "ResolverFleetModel" "siteMany" "I" ∈ wsX5_nearest := by decide +kernel
theorem hfX5_nearest_19 : Cond.fieldLink RX5 19 "ResolverFleetModel" "positions" "[I" ∈ wsX5_nearest := by decide +kernel
theorem hfX5_nearest_22 : Cond.fieldLink RX5 22 "ResolverFleetModel" "isOn" "[Z" ∈ wsX5_nearest := by decide +kernel
set_option maxHeartbeats 4000000 in
set_option maxRecDepth 100000 in
theorem kX5_nearest_L9 (l : Launch) (hl : l.stackTraces = false) (K : zK) (am : Nat → Nat) (I : Nat → Int32) (R : Nat → Nat → Int32) (x1 : Int32) (h5 : ¬ (I 5) < 0) (h6 : (I 5).toNatClampNeg ≤ 4) {p : Program} {e : Env} {s : State} {m : MethodId} {args : Array Value} {below : List Frame} {meth : Method} {c : Code} {A : Nat → Prop} (B : zF K p l s m args meth c A cX5_nearest 6 RX5 "nearest" wsX5_nearest (some .int) []) : ∀ (n a : Nat) (g : Int32) (ls : Int32), a + n = (I 5).toNatClampNeg → fX5_nearest I R x1 = fX5_nearest_L9 I R x1 n a g ls → zW K p l e { frames := 0, cells := 0, slots := 0, locals := 0 } s m args below meth c A (vx_MQ below (zQ K A (fun _ : Unit => ((some (.int (fX5_nearest I R x1))), [zMo K am I R])) (fun _ => True)) (zX K A [zMo K am I R] zNo) args s 0 0 A) 0 0 [zMo K am I R] [(0, .ref (am 0)), (1, .int x1), (2, .int g), (3, .int ls), (4, .int (nI a))] [] 9 := by
  intro n
  induction n with
  | zero =>
    intro a g ls ha  hF0
    refine z_iload B dX5_nearest_9 4 rfl ?_
    refine z_aload_n B dX5_nearest_11 0 rfl ?_
    refine z_get B (v := .int (I 5)) 0 0 5 hiX5_nearest_5 hfX5_nearest_77 rfl rfl rfl (by decide) rfl rfl rfl rfl dX5_nearest_12 ?_
    refine z_icge B 80 dX5_nearest_15 (by decide) (fun _ => ?_) (fun h => absurd (by rw [z_cl h5]; exact (z_lge0 ha z_clt)) h)
    refine z_iload_n B dX5_nearest_80 2 rfl ?_
    have hF : fX5_nearest I R x1 = g := hF0
    exact z_ret1 B rfl dX5_nearest_81 () (trivial) (Nat.le_of_ble_eq_true rfl) (Nat.le_of_ble_eq_true rfl) (by rw [hF]) (by rw [hF])
  | succ n ih =>
    intro a g ls ha  hF0
    refine z_iload B dX5_nearest_9 4 rfl ?_
    refine z_aload_n B dX5_nearest_11 0 rfl ?_
    refine z_get B (v := .int (I 5)) 0 0 5 hiX5_nearest_5 hfX5_nearest_77 rfl rfl rfl (by decide) rfl rfl rfl rfl dX5_nearest_12 ?_
    refine z_icge B 80 dX5_nearest_15 (by decide) (fun h => absurd h (by rw [z_cl h5]; exact (z_lgeS ha z_clt))) (fun _ => ?_)
    refine z_aload_n B dX5_nearest_18 0 rfl ?_
    refine z_get B (v := .ref (am 4)) 0 0 6 hiX5_nearest_5 hfX5_nearest_19 rfl rfl rfl (by decide) rfl rfl rfl rfl dX5_nearest_19 ?_
    refine z_iload B dX5_nearest_22 4 rfl ?_
    refine z_iald B (N := 4) (f := (R 4)) 0 4 rfl rfl (z_nIr (by omega) (by decide)) dX5_nearest_24 ?_
    refine z_iload_n B dX5_nearest_25 1 rfl ?_
    refine z_icge B 41 dX5_nearest_26 (by decide) (fun c1 => ?_) (fun c1 => ?_)
    · refine z_aload_n B dX5_nearest_41 0 rfl ?_
      refine z_get B (v := .ref (am 4)) 0 0 6 hiX5_nearest_5 hfX5_nearest_19 rfl rfl rfl (by decide) rfl rfl rfl rfl dX5_nearest_42 ?_
      refine z_iload B dX5_nearest_45 4 rfl ?_
      refine z_iald B (N := 4) (f := (R 4)) 0 4 rfl rfl (z_nIr (by omega) (by decide)) dX5_nearest_47 ?_
      refine z_iload_n B dX5_nearest_48 1 rfl ?_
      refine z_isub B dX5_nearest_49 ?_
      refine z_istore B (lv' := [(5, .int (((R 4) (nI a).toNatClampNeg) - x1)), (0, .ref (am 0)), (1, .int x1), (2, .int g), (3, .int ls), (4, .int (nI a))]) dX5_nearest_50 (by decide) rfl ?_
      refine z_aload_n B dX5_nearest_52 1 rfl ?_
      refine z_get B (v := .ref (am 5)) 0 0 7 hiX5_nearest_5 hfX5_nearest_22 rfl rfl rfl (by decide) rfl rfl rfl rfl dX5_nearest_53 ?_
      refine z_iload B dX5_nearest_56 5 rfl ?_
      refine z_zald B (N := 4) (f := (R 5)) 0 5 rfl rfl (z_nIr (by omega) (by decide)) dX5_nearest_58 ?_
      refine z_ifeq B 74 dX5_nearest_59 (by decide) (fun c2 => ?_) (fun c2 => ?_)
      · refine z_iinc B (v := nI (a + 1)) (lv' := [(4, .int (nI (a + 1))), (5, .int (((R 4) (nI a).toNatClampNeg) - x1)), (0, .ref (am 0)), (1, .int x1), (2, .int g), (3, .int ls)]) dX5_nearest_74 5 rfl (nI_1 a) (by decide) rfl ?_
        refine z_goto B (tgt := 9) dX5_nearest_77 (by decide) ?_
        refine z_lsub [2, 3, 4, 5, 0] rfl ?_
        have hF : fX5_nearest I R x1 = fX5_nearest_L9 I R x1 n (a + 1) g ls := (hF0).trans ((if_pos c1).trans (if_pos c2))
        exact ih (a + 1) g ls (by omega)  hF
      · refine z_iload B dX5_nearest_62 0 rfl ?_
        refine z_iload_n B dX5_nearest_64 4 rfl ?_
        refine z_icge B 74 dX5_nearest_65 (by decide) (fun c3 => ?_) (fun c3 => ?_)
        · refine z_iinc B (v := nI (a + 1)) (lv' := [(4, .int (nI (a + 1))), (5, .int (((R 4) (nI a).toNatClampNeg) - x1)), (0, .ref (am 0)), (1, .int x1), (2, .int g), (3, .int ls)]) dX5_nearest_74 5 rfl (nI_1 a) (by decide) rfl ?_
          refine z_goto B (tgt := 9) dX5_nearest_77 (by decide) ?_
          refine z_lsub [2, 3, 4, 5, 0] rfl ?_
          have hF : fX5_nearest I R x1 = fX5_nearest_L9 I R x1 n (a + 1) g ls := (hF0).trans ((if_pos c1).trans ((if_neg c2).trans (if_pos c3)))
          exact ih (a + 1) g ls (by omega)  hF
        · refine z_iload B dX5_nearest_68 5 rfl ?_
          refine z_istore_n B (lv' := [(2, .int (nI a)), (5, .int (((R 4) (nI a).toNatClampNeg) - x1)), (0, .ref (am 0)), (1, .int x1), (3, .int ls), (4, .int (nI a))]) dX5_nearest_70 (by decide) rfl ?_
          refine z_iload B dX5_nearest_71 1 rfl ?_
          refine z_istore_n B (lv' := [(3, .int (((R 4) (nI a).toNatClampNeg) - x1)), (2, .int (nI a)), (5, .int (((R 4) (nI a).toNatClampNeg) - x1)), (0, .ref (am 0)), (1, .int x1), (4, .int (nI a))]) dX5_nearest_73 (by decide) rfl ?_
          refine z_iinc B (v := nI (a + 1)) (lv' := [(4, .int (nI (a + 1))), (3, .int (((R 4) (nI a).toNatClampNeg) - x1)), (2, .int (nI a)), (5, .int (((R 4) (nI a).toNatClampNeg) - x1)), (0, .ref (am 0)), (1, .int x1)]) dX5_nearest_74 5 rfl (nI_1 a) (by decide) rfl ?_
          refine z_goto B (tgt := 9) dX5_nearest_77 (by decide) ?_
          refine z_lsub [4, 5, 2, 1, 0] rfl ?_
          have hF : fX5_nearest I R x1 = fX5_nearest_L9 I R x1 n (a + 1) (nI a) (((R 4) (nI a).toNatClampNeg) - x1) := (hF0).trans ((if_pos c1).trans ((if_neg c2).trans (if_neg c3)))
          exact ih (a + 1) (nI a) (((R 4) (nI a).toNatClampNeg) - x1) (by omega)  hF
    · refine z_iload_n B dX5_nearest_29 1 rfl ?_
      refine z_aload_n B dX5_nearest_30 0 rfl ?_
      refine z_get B (v := .ref (am 4)) 0 0 6 hiX5_nearest_5 hfX5_nearest_19 rfl rfl rfl (by decide) rfl rfl rfl rfl dX5_nearest_31 ?_
      refine z_iload B dX5_nearest_34 4 rfl ?_
      refine z_iald B (N := 4) (f := (R 4)) 0 4 rfl rfl (z_nIr (by omega) (by decide)) dX5_nearest_36 ?_
      refine z_isub B dX5_nearest_37 ?_
      refine z_goto B (tgt := 50) dX5_nearest_38 (by decide) ?_
      refine z_istore B (lv' := [(5, .int (x1 - ((R 4) (nI a).toNatClampNeg))), (0, .ref (am 0)), (1, .int x1), (2, .int g), (3, .int ls), (4, .int (nI a))]) dX5_nearest_50 (by decide) rfl ?_
      refine z_aload_n B dX5_nearest_52 1 rfl ?_
      refine z_get B (v := .ref (am 5)) 0 0 7 hiX5_nearest_5 hfX5_nearest_22 rfl rfl rfl (by decide) rfl rfl rfl rfl dX5_nearest_53 ?_
      refine z_iload B dX5_nearest_56 5 rfl ?_
      refine z_zald B (N := 4) (f := (R 5)) 0 5 rfl rfl (z_nIr (by omega) (by decide)) dX5_nearest_58 ?_
      refine z_ifeq B 74 dX5_nearest_59 (by decide) (fun c4 => ?_) (fun c4 => ?_)
      · refine z_iinc B (v := nI (a + 1)) (lv' := [(4, .int (nI (a + 1))), (5, .int (x1 - ((R 4) (nI a).toNatClampNeg))), (0, .ref (am 0)), (1, .int x1), (2, .int g), (3, .int ls)]) dX5_nearest_74 5 rfl (nI_1 a) (by decide) rfl ?_
        refine z_goto B (tgt := 9) dX5_nearest_77 (by decide) ?_
        refine z_lsub [2, 3, 4, 5, 0] rfl ?_
        have hF : fX5_nearest I R x1 = fX5_nearest_L9 I R x1 n (a + 1) g ls := (hF0).trans ((if_neg c1).trans (if_pos c4))
        exact ih (a + 1) g ls (by omega)  hF
      · refine z_iload B dX5_nearest_62 0 rfl ?_
        refine z_iload_n B dX5_nearest_64 4 rfl ?_
        refine z_icge B 74 dX5_nearest_65 (by decide) (fun c5 => ?_) (fun c5 => ?_)
        · refine z_iinc B (v := nI (a + 1)) (lv' := [(4, .int (nI (a + 1))), (5, .int (x1 - ((R 4) (nI a).toNatClampNeg))), (0, .ref (am 0)), (1, .int x1), (2, .int g), (3, .int ls)]) dX5_nearest_74 5 rfl (nI_1 a) (by decide) rfl ?_
          refine z_goto B (tgt := 9) dX5_nearest_77 (by decide) ?_
          refine z_lsub [2, 3, 4, 5, 0] rfl ?_
          have hF : fX5_nearest I R x1 = fX5_nearest_L9 I R x1 n (a + 1) g ls := (hF0).trans ((if_neg c1).trans ((if_neg c4).trans (if_pos c5)))
          exact ih (a + 1) g ls (by omega)  hF
        · refine z_iload B dX5_nearest_68 5 rfl ?_
          refine z_istore_n B (lv' := [(2, .int (nI a)), (5, .int (x1 - ((R 4) (nI a).toNatClampNeg))), (0, .ref (am 0)), (1, .int x1), (3, .int ls), (4, .int (nI a))]) dX5_nearest_70 (by decide) rfl ?_
          refine z_iload B dX5_nearest_71 1 rfl ?_
          refine z_istore_n B (lv' := [(3, .int (x1 - ((R 4) (nI a).toNatClampNeg))), (2, .int (nI a)), (5, .int (x1 - ((R 4) (nI a).toNatClampNeg))), (0, .ref (am 0)), (1, .int x1), (4, .int (nI a))]) dX5_nearest_73 (by decide) rfl ?_
          refine z_iinc B (v := nI (a + 1)) (lv' := [(4, .int (nI (a + 1))), (3, .int (x1 - ((R 4) (nI a).toNatClampNeg))), (2, .int (nI a)), (5, .int (x1 - ((R 4) (nI a).toNatClampNeg))), (0, .ref (am 0)), (1, .int x1)]) dX5_nearest_74 5 rfl (nI_1 a) (by decide) rfl ?_
          refine z_goto B (tgt := 9) dX5_nearest_77 (by decide) ?_
          refine z_lsub [4, 5, 2, 1, 0] rfl ?_
          have hF : fX5_nearest I R x1 = fX5_nearest_L9 I R x1 n (a + 1) (nI a) (x1 - ((R 4) (nI a).toNatClampNeg)) := (hF0).trans ((if_neg c1).trans ((if_neg c4).trans (if_neg c5)))
          exact ih (a + 1) (nI a) (x1 - ((R 4) (nI a).toNatClampNeg)) (by omega)  hF
set_option maxHeartbeats 4000000 in
set_option maxRecDepth 100000 in
theorem kX5_nearest (l : Launch) (hl : l.stackTraces = false) (K : zK) (am : Nat → Nat) (I : Nat → Int32) (R : Nat → Nat → Int32) (x1 : Int32) (h5 : ¬ (I 5) < 0) (h6 : (I 5).toNatClampNeg ≤ 4) : zMet l K yX5_nearest wsX5_nearest { frames := 0, cells := 0, slots := 0, locals := 0 } [.ref (am 0), .int x1] [zMo K am I R] (some (.int (fX5_nearest I R x1))) [zMo K am I R] True zNo := by
  refine zMeN.of (cc := cX5_nearest) (maxL := 6) (ret := (some .int)) (own := RX5) (nm := "nearest") hl (by decide +kernel) rfl rfl rfl (Nat.le_of_ble_eq_true rfl) (lv := [(0, .ref (am 0)), (1, .int x1)]) rfl ?_
  intro p e s m args below meth c A B
  refine z_bipush B (v := (-3)) dX5_nearest_0 rfl ?_
  refine z_istore_n B (lv' := [(2, .int (-3)), (0, .ref (am 0)), (1, .int x1)]) dX5_nearest_2 (by decide) rfl ?_
  refine z_bipush B (v := 100) dX5_nearest_3 rfl ?_
  refine z_istore_n B (lv' := [(3, .int 100), (2, .int (-3)), (0, .ref (am 0)), (1, .int x1)]) dX5_nearest_5 (by decide) rfl ?_
  refine z_iconst B (v := 0) dX5_nearest_6 rfl ?_
  refine z_istore B (lv' := [(4, .int 0), (3, .int 100), (2, .int (-3)), (0, .ref (am 0)), (1, .int x1)]) dX5_nearest_7 (by decide) rfl ?_
  refine z_lsub [3, 4, 2, 1, 0] rfl ?_
  have hF : fX5_nearest I R x1 = fX5_nearest_L9 I R x1 ((I 5).toNatClampNeg) 0 (-3) 100 := rfl
  exact kX5_nearest_L9 l hl K am I R x1 h5 h6 B ((I 5).toNatClampNeg) 0 (-3) 100 (by omega)  hF
def fX5_siteFor (I : Nat → Int32) (R : Nat → Nat → Int32) (x1 : Int32) : Int32 × (Nat → Int32) :=
  if (fX5_in x1 0 99) = 0 then
    (0, (va_up I 9 1))
  else
    ((fX5_nearest (va_up I 9 0) R x1), (va_up I 9 0))
theorem hiX5_siteFor_5 : ∀ w ∈ wsX50, w ∈ wsX5_siteFor := by decide +kernel
theorem hfX5_siteFor_70 : Cond.fieldLink RX5 70 "ResolverFleetModel" "thrown" "I" ∈ wsX5_siteFor := by decide +kernel
set_option maxHeartbeats 4000000 in
set_option maxRecDepth 100000 in
theorem kX5_siteFor (l : Launch) (hl : l.stackTraces = false) (K : zK) (am : Nat → Nat) (I : Nat → Int32) (R : Nat → Nat → Int32) (x1 : Int32) (h5 : ¬ (I 5) < 0) (h6 : (I 5).toNatClampNeg ≤ 4) : zMet l K yX5_siteFor wsX5_siteFor { frames := 1, cells := 0, slots := 0, locals := 25 } [.ref (am 0), .int x1] [zMo K am I R] (some (.int ((fX5_siteFor I R x1).1))) [zMo K am ((fX5_siteFor I R x1).2) R] True zNo := by
  refine zMeN.of (cc := cX5_siteFor) (maxL := 2) (ret := (some .int)) (own := RX5) (nm := "siteFor") hl (by decide +kernel) rfl rfl rfl (Nat.le_of_ble_eq_true rfl) (lv := [(0, .ref (am 0)), (1, .int x1)]) rfl ?_
  intro p e s m args below meth c A B
  refine z_aload_n B dX5_siteFor_0 0 rfl ?_
  refine z_iload_n B dX5_siteFor_1 1 rfl ?_
  refine z_iconst B (v := 0) dX5_siteFor_2 rfl ?_
  refine z_bipush B (v := 99) dX5_siteFor_3 rfl ?_
  refine z_S1 B (kX5_in l hl K x1 0 99) [] [0] (br := [zMo K am I R]) (bs' := [zMo K am I R]) (st := [.ref (am 0)]) (nA := 3) (zsp rfl rfl rfl) (zsp rfl rfl rfl) gX5_siteFor_X5_in rfl (by decide +kernel) ⟨Nat.le_of_ble_eq_true rfl, Nat.le_of_ble_eq_true rfl⟩ rfl rfl (Nat.le_of_ble_eq_true rfl) ⟨Nat.le_of_ble_eq_true rfl, Nat.le_of_ble_eq_true rfl⟩ dX5_siteFor_5 z_noX (fun _ => ?_)
  refine z_ifeq B 15 dX5_siteFor_8 (by decide) (fun c1 => ?_) (fun c1 => ?_)
  · refine z_iconst B (v := 1) dX5_siteFor_15 rfl ?_
    refine z_put B 0 0 9 hiX5_siteFor_5 hfX5_siteFor_70 tyX5_ok nmX5 rfl rfl rfl (by decide) rfl rfl rfl rfl rfl rfl rfl (Nat.le_of_ble_eq_true rfl) (bs' := [zMo K am (va_up I 9 1) R]) rfl dX5_siteFor_16 ?_
    refine z_aload_n B dX5_siteFor_19 0 rfl ?_
    refine z_get B (v := .int 1) 0 0 9 hiX5_siteFor_5 hfX5_siteFor_70 rfl rfl rfl (by decide) rfl rfl rfl rfl dX5_siteFor_20 ?_
    refine z_ifne B 34 dX5_siteFor_23 (by decide) (fun h => absurd h (by decide)) (fun _ => ?_)
    refine z_iconst B (v := 0) dX5_siteFor_34 rfl ?_
    have hF : fX5_siteFor I R x1 = (0, (va_up I 9 1)) := if_pos c1
    exact z_ret1 B rfl dX5_siteFor_35 () (trivial) (Nat.le_of_ble_eq_true rfl) (Nat.le_of_ble_eq_true rfl) (by rw [hF]) (by rw [hF])
  · refine z_iconst B (v := 0) dX5_siteFor_11 rfl ?_
    refine z_goto B (tgt := 16) dX5_siteFor_12 (by decide) ?_
    refine z_put B 0 0 9 hiX5_siteFor_5 hfX5_siteFor_70 tyX5_ok nmX5 rfl rfl rfl (by decide) rfl rfl rfl rfl rfl rfl rfl (Nat.le_of_ble_eq_true rfl) (bs' := [zMo K am (va_up I 9 0) R]) rfl dX5_siteFor_16 ?_
    refine z_aload_n B dX5_siteFor_19 0 rfl ?_
    refine z_get B (v := .int 0) 0 0 9 hiX5_siteFor_5 hfX5_siteFor_70 rfl rfl rfl (by decide) rfl rfl rfl rfl dX5_siteFor_20 ?_
    refine z_ifne B 34 dX5_siteFor_23 (by decide) (fun _ => ?_) (fun h => absurd (by decide) h)
    refine z_aload_n B dX5_siteFor_26 0 rfl ?_
    refine z_iload_n B dX5_siteFor_27 1 rfl ?_
    refine z_V1 B (kX5_nearest l hl K am (va_up I 9 0) R x1 h5 h6) [0] [] (br := []) (bs' := [zMo K am (va_up I 9 0) R]) (st := []) (nA := 1) (zsp rfl rfl rfl) (zsp rfl rfl rfl) 0 0 rfl rfl rfl rfl gX5_siteFor_X5_nearest rfl (by decide +kernel) ⟨Nat.le_of_ble_eq_true rfl, Nat.le_of_ble_eq_true rfl⟩ rfl rfl (Nat.le_of_ble_eq_true rfl) ⟨Nat.le_of_ble_eq_true rfl, Nat.le_of_ble_eq_true rfl⟩ dX5_siteFor_28 z_noX (fun _ => ?_)
    refine z_goto B (tgt := 35) dX5_siteFor_31 (by decide) ?_
    have hF : fX5_siteFor I R x1 = ((fX5_nearest (va_up I 9 0) R x1), (va_up I 9 0)) := if_neg c1
    exact z_ret1 B rfl dX5_siteFor_35 () (trivial) (Nat.le_of_ble_eq_true rfl) (Nat.le_of_ble_eq_true rfl) (by rw [hF]) (by rw [hF])
def fX5_pass (I : Nat → Int32) (R : Nat → Nat → Int32) (x1 : Int32) : Int32 × (Nat → Int32) :=
  if (fX5_in x1 1 1000) = 0 then
    (0, (va_up I 9 1))
  else
    (((I 8) + x1), (va_up (va_up I 8 ((I 8) + x1)) 9 0))
theorem hiX5_pass_5 : ∀ w ∈ wsX50, w ∈ wsX5_pass := by decide +kernel
theorem hfX5_pass_70 : Cond.fieldLink RX5 70 "ResolverFleetModel" "thrown" "I" ∈ wsX5_pass := by decide +kernel
theorem hfX5_pass_95 : Cond.fieldLink RX5 95 "ResolverFleetModel" "now" "I" ∈ wsX5_pass := by decide +kernel
set_option maxHeartbeats 4000000 in
set_option maxRecDepth 100000 in
theorem kX5_pass (l : Launch) (hl : l.stackTraces = false) (K : zK) (am : Nat → Nat) (I : Nat → Int32) (R : Nat → Nat → Int32) (x1 : Int32) : zMet l K yX5_pass wsX5_pass { frames := 1, cells := 0, slots := 0, locals := 22 } [.ref (am 0), .int x1] [zMo K am I R] (some (.int ((fX5_pass I R x1).1))) [zMo K am ((fX5_pass I R x1).2) R] True zNo := by
  refine zMeN.of (cc := cX5_pass) (maxL := 2) (ret := (some .int)) (own := RX5) (nm := "pass") hl (by decide +kernel) rfl rfl rfl (Nat.le_of_ble_eq_true rfl) (lv := [(0, .ref (am 0)), (1, .int x1)]) rfl ?_
  intro p e s m args below meth c A B
  refine z_aload_n B dX5_pass_0 0 rfl ?_
  refine z_iload_n B dX5_pass_1 1 rfl ?_
  refine z_iconst B (v := 1) dX5_pass_2 rfl ?_
  refine z_sipush B (v := 1000) dX5_pass_3 rfl ?_
  refine z_S1 B (kX5_in l hl K x1 1 1000) [] [0] (br := [zMo K am I R]) (bs' := [zMo K am I R]) (st := [.ref (am 0)]) (nA := 3) (zsp rfl rfl rfl) (zsp rfl rfl rfl) gX5_pass_X5_in rfl (by decide +kernel) ⟨Nat.le_of_ble_eq_true rfl, Nat.le_of_ble_eq_true rfl⟩ rfl rfl (Nat.le_of_ble_eq_true rfl) ⟨Nat.le_of_ble_eq_true rfl, Nat.le_of_ble_eq_true rfl⟩ dX5_pass_6 z_noX (fun _ => ?_)
  refine z_ifeq B 16 dX5_pass_9 (by decide) (fun c1 => ?_) (fun c1 => ?_)
  · refine z_iconst B (v := 1) dX5_pass_16 rfl ?_
    refine z_put B 0 0 9 hiX5_pass_5 hfX5_pass_70 tyX5_ok nmX5 rfl rfl rfl (by decide) rfl rfl rfl rfl rfl rfl rfl (Nat.le_of_ble_eq_true rfl) (bs' := [zMo K am (va_up I 9 1) R]) rfl dX5_pass_17 ?_
    refine z_aload_n B dX5_pass_20 0 rfl ?_
    refine z_get B (v := .int 1) 0 0 9 hiX5_pass_5 hfX5_pass_70 rfl rfl rfl (by decide) rfl rfl rfl rfl dX5_pass_21 ?_
    refine z_ifle B 29 dX5_pass_24 (by decide) (fun h => absurd h (by decide)) (fun _ => ?_)
    refine z_iconst B (v := 0) dX5_pass_27 rfl ?_
    have hF : fX5_pass I R x1 = (0, (va_up I 9 1)) := if_pos c1
    exact z_ret1 B rfl dX5_pass_28 () (trivial) (Nat.le_of_ble_eq_true rfl) (Nat.le_of_ble_eq_true rfl) (by rw [hF]) (by rw [hF])
  · refine z_iconst B (v := 0) dX5_pass_12 rfl ?_
    refine z_goto B (tgt := 17) dX5_pass_13 (by decide) ?_
    refine z_put B 0 0 9 hiX5_pass_5 hfX5_pass_70 tyX5_ok nmX5 rfl rfl rfl (by decide) rfl rfl rfl rfl rfl rfl rfl (Nat.le_of_ble_eq_true rfl) (bs' := [zMo K am (va_up I 9 0) R]) rfl dX5_pass_17 ?_
    refine z_aload_n B dX5_pass_20 0 rfl ?_
    refine z_get B (v := .int 0) 0 0 9 hiX5_pass_5 hfX5_pass_70 rfl rfl rfl (by decide) rfl rfl rfl rfl dX5_pass_21 ?_
    refine z_ifle B 29 dX5_pass_24 (by decide) (fun _ => ?_) (fun h => absurd (by decide) h)
    refine z_aload_n B dX5_pass_29 0 rfl ?_
    refine z_dup B dX5_pass_30 rfl ?_
    refine z_get B (v := .int (I 8)) 0 0 8 hiX5_pass_5 hfX5_pass_95 rfl rfl rfl (by decide) rfl rfl rfl rfl dX5_pass_31 ?_
    refine z_iload_n B dX5_pass_34 1 rfl ?_
    refine z_iadd B dX5_pass_35 ?_
    refine z_put B 0 0 8 hiX5_pass_5 hfX5_pass_95 tyX5_ok nmX5 rfl rfl rfl (by decide) rfl rfl rfl rfl rfl rfl rfl (Nat.le_of_ble_eq_true rfl) (bs' := [zMo K am (va_up (va_up I 8 ((I 8) + x1)) 9 0) R]) rfl dX5_pass_36 ?_
    refine z_aload_n B dX5_pass_39 0 rfl ?_
    refine z_get B (v := .int ((I 8) + x1)) 0 0 8 hiX5_pass_5 hfX5_pass_95 rfl rfl rfl (by decide) rfl rfl rfl rfl dX5_pass_40 ?_
    have hF : fX5_pass I R x1 = (((I 8) + x1), (va_up (va_up I 8 ((I 8) + x1)) 9 0)) := if_neg c1
    exact z_ret1 B rfl dX5_pass_43 () (trivial) (Nat.le_of_ble_eq_true rfl) (Nat.le_of_ble_eq_true rfl) (by rw [hF]) (by rw [hF])
def fX5_time (I : Nat → Int32) (R : Nat → Nat → Int32) : Int32 × (Nat → Int32) :=
  ((I 8), (va_up I 9 0))
theorem hiX5_time_5 : ∀ w ∈ wsX50, w ∈ wsX5_time := by decide +kernel
theorem hfX5_time_70 : Cond.fieldLink RX5 70 "ResolverFleetModel" "thrown" "I" ∈ wsX5_time := by decide +kernel
theorem hfX5_time_95 : Cond.fieldLink RX5 95 "ResolverFleetModel" "now" "I" ∈ wsX5_time := by decide +kernel
set_option maxHeartbeats 4000000 in
set_option maxRecDepth 100000 in
theorem kX5_time (l : Launch) (hl : l.stackTraces = false) (K : zK) (am : Nat → Nat) (I : Nat → Int32) (R : Nat → Nat → Int32) : zMet l K yX5_time wsX5_time { frames := 0, cells := 0, slots := 0, locals := 0 } [.ref (am 0)] [zMo K am I R] (some (.int ((fX5_time I R).1))) [zMo K am ((fX5_time I R).2) R] True zNo := by
  refine zMeN.of (cc := cX5_time) (maxL := 1) (ret := (some .int)) (own := RX5) (nm := "time") hl (by decide +kernel) rfl rfl rfl (Nat.le_of_ble_eq_true rfl) (lv := [(0, .ref (am 0))]) rfl ?_
  intro p e s m args below meth c A B
  refine z_aload_n B dX5_time_0 0 rfl ?_
  refine z_iconst B (v := 0) dX5_time_1 rfl ?_
  refine z_put B 0 0 9 hiX5_time_5 hfX5_time_70 tyX5_ok nmX5 rfl rfl rfl (by decide) rfl rfl rfl rfl rfl rfl rfl (Nat.le_of_ble_eq_true rfl) (bs' := [zMo K am (va_up I 9 0) R]) rfl dX5_time_2 ?_
  refine z_aload_n B dX5_time_5 0 rfl ?_
  refine z_get B (v := .int (I 8)) 0 0 8 hiX5_time_5 hfX5_time_95 rfl rfl rfl (by decide) rfl rfl rfl rfl dX5_time_6 ?_
  have hF : fX5_time I R = ((I 8), (va_up I 9 0)) := rfl
  exact z_ret1 B rfl dX5_time_9 () (trivial) (Nat.le_of_ble_eq_true rfl) (Nat.le_of_ble_eq_true rfl) (by rw [hF]) (by rw [hF])
def fX5_lastSite (I : Nat → Int32) (R : Nat → Nat → Int32) : Int32 × (Nat → Int32) :=
  ((I 15), (va_up I 9 0))
theorem hiX5_lastSite_5 : ∀ w ∈ wsX50, w ∈ wsX5_lastSite := by decide +kernel
theorem hfX5_lastSite_70 : Cond.fieldLink RX5 70 "ResolverFleetModel" "thrown" "I" ∈ wsX5_lastSite := by decide +kernel
theorem hfX5_lastSite_67 : Cond.fieldLink RX5 67 "ResolverFleetModel" "lastPlace" "I" ∈ wsX5_lastSite := by decide +kernel
set_option maxHeartbeats 4000000 in
set_option maxRecDepth 100000 in
theorem kX5_lastSite (l : Launch) (hl : l.stackTraces = false) (K : zK) (am : Nat → Nat) (I : Nat → Int32) (R : Nat → Nat → Int32) : zMet l K yX5_lastSite wsX5_lastSite { frames := 0, cells := 0, slots := 0, locals := 0 } [.ref (am 0)] [zMo K am I R] (some (.int ((fX5_lastSite I R).1))) [zMo K am ((fX5_lastSite I R).2) R] True zNo := by
  refine zMeN.of (cc := cX5_lastSite) (maxL := 1) (ret := (some .int)) (own := RX5) (nm := "lastSite") hl (by decide +kernel) rfl rfl rfl (Nat.le_of_ble_eq_true rfl) (lv := [(0, .ref (am 0))]) rfl ?_
  intro p e s m args below meth c A B
  refine z_aload_n B dX5_lastSite_0 0 rfl ?_
  refine z_iconst B (v := 0) dX5_lastSite_1 rfl ?_
  refine z_put B 0 0 9 hiX5_lastSite_5 hfX5_lastSite_70 tyX5_ok nmX5 rfl rfl rfl (by decide) rfl rfl rfl rfl rfl rfl rfl (Nat.le_of_ble_eq_true rfl) (bs' := [zMo K am (va_up I 9 0) R]) rfl dX5_lastSite_2 ?_
  refine z_aload_n B dX5_lastSite_5 0 rfl ?_
  refine z_get B (v := .int (I 15)) 0 0 15 hiX5_lastSite_5 hfX5_lastSite_67 rfl rfl rfl (by decide) rfl rfl rfl rfl dX5_lastSite_6 ?_
  have hF : fX5_lastSite I R = ((I 15), (va_up I 9 0)) := rfl
  exact z_ret1 B rfl dX5_lastSite_9 () (trivial) (Nat.le_of_ble_eq_true rfl) (Nat.le_of_ble_eq_true rfl) (by rw [hF]) (by rw [hF])
def fX5_lastLookUps (I : Nat → Int32) (R : Nat → Nat → Int32) : Int32 × (Nat → Int32) :=
  ((I 17), (va_up I 9 0))
theorem hiX5_lastLookUps_5 : ∀ w ∈ wsX50, w ∈ wsX5_lastLookUps := by decide +kernel
theorem hfX5_lastLookUps_70 : Cond.fieldLink RX5 70 "ResolverFleetModel" "thrown" "I" ∈ wsX5_lastLookUps := by decide +kernel
theorem hfX5_lastLookUps_111 : Cond.fieldLink RX5 111 "ResolverFleetModel" "lastMany" "I" ∈ wsX5_lastLookUps := by decide +kernel
set_option maxHeartbeats 4000000 in
set_option maxRecDepth 100000 in
theorem kX5_lastLookUps (l : Launch) (hl : l.stackTraces = false) (K : zK) (am : Nat → Nat) (I : Nat → Int32) (R : Nat → Nat → Int32) : zMet l K yX5_lastLookUps wsX5_lastLookUps { frames := 0, cells := 0, slots := 0, locals := 0 } [.ref (am 0)] [zMo K am I R] (some (.int ((fX5_lastLookUps I R).1))) [zMo K am ((fX5_lastLookUps I R).2) R] True zNo := by
  refine zMeN.of (cc := cX5_lastLookUps) (maxL := 1) (ret := (some .int)) (own := RX5) (nm := "lastLookUps") hl (by decide +kernel) rfl rfl rfl (Nat.le_of_ble_eq_true rfl) (lv := [(0, .ref (am 0))]) rfl ?_
  intro p e s m args below meth c A B
  refine z_aload_n B dX5_lastLookUps_0 0 rfl ?_
  refine z_iconst B (v := 0) dX5_lastLookUps_1 rfl ?_
  refine z_put B 0 0 9 hiX5_lastLookUps_5 hfX5_lastLookUps_70 tyX5_ok nmX5 rfl rfl rfl (by decide) rfl rfl rfl rfl rfl rfl rfl (Nat.le_of_ble_eq_true rfl) (bs' := [zMo K am (va_up I 9 0) R]) rfl dX5_lastLookUps_2 ?_
  refine z_aload_n B dX5_lastLookUps_5 0 rfl ?_
  refine z_get B (v := .int (I 17)) 0 0 17 hiX5_lastLookUps_5 hfX5_lastLookUps_111 rfl rfl rfl (by decide) rfl rfl rfl rfl dX5_lastLookUps_6 ?_
  have hF : fX5_lastLookUps I R = ((I 17), (va_up I 9 0)) := rfl
  exact z_ret1 B rfl dX5_lastLookUps_9 () (trivial) (Nat.le_of_ble_eq_true rfl) (Nat.le_of_ble_eq_true rfl) (by rw [hF]) (by rw [hF])
def fX5_lastFetches (I : Nat → Int32) (R : Nat → Nat → Int32) : Int32 × (Nat → Int32) :=
  ((I 18), (va_up I 9 0))
theorem hiX5_lastFetches_5 : ∀ w ∈ wsX50, w ∈ wsX5_lastFetches := by decide +kernel
theorem hfX5_lastFetches_70 : Cond.fieldLink RX5 70 "ResolverFleetModel" "thrown" "I" ∈ wsX5_lastFetches := by decide +kernel
theorem hfX5_lastFetches_108 : Cond.fieldLink RX5 108 "ResolverFleetModel" "lastFetched" "I" ∈ wsX5_lastFetches := by decide +kernel
set_option maxHeartbeats 4000000 in
set_option maxRecDepth 100000 in
theorem kX5_lastFetches (l : Launch) (hl : l.stackTraces = false) (K : zK) (am : Nat → Nat) (I : Nat → Int32) (R : Nat → Nat → Int32) : zMet l K yX5_lastFetches wsX5_lastFetches { frames := 0, cells := 0, slots := 0, locals := 0 } [.ref (am 0)] [zMo K am I R] (some (.int ((fX5_lastFetches I R).1))) [zMo K am ((fX5_lastFetches I R).2) R] True zNo := by
  refine zMeN.of (cc := cX5_lastFetches) (maxL := 1) (ret := (some .int)) (own := RX5) (nm := "lastFetches") hl (by decide +kernel) rfl rfl rfl (Nat.le_of_ble_eq_true rfl) (lv := [(0, .ref (am 0))]) rfl ?_
  intro p e s m args below meth c A B
  refine z_aload_n B dX5_lastFetches_0 0 rfl ?_
  refine z_iconst B (v := 0) dX5_lastFetches_1 rfl ?_
  refine z_put B 0 0 9 hiX5_lastFetches_5 hfX5_lastFetches_70 tyX5_ok nmX5 rfl rfl rfl (by decide) rfl rfl rfl rfl rfl rfl rfl (Nat.le_of_ble_eq_true rfl) (bs' := [zMo K am (va_up I 9 0) R]) rfl dX5_lastFetches_2 ?_
  refine z_aload_n B dX5_lastFetches_5 0 rfl ?_
  refine z_get B (v := .int (I 18)) 0 0 18 hiX5_lastFetches_5 hfX5_lastFetches_108 rfl rfl rfl (by decide) rfl rfl rfl rfl dX5_lastFetches_6 ?_
  have hF : fX5_lastFetches I R = ((I 18), (va_up I 9 0)) := rfl
  exact z_ret1 B rfl dX5_lastFetches_9 () (trivial) (Nat.le_of_ble_eq_true rfl) (Nat.le_of_ble_eq_true rfl) (by rw [hF]) (by rw [hF])
def fX5_queries (I : Nat → Int32) (R : Nat → Nat → Int32) : Int32 × (Nat → Int32) :=
  ((I 19), (va_up I 9 0))
theorem hiX5_queries_5 : ∀ w ∈ wsX50, w ∈ wsX5_queries := by decide +kernel
theorem hfX5_queries_70 : Cond.fieldLink RX5 70 "ResolverFleetModel" "thrown" "I" ∈ wsX5_queries := by decide +kernel
theorem hfX5_queries_140 : Cond.fieldLink RX5 140 "ResolverFleetModel" "queryMany" "I" ∈ wsX5_queries := by decide +kernel
set_option maxHeartbeats 4000000 in
set_option maxRecDepth 100000 in
theorem kX5_queries (l : Launch) (hl : l.stackTraces = false) (K : zK) (am : Nat → Nat) (I : Nat → Int32) (R : Nat → Nat → Int32) : zMet l K yX5_queries wsX5_queries { frames := 0, cells := 0, slots := 0, locals := 0 } [.ref (am 0)] [zMo K am I R] (some (.int ((fX5_queries I R).1))) [zMo K am ((fX5_queries I R).2) R] True zNo := by
  refine zMeN.of (cc := cX5_queries) (maxL := 1) (ret := (some .int)) (own := RX5) (nm := "queries") hl (by decide +kernel) rfl rfl rfl (Nat.le_of_ble_eq_true rfl) (lv := [(0, .ref (am 0))]) rfl ?_
  intro p e s m args below meth c A B
  refine z_aload_n B dX5_queries_0 0 rfl ?_
  refine z_iconst B (v := 0) dX5_queries_1 rfl ?_
  refine z_put B 0 0 9 hiX5_queries_5 hfX5_queries_70 tyX5_ok nmX5 rfl rfl rfl (by decide) rfl rfl rfl rfl rfl rfl rfl (Nat.le_of_ble_eq_true rfl) (bs' := [zMo K am (va_up I 9 0) R]) rfl dX5_queries_2 ?_
  refine z_aload_n B dX5_queries_5 0 rfl ?_
  refine z_get B (v := .int (I 19)) 0 0 19 hiX5_queries_5 hfX5_queries_140 rfl rfl rfl (by decide) rfl rfl rfl rfl dX5_queries_6 ?_
  have hF : fX5_queries I R = ((I 19), (va_up I 9 0)) := rfl
  exact z_ret1 B rfl dX5_queries_9 () (trivial) (Nat.le_of_ble_eq_true rfl) (Nat.le_of_ble_eq_true rfl) (by rw [hF]) (by rw [hF])
def fX5_fetches (I : Nat → Int32) (R : Nat → Nat → Int32) : Int32 × (Nat → Int32) :=
  ((I 20), (va_up I 9 0))
theorem hiX5_fetches_5 : ∀ w ∈ wsX50, w ∈ wsX5_fetches := by decide +kernel
theorem hfX5_fetches_70 : Cond.fieldLink RX5 70 "ResolverFleetModel" "thrown" "I" ∈ wsX5_fetches := by decide +kernel
theorem hfX5_fetches_105 : Cond.fieldLink RX5 105 "ResolverFleetModel" "fetchMany" "I" ∈ wsX5_fetches := by decide +kernel
set_option maxHeartbeats 4000000 in
set_option maxRecDepth 100000 in
theorem kX5_fetches (l : Launch) (hl : l.stackTraces = false) (K : zK) (am : Nat → Nat) (I : Nat → Int32) (R : Nat → Nat → Int32) : zMet l K yX5_fetches wsX5_fetches { frames := 0, cells := 0, slots := 0, locals := 0 } [.ref (am 0)] [zMo K am I R] (some (.int ((fX5_fetches I R).1))) [zMo K am ((fX5_fetches I R).2) R] True zNo := by
  refine zMeN.of (cc := cX5_fetches) (maxL := 1) (ret := (some .int)) (own := RX5) (nm := "fetches") hl (by decide +kernel) rfl rfl rfl (Nat.le_of_ble_eq_true rfl) (lv := [(0, .ref (am 0))]) rfl ?_
  intro p e s m args below meth c A B
  refine z_aload_n B dX5_fetches_0 0 rfl ?_
  refine z_iconst B (v := 0) dX5_fetches_1 rfl ?_
  refine z_put B 0 0 9 hiX5_fetches_5 hfX5_fetches_70 tyX5_ok nmX5 rfl rfl rfl (by decide) rfl rfl rfl rfl rfl rfl rfl (Nat.le_of_ble_eq_true rfl) (bs' := [zMo K am (va_up I 9 0) R]) rfl dX5_fetches_2 ?_
  refine z_aload_n B dX5_fetches_5 0 rfl ?_
  refine z_get B (v := .int (I 20)) 0 0 20 hiX5_fetches_5 hfX5_fetches_105 rfl rfl rfl (by decide) rfl rfl rfl rfl dX5_fetches_6 ?_
  have hF : fX5_fetches I R = ((I 20), (va_up I 9 0)) := rfl
  exact z_ret1 B rfl dX5_fetches_9 () (trivial) (Nat.le_of_ble_eq_true rfl) (Nat.le_of_ble_eq_true rfl) (by rw [hF]) (by rw [hF])
def fX5_prefetches (I : Nat → Int32) (R : Nat → Nat → Int32) : Int32 × (Nat → Int32) :=
  ((I 21), (va_up I 9 0))
theorem hiX5_prefetches_5 : ∀ w ∈ wsX50, w ∈ wsX5_prefetches := by decide +kernel
theorem hfX5_prefetches_70 : Cond.fieldLink RX5 70 "ResolverFleetModel" "thrown" "I" ∈ wsX5_prefetches := by decide +kernel
theorem hfX5_prefetches_127 : Cond.fieldLink RX5 127 "ResolverFleetModel" "anewMany" "I" ∈ wsX5_prefetches := by decide +kernel
set_option maxHeartbeats 4000000 in
set_option maxRecDepth 100000 in
theorem kX5_prefetches (l : Launch) (hl : l.stackTraces = false) (K : zK) (am : Nat → Nat) (I : Nat → Int32) (R : Nat → Nat → Int32) : zMet l K yX5_prefetches wsX5_prefetches { frames := 0, cells := 0, slots := 0, locals := 0 } [.ref (am 0)] [zMo K am I R] (some (.int ((fX5_prefetches I R).1))) [zMo K am ((fX5_prefetches I R).2) R] True zNo := by
  refine zMeN.of (cc := cX5_prefetches) (maxL := 1) (ret := (some .int)) (own := RX5) (nm := "prefetches") hl (by decide +kernel) rfl rfl rfl (Nat.le_of_ble_eq_true rfl) (lv := [(0, .ref (am 0))]) rfl ?_
  intro p e s m args below meth c A B
  refine z_aload_n B dX5_prefetches_0 0 rfl ?_
  refine z_iconst B (v := 0) dX5_prefetches_1 rfl ?_
  refine z_put B 0 0 9 hiX5_prefetches_5 hfX5_prefetches_70 tyX5_ok nmX5 rfl rfl rfl (by decide) rfl rfl rfl rfl rfl rfl rfl (Nat.le_of_ble_eq_true rfl) (bs' := [zMo K am (va_up I 9 0) R]) rfl dX5_prefetches_2 ?_
  refine z_aload_n B dX5_prefetches_5 0 rfl ?_
  refine z_get B (v := .int (I 21)) 0 0 21 hiX5_prefetches_5 hfX5_prefetches_127 rfl rfl rfl (by decide) rfl rfl rfl rfl dX5_prefetches_6 ?_
  have hF : fX5_prefetches I R = ((I 21), (va_up I 9 0)) := rfl
  exact z_ret1 B rfl dX5_prefetches_9 () (trivial) (Nat.le_of_ble_eq_true rfl) (Nat.le_of_ble_eq_true rfl) (by rw [hF]) (by rw [hF])
def fX5_staleAnswers (I : Nat → Int32) (R : Nat → Nat → Int32) : Int32 × (Nat → Int32) :=
  ((I 22), (va_up I 9 0))
theorem hiX5_staleAnswers_5 : ∀ w ∈ wsX50, w ∈ wsX5_staleAnswers := by decide +kernel
theorem hfX5_staleAnswers_70 : Cond.fieldLink RX5 70 "ResolverFleetModel" "thrown" "I" ∈ wsX5_staleAnswers := by decide +kernel
theorem hfX5_staleAnswers_143 : Cond.fieldLink RX5 143 "ResolverFleetModel" "staleMany" "I" ∈ wsX5_staleAnswers := by decide +kernel
set_option maxHeartbeats 4000000 in
set_option maxRecDepth 100000 in
theorem kX5_staleAnswers (l : Launch) (hl : l.stackTraces = false) (K : zK) (am : Nat → Nat) (I : Nat → Int32) (R : Nat → Nat → Int32) : zMet l K yX5_staleAnswers wsX5_staleAnswers { frames := 0, cells := 0, slots := 0, locals := 0 } [.ref (am 0)] [zMo K am I R] (some (.int ((fX5_staleAnswers I R).1))) [zMo K am ((fX5_staleAnswers I R).2) R] True zNo := by
  refine zMeN.of (cc := cX5_staleAnswers) (maxL := 1) (ret := (some .int)) (own := RX5) (nm := "staleAnswers") hl (by decide +kernel) rfl rfl rfl (Nat.le_of_ble_eq_true rfl) (lv := [(0, .ref (am 0))]) rfl ?_
  intro p e s m args below meth c A B
  refine z_aload_n B dX5_staleAnswers_0 0 rfl ?_
  refine z_iconst B (v := 0) dX5_staleAnswers_1 rfl ?_
  refine z_put B 0 0 9 hiX5_staleAnswers_5 hfX5_staleAnswers_70 tyX5_ok nmX5 rfl rfl rfl (by decide) rfl rfl rfl rfl rfl rfl rfl (Nat.le_of_ble_eq_true rfl) (bs' := [zMo K am (va_up I 9 0) R]) rfl dX5_staleAnswers_2 ?_
  refine z_aload_n B dX5_staleAnswers_5 0 rfl ?_
  refine z_get B (v := .int (I 22)) 0 0 22 hiX5_staleAnswers_5 hfX5_staleAnswers_143 rfl rfl rfl (by decide) rfl rfl rfl rfl dX5_staleAnswers_6 ?_
  have hF : fX5_staleAnswers I R = ((I 22), (va_up I 9 0)) := rfl
  exact z_ret1 B rfl dX5_staleAnswers_9 () (trivial) (Nat.le_of_ble_eq_true rfl) (Nat.le_of_ble_eq_true rfl) (by rw [hF]) (by rw [hF])
def fX5_failures (I : Nat → Int32) (R : Nat → Nat → Int32) : Int32 × (Nat → Int32) :=
  ((I 23), (va_up I 9 0))
theorem hiX5_failures_5 : ∀ w ∈ wsX50, w ∈ wsX5_failures := by decide +kernel
theorem hfX5_failures_70 : Cond.fieldLink RX5 70 "ResolverFleetModel" "thrown" "I" ∈ wsX5_failures := by decide +kernel
theorem hfX5_failures_146 : Cond.fieldLink RX5 146 "ResolverFleetModel" "failMany" "I" ∈ wsX5_failures := by decide +kernel
set_option maxHeartbeats 4000000 in
set_option maxRecDepth 100000 in
theorem kX5_failures (l : Launch) (hl : l.stackTraces = false) (K : zK) (am : Nat → Nat) (I : Nat → Int32) (R : Nat → Nat → Int32) : zMet l K yX5_failures wsX5_failures { frames := 0, cells := 0, slots := 0, locals := 0 } [.ref (am 0)] [zMo K am I R] (some (.int ((fX5_failures I R).1))) [zMo K am ((fX5_failures I R).2) R] True zNo := by
  refine zMeN.of (cc := cX5_failures) (maxL := 1) (ret := (some .int)) (own := RX5) (nm := "failures") hl (by decide +kernel) rfl rfl rfl (Nat.le_of_ble_eq_true rfl) (lv := [(0, .ref (am 0))]) rfl ?_
  intro p e s m args below meth c A B
  refine z_aload_n B dX5_failures_0 0 rfl ?_
  refine z_iconst B (v := 0) dX5_failures_1 rfl ?_
  refine z_put B 0 0 9 hiX5_failures_5 hfX5_failures_70 tyX5_ok nmX5 rfl rfl rfl (by decide) rfl rfl rfl rfl rfl rfl rfl (Nat.le_of_ble_eq_true rfl) (bs' := [zMo K am (va_up I 9 0) R]) rfl dX5_failures_2 ?_
  refine z_aload_n B dX5_failures_5 0 rfl ?_
  refine z_get B (v := .int (I 23)) 0 0 23 hiX5_failures_5 hfX5_failures_146 rfl rfl rfl (by decide) rfl rfl rfl rfl dX5_failures_6 ?_
  have hF : fX5_failures I R = ((I 23), (va_up I 9 0)) := rfl
  exact z_ret1 B rfl dX5_failures_9 () (trivial) (Nat.le_of_ble_eq_true rfl) (Nat.le_of_ble_eq_true rfl) (by rw [hF]) (by rw [hF])
def fX5_lastWasStale (I : Nat → Int32) (R : Nat → Nat → Int32) : Int32 × (Nat → Int32) :=
  ((I 16), (va_up I 9 0))
theorem hiX5_lastWasStale_5 : ∀ w ∈ wsX50, w ∈ wsX5_lastWasStale := by decide +kernel
theorem hfX5_lastWasStale_70 : Cond.fieldLink RX5 70 "ResolverFleetModel" "thrown" "I" ∈ wsX5_lastWasStale := by decide +kernel
theorem hfX5_lastWasStale_121 : Cond.fieldLink RX5 121 "ResolverFleetModel" "lastStale" "Z" ∈ wsX5_lastWasStale := by decide +kernel
set_option maxHeartbeats 4000000 in
set_option maxRecDepth 100000 in
theorem kX5_lastWasStale (l : Launch) (hl : l.stackTraces = false) (K : zK) (am : Nat → Nat) (I : Nat → Int32) (R : Nat → Nat → Int32) (h16 : (I 16) = 0 ∨ (I 16) = 1) : zMet l K yX5_lastWasStale wsX5_lastWasStale { frames := 0, cells := 0, slots := 0, locals := 0 } [.ref (am 0)] [zMo K am I R] (some (.int ((fX5_lastWasStale I R).1))) [zMo K am ((fX5_lastWasStale I R).2) R] True zNo := by
  refine zMeN.of (cc := cX5_lastWasStale) (maxL := 1) (ret := (some .boolean)) (own := RX5) (nm := "lastWasStale") hl (by decide +kernel) rfl rfl rfl (Nat.le_of_ble_eq_true rfl) (lv := [(0, .ref (am 0))]) rfl ?_
  intro p e s m args below meth c A B
  refine z_aload_n B dX5_lastWasStale_0 0 rfl ?_
  refine z_iconst B (v := 0) dX5_lastWasStale_1 rfl ?_
  refine z_put B 0 0 9 hiX5_lastWasStale_5 hfX5_lastWasStale_70 tyX5_ok nmX5 rfl rfl rfl (by decide) rfl rfl rfl rfl rfl rfl rfl (Nat.le_of_ble_eq_true rfl) (bs' := [zMo K am (va_up I 9 0) R]) rfl dX5_lastWasStale_2 ?_
  refine z_aload_n B dX5_lastWasStale_5 0 rfl ?_
  refine z_get B (v := .int (I 16)) 0 0 16 hiX5_lastWasStale_5 hfX5_lastWasStale_121 rfl rfl rfl (by decide) rfl rfl rfl rfl dX5_lastWasStale_6 ?_
  have hF : fX5_lastWasStale I R = ((I 16), (va_up I 9 0)) := rfl
  exact z_ret1 B (z_nz h16) dX5_lastWasStale_9 () (trivial) (Nat.le_of_ble_eq_true rfl) (Nat.le_of_ble_eq_true rfl) (by rw [hF]) (by rw [hF])
