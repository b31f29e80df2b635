def fX4_requireName (x1 : Int32) : Nat :=
  if x1 < 0 then
    1
  else
    if x1 < 16 then
      0
    else
      1
theorem haX4_requireName_219 : ∀ w ∈ (vx_atS RX4 219 "java/lang/IndexOutOfBoundsException" ["java/lang/RuntimeException", "java/lang/Exception"]).filter goodWord, w ∈ wsX4_requireName := by decide +kernel
theorem hgX4_requireName_219 : ∀ w ∈ (vx_atS RX4 219 "java/lang/IndexOutOfBoundsException" ["java/lang/RuntimeException", "java/lang/Exception"]).filter (fun w => !goodWord w), w ∈ zNw := by decide +kernel
theorem hoX4_requireName_219 : ∀ w ∈ Cond.classLink RX4 215 "java/lang/IndexOutOfBoundsException" :: Cond.initialized "java/lang/IndexOutOfBoundsException" :: vx_atS RX4 219 "java/lang/IndexOutOfBoundsException" ["java/lang/RuntimeException", "java/lang/Exception"], vx_ot w = true := by decide +kernel
theorem hwX4_requireName_cl215 : Cond.classLink RX4 215 "java/lang/IndexOutOfBoundsException" ∈ wsX4_requireName := by decide +kernel
theorem hwX4_requireName_ini215 : Cond.initialized "java/lang/IndexOutOfBoundsException" ∈ wsX4_requireName := by decide +kernel
set_option maxHeartbeats 4000000 in
set_option maxRecDepth 100000 in
theorem kX4_requireName (l : Launch) (hl : l.stackTraces = false) (K : zK) (x1 : Int32) : zMet l K yX4_requireName wsX4_requireName { frames := 6, cells := 1, slots := 6, locals := 82 } [.int x1] [] none [] ((fX4_requireName x1) = 0) (fun E => (E = zE1 ∧ (fX4_requireName x1) = 1)) := by
  refine zMeN.of (cc := cX4_requireName) (maxL := 1) (ret := none) (own := RX4) (nm := "requireName") hl (by decide +kernel) rfl rfl rfl (Nat.le_of_ble_eq_true rfl) (lv := [(0, .int x1)]) rfl ?_
  intro p e s m args below meth c A B
  refine z_iload_n B dX4_requireName_0 0 rfl ?_
  refine z_iflt B 10 dX4_requireName_1 (by decide) (fun c1 => ?_) (fun c1 => ?_)
  · have hF : fX4_requireName x1 = 1 := if_pos c1
    exact z_throw B rfl ["java/lang/RuntimeException", "java/lang/Exception"] (by decide +kernel) (by decide +kernel) hwX4_requireName_cl215 hwX4_requireName_ini215 (text := "there is no such name") (by decide +kernel) haX4_requireName_219 hgX4_requireName_219 hoX4_requireName_219 dX4_requireName_10 dX4_requireName_13 dX4_requireName_14 dX4_requireName_16 dX4_requireName_19 (by decide) (Nat.le_of_ble_eq_true rfl) (Nat.le_of_ble_eq_true rfl) (Nat.le_of_ble_eq_true rfl) (⟨rfl, by rw [hF]⟩) (Nat.le_of_ble_eq_true rfl) (Nat.le_of_ble_eq_true rfl)
  · refine z_iload_n B dX4_requireName_4 0 rfl ?_
    refine z_bipush B (v := 16) dX4_requireName_5 rfl ?_
    refine z_iclt B 20 dX4_requireName_7 (by decide) (fun c2 => ?_) (fun c2 => ?_)
    · have hF : fX4_requireName x1 = 0 := (if_neg c1).trans (if_pos c2)
      exact z_ret0 B dX4_requireName_20 () (by rw [hF]) (Nat.le_of_ble_eq_true rfl) (Nat.le_of_ble_eq_true rfl) rfl (by rfl)
    · have hF : fX4_requireName x1 = 1 := (if_neg c1).trans (if_neg c2)
      exact z_throw B rfl ["java/lang/RuntimeException", "java/lang/Exception"] (by decide +kernel) (by decide +kernel) hwX4_requireName_cl215 hwX4_requireName_ini215 (text := "there is no such name") (by decide +kernel) haX4_requireName_219 hgX4_requireName_219 hoX4_requireName_219 dX4_requireName_10 dX4_requireName_13 dX4_requireName_14 dX4_requireName_16 dX4_requireName_19 (by decide) (Nat.le_of_ble_eq_true rfl) (Nat.le_of_ble_eq_true rfl) (Nat.le_of_ble_eq_true rfl) (⟨rfl, by rw [hF]⟩) (Nat.le_of_ble_eq_true rfl) (Nat.le_of_ble_eq_true rfl)
def fX4_requireWithin (x1 : Int32) (x2 : Int32) (x3 : Int32) : Nat :=
  if x1 < x2 then
    2
  else
    if x1 ≤ x3 then
      0
    else
      2
theorem haX4_requireWithin_59 : ∀ w ∈ (vx_atS RX4 59 "java/lang/IllegalArgumentException" ["java/lang/RuntimeException", "java/lang/Exception"]).filter goodWord, w ∈ wsX4_requireWithin := by decide +kernel
theorem hgX4_requireWithin_59 : ∀ w ∈ (vx_atS RX4 59 "java/lang/IllegalArgumentException" ["java/lang/RuntimeException", "java/lang/Exception"]).filter (fun w => !goodWord w), w ∈ zNw := by decide +kernel
theorem hoX4_requireWithin_59 : ∀ w ∈ Cond.classLink RX4 55 "java/lang/IllegalArgumentException" :: Cond.initialized "java/lang/IllegalArgumentException" :: vx_atS RX4 59 "java/lang/IllegalArgumentException" ["java/lang/RuntimeException", "java/lang/Exception"], vx_ot w = true := by decide +kernel
theorem hwX4_requireWithin_cl55 : Cond.classLink RX4 55 "java/lang/IllegalArgumentException" ∈ wsX4_requireWithin := by decide +kernel
theorem hwX4_requireWithin_ini55 : Cond.initialized "java/lang/IllegalArgumentException" ∈ wsX4_requireWithin := by decide +kernel
set_option maxHeartbeats 4000000 in
set_option maxRecDepth 100000 in
theorem kX4_requireWithin (l : Launch) (hl : l.stackTraces = false) (K : zK) (x1 : Int32) (x2 : Int32) (x3 : Int32) : zMet l K yX4_requireWithin wsX4_requireWithin { frames := 6, cells := 1, slots := 6, locals := 82 } [.int x1, .int x2, .int x3] [] none [] ((fX4_requireWithin x1 x2 x3) = 0) (fun E => (E = zE2 ∧ (fX4_requireWithin x1 x2 x3) = 2)) := by
  refine zMeN.of (cc := cX4_requireWithin) (maxL := 3) (ret := none) (own := RX4) (nm := "requireWithin") hl (by decide +kernel) rfl rfl rfl (Nat.le_of_ble_eq_true rfl) (lv := [(0, .int x1), (1, .int x2), (2, .int x3)]) rfl ?_
  intro p e s m args below meth c A B
  refine z_iload_n B dX4_requireWithin_0 0 rfl ?_
  refine z_iload_n B dX4_requireWithin_1 1 rfl ?_
  refine z_iclt B 10 dX4_requireWithin_2 (by decide) (fun c1 => ?_) (fun c1 => ?_)
  · have hF : fX4_requireWithin x1 x2 x3 = 2 := if_pos c1
    exact z_throw B rfl ["java/lang/RuntimeException", "java/lang/Exception"] (by decide +kernel) (by decide +kernel) hwX4_requireWithin_cl55 hwX4_requireWithin_ini55 (text := "an argument is out of its range") (by decide +kernel) haX4_requireWithin_59 hgX4_requireWithin_59 hoX4_requireWithin_59 dX4_requireWithin_10 dX4_requireWithin_13 dX4_requireWithin_14 dX4_requireWithin_16 dX4_requireWithin_19 (by decide) (Nat.le_of_ble_eq_true rfl) (Nat.le_of_ble_eq_true rfl) (Nat.le_of_ble_eq_true rfl) (⟨rfl, by rw [hF]⟩) (Nat.le_of_ble_eq_true rfl) (Nat.le_of_ble_eq_true rfl)
  · refine z_iload_n B dX4_requireWithin_5 0 rfl ?_
    refine z_iload_n B dX4_requireWithin_6 2 rfl ?_
    refine z_icle B 20 dX4_requireWithin_7 (by decide) (fun c2 => ?_) (fun c2 => ?_)
    · have hF : fX4_requireWithin x1 x2 x3 = 0 := (if_neg c1).trans (if_pos c2)
      exact z_ret0 B dX4_requireWithin_20 () (by rw [hF]) (Nat.le_of_ble_eq_true rfl) (Nat.le_of_ble_eq_true rfl) rfl (by rfl)
    · have hF : fX4_requireWithin x1 x2 x3 = 2 := (if_neg c1).trans (if_neg c2)
      exact z_throw B rfl ["java/lang/RuntimeException", "java/lang/Exception"] (by decide +kernel) (by decide +kernel) hwX4_requireWithin_cl55 hwX4_requireWithin_ini55 (text := "an argument is out of its range") (by decide +kernel) haX4_requireWithin_59 hgX4_requireWithin_59 hoX4_requireWithin_59 dX4_requireWithin_10 dX4_requireWithin_13 dX4_requireWithin_14 dX4_requireWithin_16 dX4_requireWithin_19 (by decide) (Nat.le_of_ble_eq_true rfl) (Nat.le_of_ble_eq_true rfl) (Nat.le_of_ble_eq_true rfl) (⟨rfl, by rw [hF]⟩) (Nat.le_of_ble_eq_true rfl) (Nat.le_of_ble_eq_true rfl)
def fX4_fetch_s1 (X : Nat → Int32) (Z : Nat → Nat → Int32) (W : Nat → Int32) (C : Nat → Nat → Int32) (F : Nat → Int32) (O : Nat → Int32) (x1 : Int32) (o1 : (Nat → Nat → Int32)) : (Nat → Nat → Int32) × (Nat → Int32) :=
  (o1, (va_up O 3 ((O 3) + 1)))
def fX4_fetch (X : Nat → Int32) (Z : Nat → Nat → Int32) (W : Nat → Int32) (C : Nat → Nat → Int32) (F : Nat → Int32) (O : Nat → Int32) (x1 : Int32) : (Nat → Nat → Int32) × (Nat → Int32) :=
  fX4_fetch_s1 X Z W C F O x1 (fX0_put C x1 (fX3_kindOf Z W x1) (fX3_valueOf Z W x1) (fX3_lifeOf Z W x1) (X 3))
theorem hiX4_fetch_4 : ∀ w ∈ wsX40, w ∈ wsX4_fetch := by decide +kernel
theorem hfX4_fetch_10 : Cond.fieldLink RX4 10 "ResolverFleet" "zone" "LResolverFleet$Zone;" ∈ wsX4_fetch := by decide +kernel
theorem hfX4_fetch_108 : Cond.fieldLink RX4 108 "ResolverFleet" "now" "I" ∈ wsX4_fetch := by decide +kernel
theorem hiX4_fetch_1 : ∀ w ∈ wsX10, w ∈ wsX4_fetch := by decide +kernel
theorem hfX4_fetch_139 : Cond.fieldLink RX4 139 "ResolverFleet$Course" "fetches" "I" ∈ wsX4_fetch := by decide +kernel
set_option maxHeartbeats 4000000 in
set_option maxRecDepth 100000 in
theorem kX4_fetch (l : Launch) (hl : l.stackTraces = false) (K : zK) (ax : Nat) (az : Nat → Nat) (sa : Nat) (la : Nat) (tr : Nat) (tc : Nat) (X : Nat → Int32) (Z : Nat → Nat → Int32) (W : Nat → Int32) (ac : Nat → Nat) (C : Nat → Nat → Int32) (ak : Nat → Nat) (F : Nat → Int32) (O : Nat → Int32) (x1 : Int32) : zMet l K yX4_fetch wsX4_fetch { frames := 3, cells := 0, slots := 0, locals := 67 } [.ref ax, .ref (ac 0), .int x1, .ref (ak 0)] [zXo ax (az 0) sa la tr tc X, zZo K az Z W, zCa K ac C, zCo K ak F O] none [zXo ax (az 0) sa la tr tc X, zZo K az Z W, zCa K ac ((fX4_fetch X Z W C F O x1).1), zCo K ak F ((fX4_fetch X Z W C F O x1).2)] True zNo := by
  refine zMeN.of (cc := cX4_fetch) (maxL := 4) (ret := none) (own := RX4) (nm := "fetch") hl (by decide +kernel) rfl rfl rfl (Nat.le_of_ble_eq_true rfl) (lv := [(0, .ref ax), (1, .ref (ac 0)), (2, .int x1), (3, .ref (ak 0))]) rfl ?_
  intro p e s m args below meth c A B
  refine z_aload_n B dX4_fetch_0 1 rfl ?_
  refine z_iload_n B dX4_fetch_1 2 rfl ?_
  refine z_aload_n B dX4_fetch_2 0 rfl ?_
  refine z_get B (v := .ref (az 0)) 0 0 0 hiX4_fetch_4 hfX4_fetch_10 rfl rfl rfl (by decide) rfl rfl rfl rfl dX4_fetch_3 ?_
  refine z_iload_n B dX4_fetch_6 2 rfl ?_
  refine z_V1 B (kX3_kindOf l hl K az Z W x1) [1] [0, 2, 3] (br := [zXo ax (az 0) sa la tr tc X, zCa K ac C, zCo K ak F O]) (bs' := [zXo ax (az 0) sa la tr tc X, zZo K az Z W, zCa K ac C, zCo K ak F O]) (st := [.int x1, .ref (ac 0)]) (nA := 1) (zsp rfl rfl rfl) (zsp rfl rfl rfl) 1 0 rfl rfl rfl rfl gX4_fetch_X3_kindOf rfl (by decide +kernel) ⟨Nat.le_of_ble_eq_true rfl, Nat.le_of_ble_eq_true rfl⟩ rfl rfl (Nat.le_of_ble_eq_true rfl) ⟨Nat.le_of_ble_eq_true rfl, Nat.le_of_ble_eq_true rfl⟩ dX4_fetch_7 z_noX (fun _ => ?_)
  refine z_aload_n B dX4_fetch_10 0 rfl ?_
  refine z_get B (v := .ref (az 0)) 0 0 0 hiX4_fetch_4 hfX4_fetch_10 rfl rfl rfl (by decide) rfl rfl rfl rfl dX4_fetch_11 ?_
  refine z_iload_n B dX4_fetch_14 2 rfl ?_
  refine z_V1 B (kX3_valueOf l hl K az Z W x1) [1] [0, 2, 3] (br := [zXo ax (az 0) sa la tr tc X, zCa K ac C, zCo K ak F O]) (bs' := [zXo ax (az 0) sa la tr tc X, zZo K az Z W, zCa K ac C, zCo K ak F O]) (st := [.int (fX3_kindOf Z W x1), .int x1, .ref (ac 0)]) (nA := 1) (zsp rfl rfl rfl) (zsp rfl rfl rfl) 1 0 rfl rfl rfl rfl gX4_fetch_X3_valueOf rfl (by decide +kernel) ⟨Nat.le_of_ble_eq_true rfl, Nat.le_of_ble_eq_true rfl⟩ rfl rfl (Nat.le_of_ble_eq_true rfl) ⟨Nat.le_of_ble_eq_true rfl, Nat.le_of_ble_eq_true rfl⟩ dX4_fetch_15 z_noX (fun _ => ?_)
  refine z_aload_n B dX4_fetch_18 0 rfl ?_
  refine z_get B (v := .ref (az 0)) 0 0 0 hiX4_fetch_4 hfX4_fetch_10 rfl rfl rfl (by decide) rfl rfl rfl rfl dX4_fetch_19 ?_
  refine z_iload_n B dX4_fetch_22 2 rfl ?_
  refine z_V1 B (kX3_lifeOf l hl K az Z W x1) [1] [0, 2, 3] (br := [zXo ax (az 0) sa la tr tc X, zCa K ac C, zCo K ak F O]) (bs' := [zXo ax (az 0) sa la tr tc X, zZo K az Z W, zCa K ac C, zCo K ak F O]) (st := [.int (fX3_valueOf Z W x1), .int (fX3_kindOf Z W x1), .int x1, .ref (ac 0)]) (nA := 1) (zsp rfl rfl rfl) (zsp rfl rfl rfl) 1 0 rfl rfl rfl rfl gX4_fetch_X3_lifeOf rfl (by decide +kernel) ⟨Nat.le_of_ble_eq_true rfl, Nat.le_of_ble_eq_true rfl⟩ rfl rfl (Nat.le_of_ble_eq_true rfl) ⟨Nat.le_of_ble_eq_true rfl, Nat.le_of_ble_eq_true rfl⟩ dX4_fetch_23 z_noX (fun _ => ?_)
  refine z_aload_n B dX4_fetch_26 0 rfl ?_
  refine z_get B (v := .int (X 3)) 0 0 3 hiX4_fetch_4 hfX4_fetch_108 rfl rfl rfl (by decide) rfl rfl rfl rfl dX4_fetch_27 ?_
  refine z_V0 B (kX0_put l hl K ac C x1 (fX3_kindOf Z W x1) (fX3_valueOf Z W x1) (fX3_lifeOf Z W x1) (X 3)) [2] [0, 1, 3] (br := [zXo ax (az 0) sa la tr tc X, zZo K az Z W, zCo K ak F O]) (bs' := [zXo ax (az 0) sa la tr tc X, zZo K az Z W, zCa K ac (fX0_put C x1 (fX3_kindOf Z W x1) (fX3_valueOf Z W x1) (fX3_lifeOf Z W x1) (X 3)), zCo K ak F O]) (st := []) (nA := 5) (zsp rfl rfl rfl) (zsp rfl rfl rfl) 2 0 rfl rfl rfl rfl gX4_fetch_X0_put rfl (by decide +kernel) ⟨Nat.le_of_ble_eq_true rfl, Nat.le_of_ble_eq_true rfl⟩ rfl rfl (Nat.le_of_ble_eq_true rfl) ⟨Nat.le_of_ble_eq_true rfl, Nat.le_of_ble_eq_true rfl⟩ dX4_fetch_30 z_noX (fun _ => ?_)
  generalize ho1 : (fX0_put C x1 (fX3_kindOf Z W x1) (fX3_valueOf Z W x1) (fX3_lifeOf Z W x1) (X 3)) = o1
  refine z_aload_n B dX4_fetch_33 3 rfl ?_
  refine z_dup B dX4_fetch_34 rfl ?_
  refine z_get B (v := .int (O 3)) 3 0 3 hiX4_fetch_1 hfX4_fetch_139 rfl rfl rfl (by decide) rfl rfl rfl rfl dX4_fetch_35 ?_
  refine z_iconst B (v := 1) dX4_fetch_38 rfl ?_
  refine z_iadd B dX4_fetch_39 ?_
  refine z_put B 3 0 3 hiX4_fetch_1 hfX4_fetch_139 tyX1_ok nmX1 rfl rfl rfl (by decide) rfl rfl rfl rfl rfl rfl rfl (Nat.le_of_ble_eq_true rfl) (bs' := [zXo ax (az 0) sa la tr tc X, zZo K az Z W, zCa K ac o1, zCo K ak F (va_up O 3 ((O 3) + 1))]) rfl dX4_fetch_40 ?_
  have hF : fX4_fetch X Z W C F O x1 = (o1, (va_up O 3 ((O 3) + 1))) := congrArg (fun o => fX4_fetch_s1 X Z W C F O x1 o) ho1
  exact z_ret0 B dX4_fetch_43 () (trivial) (Nat.le_of_ble_eq_true rfl) (Nat.le_of_ble_eq_true rfl) rfl (by rw [hF])
def fX4_lookUp_s4 (X : Nat → Int32) (Z : Nat → Nat → Int32) (W : Nat → Int32) (C : Nat → Nat → Int32) (F : Nat → Int32) (O : Nat → Int32) (x1 : Int32) (o4 : (Nat → Nat → Int32) × (Nat → Int32)) : Int32 × (Nat → Nat → Int32) × (Nat → Int32) × (Nat → Int32) :=
  (1, (o4.1), F, (o4.2))
def fX4_lookUp_s6 (X : Nat → Int32) (Z : Nat → Nat → Int32) (W : Nat → Int32) (C : Nat → Nat → Int32) (F : Nat → Int32) (O : Nat → Int32) (x1 : Int32) (o5 : (Nat → Nat → Int32)) (o6 : (Nat → Int32) × (Nat → Int32)) : Int32 × (Nat → Nat → Int32) × (Nat → Int32) × (Nat → Int32) :=
  (1, o5, (o6.1), (o6.2))
def fX4_lookUp_s5 (X : Nat → Int32) (Z : Nat → Nat → Int32) (W : Nat → Int32) (C : Nat → Nat → Int32) (F : Nat → Int32) (O : Nat → Int32) (x1 : Int32) (o5 : (Nat → Nat → Int32)) : Int32 × (Nat → Nat → Int32) × (Nat → Int32) × (Nat → Int32) :=
  fX4_lookUp_s6 X Z W C F O x1 o5 (fX1_noteFresh F (va_up O 2 ((O 2) + 1)) x1)
def fX4_lookUp (X : Nat → Int32) (Z : Nat → Nat → Int32) (W : Nat → Int32) (C : Nat → Nat → Int32) (F : Nat → Int32) (O : Nat → Int32) (x1 : Int32) : Int32 × (Nat → Nat → Int32) × (Nat → Int32) × (Nat → Int32) :=
  if (fX0_isFresh C x1 (X 3)) = 0 then
    if (W 4) = 0 then
      if (fX0_servesStale C x1 (X 3)) = 0 then
        (0, C, F, (va_up O 2 ((O 2) + 1)))
      else
        (1, C, F, (va_up (va_up O 2 ((O 2) + 1)) 5 1))
    else
      fX4_lookUp_s4 X Z W C F O x1 (fX4_fetch X Z W C F (va_up O 2 ((O 2) + 1)) x1)
  else
    fX4_lookUp_s5 X Z W C F O x1 (fX0_countHit C x1)
theorem hiX4_lookUp_1 : ∀ w ∈ wsX10, w ∈ wsX4_lookUp := by decide +kernel
theorem hfX4_lookUp_136 : Cond.fieldLink RX4 136 "ResolverFleet$Course" "lookUps" "I" ∈ wsX4_lookUp := by decide +kernel
theorem hiX4_lookUp_4 : ∀ w ∈ wsX40, w ∈ wsX4_lookUp := by decide +kernel
theorem hfX4_lookUp_108 : Cond.fieldLink RX4 108 "ResolverFleet" "now" "I" ∈ wsX4_lookUp := by decide +kernel
theorem hfX4_lookUp_10 : Cond.fieldLink RX4 10 "ResolverFleet" "zone" "LResolverFleet$Zone;" ∈ wsX4_lookUp := by decide +kernel
theorem hiX4_lookUp_3 : ∀ w ∈ wsX30, w ∈ wsX4_lookUp := by decide +kernel
theorem hfX4_lookUp_69 : Cond.fieldLink RX4 69 "ResolverFleet$Zone" "isUp" "Z" ∈ wsX4_lookUp := by decide +kernel
theorem hfX4_lookUp_133 : Cond.fieldLink RX4 133 "ResolverFleet$Course" "isStale" "Z" ∈ wsX4_lookUp := by decide +kernel
set_option maxHeartbeats 4000000 in
set_option maxRecDepth 100000 in
theorem kX4_lookUp (l : Launch) (hl : l.stackTraces = false) (K : zK) (ax : Nat) (az : Nat → Nat) (sa : Nat) (la : Nat) (tr : Nat) (tc : Nat) (X : Nat → Int32) (Z : Nat → Nat → Int32) (W : Nat → Int32) (ac : Nat → Nat) (C : Nat → Nat → Int32) (ak : Nat → Nat) (F : Nat → Int32) (O : Nat → Int32) (x1 : Int32) (hO1 : ¬ (O 1) < 0) : zMet l K yX4_lookUp wsX4_lookUp { frames := 4, cells := 0, slots := 0, locals := 90 } [.ref ax, .ref (ac 0), .int x1, .ref (ak 0)] [zXo ax (az 0) sa la tr tc X, zZo K az Z W, zCa K ac C, zCo K ak F O] (some (.int ((fX4_lookUp X Z W C F O x1).1))) [zXo ax (az 0) sa la tr tc X, zZo K az Z W, zCa K ac ((fX4_lookUp X Z W C F O x1).2.1), zCo K ak ((fX4_lookUp X Z W C F O x1).2.2.1) ((fX4_lookUp X Z W C F O x1).2.2.2)] True zNo := by
  refine zMeN.of (cc := cX4_lookUp) (maxL := 4) (ret := (some .boolean)) (own := RX4) (nm := "lookUp") hl (by decide +kernel) rfl rfl rfl (Nat.le_of_ble_eq_true rfl) (lv := [(0, .ref ax), (1, .ref (ac 0)), (2, .int x1), (3, .ref (ak 0))]) rfl ?_
  intro p e s m args below meth c A B
  refine z_aload_n B dX4_lookUp_0 3 rfl ?_
  refine z_dup B dX4_lookUp_1 rfl ?_
  refine z_get B (v := .int (O 2)) 3 0 2 hiX4_lookUp_1 hfX4_lookUp_136 rfl rfl rfl (by decide) rfl rfl rfl rfl dX4_lookUp_2 ?_
  refine z_iconst B (v := 1) dX4_lookUp_5 rfl ?_
  refine z_iadd B dX4_lookUp_6 ?_
  refine z_put B 3 0 2 hiX4_lookUp_1 hfX4_lookUp_136 tyX1_ok nmX1 rfl rfl rfl (by decide) rfl rfl rfl rfl rfl rfl rfl (Nat.le_of_ble_eq_true rfl) (bs' := [zXo ax (az 0) sa la tr tc X, zZo K az Z W, zCa K ac C, zCo K ak F (va_up O 2 ((O 2) + 1))]) rfl dX4_lookUp_7 ?_
  refine z_aload_n B dX4_lookUp_10 1 rfl ?_
  refine z_iload_n B dX4_lookUp_11 2 rfl ?_
  refine z_aload_n B dX4_lookUp_12 0 rfl ?_
  refine z_get B (v := .int (X 3)) 0 0 3 hiX4_lookUp_4 hfX4_lookUp_108 rfl rfl rfl (by decide) rfl rfl rfl rfl dX4_lookUp_13 ?_
  refine z_V1 B (kX0_isFresh l hl K ac C x1 (X 3)) [2] [0, 1, 3] (br := [zXo ax (az 0) sa la tr tc X, zZo K az Z W, zCo K ak F (va_up O 2 ((O 2) + 1))]) (bs' := [zXo ax (az 0) sa la tr tc X, zZo K az Z W, zCa K ac C, zCo K ak F (va_up O 2 ((O 2) + 1))]) (st := []) (nA := 2) (zsp rfl rfl rfl) (zsp rfl rfl rfl) 2 0 rfl rfl rfl rfl gX4_lookUp_X0_isFresh rfl (by decide +kernel) ⟨Nat.le_of_ble_eq_true rfl, Nat.le_of_ble_eq_true rfl⟩ rfl rfl (Nat.le_of_ble_eq_true rfl) ⟨Nat.le_of_ble_eq_true rfl, Nat.le_of_ble_eq_true rfl⟩ dX4_lookUp_16 z_noX (fun _ => ?_)
  refine z_ifeq B 34 dX4_lookUp_19 (by decide) (fun c1 => ?_) (fun c1 => ?_)
  · refine z_aload_n B dX4_lookUp_34 0 rfl ?_
    refine z_get B (v := .ref (az 0)) 0 0 0 hiX4_lookUp_4 hfX4_lookUp_10 rfl rfl rfl (by decide) rfl rfl rfl rfl dX4_lookUp_35 ?_
    refine z_get B (v := .int (W 4)) 1 0 4 hiX4_lookUp_3 hfX4_lookUp_69 rfl rfl rfl (by decide) rfl rfl rfl rfl dX4_lookUp_38 ?_
    refine z_ifeq B 53 dX4_lookUp_41 (by decide) (fun c2 => ?_) (fun c2 => ?_)
    · refine z_aload_n B dX4_lookUp_53 1 rfl ?_
      refine z_iload_n B dX4_lookUp_54 2 rfl ?_
      refine z_aload_n B dX4_lookUp_55 0 rfl ?_
      refine z_get B (v := .int (X 3)) 0 0 3 hiX4_lookUp_4 hfX4_lookUp_108 rfl rfl rfl (by decide) rfl rfl rfl rfl dX4_lookUp_56 ?_
      refine z_V1 B (kX0_servesStale l hl K ac C x1 (X 3)) [2] [0, 1, 3] (br := [zXo ax (az 0) sa la tr tc X, zZo K az Z W, zCo K ak F (va_up O 2 ((O 2) + 1))]) (bs' := [zXo ax (az 0) sa la tr tc X, zZo K az Z W, zCa K ac C, zCo K ak F (va_up O 2 ((O 2) + 1))]) (st := []) (nA := 2) (zsp rfl rfl rfl) (zsp rfl rfl rfl) 2 0 rfl rfl rfl rfl gX4_lookUp_X0_servesStale rfl (by decide +kernel) ⟨Nat.le_of_ble_eq_true rfl, Nat.le_of_ble_eq_true rfl⟩ rfl rfl (Nat.le_of_ble_eq_true rfl) ⟨Nat.le_of_ble_eq_true rfl, Nat.le_of_ble_eq_true rfl⟩ dX4_lookUp_59 z_noX (fun _ => ?_)
      refine z_ifeq B 72 dX4_lookUp_62 (by decide) (fun c3 => ?_) (fun c3 => ?_)
      · refine z_iconst B (v := 0) dX4_lookUp_72 rfl ?_
        have hF : fX4_lookUp X Z W C F O x1 = (0, C, F, (va_up O 2 ((O 2) + 1))) := (if_pos c1).trans ((if_pos c2).trans (if_pos c3))
        exact z_ret1 B rfl dX4_lookUp_73 () (trivial) (Nat.le_of_ble_eq_true rfl) (Nat.le_of_ble_eq_true rfl) (by rw [hF]) (by rw [hF])
      · refine z_aload_n B dX4_lookUp_65 3 rfl ?_
        refine z_iconst B (v := 1) dX4_lookUp_66 rfl ?_
        refine z_put B 3 0 5 hiX4_lookUp_1 hfX4_lookUp_133 tyX1_ok nmX1 rfl rfl rfl (by decide) rfl rfl rfl rfl rfl rfl rfl (Nat.le_of_ble_eq_true rfl) (bs' := [zXo ax (az 0) sa la tr tc X, zZo K az Z W, zCa K ac C, zCo K ak F (va_up (va_up O 2 ((O 2) + 1)) 5 1)]) rfl dX4_lookUp_67 ?_
        refine z_iconst B (v := 1) dX4_lookUp_70 rfl ?_
        have hF : fX4_lookUp X Z W C F O x1 = (1, C, F, (va_up (va_up O 2 ((O 2) + 1)) 5 1)) := (if_pos c1).trans ((if_pos c2).trans (if_neg c3))
        exact z_ret1 B rfl dX4_lookUp_71 () (trivial) (Nat.le_of_ble_eq_true rfl) (Nat.le_of_ble_eq_true rfl) (by rw [hF]) (by rw [hF])
    · refine z_aload_n B dX4_lookUp_44 0 rfl ?_
      refine z_aload_n B dX4_lookUp_45 1 rfl ?_
      refine z_iload_n B dX4_lookUp_46 2 rfl ?_
      refine z_aload_n B dX4_lookUp_47 3 rfl ?_
      refine z_V0 B (kX4_fetch l hl K ax az sa la tr tc X Z W ac C ak F (va_up O 2 ((O 2) + 1)) x1) [0, 1, 2, 3] [] (br := []) (bs' := [zXo ax (az 0) sa la tr tc X, zZo K az Z W, zCa K ac ((fX4_fetch X Z W C F (va_up O 2 ((O 2) + 1)) x1).1), zCo K ak F ((fX4_fetch X Z W C F (va_up O 2 ((O 2) + 1)) x1).2)]) (st := []) (nA := 3) (zsp rfl rfl rfl) (zsp rfl rfl rfl) 0 0 rfl rfl rfl rfl gX4_lookUp_X4_fetch rfl (by decide +kernel) ⟨Nat.le_of_ble_eq_true rfl, Nat.le_of_ble_eq_true rfl⟩ rfl rfl (Nat.le_of_ble_eq_true rfl) ⟨Nat.le_of_ble_eq_true rfl, Nat.le_of_ble_eq_true rfl⟩ dX4_lookUp_48 z_noX (fun _ => ?_)
      generalize ho4 : (fX4_fetch X Z W C F (va_up O 2 ((O 2) + 1)) x1) = o4
      refine z_iconst B (v := 1) dX4_lookUp_51 rfl ?_
      have hF : fX4_lookUp X Z W C F O x1 = (1, (o4.1), F, (o4.2)) := (if_pos c1).trans ((if_neg c2).trans (congrArg (fun o => fX4_lookUp_s4 X Z W C F O x1 o) ho4))
      exact z_ret1 B rfl dX4_lookUp_52 () (trivial) (Nat.le_of_ble_eq_true rfl) (Nat.le_of_ble_eq_true rfl) (by rw [hF]) (by rw [hF])
  · refine z_aload_n B dX4_lookUp_22 1 rfl ?_
    refine z_iload_n B dX4_lookUp_23 2 rfl ?_
    refine z_V0 B (kX0_countHit l hl K ac C x1) [2] [0, 1, 3] (br := [zXo ax (az 0) sa la tr tc X, zZo K az Z W, zCo K ak F (va_up O 2 ((O 2) + 1))]) (bs' := [zXo ax (az 0) sa la tr tc X, zZo K az Z W, zCa K ac (fX0_countHit C x1), zCo K ak F (va_up O 2 ((O 2) + 1))]) (st := []) (nA := 1) (zsp rfl rfl rfl) (zsp rfl rfl rfl) 2 0 rfl rfl rfl rfl gX4_lookUp_X0_countHit rfl (by decide +kernel) ⟨Nat.le_of_ble_eq_true rfl, Nat.le_of_ble_eq_true rfl⟩ rfl rfl (Nat.le_of_ble_eq_true rfl) ⟨Nat.le_of_ble_eq_true rfl, Nat.le_of_ble_eq_true rfl⟩ dX4_lookUp_24 z_noX (fun _ => ?_)
    generalize ho5 : (fX0_countHit C x1) = o5
    refine z_aload_n B dX4_lookUp_27 3 rfl ?_
    refine z_iload_n B dX4_lookUp_28 2 rfl ?_
    refine z_V0 B (kX1_noteFresh l hl K ak F (va_up O 2 ((O 2) + 1)) x1 hO1) [3] [0, 1, 2] (br := [zXo ax (az 0) sa la tr tc X, zZo K az Z W, zCa K ac o5]) (bs' := [zXo ax (az 0) sa la tr tc X, zZo K az Z W, zCa K ac o5, zCo K ak ((fX1_noteFresh F (va_up O 2 ((O 2) + 1)) x1).1) ((fX1_noteFresh F (va_up O 2 ((O 2) + 1)) x1).2)]) (st := []) (nA := 1) (zsp rfl rfl rfl) (zsp rfl rfl rfl) 3 0 rfl rfl rfl rfl gX4_lookUp_X1_noteFresh rfl (by decide +kernel) ⟨Nat.le_of_ble_eq_true rfl, Nat.le_of_ble_eq_true rfl⟩ rfl rfl (Nat.le_of_ble_eq_true rfl) ⟨Nat.le_of_ble_eq_true rfl, Nat.le_of_ble_eq_true rfl⟩ dX4_lookUp_29 z_noX (fun _ => ?_)
    generalize ho6 : (fX1_noteFresh F (va_up O 2 ((O 2) + 1)) x1) = o6
    refine z_iconst B (v := 1) dX4_lookUp_32 rfl ?_
    have hF : fX4_lookUp X Z W C F O x1 = (1, o5, (o6.1), (o6.2)) := (if_neg c1).trans ((congrArg (fun o => fX4_lookUp_s5 X Z W C F O x1 o) ho5).trans (congrArg (fun o => fX4_lookUp_s6 X Z W C F O x1 o5 o) ho6))
    exact z_ret1 B rfl dX4_lookUp_33 () (trivial) (Nat.le_of_ble_eq_true rfl) (Nat.le_of_ble_eq_true rfl) (by rw [hF]) (by rw [hF])
theorem z_note {F O : Nat → Int32} {x : Int32} (h : ¬ (O 1) < 0) : ¬ ((fX1_noteFresh F O x).2 1) < 0 := by
  unfold fX1_noteFresh
  split
  · exact h
  · rename_i h5
    show ¬ (O 1 + 1) < 0
    obtain ⟨j, hj, ej⟩ := nI_of h
    rw [ej] at h5 ⊢
    have h6 : ¬ nI 5 ≤ nI j := h5
    rw [nI_leI (by omega) hj] at h6
    rw [nI_1]
    exact nI_pos (by omega)
theorem z_fetO {X : Nat → Int32} {Z : Nat → Nat → Int32} {W : Nat → Int32} {C : Nat → Nat → Int32} {F O : Nat → Int32} {x : Int32} {k : Nat} (hk : k ≠ 3) : (fX4_fetch X Z W C F O x).2 k = O k := by
  unfold fX4_fetch
  simp [fX4_fetch_s1, va_up, hk]
theorem z_look {X : Nat → Int32} {Z : Nat → Nat → Int32} {W : Nat → Int32} {C : Nat → Nat → Int32} {F O : Nat → Int32} {x : Int32} (h : ¬ (O 1) < 0) : ¬ ((fX4_lookUp X Z W C F O x).2.2.2 1) < 0 := by
  unfold fX4_lookUp
  split
  · split
    · split
      · exact h
      · exact h
    · show ¬ ((fX4_fetch X Z W C F (va_up O 2 ((O 2) + 1)) x).2 1) < 0
      rw [z_fetO (by decide)]
      exact h
  · show ¬ ((fX1_noteFresh F (va_up O 2 ((O 2) + 1)) x).2 1) < 0
    exact z_note h
def fX4_resolve_L10 (X : Nat → Int32) (Z : Nat → Nat → Int32) (W : Nat → Int32) (C : Nat → Nat → Int32) (F : Nat → Int32) (O : Nat → Int32) (x1 : Int32) : Nat → Nat → (Int32) → (Nat → Nat → Int32) → (Nat → Int32) → (Nat → Int32) → Int32 × (Nat → Nat → Int32) × (Nat → Int32) × (Nat → Int32)
  | 0, a, cur, C1, F1, O1 =>
    ((-2), C1, F1, O1)
  | n + 1, a, cur, C1, F1, O1 =>
    if ((fX4_lookUp X Z W C1 F1 O1 cur).1) = 0 then
      ((-2), ((fX4_lookUp X Z W C1 F1 O1 cur).2.1), ((fX4_lookUp X Z W C1 F1 O1 cur).2.2.1), ((fX4_lookUp X Z W C1 F1 O1 cur).2.2.2))
    else
      if (fX0_kindOf ((fX4_lookUp X Z W C1 F1 O1 cur).2.1) cur) = 1 then
        fX4_resolve_L10 X Z W C F O x1 n (a + 1) (fX0_valueOf ((fX4_lookUp X Z W C1 F1 O1 cur).2.1) cur) ((fX4_lookUp X Z W C1 F1 O1 cur).2.1) ((fX4_lookUp X Z W C1 F1 O1 cur).2.2.1) ((fX4_lookUp X Z W C1 F1 O1 cur).2.2.2)
      else
        if (fX0_kindOf ((fX4_lookUp X Z W C1 F1 O1 cur).2.1) cur) = 0 then
          ((fX0_valueOf ((fX4_lookUp X Z W C1 F1 O1 cur).2.1) cur), ((fX4_lookUp X Z W C1 F1 O1 cur).2.1), ((fX4_lookUp X Z W C1 F1 O1 cur).2.2.1), ((fX4_lookUp X Z W C1 F1 O1 cur).2.2.2))
        else
          ((-1), ((fX4_lookUp X Z W C1 F1 O1 cur).2.1), ((fX4_lookUp X Z W C1 F1 O1 cur).2.2.1), ((fX4_lookUp X Z W C1 F1 O1 cur).2.2.2))
def fX4_resolve (X : Nat → Int32) (Z : Nat → Nat → Int32) (W : Nat → Int32) (C : Nat → Nat → Int32) (F : Nat → Int32) (O : Nat → Int32) (x1 : Int32) : Int32 × (Nat → Nat → Int32) × (Nat → Int32) × (Nat → Int32) :=
  fX4_resolve_L10 X Z W C F O x1 5 0 x1 C F (fX1_begin F O)
set_option maxHeartbeats 4000000 in
set_option maxRecDepth 100000 in
theorem kX4_resolve_L10 (l : Launch) (hl : l.stackTraces = false) (K : zK) (ax : Nat) (az : Nat → Nat) (sa : Nat) (la : Nat) (tr : Nat) (tc : Nat) (X : Nat → Int32) (Z : Nat → Nat → Int32) (W : Nat → Int32) (ac : Nat → Nat) (C : Nat → Nat → Int32) (ak : Nat → Nat) (F : Nat → Int32) (O : Nat → Int32) (x1 : Int32) {p : Program} {e : Env} {s : State} {m : MethodId} {args : Array Value} {below : List Frame} {meth : Method} {c : Code} {A : Nat → Prop} (B : zF K p l s m args meth c A cX4_resolve 8 RX4 "resolve" wsX4_resolve (some .int) []) : ∀ (n a : Nat) (cur : Int32) (C1 : Nat → Nat → Int32) (F1 : Nat → Int32) (O1 : Nat → Int32), a + n = 5 → (¬ (O1 1) < 0) → fX4_resolve X Z W C F O x1 = fX4_resolve_L10 X Z W C F O x1 n a cur C1 F1 O1 → zW K p l e { frames := 5, cells := 0, slots := 0, locals := 113 } s m args below meth c A (vx_MQ below (zQ K A (fun _ : Unit => ((some (.int ((fX4_resolve X Z W C F O x1).1))), [zXo ax (az 0) sa la tr tc X, zZo K az Z W, zCa K ac ((fX4_resolve X Z W C F O x1).2.1), zCo K ak ((fX4_resolve X Z W C F O x1).2.2.1) ((fX4_resolve X Z W C F O x1).2.2.2)])) (fun _ => True)) (zX K A [zXo ax (az 0) sa la tr tc X, zZo K az Z W, zCa K ac C, zCo K ak F O] zNo) args s 0 0 A) 0 0 [zXo ax (az 0) sa la tr tc X, zZo K az Z W, zCa K ac C1, zCo K ak F1 O1] [(0, .ref ax), (1, .ref (ac 0)), (3, .ref (ak 0)), (5, .int (nI a)), (4, .int cur)] [] 10 := by
  intro n
  induction n with
  | zero =>
    intro a cur C1 F1 O1 ha hp hF0
    refine z_iload B dX4_resolve_10 3 rfl ?_
    refine z_iconst B (v := 4) dX4_resolve_12 rfl ?_
    refine z_icgt B 74 dX4_resolve_13 (by decide) (fun _ => ?_) (fun h => absurd (z_lgt0 ha (by decide)) h)
    refine z_bipush B (v := (-2)) dX4_resolve_74 rfl ?_
    have hF : fX4_resolve X Z W C F O x1 = ((-2), C1, F1, O1) := hF0
    exact z_ret1 B rfl dX4_resolve_76 () (trivial) (Nat.le_of_ble_eq_true rfl) (Nat.le_of_ble_eq_true rfl) (by rw [hF]) (by rw [hF])
  | succ n ih =>
    intro a cur C1 F1 O1 ha hp hF0
    refine z_iload B dX4_resolve_10 3 rfl ?_
    refine z_iconst B (v := 4) dX4_resolve_12 rfl ?_
    refine z_icgt B 74 dX4_resolve_13 (by decide) (fun h => absurd h (z_lgtS ha (by decide))) (fun _ => ?_)
    refine z_aload_n B dX4_resolve_16 0 rfl ?_
    refine z_aload_n B dX4_resolve_17 1 rfl ?_
    refine z_iload B dX4_resolve_18 4 rfl ?_
    refine z_aload_n B dX4_resolve_20 2 rfl ?_
    refine z_V1 B (kX4_lookUp l hl K ax az sa la tr tc X Z W ac C1 ak F1 O1 cur hp) [0, 1, 2, 3] [] (br := []) (bs' := [zXo ax (az 0) sa la tr tc X, zZo K az Z W, zCa K ac ((fX4_lookUp X Z W C1 F1 O1 cur).2.1), zCo K ak ((fX4_lookUp X Z W C1 F1 O1 cur).2.2.1) ((fX4_lookUp X Z W C1 F1 O1 cur).2.2.2)]) (st := []) (nA := 3) (zsp rfl rfl rfl) (zsp rfl rfl rfl) 0 0 rfl rfl rfl rfl gX4_resolve_X4_lookUp rfl (by decide +kernel) ⟨Nat.le_of_ble_eq_true rfl, Nat.le_of_ble_eq_true rfl⟩ rfl rfl (Nat.le_of_ble_eq_true rfl) ⟨Nat.le_of_ble_eq_true rfl, Nat.le_of_ble_eq_true rfl⟩ dX4_resolve_21 z_noX (fun _ => ?_)
    refine z_ifne B 30 dX4_resolve_24 (by decide) (fun c1 => ?_) (fun c1 => ?_)
    · refine z_bipush B (v := (-2)) dX4_resolve_27 rfl ?_
      have hF : fX4_resolve X Z W C F O x1 = ((-2), ((fX4_lookUp X Z W C1 F1 O1 cur).2.1), ((fX4_lookUp X Z W C1 F1 O1 cur).2.2.1), ((fX4_lookUp X Z W C1 F1 O1 cur).2.2.2)) := (hF0).trans (if_pos c1)
      exact z_ret1 B rfl dX4_resolve_29 () (trivial) (Nat.le_of_ble_eq_true rfl) (Nat.le_of_ble_eq_true rfl) (by rw [hF]) (by rw [hF])
    · refine z_aload_n B dX4_resolve_30 1 rfl ?_
      refine z_iload B dX4_resolve_31 4 rfl ?_
      refine z_V1 B (kX0_kindOf l hl K ac ((fX4_lookUp X Z W C1 F1 O1 cur).2.1) cur) [2] [0, 1, 3] (br := [zXo ax (az 0) sa la tr tc X, zZo K az Z W, zCo K ak ((fX4_lookUp X Z W C1 F1 O1 cur).2.2.1) ((fX4_lookUp X Z W C1 F1 O1 cur).2.2.2)]) (bs' := [zXo ax (az 0) sa la tr tc X, zZo K az Z W, zCa K ac ((fX4_lookUp X Z W C1 F1 O1 cur).2.1), zCo K ak ((fX4_lookUp X Z W C1 F1 O1 cur).2.2.1) ((fX4_lookUp X Z W C1 F1 O1 cur).2.2.2)]) (st := []) (nA := 1) (zsp rfl rfl rfl) (zsp rfl rfl rfl) 2 0 rfl rfl rfl rfl gX4_resolve_X0_kindOf rfl (by decide +kernel) ⟨Nat.le_of_ble_eq_true rfl, Nat.le_of_ble_eq_true rfl⟩ rfl rfl (Nat.le_of_ble_eq_true rfl) ⟨Nat.le_of_ble_eq_true rfl, Nat.le_of_ble_eq_true rfl⟩ dX4_resolve_33 z_noX (fun _ => ?_)
      refine z_istore B (lv' := [(6, .int (fX0_kindOf ((fX4_lookUp X Z W C1 F1 O1 cur).2.1) cur)), (0, .ref ax), (1, .ref (ac 0)), (3, .ref (ak 0)), (5, .int (nI a)), (4, .int cur)]) dX4_resolve_36 (by decide) rfl ?_
      refine z_aload_n B dX4_resolve_38 2 rfl ?_
      refine z_iload B dX4_resolve_39 5 rfl ?_
      refine z_V1 B (kX0_valueOf l hl K ac ((fX4_lookUp X Z W C1 F1 O1 cur).2.1) cur) [2] [0, 1, 3] (br := [zXo ax (az 0) sa la tr tc X, zZo K az Z W, zCo K ak ((fX4_lookUp X Z W C1 F1 O1 cur).2.2.1) ((fX4_lookUp X Z W C1 F1 O1 cur).2.2.2)]) (bs' := [zXo ax (az 0) sa la tr tc X, zZo K az Z W, zCa K ac ((fX4_lookUp X Z W C1 F1 O1 cur).2.1), zCo K ak ((fX4_lookUp X Z W C1 F1 O1 cur).2.2.1) ((fX4_lookUp X Z W C1 F1 O1 cur).2.2.2)]) (st := []) (nA := 1) (zsp rfl rfl rfl) (zsp rfl rfl rfl) 2 0 rfl rfl rfl rfl gX4_resolve_X0_valueOf rfl (by decide +kernel) ⟨Nat.le_of_ble_eq_true rfl, Nat.le_of_ble_eq_true rfl⟩ rfl rfl (Nat.le_of_ble_eq_true rfl) ⟨Nat.le_of_ble_eq_true rfl, Nat.le_of_ble_eq_true rfl⟩ dX4_resolve_41 z_noX (fun _ => ?_)
      refine z_istore B (lv' := [(7, .int (fX0_valueOf ((fX4_lookUp X Z W C1 F1 O1 cur).2.1) cur)), (6, .int (fX0_kindOf ((fX4_lookUp X Z W C1 F1 O1 cur).2.1) cur)), (0, .ref ax), (1, .ref (ac 0)), (3, .ref (ak 0)), (5, .int (nI a)), (4, .int cur)]) dX4_resolve_44 (by decide) rfl ?_
      refine z_iload B dX4_resolve_46 1 rfl ?_
      refine z_iconst B (v := 1) dX4_resolve_48 rfl ?_
      refine z_iceq B 64 dX4_resolve_49 (by decide) (fun c2 => ?_) (fun c2 => ?_)
      · refine z_iload B dX4_resolve_64 0 rfl ?_
        refine z_istore B (lv' := [(4, .int (fX0_valueOf ((fX4_lookUp X Z W C1 F1 O1 cur).2.1) cur)), (7, .int (fX0_valueOf ((fX4_lookUp X Z W C1 F1 O1 cur).2.1) cur)), (6, .int (fX0_kindOf ((fX4_lookUp X Z W C1 F1 O1 cur).2.1) cur)), (0, .ref ax), (1, .ref (ac 0)), (3, .ref (ak 0)), (5, .int (nI a))]) dX4_resolve_66 (by decide) rfl ?_
        refine z_iinc B (v := nI (a + 1)) (lv' := [(5, .int (nI (a + 1))), (4, .int (fX0_valueOf ((fX4_lookUp X Z W C1 F1 O1 cur).2.1) cur)), (7, .int (fX0_valueOf ((fX4_lookUp X Z W C1 F1 O1 cur).2.1) cur)), (6, .int (fX0_kindOf ((fX4_lookUp X Z W C1 F1 O1 cur).2.1) cur)), (0, .ref ax), (1, .ref (ac 0)), (3, .ref (ak 0))]) dX4_resolve_68 6 rfl (nI_1 a) (by decide) rfl ?_
        refine z_goto B (tgt := 10) dX4_resolve_71 (by decide) ?_
        refine z_lsub [4, 5, 6, 0, 1] rfl ?_
        have hF : fX4_resolve X Z W C F O x1 = fX4_resolve_L10 X Z W C F O x1 n (a + 1) (fX0_valueOf ((fX4_lookUp X Z W C1 F1 O1 cur).2.1) cur) ((fX4_lookUp X Z W C1 F1 O1 cur).2.1) ((fX4_lookUp X Z W C1 F1 O1 cur).2.2.1) ((fX4_lookUp X Z W C1 F1 O1 cur).2.2.2) := (hF0).trans ((if_neg c1).trans (if_pos c2))
        exact ih (a + 1) (fX0_valueOf ((fX4_lookUp X Z W C1 F1 O1 cur).2.1) cur) ((fX4_lookUp X Z W C1 F1 O1 cur).2.1) ((fX4_lookUp X Z W C1 F1 O1 cur).2.2.1) ((fX4_lookUp X Z W C1 F1 O1 cur).2.2.2) (by omega) (z_look hp) hF
      · refine z_iload B dX4_resolve_52 1 rfl ?_
        refine z_ifne B 62 dX4_resolve_54 (by decide) (fun c3 => ?_) (fun c3 => ?_)
        · refine z_iload B dX4_resolve_57 0 rfl ?_
          refine z_goto B (tgt := 63) dX4_resolve_59 (by decide) ?_
          have hF : fX4_resolve X Z W C F O x1 = ((fX0_valueOf ((fX4_lookUp X Z W C1 F1 O1 cur).2.1) cur), ((fX4_lookUp X Z W C1 F1 O1 cur).2.1), ((fX4_lookUp X Z W C1 F1 O1 cur).2.2.1), ((fX4_lookUp X Z W C1 F1 O1 cur).2.2.2)) := (hF0).trans ((if_neg c1).trans ((if_neg c2).trans (if_pos c3)))
          exact z_ret1 B rfl dX4_resolve_63 () (trivial) (Nat.le_of_ble_eq_true rfl) (Nat.le_of_ble_eq_true rfl) (by rw [hF]) (by rw [hF])
        · refine z_iconst B (v := (-1)) dX4_resolve_62 rfl ?_
          have hF : fX4_resolve X Z W C F O x1 = ((-1), ((fX4_lookUp X Z W C1 F1 O1 cur).2.1), ((fX4_lookUp X Z W C1 F1 O1 cur).2.2.1), ((fX4_lookUp X Z W C1 F1 O1 cur).2.2.2)) := (hF0).trans ((if_neg c1).trans ((if_neg c2).trans (if_neg c3)))
          exact z_ret1 B rfl dX4_resolve_63 () (trivial) (Nat.le_of_ble_eq_true rfl) (Nat.le_of_ble_eq_true rfl) (by rw [hF]) (by rw [hF])
set_option maxHeartbeats 4000000 in
set_option maxRecDepth 100000 in
theorem kX4_resolve (l : Launch) (hl : l.stackTraces = false) (K : zK) (ax : Nat) (az : Nat → Nat) (sa : Nat) (la : Nat) (tr : Nat) (tc : Nat) (X : Nat → Int32) (Z : Nat → Nat → Int32) (W : Nat → Int32) (ac : Nat → Nat) (C : Nat → Nat → Int32) (ak : Nat → Nat) (F : Nat → Int32) (O : Nat → Int32) (x1 : Int32) : zMet l K yX4_resolve wsX4_resolve { frames := 5, cells := 0, slots := 0, locals := 113 } [.ref ax, .ref (ac 0), .int x1, .ref (ak 0)] [zXo ax (az 0) sa la tr tc X, zZo K az Z W, zCa K ac C, zCo K ak F O] (some (.int ((fX4_resolve X Z W C F O x1).1))) [zXo ax (az 0) sa la tr tc X, zZo K az Z W, zCa K ac ((fX4_resolve X Z W C F O x1).2.1), zCo K ak ((fX4_resolve X Z W C F O x1).2.2.1) ((fX4_resolve X Z W C F O x1).2.2.2)] True zNo := by
  refine zMeN.of (cc := cX4_resolve) (maxL := 8) (ret := (some .int)) (own := RX4) (nm := "resolve") hl (by decide +kernel) rfl rfl rfl (Nat.le_of_ble_eq_true rfl) (lv := [(0, .ref ax), (1, .ref (ac 0)), (2, .int x1), (3, .ref (ak 0))]) rfl ?_
  intro p e s m args below meth c A B
  refine z_aload_n B dX4_resolve_0 3 rfl ?_
  refine z_V0 B (kX1_begin l hl K ak F O) [3] [0, 1, 2] (br := [zXo ax (az 0) sa la tr tc X, zZo K az Z W, zCa K ac C]) (bs' := [zXo ax (az 0) sa la tr tc X, zZo K az Z W, zCa K ac C, zCo K ak F (fX1_begin F O)]) (st := []) (nA := 0) (zsp rfl rfl rfl) (zsp rfl rfl rfl) 3 0 rfl rfl rfl rfl gX4_resolve_X1_begin rfl (by decide +kernel) ⟨Nat.le_of_ble_eq_true rfl, Nat.le_of_ble_eq_true rfl⟩ rfl rfl (Nat.le_of_ble_eq_true rfl) ⟨Nat.le_of_ble_eq_true rfl, Nat.le_of_ble_eq_true rfl⟩ dX4_resolve_1 z_noX (fun _ => ?_)
  refine z_iload_n B dX4_resolve_4 2 rfl ?_
  refine z_istore B (lv' := [(4, .int x1), (0, .ref ax), (1, .ref (ac 0)), (2, .int x1), (3, .ref (ak 0))]) dX4_resolve_5 (by decide) rfl ?_
  refine z_iconst B (v := 0) dX4_resolve_7 rfl ?_
  refine z_istore B (lv' := [(5, .int 0), (4, .int x1), (0, .ref ax), (1, .ref (ac 0)), (2, .int x1), (3, .ref (ak 0))]) dX4_resolve_8 (by decide) rfl ?_
  refine z_lsub [2, 3, 5, 0, 1] rfl ?_
  have hF : fX4_resolve X Z W C F O x1 = fX4_resolve_L10 X Z W C F O x1 5 0 x1 C F (fX1_begin F O) := rfl
  exact kX4_resolve_L10 l hl K ax az sa la tr tc X Z W ac C ak F O x1 B 5 0 x1 C F (fX1_begin F O) (by omega) (by show ¬ (0 : Int32) < 0; decide) hF
theorem z_cl {x : Int32} (h : ¬ x < 0) : x = nI x.toNatClampNeg := by
  obtain ⟨j, hj, rfl⟩ := nI_of h
  rw [nI_clamp hj]
theorem z_clt {x : Int32} : x.toNatClampNeg < 2 ^ 31 := by
  have h := Int32.toInt_lt x
  have h2 : (x.toNatClampNeg : Int) = max x.toInt 0 := by
    rw [← Int.toNat_of_nonneg (a := max x.toInt 0) (by omega)]
    congr 1
    show x.toInt.toNat = _
    omega
  omega
def fX4_fetchHotAnew_L19 (X : Nat → Int32) (Z : Nat → Nat → Int32) (W : Nat → Int32) (C : Nat → Nat → Int32) (F : Nat → Int32) (O : Nat → Int32) : Nat → Nat → (Nat → Nat → Int32) → (Nat → Int32) → (Nat → Nat → Int32) × (Nat → Int32)
  | 0, a, C1, O1 =>
    (C1, O1)
  | n + 1, a, C1, O1 =>
    if (fX0_isHot C1 (fX1_freshNameAt F O1 (nI a)) (X 3)) = 0 then
      fX4_fetchHotAnew_L19 X Z W C F O n (a + 1) C1 O1
    else
      fX4_fetchHotAnew_L19 X Z W C F O n (a + 1) ((fX4_fetch X Z W C1 F O1 (fX1_freshNameAt F O1 (nI a))).1) (va_up ((fX4_fetch X Z W C1 F O1 (fX1_freshNameAt F O1 (nI a))).2) 4 ((((fX4_fetch X Z W C1 F O1 (fX1_freshNameAt F O1 (nI a))).2) 4) + 1))
def fX4_fetchHotAnew (X : Nat → Int32) (Z : Nat → Nat → Int32) (W : Nat → Int32) (C : Nat → Nat → Int32) (F : Nat → Int32) (O : Nat → Int32) : (Nat → Nat → Int32) × (Nat → Int32) :=
  if (W 4) = 0 then
    (C, O)
  else
    fX4_fetchHotAnew_L19 X Z W C F O ((O 1).toNatClampNeg) 0 C O
theorem hiX4_fetchHotAnew_4 : ∀ w ∈ wsX40, w ∈ wsX4_fetchHotAnew := by decide +kernel
theorem hfX4_fetchHotAnew_10 : Cond.fieldLink RX4 10 "ResolverFleet" "zone" "LResolverFleet$Zone;" ∈ wsX4_fetchHotAnew := by decide +kernel
theorem hiX4_fetchHotAnew_3 : ∀ w ∈ wsX30, w ∈ wsX4_fetchHotAnew := by decide +kernel
theorem hfX4_fetchHotAnew_69 : Cond.fieldLink RX4 69 "ResolverFleet$Zone" "isUp" "Z" ∈ wsX4_fetchHotAnew := by decide +kernel
theorem hiX4_fetchHotAnew_1 : ∀ w ∈ wsX10, w ∈ wsX4_fetchHotAnew := by decide +kernel
theorem hfX4_fetchHotAnew_203 : Cond.fieldLink RX4 203 "ResolverFleet$Course" "freshCount" "I" ∈ wsX4_fetchHotAnew := by decide +kernel
theorem hfX4_fetchHotAnew_108 : Cond.fieldLink RX4 108 "ResolverFleet" "now" "I" ∈ wsX4_fetchHotAnew := by decide +kernel
theorem hfX4_fetchHotAnew_212 : Cond.fieldLink RX4 212 "ResolverFleet$Course" "prefetches" "I" ∈ wsX4_fetchHotAnew := by decide +kernel
set_option maxHeartbeats 4000000 in
set_option maxRecDepth 100000 in
theorem kX4_fetchHotAnew_L19 (l : Launch) (hl : l.stackTraces = false) (K : zK) (ax : Nat) (az : Nat → Nat) (sa : Nat) (la : Nat) (tr : Nat) (tc : Nat) (X : Nat → Int32) (Z : Nat → Nat → Int32) (W : Nat → Int32) (ac : Nat → Nat) (C : Nat → Nat → Int32) (ak : Nat → Nat) (F : Nat → Int32) (O : Nat → Int32) (hO1 : ¬ (O 1) < 0) {p : Program} {e : Env} {s : State} {m : MethodId} {args : Array Value} {below : List Frame} {meth : Method} {c : Code} {A : Nat → Prop} (B : zF K p l s m args meth c A cX4_fetchHotAnew 6 RX4 "fetchHotAnew" wsX4_fetchHotAnew none []) : ∀ (n a : Nat) (C1 : Nat → Nat → Int32) (O1 : Nat → Int32), a + n = (O 1).toNatClampNeg → fX4_fetchHotAnew X Z W C F O = fX4_fetchHotAnew_L19 X Z W C F O n a C1 O1 → zW K p l e { frames := 4, cells := 0, slots := 0, locals := 90 } s m args below meth c A (vx_MQ below (zQ K A (fun _ : Unit => (none, [zXo ax (az 0) sa la tr tc X, zZo K az Z W, zCa K ac ((fX4_fetchHotAnew X Z W C F O).1), zCo K ak F ((fX4_fetchHotAnew X Z W C F O).2)])) (fun _ => True)) (zX K A [zXo ax (az 0) sa la tr tc X, zZo K az Z W, zCa K ac C, zCo K ak F O] zNo) args s 0 0 A) 0 0 [zXo ax (az 0) sa la tr tc X, zZo K az Z W, zCa K ac C1, zCo K ak F O1] [(0, .ref ax), (1, .ref (ac 0)), (2, .ref (ak 0)), (3, .int (O 1)), (4, .int (nI a))] [] 19 := by
  intro n
  induction n with
  | zero =>
    intro a C1 O1 ha  hF0
    refine z_iload B dX4_fetchHotAnew_19 4 rfl ?_
    refine z_iload_n B dX4_fetchHotAnew_21 3 rfl ?_
    refine z_icge B 70 dX4_fetchHotAnew_22 (by decide) (fun _ => ?_) (fun h => absurd (by rw [z_cl hO1]; exact (z_lge0 ha z_clt)) h)
    have hF : fX4_fetchHotAnew X Z W C F O = (C1, O1) := hF0
    exact z_ret0 B dX4_fetchHotAnew_70 () (trivial) (Nat.le_of_ble_eq_true rfl) (Nat.le_of_ble_eq_true rfl) rfl (by rw [hF])
  | succ n ih =>
    intro a C1 O1 ha  hF0
    refine z_iload B dX4_fetchHotAnew_19 4 rfl ?_
    refine z_iload_n B dX4_fetchHotAnew_21 3 rfl ?_
    refine z_icge B 70 dX4_fetchHotAnew_22 (by decide) (fun h => absurd h (by rw [z_cl hO1]; exact (z_lgeS ha z_clt))) (fun _ => ?_)
    refine z_aload_n B dX4_fetchHotAnew_25 2 rfl ?_
    refine z_iload B dX4_fetchHotAnew_26 4 rfl ?_
    refine z_V1 B (kX1_freshNameAt l hl K ak F O1 (nI a)) [3] [0, 1, 2] (br := [zXo ax (az 0) sa la tr tc X, zZo K az Z W, zCa K ac C1]) (bs' := [zXo ax (az 0) sa la tr tc X, zZo K az Z W, zCa K ac C1, zCo K ak F O1]) (st := []) (nA := 1) (zsp rfl rfl rfl) (zsp rfl rfl rfl) 3 0 rfl rfl rfl rfl gX4_fetchHotAnew_X1_freshNameAt rfl (by decide +kernel) ⟨Nat.le_of_ble_eq_true rfl, Nat.le_of_ble_eq_true rfl⟩ rfl rfl (Nat.le_of_ble_eq_true rfl) ⟨Nat.le_of_ble_eq_true rfl, Nat.le_of_ble_eq_true rfl⟩ dX4_fetchHotAnew_28 z_noX (fun _ => ?_)
    refine z_istore B (lv' := [(5, .int (fX1_freshNameAt F O1 (nI a))), (0, .ref ax), (1, .ref (ac 0)), (2, .ref (ak 0)), (3, .int (O 1)), (4, .int (nI a))]) dX4_fetchHotAnew_31 (by decide) rfl ?_
    refine z_aload_n B dX4_fetchHotAnew_33 2 rfl ?_
    refine z_iload B dX4_fetchHotAnew_34 0 rfl ?_
    refine z_aload_n B dX4_fetchHotAnew_36 1 rfl ?_
    refine z_get B (v := .int (X 3)) 0 0 3 hiX4_fetchHotAnew_4 hfX4_fetchHotAnew_108 rfl rfl rfl (by decide) rfl rfl rfl rfl dX4_fetchHotAnew_37 ?_
    refine z_V1 B (kX0_isHot l hl K ac C1 (fX1_freshNameAt F O1 (nI a)) (X 3)) [2] [0, 1, 3] (br := [zXo ax (az 0) sa la tr tc X, zZo K az Z W, zCo K ak F O1]) (bs' := [zXo ax (az 0) sa la tr tc X, zZo K az Z W, zCa K ac C1, zCo K ak F O1]) (st := []) (nA := 2) (zsp rfl rfl rfl) (zsp rfl rfl rfl) 2 0 rfl rfl rfl rfl gX4_fetchHotAnew_X0_isHot rfl (by decide +kernel) ⟨Nat.le_of_ble_eq_true rfl, Nat.le_of_ble_eq_true rfl⟩ rfl rfl (Nat.le_of_ble_eq_true rfl) ⟨Nat.le_of_ble_eq_true rfl, Nat.le_of_ble_eq_true rfl⟩ dX4_fetchHotAnew_40 z_noX (fun _ => ?_)
    refine z_ifeq B 64 dX4_fetchHotAnew_43 (by decide) (fun c2 => ?_) (fun c2 => ?_)
    · refine z_iinc B (v := nI (a + 1)) (lv' := [(4, .int (nI (a + 1))), (5, .int (fX1_freshNameAt F O1 (nI a))), (0, .ref ax), (1, .ref (ac 0)), (2, .ref (ak 0)), (3, .int (O 1))]) dX4_fetchHotAnew_64 5 rfl (nI_1 a) (by decide) rfl ?_
      refine z_goto B (tgt := 19) dX4_fetchHotAnew_67 (by decide) ?_
      refine z_lsub [2, 3, 4, 5, 0] rfl ?_
      have hF : fX4_fetchHotAnew X Z W C F O = fX4_fetchHotAnew_L19 X Z W C F O n (a + 1) C1 O1 := (hF0).trans (if_pos c2)
      exact ih (a + 1) C1 O1 (by omega)  hF
    · refine z_aload_n B dX4_fetchHotAnew_46 1 rfl ?_
      refine z_aload_n B dX4_fetchHotAnew_47 2 rfl ?_
      refine z_iload B dX4_fetchHotAnew_48 0 rfl ?_
      refine z_aload_n B dX4_fetchHotAnew_50 3 rfl ?_
      refine z_V0 B (kX4_fetch l hl K ax az sa la tr tc X Z W ac C1 ak F O1 (fX1_freshNameAt F O1 (nI a))) [0, 1, 2, 3] [] (br := []) (bs' := [zXo ax (az 0) sa la tr tc X, zZo K az Z W, zCa K ac ((fX4_fetch X Z W C1 F O1 (fX1_freshNameAt F O1 (nI a))).1), zCo K ak F ((fX4_fetch X Z W C1 F O1 (fX1_freshNameAt F O1 (nI a))).2)]) (st := []) (nA := 3) (zsp rfl rfl rfl) (zsp rfl rfl rfl) 0 0 rfl rfl rfl rfl gX4_fetchHotAnew_X4_fetch rfl (by decide +kernel) ⟨Nat.le_of_ble_eq_true rfl, Nat.le_of_ble_eq_true rfl⟩ rfl rfl (Nat.le_of_ble_eq_true rfl) ⟨Nat.le_of_ble_eq_true rfl, Nat.le_of_ble_eq_true rfl⟩ dX4_fetchHotAnew_51 z_noX (fun _ => ?_)
      refine z_aload_n B dX4_fetchHotAnew_54 3 rfl ?_
      refine z_dup B dX4_fetchHotAnew_55 rfl ?_
      refine z_get B (v := .int (((fX4_fetch X Z W C1 F O1 (fX1_freshNameAt F O1 (nI a))).2) 4)) 3 0 4 hiX4_fetchHotAnew_1 hfX4_fetchHotAnew_212 rfl rfl rfl (by decide) rfl rfl rfl rfl dX4_fetchHotAnew_56 ?_
      refine z_iconst B (v := 1) dX4_fetchHotAnew_59 rfl ?_
      refine z_iadd B dX4_fetchHotAnew_60 ?_
      refine z_put B 3 0 4 hiX4_fetchHotAnew_1 hfX4_fetchHotAnew_212 tyX1_ok nmX1 rfl rfl rfl (by decide) rfl rfl rfl rfl rfl rfl rfl (Nat.le_of_ble_eq_true rfl) (bs' := [zXo ax (az 0) sa la tr tc X, zZo K az Z W, zCa K ac ((fX4_fetch X Z W C1 F O1 (fX1_freshNameAt F O1 (nI a))).1), zCo K ak F (va_up ((fX4_fetch X Z W C1 F O1 (fX1_freshNameAt F O1 (nI a))).2) 4 ((((fX4_fetch X Z W C1 F O1 (fX1_freshNameAt F O1 (nI a))).2) 4) + 1))]) rfl dX4_fetchHotAnew_61 ?_
      refine z_iinc B (v := nI (a + 1)) (lv' := [(4, .int (nI (a + 1))), (5, .int (fX1_freshNameAt F O1 (nI a))), (0, .ref ax), (1, .ref (ac 0)), (2, .ref (ak 0)), (3, .int (O 1))]) dX4_fetchHotAnew_64 5 rfl (nI_1 a) (by decide) rfl ?_
      refine z_goto B (tgt := 19) dX4_fetchHotAnew_67 (by decide) ?_
      refine z_lsub [2, 3, 4, 5, 0] rfl ?_
      have hF : fX4_fetchHotAnew X Z W C F O = fX4_fetchHotAnew_L19 X Z W C F O n (a + 1) ((fX4_fetch X Z W C1 F O1 (fX1_freshNameAt F O1 (nI a))).1) (va_up ((fX4_fetch X Z W C1 F O1 (fX1_freshNameAt F O1 (nI a))).2) 4 ((((fX4_fetch X Z W C1 F O1 (fX1_freshNameAt F O1 (nI a))).2) 4) + 1)) := (hF0).trans (if_neg c2)
      exact ih (a + 1) ((fX4_fetch X Z W C1 F O1 (fX1_freshNameAt F O1 (nI a))).1) (va_up ((fX4_fetch X Z W C1 F O1 (fX1_freshNameAt F O1 (nI a))).2) 4 ((((fX4_fetch X Z W C1 F O1 (fX1_freshNameAt F O1 (nI a))).2) 4) + 1)) (by omega)  hF
set_option maxHeartbeats 4000000 in
set_option maxRecDepth 100000 in
theorem kX4_fetchHotAnew (l : Launch) (hl : l.stackTraces = false) (K : zK) (ax : Nat) (az : Nat → Nat) (sa : Nat) (la : Nat) (tr : Nat) (tc : Nat) (X : Nat → Int32) (Z : Nat → Nat → Int32) (W : Nat → Int32) (ac : Nat → Nat) (C : Nat → Nat → Int32) (ak : Nat → Nat) (F : Nat → Int32) (O : Nat → Int32) (hO1 : ¬ (O 1) < 0) : zMet l K yX4_fetchHotAnew wsX4_fetchHotAnew { frames := 4, cells := 0, slots := 0, locals := 90 } [.ref ax, .ref (ac 0), .ref (ak 0)] [zXo ax (az 0) sa la tr tc X, zZo K az Z W, zCa K ac C, zCo K ak F O] none [zXo ax (az 0) sa la tr tc X, zZo K az Z W, zCa K ac ((fX4_fetchHotAnew X Z W C F O).1), zCo K ak F ((fX4_fetchHotAnew X Z W C F O).2)] True zNo := by
  refine zMeN.of (cc := cX4_fetchHotAnew) (maxL := 6) (ret := none) (own := RX4) (nm := "fetchHotAnew") hl (by decide +kernel) rfl rfl rfl (Nat.le_of_ble_eq_true rfl) (lv := [(0, .ref ax), (1, .ref (ac 0)), (2, .ref (ak 0))]) rfl ?_
  intro p e s m args below meth c A B
  refine z_aload_n B dX4_fetchHotAnew_0 0 rfl ?_
  refine z_get B (v := .ref (az 0)) 0 0 0 hiX4_fetchHotAnew_4 hfX4_fetchHotAnew_10 rfl rfl rfl (by decide) rfl rfl rfl rfl dX4_fetchHotAnew_1 ?_
  refine z_get B (v := .int (W 4)) 1 0 4 hiX4_fetchHotAnew_3 hfX4_fetchHotAnew_69 rfl rfl rfl (by decide) rfl rfl rfl rfl dX4_fetchHotAnew_4 ?_
  refine z_ifne B 11 dX4_fetchHotAnew_7 (by decide) (fun c1 => ?_) (fun c1 => ?_)
  · have hF : fX4_fetchHotAnew X Z W C F O = (C, O) := if_pos c1
    exact z_ret0 B dX4_fetchHotAnew_10 () (trivial) (Nat.le_of_ble_eq_true rfl) (Nat.le_of_ble_eq_true rfl) rfl (by rw [hF])
  · refine z_aload_n B dX4_fetchHotAnew_11 2 rfl ?_
    refine z_get B (v := .int (O 1)) 3 0 1 hiX4_fetchHotAnew_1 hfX4_fetchHotAnew_203 rfl rfl rfl (by decide) rfl rfl rfl rfl dX4_fetchHotAnew_12 ?_
    refine z_istore_n B (lv' := [(3, .int (O 1)), (0, .ref ax), (1, .ref (ac 0)), (2, .ref (ak 0))]) dX4_fetchHotAnew_15 (by decide) rfl ?_
    refine z_iconst B (v := 0) dX4_fetchHotAnew_16 rfl ?_
    refine z_istore B (lv' := [(4, .int 0), (3, .int (O 1)), (0, .ref ax), (1, .ref (ac 0)), (2, .ref (ak 0))]) dX4_fetchHotAnew_17 (by decide) rfl ?_
    refine z_lsub [2, 3, 4, 1, 0] rfl ?_
    have hF : fX4_fetchHotAnew X Z W C F O = fX4_fetchHotAnew_L19 X Z W C F O ((O 1).toNatClampNeg) 0 C O := if_neg c1
    exact kX4_fetchHotAnew_L19 l hl K ax az sa la tr tc X Z W ac C ak F O hO1 B ((O 1).toNatClampNeg) 0 C O (by omega)  hF
def fX4_countQuery (X : Nat → Int32) (F : Nat → Int32) (O : Nat → Int32) (x1 : Int32) : (Nat → Int32) :=
  if (O 5) = 0 then
    if x1 = (-2) then
      (va_up (va_up (va_up (va_up X 8 ((X 8) + 1)) 9 ((X 9) + (O 3))) 10 ((X 10) + (O 4))) 12 ((X 12) + 1))
    else
      (va_up (va_up (va_up X 8 ((X 8) + 1)) 9 ((X 9) + (O 3))) 10 ((X 10) + (O 4)))
  else
    if x1 = (-2) then
      (va_up (va_up (va_up (va_up (va_up X 8 ((X 8) + 1)) 9 ((X 9) + (O 3))) 10 ((X 10) + (O 4))) 11 ((X 11) + 1)) 12 ((X 12) + 1))
    else
      (va_up (va_up (va_up (va_up X 8 ((X 8) + 1)) 9 ((X 9) + (O 3))) 10 ((X 10) + (O 4))) 11 ((X 11) + 1))
theorem hiX4_countQuery_4 : ∀ w ∈ wsX40, w ∈ wsX4_countQuery := by decide +kernel
theorem hfX4_countQuery_158 : Cond.fieldLink RX4 158 "ResolverFleet" "queryCount" "I" ∈ wsX4_countQuery := by decide +kernel
theorem hfX4_countQuery_161 : Cond.fieldLink RX4 161 "ResolverFleet" "fetchCount" "I" ∈ wsX4_countQuery := by decide +kernel
theorem hfX4_countQuery_25 : Cond.fieldLink RX4 25 "ResolverFleet" "last" "LResolverFleet$Course;" ∈ wsX4_countQuery := by decide +kernel
theorem hiX4_countQuery_1 : ∀ w ∈ wsX10, w ∈ wsX4_countQuery := by decide +kernel
theorem hfX4_countQuery_139 : Cond.fieldLink RX4 139 "ResolverFleet$Course" "fetches" "I" ∈ wsX4_countQuery := by decide +kernel
theorem hfX4_countQuery_164 : Cond.fieldLink RX4 164 "ResolverFleet" "prefetchCount" "I" ∈ wsX4_countQuery := by decide +kernel
theorem hfX4_countQuery_212 : Cond.fieldLink RX4 212 "ResolverFleet$Course" "prefetches" "I" ∈ wsX4_countQuery := by decide +kernel
theorem hfX4_countQuery_133 : Cond.fieldLink RX4 133 "ResolverFleet$Course" "isStale" "Z" ∈ wsX4_countQuery := by decide +kernel
theorem hfX4_countQuery_170 : Cond.fieldLink RX4 170 "ResolverFleet" "failureCount" "I" ∈ wsX4_countQuery := by decide +kernel
theorem hfX4_countQuery_167 : Cond.fieldLink RX4 167 "ResolverFleet" "staleCount" "I" ∈ wsX4_countQuery := by decide +kernel
set_option maxHeartbeats 4000000 in
set_option maxRecDepth 100000 in
theorem kX4_countQuery (l : Launch) (hl : l.stackTraces = false) (K : zK) (ax : Nat) (zn : Nat) (sa : Nat) (ak : Nat → Nat) (tr : Nat) (tc : Nat) (X : Nat → Int32) (F : Nat → Int32) (O : Nat → Int32) (x1 : Int32) : zMet l K yX4_countQuery wsX4_countQuery { frames := 0, cells := 0, slots := 0, locals := 0 } [.ref ax, .int x1] [zXo ax zn sa (ak 0) tr tc X, zCo K ak F O] none [zXo ax zn sa (ak 0) tr tc (fX4_countQuery X F O x1), zCo K ak F O] True zNo := by
  refine zMeN.of (cc := cX4_countQuery) (maxL := 2) (ret := none) (own := RX4) (nm := "countQuery") hl (by decide +kernel) rfl rfl rfl (Nat.le_of_ble_eq_true rfl) (lv := [(0, .ref ax), (1, .int x1)]) rfl ?_
  intro p e s m args below meth c A B
  refine z_aload_n B dX4_countQuery_0 0 rfl ?_
  refine z_dup B dX4_countQuery_1 rfl ?_
  refine z_get B (v := .int (X 8)) 0 0 8 hiX4_countQuery_4 hfX4_countQuery_158 rfl rfl rfl (by decide) rfl rfl rfl rfl dX4_countQuery_2 ?_
  refine z_iconst B (v := 1) dX4_countQuery_5 rfl ?_
  refine z_iadd B dX4_countQuery_6 ?_
  refine z_put B 0 0 8 hiX4_countQuery_4 hfX4_countQuery_158 tyX4_ok nmX4 rfl rfl rfl (by decide) rfl rfl rfl rfl rfl rfl rfl (Nat.le_of_ble_eq_true rfl) (bs' := [zXo ax zn sa (ak 0) tr tc (va_up X 8 ((X 8) + 1)), zCo K ak F O]) rfl dX4_countQuery_7 ?_
  refine z_aload_n B dX4_countQuery_10 0 rfl ?_
  refine z_dup B dX4_countQuery_11 rfl ?_
  refine z_get B (v := .int (X 9)) 0 0 9 hiX4_countQuery_4 hfX4_countQuery_161 rfl rfl rfl (by decide) rfl rfl rfl rfl dX4_countQuery_12 ?_
  refine z_aload_n B dX4_countQuery_15 0 rfl ?_
  refine z_get B (v := .ref (ak 0)) 0 0 4 hiX4_countQuery_4 hfX4_countQuery_25 rfl rfl rfl (by decide) rfl rfl rfl rfl dX4_countQuery_16 ?_
  refine z_get B (v := .int (O 3)) 1 0 3 hiX4_countQuery_1 hfX4_countQuery_139 rfl rfl rfl (by decide) rfl rfl rfl rfl dX4_countQuery_19 ?_
  refine z_iadd B dX4_countQuery_22 ?_
  refine z_put B 0 0 9 hiX4_countQuery_4 hfX4_countQuery_161 tyX4_ok nmX4 rfl rfl rfl (by decide) rfl rfl rfl rfl rfl rfl rfl (Nat.le_of_ble_eq_true rfl) (bs' := [zXo ax zn sa (ak 0) tr tc (va_up (va_up X 8 ((X 8) + 1)) 9 ((X 9) + (O 3))), zCo K ak F O]) rfl dX4_countQuery_23 ?_
  refine z_aload_n B dX4_countQuery_26 0 rfl ?_
  refine z_dup B dX4_countQuery_27 rfl ?_
  refine z_get B (v := .int (X 10)) 0 0 10 hiX4_countQuery_4 hfX4_countQuery_164 rfl rfl rfl (by decide) rfl rfl rfl rfl dX4_countQuery_28 ?_
  refine z_aload_n B dX4_countQuery_31 0 rfl ?_
  refine z_get B (v := .ref (ak 0)) 0 0 4 hiX4_countQuery_4 hfX4_countQuery_25 rfl rfl rfl (by decide) rfl rfl rfl rfl dX4_countQuery_32 ?_
  refine z_get B (v := .int (O 4)) 1 0 4 hiX4_countQuery_1 hfX4_countQuery_212 rfl rfl rfl (by decide) rfl rfl rfl rfl dX4_countQuery_35 ?_
  refine z_iadd B dX4_countQuery_38 ?_
  refine z_put B 0 0 10 hiX4_countQuery_4 hfX4_countQuery_164 tyX4_ok nmX4 rfl rfl rfl (by decide) rfl rfl rfl rfl rfl rfl rfl (Nat.le_of_ble_eq_true rfl) (bs' := [zXo ax zn sa (ak 0) tr tc (va_up (va_up (va_up X 8 ((X 8) + 1)) 9 ((X 9) + (O 3))) 10 ((X 10) + (O 4))), zCo K ak F O]) rfl dX4_countQuery_39 ?_
  refine z_aload_n B dX4_countQuery_42 0 rfl ?_
  refine z_get B (v := .ref (ak 0)) 0 0 4 hiX4_countQuery_4 hfX4_countQuery_25 rfl rfl rfl (by decide) rfl rfl rfl rfl dX4_countQuery_43 ?_
  refine z_get B (v := .int (O 5)) 1 0 5 hiX4_countQuery_1 hfX4_countQuery_133 rfl rfl rfl (by decide) rfl rfl rfl rfl dX4_countQuery_46 ?_
  refine z_ifeq B 62 dX4_countQuery_49 (by decide) (fun c1 => ?_) (fun c1 => ?_)
  · refine z_iload_n B dX4_countQuery_62 1 rfl ?_
    refine z_bipush B (v := (-2)) dX4_countQuery_63 rfl ?_
    refine z_icne B 78 dX4_countQuery_65 (by decide) (fun c2 => ?_) (fun c2 => ?_)
    · refine z_aload_n B dX4_countQuery_68 0 rfl ?_
      refine z_dup B dX4_countQuery_69 rfl ?_
      refine z_get B (v := .int (X 12)) 0 0 12 hiX4_countQuery_4 hfX4_countQuery_170 rfl rfl rfl (by decide) rfl rfl rfl rfl dX4_countQuery_70 ?_
      refine z_iconst B (v := 1) dX4_countQuery_73 rfl ?_
      refine z_iadd B dX4_countQuery_74 ?_
      refine z_put B 0 0 12 hiX4_countQuery_4 hfX4_countQuery_170 tyX4_ok nmX4 rfl rfl rfl (by decide) rfl rfl rfl rfl rfl rfl rfl (Nat.le_of_ble_eq_true rfl) (bs' := [zXo ax zn sa (ak 0) tr tc (va_up (va_up (va_up (va_up X 8 ((X 8) + 1)) 9 ((X 9) + (O 3))) 10 ((X 10) + (O 4))) 12 ((X 12) + 1)), zCo K ak F O]) rfl dX4_countQuery_75 ?_
      have hF : fX4_countQuery X F O x1 = (va_up (va_up (va_up (va_up X 8 ((X 8) + 1)) 9 ((X 9) + (O 3))) 10 ((X 10) + (O 4))) 12 ((X 12) + 1)) := (if_pos c1).trans (if_pos c2)
      exact z_ret0 B dX4_countQuery_78 () (trivial) (Nat.le_of_ble_eq_true rfl) (Nat.le_of_ble_eq_true rfl) rfl (by rw [hF])
    · have hF : fX4_countQuery X F O x1 = (va_up (va_up (va_up X 8 ((X 8) + 1)) 9 ((X 9) + (O 3))) 10 ((X 10) + (O 4))) := (if_pos c1).trans (if_neg c2)
      exact z_ret0 B dX4_countQuery_78 () (trivial) (Nat.le_of_ble_eq_true rfl) (Nat.le_of_ble_eq_true rfl) rfl (by rw [hF])
  · refine z_aload_n B dX4_countQuery_52 0 rfl ?_
    refine z_dup B dX4_countQuery_53 rfl ?_
    refine z_get B (v := .int (X 11)) 0 0 11 hiX4_countQuery_4 hfX4_countQuery_167 rfl rfl rfl (by decide) rfl rfl rfl rfl dX4_countQuery_54 ?_
    refine z_iconst B (v := 1) dX4_countQuery_57 rfl ?_
    refine z_iadd B dX4_countQuery_58 ?_
    refine z_put B 0 0 11 hiX4_countQuery_4 hfX4_countQuery_167 tyX4_ok nmX4 rfl rfl rfl (by decide) rfl rfl rfl rfl rfl rfl rfl (Nat.le_of_ble_eq_true rfl) (bs' := [zXo ax zn sa (ak 0) tr tc (va_up (va_up (va_up (va_up X 8 ((X 8) + 1)) 9 ((X 9) + (O 3))) 10 ((X 10) + (O 4))) 11 ((X 11) + 1)), zCo K ak F O]) rfl dX4_countQuery_59 ?_
    refine z_iload_n B dX4_countQuery_62 1 rfl ?_
    refine z_bipush B (v := (-2)) dX4_countQuery_63 rfl ?_
    refine z_icne B 78 dX4_countQuery_65 (by decide) (fun c3 => ?_) (fun c3 => ?_)
    · refine z_aload_n B dX4_countQuery_68 0 rfl ?_
      refine z_dup B dX4_countQuery_69 rfl ?_
      refine z_get B (v := .int (X 12)) 0 0 12 hiX4_countQuery_4 hfX4_countQuery_170 rfl rfl rfl (by decide) rfl rfl rfl rfl dX4_countQuery_70 ?_
      refine z_iconst B (v := 1) dX4_countQuery_73 rfl ?_
      refine z_iadd B dX4_countQuery_74 ?_
      refine z_put B 0 0 12 hiX4_countQuery_4 hfX4_countQuery_170 tyX4_ok nmX4 rfl rfl rfl (by decide) rfl rfl rfl rfl rfl rfl rfl (Nat.le_of_ble_eq_true rfl) (bs' := [zXo ax zn sa (ak 0) tr tc (va_up (va_up (va_up (va_up (va_up X 8 ((X 8) + 1)) 9 ((X 9) + (O 3))) 10 ((X 10) + (O 4))) 11 ((X 11) + 1)) 12 ((X 12) + 1)), zCo K ak F O]) rfl dX4_countQuery_75 ?_
      have hF : fX4_countQuery X F O x1 = (va_up (va_up (va_up (va_up (va_up X 8 ((X 8) + 1)) 9 ((X 9) + (O 3))) 10 ((X 10) + (O 4))) 11 ((X 11) + 1)) 12 ((X 12) + 1)) := (if_neg c1).trans (if_pos c3)
      exact z_ret0 B dX4_countQuery_78 () (trivial) (Nat.le_of_ble_eq_true rfl) (Nat.le_of_ble_eq_true rfl) rfl (by rw [hF])
    · have hF : fX4_countQuery X F O x1 = (va_up (va_up (va_up (va_up X 8 ((X 8) + 1)) 9 ((X 9) + (O 3))) 10 ((X 10) + (O 4))) 11 ((X 11) + 1)) := (if_neg c1).trans (if_neg c3)
      exact z_ret0 B dX4_countQuery_78 () (trivial) (Nat.le_of_ble_eq_true rfl) (Nat.le_of_ble_eq_true rfl) rfl (by rw [hF])
