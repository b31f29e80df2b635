def fX4_setAddress_s4 (X : Nat → Int32) (Z : Nat → Nat → Int32) (W : Nat → Int32) (x1 : Int32) (x2 : Int32) (x3 : Int32) (o4 : (Nat → Nat → Int32)) : Nat × (Nat → Nat → Int32) :=
  (0, o4)
def fX4_setAddress (X : Nat → Int32) (Z : Nat → Nat → Int32) (W : Nat → Int32) (x1 : Int32) (x2 : Int32) (x3 : Int32) : Nat × (Nat → Nat → Int32) :=
  if (fX4_requireName x1) = 0 then
    if (fX4_requireWithin x2 1 9999) = 0 then
      if (fX4_requireWithin x3 1 1000) = 0 then
        fX4_setAddress_s4 X Z W x1 x2 x3 (fX3_put Z W x1 0 x2 x3)
      else
        ((fX4_requireWithin x3 1 1000), Z)
    else
      ((fX4_requireWithin x2 1 9999), Z)
  else
    ((fX4_requireName x1), Z)
theorem hiX4_setAddress_4 : ∀ w ∈ wsX40, w ∈ wsX4_setAddress := by decide +kernel
theorem hfX4_setAddress_10 : Cond.fieldLink RX4 10 "ResolverFleet" "zone" "LResolverFleet$Zone;" ∈ wsX4_setAddress := by decide +kernel
set_option maxHeartbeats 4000000 in
set_option maxRecDepth 100000 in
theorem kX4_setAddress (l : Launch) (hl : l.stackTraces = false) (K : zK) (ax : Nat) (az : Nat → Nat) (sa : Nat) (la : Nat) (tr : Nat) (tc : Nat) (X : Nat → Int32) (Z : Nat → Nat → Int32) (W : Nat → Int32) (x1 : Int32) (x2 : Int32) (x3 : Int32) : zMet l K yX4_setAddress wsX4_setAddress { frames := 7, cells := 3, slots := 18, locals := 104 } [.ref ax, .int x1, .int x2, .int x3] [zXo ax (az 0) sa la tr tc X, zZo K az Z W] none [zXo ax (az 0) sa la tr tc X, zZo K az ((fX4_setAddress X Z W x1 x2 x3).2) W] ((fX4_setAddress X Z W x1 x2 x3).1 = 0) (fun E => (E = zE1 ∧ (fX4_setAddress X Z W x1 x2 x3).1 = 1) ∨ (E = zE2 ∧ (fX4_setAddress X Z W x1 x2 x3).1 = 2)) := by
  refine zMeN.of (cc := cX4_setAddress) (maxL := 4) (ret := none) (own := RX4) (nm := "setAddress") hl (by decide +kernel) rfl rfl rfl (Nat.le_of_ble_eq_true rfl) (lv := [(0, .ref ax), (1, .int x1), (2, .int x2), (3, .int x3)]) rfl ?_
  intro p e s m args below meth c A B
  refine z_iload_n B dX4_setAddress_0 1 rfl ?_
  refine z_S0 B (kX4_requireName l hl K x1) [] [0, 1] (br := [zXo ax (az 0) sa la tr tc X, zZo K az Z W]) (bs' := [zXo ax (az 0) sa la tr tc X, zZo K az Z W]) (st := []) (nA := 1) (zsp rfl rfl rfl) (zsp rfl rfl rfl) gX4_setAddress_X4_requireName rfl (by decide +kernel) ⟨Nat.le_of_ble_eq_true rfl, Nat.le_of_ble_eq_true rfl⟩ rfl rfl (Nat.le_of_ble_eq_true rfl) ⟨Nat.le_of_ble_eq_true rfl, Nat.le_of_ble_eq_true rfl⟩ dX4_setAddress_1 (fun E hE => ?_) (fun h1 => ?_)
  · rcases hE with ⟨rfl, hx⟩
    · have hF : fX4_setAddress X Z W x1 x2 x3 = (1, Z) := (if_neg (show ¬ (fX4_requireName x1) = 0 by rw [hx]; decide)).trans ((by rw [hx]))
      exact z_out B (Or.inl ⟨rfl, by rw [hF]⟩) (Nat.le_of_ble_eq_true rfl) (Nat.le_of_ble_eq_true rfl)
  refine z_iload_n B dX4_setAddress_4 2 rfl ?_
  refine z_iconst B (v := 1) dX4_setAddress_5 rfl ?_
  refine z_sipush B (v := 9999) dX4_setAddress_6 rfl ?_
  refine z_S0 B (kX4_requireWithin l hl K x2 1 9999) [] [0, 1] (br := [zXo ax (az 0) sa la tr tc X, zZo K az Z W]) (bs' := [zXo ax (az 0) sa la tr tc X, zZo K az Z W]) (st := []) (nA := 3) (zsp rfl rfl rfl) (zsp rfl rfl rfl) gX4_setAddress_X4_requireWithin rfl (by decide +kernel) ⟨Nat.le_of_ble_eq_true rfl, Nat.le_of_ble_eq_true rfl⟩ rfl rfl (Nat.le_of_ble_eq_true rfl) ⟨Nat.le_of_ble_eq_true rfl, Nat.le_of_ble_eq_true rfl⟩ dX4_setAddress_9 (fun E hE => ?_) (fun h2 => ?_)
  · rcases hE with ⟨rfl, hx⟩
    · have hF : fX4_setAddress X Z W x1 x2 x3 = (2, Z) := (if_pos h1).trans ((if_neg (show ¬ (fX4_requireWithin x2 1 9999) = 0 by rw [hx]; decide)).trans ((by rw [hx])))
      exact z_out B (Or.inr (⟨rfl, by rw [hF]⟩)) (Nat.le_of_ble_eq_true rfl) (Nat.le_of_ble_eq_true rfl)
  refine z_iload_n B dX4_setAddress_12 3 rfl ?_
  refine z_iconst B (v := 1) dX4_setAddress_13 rfl ?_
  refine z_sipush B (v := 1000) dX4_setAddress_14 rfl ?_
  refine z_S0 B (kX4_requireWithin l hl K x3 1 1000) [] [0, 1] (br := [zXo ax (az 0) sa la tr tc X, zZo K az Z W]) (bs' := [zXo ax (az 0) sa la tr tc X, zZo K az Z W]) (st := []) (nA := 3) (zsp rfl rfl rfl) (zsp rfl rfl rfl) gX4_setAddress_X4_requireWithin rfl (by decide +kernel) ⟨Nat.le_of_ble_eq_true rfl, Nat.le_of_ble_eq_true rfl⟩ rfl rfl (Nat.le_of_ble_eq_true rfl) ⟨Nat.le_of_ble_eq_true rfl, Nat.le_of_ble_eq_true rfl⟩ dX4_setAddress_17 (fun E hE => ?_) (fun h3 => ?_)
  · rcases hE with ⟨rfl, hx⟩
    · have hF : fX4_setAddress X Z W x1 x2 x3 = (2, Z) := (if_pos h1).trans ((if_pos h2).trans ((if_neg (show ¬ (fX4_requireWithin x3 1 1000) = 0 by rw [hx]; decide)).trans ((by rw [hx]))))
      exact z_out B (Or.inr (⟨rfl, by rw [hF]⟩)) (Nat.le_of_ble_eq_true rfl) (Nat.le_of_ble_eq_true rfl)
  refine z_aload_n B dX4_setAddress_20 0 rfl ?_
  refine z_get B (v := .ref (az 0)) 0 0 0 hiX4_setAddress_4 hfX4_setAddress_10 rfl rfl rfl (by decide) rfl rfl rfl rfl dX4_setAddress_21 ?_
  refine z_iload_n B dX4_setAddress_24 1 rfl ?_
  refine z_iconst B (v := 0) dX4_setAddress_25 rfl ?_
  refine z_iload_n B dX4_setAddress_26 2 rfl ?_
  refine z_iload_n B dX4_setAddress_27 3 rfl ?_
  refine z_V0 B (kX3_put l hl K az Z W x1 0 x2 x3) [1] [0] (br := [zXo ax (az 0) sa la tr tc X]) (bs' := [zXo ax (az 0) sa la tr tc X, zZo K az (fX3_put Z W x1 0 x2 x3) W]) (st := []) (nA := 4) (zsp rfl rfl rfl) (zsp rfl rfl rfl) 1 0 rfl rfl rfl rfl gX4_setAddress_X3_put rfl (by decide +kernel) ⟨Nat.le_of_ble_eq_true rfl, Nat.le_of_ble_eq_true rfl⟩ rfl rfl (Nat.le_of_ble_eq_true rfl) ⟨Nat.le_of_ble_eq_true rfl, Nat.le_of_ble_eq_true rfl⟩ dX4_setAddress_28 z_noX (fun _ => ?_)
  generalize ho4 : (fX3_put Z W x1 0 x2 x3) = o4
  have hF : fX4_setAddress X Z W x1 x2 x3 = (0, o4) := (if_pos h1).trans ((if_pos h2).trans ((if_pos h3).trans (congrArg (fun o => fX4_setAddress_s4 X Z W x1 x2 x3 o) ho4)))
  exact z_ret0 B dX4_setAddress_31 () (by rw [hF]) (Nat.le_of_ble_eq_true rfl) (Nat.le_of_ble_eq_true rfl) rfl (by rw [hF])
def fX4_setAlias_s5 (X : Nat → Int32) (Z : Nat → Nat → Int32) (W : Nat → Int32) (x1 : Int32) (x2 : Int32) (x3 : Int32) (o5 : (Nat → Nat → Int32)) : Nat × (Nat → Nat → Int32) :=
  (0, o5)
def fX4_setAlias (X : Nat → Int32) (Z : Nat → Nat → Int32) (W : Nat → Int32) (x1 : Int32) (x2 : Int32) (x3 : Int32) : Nat × (Nat → Nat → Int32) :=
  if (fX4_requireName x1) = 0 then
    if (fX4_requireName x2) = 0 then
      if x2 = x1 then
        (2, Z)
      else
        if (fX4_requireWithin x3 1 1000) = 0 then
          fX4_setAlias_s5 X Z W x1 x2 x3 (fX3_put Z W x1 1 x2 x3)
        else
          ((fX4_requireWithin x3 1 1000), Z)
    else
      ((fX4_requireName x2), Z)
  else
    ((fX4_requireName x1), Z)
theorem haX4_setAlias_59 : ∀ w ∈ (vx_atS RX4 59 "java/lang/IllegalArgumentException" ["java/lang/RuntimeException", "java/lang/Exception"]).filter goodWord, w ∈ wsX4_setAlias := by decide +kernel
theorem hgX4_setAlias_59 : ∀ w ∈ (vx_atS RX4 59 "java/lang/IllegalArgumentException" ["java/lang/RuntimeException", "java/lang/Exception"]).filter (fun w => !goodWord w), w ∈ zNw := by decide +kernel
theorem hoX4_setAlias_59 : ∀ w ∈ Cond.classLink RX4 55 "java/lang/IllegalArgumentException" :: Cond.initialized "java/lang/IllegalArgumentException" :: vx_atS RX4 59 "java/lang/IllegalArgumentException" ["java/lang/RuntimeException", "java/lang/Exception"], vx_ot w = true := by decide +kernel
theorem hwX4_setAlias_cl55 : Cond.classLink RX4 55 "java/lang/IllegalArgumentException" ∈ wsX4_setAlias := by decide +kernel
theorem hwX4_setAlias_ini55 : Cond.initialized "java/lang/IllegalArgumentException" ∈ wsX4_setAlias := by decide +kernel
theorem hiX4_setAlias_4 : ∀ w ∈ wsX40, w ∈ wsX4_setAlias := by decide +kernel
theorem hfX4_setAlias_10 : Cond.fieldLink RX4 10 "ResolverFleet" "zone" "LResolverFleet$Zone;" ∈ wsX4_setAlias := by decide +kernel
set_option maxHeartbeats 4000000 in
set_option maxRecDepth 100000 in
theorem kX4_setAlias (l : Launch) (hl : l.stackTraces = false) (K : zK) (ax : Nat) (az : Nat → Nat) (sa : Nat) (la : Nat) (tr : Nat) (tc : Nat) (X : Nat → Int32) (Z : Nat → Nat → Int32) (W : Nat → Int32) (x1 : Int32) (x2 : Int32) (x3 : Int32) : zMet l K yX4_setAlias wsX4_setAlias { frames := 7, cells := 3, slots := 18, locals := 104 } [.ref ax, .int x1, .int x2, .int x3] [zXo ax (az 0) sa la tr tc X, zZo K az Z W] none [zXo ax (az 0) sa la tr tc X, zZo K az ((fX4_setAlias X Z W x1 x2 x3).2) W] ((fX4_setAlias X Z W x1 x2 x3).1 = 0) (fun E => (E = zE1 ∧ (fX4_setAlias X Z W x1 x2 x3).1 = 1) ∨ (E = zE2 ∧ (fX4_setAlias X Z W x1 x2 x3).1 = 2)) := by
  refine zMeN.of (cc := cX4_setAlias) (maxL := 4) (ret := none) (own := RX4) (nm := "setAlias") hl (by decide +kernel) rfl rfl rfl (Nat.le_of_ble_eq_true rfl) (lv := [(0, .ref ax), (1, .int x1), (2, .int x2), (3, .int x3)]) rfl ?_
  intro p e s m args below meth c A B
  refine z_iload_n B dX4_setAlias_0 1 rfl ?_
  refine z_S0 B (kX4_requireName l hl K x1) [] [0, 1] (br := [zXo ax (az 0) sa la tr tc X, zZo K az Z W]) (bs' := [zXo ax (az 0) sa la tr tc X, zZo K az Z W]) (st := []) (nA := 1) (zsp rfl rfl rfl) (zsp rfl rfl rfl) gX4_setAlias_X4_requireName rfl (by decide +kernel) ⟨Nat.le_of_ble_eq_true rfl, Nat.le_of_ble_eq_true rfl⟩ rfl rfl (Nat.le_of_ble_eq_true rfl) ⟨Nat.le_of_ble_eq_true rfl, Nat.le_of_ble_eq_true rfl⟩ dX4_setAlias_1 (fun E hE => ?_) (fun h1 => ?_)
  · rcases hE with ⟨rfl, hx⟩
    · have hF : fX4_setAlias X Z W x1 x2 x3 = (1, Z) := (if_neg (show ¬ (fX4_requireName x1) = 0 by rw [hx]; decide)).trans ((by rw [hx]))
      exact z_out B (Or.inl ⟨rfl, by rw [hF]⟩) (Nat.le_of_ble_eq_true rfl) (Nat.le_of_ble_eq_true rfl)
  refine z_iload_n B dX4_setAlias_4 2 rfl ?_
  refine z_S0 B (kX4_requireName l hl K x2) [] [0, 1] (br := [zXo ax (az 0) sa la tr tc X, zZo K az Z W]) (bs' := [zXo ax (az 0) sa la tr tc X, zZo K az Z W]) (st := []) (nA := 1) (zsp rfl rfl rfl) (zsp rfl rfl rfl) gX4_setAlias_X4_requireName rfl (by decide +kernel) ⟨Nat.le_of_ble_eq_true rfl, Nat.le_of_ble_eq_true rfl⟩ rfl rfl (Nat.le_of_ble_eq_true rfl) ⟨Nat.le_of_ble_eq_true rfl, Nat.le_of_ble_eq_true rfl⟩ dX4_setAlias_5 (fun E hE => ?_) (fun h2 => ?_)
  · rcases hE with ⟨rfl, hx⟩
    · have hF : fX4_setAlias X Z W x1 x2 x3 = (1, Z) := (if_pos h1).trans ((if_neg (show ¬ (fX4_requireName x2) = 0 by rw [hx]; decide)).trans ((by rw [hx])))
      exact z_out B (Or.inl ⟨rfl, by rw [hF]⟩) (Nat.le_of_ble_eq_true rfl) (Nat.le_of_ble_eq_true rfl)
  refine z_iload_n B dX4_setAlias_8 2 rfl ?_
  refine z_iload_n B dX4_setAlias_9 1 rfl ?_
  refine z_icne B 23 dX4_setAlias_10 (by decide) (fun c3 => ?_) (fun c3 => ?_)
  · have hF : fX4_setAlias X Z W x1 x2 x3 = (2, Z) := (if_pos h1).trans ((if_pos h2).trans (if_pos c3))
    exact z_throw B rfl ["java/lang/RuntimeException", "java/lang/Exception"] (by decide +kernel) (by decide +kernel) hwX4_setAlias_cl55 hwX4_setAlias_ini55 (text := "a name is no alias for itself") (by decide +kernel) haX4_setAlias_59 hgX4_setAlias_59 hoX4_setAlias_59 dX4_setAlias_13 dX4_setAlias_16 dX4_setAlias_17 dX4_setAlias_19 dX4_setAlias_22 (by decide) (Nat.le_of_ble_eq_true rfl) (Nat.le_of_ble_eq_true rfl) (Nat.le_of_ble_eq_true rfl) (Or.inr (⟨rfl, by rw [hF]⟩)) (Nat.le_of_ble_eq_true rfl) (Nat.le_of_ble_eq_true rfl)
  · refine z_iload_n B dX4_setAlias_23 3 rfl ?_
    refine z_iconst B (v := 1) dX4_setAlias_24 rfl ?_
    refine z_sipush B (v := 1000) dX4_setAlias_25 rfl ?_
    refine z_S0 B (kX4_requireWithin l hl K x3 1 1000) [] [0, 1] (br := [zXo ax (az 0) sa la tr tc X, zZo K az Z W]) (bs' := [zXo ax (az 0) sa la tr tc X, zZo K az Z W]) (st := []) (nA := 3) (zsp rfl rfl rfl) (zsp rfl rfl rfl) gX4_setAlias_X4_requireWithin rfl (by decide +kernel) ⟨Nat.le_of_ble_eq_true rfl, Nat.le_of_ble_eq_true rfl⟩ rfl rfl (Nat.le_of_ble_eq_true rfl) ⟨Nat.le_of_ble_eq_true rfl, Nat.le_of_ble_eq_true rfl⟩ dX4_setAlias_28 (fun E hE => ?_) (fun h4 => ?_)
    · rcases hE with ⟨rfl, hx⟩
      · have hF : fX4_setAlias X Z W x1 x2 x3 = (2, Z) := (if_pos h1).trans ((if_pos h2).trans ((if_neg c3).trans ((if_neg (show ¬ (fX4_requireWithin x3 1 1000) = 0 by rw [hx]; decide)).trans ((by rw [hx])))))
        exact z_out B (Or.inr (⟨rfl, by rw [hF]⟩)) (Nat.le_of_ble_eq_true rfl) (Nat.le_of_ble_eq_true rfl)
    refine z_aload_n B dX4_setAlias_31 0 rfl ?_
    refine z_get B (v := .ref (az 0)) 0 0 0 hiX4_setAlias_4 hfX4_setAlias_10 rfl rfl rfl (by decide) rfl rfl rfl rfl dX4_setAlias_32 ?_
    refine z_iload_n B dX4_setAlias_35 1 rfl ?_
    refine z_iconst B (v := 1) dX4_setAlias_36 rfl ?_
    refine z_iload_n B dX4_setAlias_37 2 rfl ?_
    refine z_iload_n B dX4_setAlias_38 3 rfl ?_
    refine z_V0 B (kX3_put l hl K az Z W x1 1 x2 x3) [1] [0] (br := [zXo ax (az 0) sa la tr tc X]) (bs' := [zXo ax (az 0) sa la tr tc X, zZo K az (fX3_put Z W x1 1 x2 x3) W]) (st := []) (nA := 4) (zsp rfl rfl rfl) (zsp rfl rfl rfl) 1 0 rfl rfl rfl rfl gX4_setAlias_X3_put rfl (by decide +kernel) ⟨Nat.le_of_ble_eq_true rfl, Nat.le_of_ble_eq_true rfl⟩ rfl rfl (Nat.le_of_ble_eq_true rfl) ⟨Nat.le_of_ble_eq_true rfl, Nat.le_of_ble_eq_true rfl⟩ dX4_setAlias_39 z_noX (fun _ => ?_)
    generalize ho5 : (fX3_put Z W x1 1 x2 x3) = o5
    have hF : fX4_setAlias X Z W x1 x2 x3 = (0, o5) := (if_pos h1).trans ((if_pos h2).trans ((if_neg c3).trans ((if_pos h4).trans (congrArg (fun o => fX4_setAlias_s5 X Z W x1 x2 x3 o) ho5))))
    exact z_ret0 B dX4_setAlias_42 () (by rw [hF]) (Nat.le_of_ble_eq_true rfl) (Nat.le_of_ble_eq_true rfl) rfl (by rw [hF])
def fX4_remove_s3 (X : Nat → Int32) (Z : Nat → Nat → Int32) (W : Nat → Int32) (x1 : Int32) (o3 : (Nat → Nat → Int32)) : Nat × Int32 × (Nat → Nat → Int32) :=
  (0, 0, o3)
def fX4_remove_s4 (X : Nat → Int32) (Z : Nat → Nat → Int32) (W : Nat → Int32) (x1 : Int32) (o4 : (Nat → Nat → Int32)) : Nat × Int32 × (Nat → Nat → Int32) :=
  (0, 1, o4)
def fX4_remove (X : Nat → Int32) (Z : Nat → Nat → Int32) (W : Nat → Int32) (x1 : Int32) : Nat × Int32 × (Nat → Nat → Int32) :=
  if (fX4_requireName x1) = 0 then
    if (fX3_kindOf Z W x1) = 2 then
      fX4_remove_s3 X Z W x1 (fX3_put Z W x1 2 (-3) 0)
    else
      fX4_remove_s4 X Z W x1 (fX3_put Z W x1 2 (-3) 0)
  else
    ((fX4_requireName x1), 0, Z)
theorem hiX4_remove_4 : ∀ w ∈ wsX40, w ∈ wsX4_remove := by decide +kernel
theorem hfX4_remove_10 : Cond.fieldLink RX4 10 "ResolverFleet" "zone" "LResolverFleet$Zone;" ∈ wsX4_remove := by decide +kernel
set_option maxHeartbeats 4000000 in
set_option maxRecDepth 100000 in
theorem kX4_remove (l : Launch) (hl : l.stackTraces = false) (K : zK) (ax : Nat) (az : Nat → Nat) (sa : Nat) (la : Nat) (tr : Nat) (tc : Nat) (X : Nat → Int32) (Z : Nat → Nat → Int32) (W : Nat → Int32) (x1 : Int32) : zMet l K yX4_remove wsX4_remove { frames := 7, cells := 1, slots := 6, locals := 102 } [.ref ax, .int x1] [zXo ax (az 0) sa la tr tc X, zZo K az Z W] (some (.int ((fX4_remove X Z W x1).2.1))) [zXo ax (az 0) sa la tr tc X, zZo K az ((fX4_remove X Z W x1).2.2) W] ((fX4_remove X Z W x1).1 = 0) (fun E => (E = zE1 ∧ (fX4_remove X Z W x1).1 = 1)) := by
  refine zMeN.of (cc := cX4_remove) (maxL := 3) (ret := (some .boolean)) (own := RX4) (nm := "remove") hl (by decide +kernel) rfl rfl rfl (Nat.le_of_ble_eq_true rfl) (lv := [(0, .ref ax), (1, .int x1)]) rfl ?_
  intro p e s m args below meth c A B
  refine z_iload_n B dX4_remove_0 1 rfl ?_
  refine z_S0 B (kX4_requireName l hl K x1) [] [0, 1] (br := [zXo ax (az 0) sa la tr tc X, zZo K az Z W]) (bs' := [zXo ax (az 0) sa la tr tc X, zZo K az Z W]) (st := []) (nA := 1) (zsp rfl rfl rfl) (zsp rfl rfl rfl) gX4_remove_X4_requireName rfl (by decide +kernel) ⟨Nat.le_of_ble_eq_true rfl, Nat.le_of_ble_eq_true rfl⟩ rfl rfl (Nat.le_of_ble_eq_true rfl) ⟨Nat.le_of_ble_eq_true rfl, Nat.le_of_ble_eq_true rfl⟩ dX4_remove_1 (fun E hE => ?_) (fun h1 => ?_)
  · rcases hE with ⟨rfl, hx⟩
    · have hF : fX4_remove X Z W x1 = (1, 0, Z) := (if_neg (show ¬ (fX4_requireName x1) = 0 by rw [hx]; decide)).trans ((by rw [hx]))
      exact z_out B (⟨rfl, by rw [hF]⟩) (Nat.le_of_ble_eq_true rfl) (Nat.le_of_ble_eq_true rfl)
  refine z_aload_n B dX4_remove_4 0 rfl ?_
  refine z_get B (v := .ref (az 0)) 0 0 0 hiX4_remove_4 hfX4_remove_10 rfl rfl rfl (by decide) rfl rfl rfl rfl dX4_remove_5 ?_
  refine z_iload_n B dX4_remove_8 1 rfl ?_
  refine z_V1 B (kX3_kindOf l hl K az Z W x1) [1] [0] (br := [zXo ax (az 0) sa la tr tc X]) (bs' := [zXo ax (az 0) sa la tr tc X, zZo K az Z W]) (st := []) (nA := 1) (zsp rfl rfl rfl) (zsp rfl rfl rfl) 1 0 rfl rfl rfl rfl gX4_remove_X3_kindOf rfl (by decide +kernel) ⟨Nat.le_of_ble_eq_true rfl, Nat.le_of_ble_eq_true rfl⟩ rfl rfl (Nat.le_of_ble_eq_true rfl) ⟨Nat.le_of_ble_eq_true rfl, Nat.le_of_ble_eq_true rfl⟩ dX4_remove_9 z_noX (fun _ => ?_)
  refine z_iconst B (v := 2) dX4_remove_12 rfl ?_
  refine z_iceq B 20 dX4_remove_13 (by decide) (fun c2 => ?_) (fun c2 => ?_)
  · refine z_iconst B (v := 0) dX4_remove_20 rfl ?_
    refine z_istore_n B (lv' := [(2, .int 0), (0, .ref ax), (1, .int x1)]) dX4_remove_21 (by decide) rfl ?_
    refine z_aload_n B dX4_remove_22 1 rfl ?_
    refine z_get B (v := .ref (az 0)) 0 0 0 hiX4_remove_4 hfX4_remove_10 rfl rfl rfl (by decide) rfl rfl rfl rfl dX4_remove_23 ?_
    refine z_iload_n B dX4_remove_26 2 rfl ?_
    refine z_iconst B (v := 2) dX4_remove_27 rfl ?_
    refine z_bipush B (v := (-3)) dX4_remove_28 rfl ?_
    refine z_iconst B (v := 0) dX4_remove_30 rfl ?_
    refine z_V0 B (kX3_put l hl K az Z W x1 2 (-3) 0) [1] [0] (br := [zXo ax (az 0) sa la tr tc X]) (bs' := [zXo ax (az 0) sa la tr tc X, zZo K az (fX3_put Z W x1 2 (-3) 0) W]) (st := []) (nA := 4) (zsp rfl rfl rfl) (zsp rfl rfl rfl) 1 0 rfl rfl rfl rfl gX4_remove_X3_put rfl (by decide +kernel) ⟨Nat.le_of_ble_eq_true rfl, Nat.le_of_ble_eq_true rfl⟩ rfl rfl (Nat.le_of_ble_eq_true rfl) ⟨Nat.le_of_ble_eq_true rfl, Nat.le_of_ble_eq_true rfl⟩ dX4_remove_31 z_noX (fun _ => ?_)
    generalize ho3 : (fX3_put Z W x1 2 (-3) 0) = o3
    refine z_iload_n B dX4_remove_34 0 rfl ?_
    have hF : fX4_remove X Z W x1 = (0, 0, o3) := (if_pos h1).trans ((if_pos c2).trans (congrArg (fun o => fX4_remove_s3 X Z W x1 o) ho3))
    exact z_ret1 B rfl dX4_remove_35 () (by rw [hF]) (Nat.le_of_ble_eq_true rfl) (Nat.le_of_ble_eq_true rfl) (by rw [hF]) (by rw [hF])
  · refine z_iconst B (v := 1) dX4_remove_16 rfl ?_
    refine z_goto B (tgt := 21) dX4_remove_17 (by decide) ?_
    refine z_istore_n B (lv' := [(2, .int 1), (0, .ref ax), (1, .int x1)]) dX4_remove_21 (by decide) rfl ?_
    refine z_aload_n B dX4_remove_22 1 rfl ?_
    refine z_get B (v := .ref (az 0)) 0 0 0 hiX4_remove_4 hfX4_remove_10 rfl rfl rfl (by decide) rfl rfl rfl rfl dX4_remove_23 ?_
    refine z_iload_n B dX4_remove_26 2 rfl ?_
    refine z_iconst B (v := 2) dX4_remove_27 rfl ?_
    refine z_bipush B (v := (-3)) dX4_remove_28 rfl ?_
    refine z_iconst B (v := 0) dX4_remove_30 rfl ?_
    refine z_V0 B (kX3_put l hl K az Z W x1 2 (-3) 0) [1] [0] (br := [zXo ax (az 0) sa la tr tc X]) (bs' := [zXo ax (az 0) sa la tr tc X, zZo K az (fX3_put Z W x1 2 (-3) 0) W]) (st := []) (nA := 4) (zsp rfl rfl rfl) (zsp rfl rfl rfl) 1 0 rfl rfl rfl rfl gX4_remove_X3_put rfl (by decide +kernel) ⟨Nat.le_of_ble_eq_true rfl, Nat.le_of_ble_eq_true rfl⟩ rfl rfl (Nat.le_of_ble_eq_true rfl) ⟨Nat.le_of_ble_eq_true rfl, Nat.le_of_ble_eq_true rfl⟩ dX4_remove_31 z_noX (fun _ => ?_)
    generalize ho4 : (fX3_put Z W x1 2 (-3) 0) = o4
    refine z_iload_n B dX4_remove_34 0 rfl ?_
    have hF : fX4_remove X Z W x1 = (0, 1, o4) := (if_pos h1).trans ((if_neg c2).trans (congrArg (fun o => fX4_remove_s4 X Z W x1 o) ho4))
    exact z_ret1 B rfl dX4_remove_35 () (by rw [hF]) (Nat.le_of_ble_eq_true rfl) (Nat.le_of_ble_eq_true rfl) (by rw [hF]) (by rw [hF])
def fX4_setBound (X : Nat → Int32) (Z : Nat → Nat → Int32) (W : Nat → Int32) (x1 : Int32) : Nat × Int32 × (Nat → Int32) :=
  if (fX4_requireWithin x1 1 300) = 0 then
    (0, (W 3), (va_up W 3 x1))
  else
    ((fX4_requireWithin x1 1 300), 0, W)
theorem hiX4_setBound_4 : ∀ w ∈ wsX40, w ∈ wsX4_setBound := by decide +kernel
theorem hfX4_setBound_10 : Cond.fieldLink RX4 10 "ResolverFleet" "zone" "LResolverFleet$Zone;" ∈ wsX4_setBound := by decide +kernel
theorem hiX4_setBound_3 : ∀ w ∈ wsX30, w ∈ wsX4_setBound := by decide +kernel
theorem hfX4_setBound_66 : Cond.fieldLink RX4 66 "ResolverFleet$Zone" "bound" "I" ∈ wsX4_setBound := by decide +kernel
set_option maxHeartbeats 4000000 in
set_option maxRecDepth 100000 in
theorem kX4_setBound (l : Launch) (hl : l.stackTraces = false) (K : zK) (ax : Nat) (az : Nat → Nat) (sa : Nat) (la : Nat) (tr : Nat) (tc : Nat) (X : Nat → Int32) (Z : Nat → Nat → Int32) (W : Nat → Int32) (x1 : Int32) : zMet l K yX4_setBound wsX4_setBound { frames := 7, cells := 1, slots := 6, locals := 104 } [.ref ax, .int x1] [zXo ax (az 0) sa la tr tc X, zZo K az Z W] (some (.int ((fX4_setBound X Z W x1).2.1))) [zXo ax (az 0) sa la tr tc X, zZo K az Z ((fX4_setBound X Z W x1).2.2)] ((fX4_setBound X Z W x1).1 = 0) (fun E => (E = zE2 ∧ (fX4_setBound X Z W x1).1 = 2)) := by
  refine zMeN.of (cc := cX4_setBound) (maxL := 3) (ret := (some .int)) (own := RX4) (nm := "setBound") hl (by decide +kernel) rfl rfl rfl (Nat.le_of_ble_eq_true rfl) (lv := [(0, .ref ax), (1, .int x1)]) rfl ?_
  intro p e s m args below meth c A B
  refine z_iload_n B dX4_setBound_0 1 rfl ?_
  refine z_iconst B (v := 1) dX4_setBound_1 rfl ?_
  refine z_sipush B (v := 300) dX4_setBound_2 rfl ?_
  refine z_S0 B (kX4_requireWithin l hl K x1 1 300) [] [0, 1] (br := [zXo ax (az 0) sa la tr tc X, zZo K az Z W]) (bs' := [zXo ax (az 0) sa la tr tc X, zZo K az Z W]) (st := []) (nA := 3) (zsp rfl rfl rfl) (zsp rfl rfl rfl) gX4_setBound_X4_requireWithin rfl (by decide +kernel) ⟨Nat.le_of_ble_eq_true rfl, Nat.le_of_ble_eq_true rfl⟩ rfl rfl (Nat.le_of_ble_eq_true rfl) ⟨Nat.le_of_ble_eq_true rfl, Nat.le_of_ble_eq_true rfl⟩ dX4_setBound_5 (fun E hE => ?_) (fun h1 => ?_)
  · rcases hE with ⟨rfl, hx⟩
    · have hF : fX4_setBound X Z W x1 = (2, 0, W) := (if_neg (show ¬ (fX4_requireWithin x1 1 300) = 0 by rw [hx]; decide)).trans ((by rw [hx]))
      exact z_out B (⟨rfl, by rw [hF]⟩) (Nat.le_of_ble_eq_true rfl) (Nat.le_of_ble_eq_true rfl)
  refine z_aload_n B dX4_setBound_8 0 rfl ?_
  refine z_get B (v := .ref (az 0)) 0 0 0 hiX4_setBound_4 hfX4_setBound_10 rfl rfl rfl (by decide) rfl rfl rfl rfl dX4_setBound_9 ?_
  refine z_get B (v := .int (W 3)) 1 0 3 hiX4_setBound_3 hfX4_setBound_66 rfl rfl rfl (by decide) rfl rfl rfl rfl dX4_setBound_12 ?_
  refine z_istore_n B (lv' := [(2, .int (W 3)), (0, .ref ax), (1, .int x1)]) dX4_setBound_15 (by decide) rfl ?_
  refine z_aload_n B dX4_setBound_16 1 rfl ?_
  refine z_get B (v := .ref (az 0)) 0 0 0 hiX4_setBound_4 hfX4_setBound_10 rfl rfl rfl (by decide) rfl rfl rfl rfl dX4_setBound_17 ?_
  refine z_iload_n B dX4_setBound_20 2 rfl ?_
  refine z_put B 1 0 3 hiX4_setBound_3 hfX4_setBound_66 tyX3_ok nmX3 rfl rfl rfl (by decide) rfl rfl rfl rfl rfl rfl rfl (Nat.le_of_ble_eq_true rfl) (bs' := [zXo ax (az 0) sa la tr tc X, zZo K az Z (va_up W 3 x1)]) rfl dX4_setBound_21 ?_
  refine z_iload_n B dX4_setBound_24 0 rfl ?_
  have hF : fX4_setBound X Z W x1 = (0, (W 3), (va_up W 3 x1)) := if_pos h1
  exact z_ret1 B rfl dX4_setBound_25 () (by rw [hF]) (Nat.le_of_ble_eq_true rfl) (Nat.le_of_ble_eq_true rfl) (by rw [hF]) (by rw [hF])
def fX4_setAuthority (X : Nat → Int32) (Z : Nat → Nat → Int32) (W : Nat → Int32) (x1 : Int32) : Int32 × (Nat → Int32) :=
  ((W 4), (va_up W 4 x1))
theorem hiX4_setAuthority_4 : ∀ w ∈ wsX40, w ∈ wsX4_setAuthority := by decide +kernel
theorem hfX4_setAuthority_10 : Cond.fieldLink RX4 10 "ResolverFleet" "zone" "LResolverFleet$Zone;" ∈ wsX4_setAuthority := by decide +kernel
theorem hiX4_setAuthority_3 : ∀ w ∈ wsX30, w ∈ wsX4_setAuthority := by decide +kernel
theorem hfX4_setAuthority_69 : Cond.fieldLink RX4 69 "ResolverFleet$Zone" "isUp" "Z" ∈ wsX4_setAuthority := by decide +kernel
set_option maxHeartbeats 4000000 in
set_option maxRecDepth 100000 in
theorem kX4_setAuthority (l : Launch) (hl : l.stackTraces = false) (K : zK) (ax : Nat) (az : Nat → Nat) (sa : Nat) (la : Nat) (tr : Nat) (tc : Nat) (X : Nat → Int32) (Z : Nat → Nat → Int32) (W : Nat → Int32) (x1 : Int32) (hx1 : x1 = 0 ∨ x1 = 1) (hW4 : (W 4) = 0 ∨ (W 4) = 1) : zMet l K yX4_setAuthority wsX4_setAuthority { frames := 0, cells := 0, slots := 0, locals := 0 } [.ref ax, .int x1] [zXo ax (az 0) sa la tr tc X, zZo K az Z W] (some (.int ((fX4_setAuthority X Z W x1).1))) [zXo ax (az 0) sa la tr tc X, zZo K az Z ((fX4_setAuthority X Z W x1).2)] True zNo := by
  refine zMeN.of (cc := cX4_setAuthority) (maxL := 3) (ret := (some .boolean)) (own := RX4) (nm := "setAuthority") hl (by decide +kernel) rfl rfl rfl (Nat.le_of_ble_eq_true rfl) (lv := [(0, .ref ax), (1, .int x1)]) rfl ?_
  intro p e s m args below meth c A B
  refine z_aload_n B dX4_setAuthority_0 0 rfl ?_
  refine z_get B (v := .ref (az 0)) 0 0 0 hiX4_setAuthority_4 hfX4_setAuthority_10 rfl rfl rfl (by decide) rfl rfl rfl rfl dX4_setAuthority_1 ?_
  refine z_get B (v := .int (W 4)) 1 0 4 hiX4_setAuthority_3 hfX4_setAuthority_69 rfl rfl rfl (by decide) rfl rfl rfl rfl dX4_setAuthority_4 ?_
  refine z_istore_n B (lv' := [(2, .int (W 4)), (0, .ref ax), (1, .int x1)]) dX4_setAuthority_7 (by decide) rfl ?_
  refine z_aload_n B dX4_setAuthority_8 1 rfl ?_
  refine z_get B (v := .ref (az 0)) 0 0 0 hiX4_setAuthority_4 hfX4_setAuthority_10 rfl rfl rfl (by decide) rfl rfl rfl rfl dX4_setAuthority_9 ?_
  refine z_iload_n B dX4_setAuthority_12 2 rfl ?_
  refine z_put B 1 0 4 hiX4_setAuthority_3 hfX4_setAuthority_69 tyX3_ok nmX3 rfl rfl rfl (by decide) rfl rfl rfl rfl rfl (z_nz hx1) (z_fz hx1) (Nat.le_of_ble_eq_true rfl) (bs' := [zXo ax (az 0) sa la tr tc X, zZo K az Z (va_up W 4 x1)]) rfl dX4_setAuthority_13 ?_
  refine z_iload_n B dX4_setAuthority_16 0 rfl ?_
  have hF : fX4_setAuthority X Z W x1 = ((W 4), (va_up W 4 x1)) := rfl
  exact z_ret1 B (z_nz hW4) dX4_setAuthority_17 () (trivial) (Nat.le_of_ble_eq_true rfl) (Nat.le_of_ble_eq_true rfl) (by rw [hF]) (by rw [hF])
def fX4_truth_L8 (X : Nat → Int32) (Z : Nat → Nat → Int32) (W : Nat → Int32) (x1 : Int32) : Nat → Nat → (Int32) → Nat × Int32
  | 0, a, cur =>
    (0, (-2))
  | n + 1, a, cur =>
    if (fX3_kindOf Z W cur) = 1 then
      fX4_truth_L8 X Z W x1 n (a + 1) (fX3_valueOf Z W cur)
    else
      if (fX3_kindOf Z W cur) = 0 then
        (0, (fX3_valueOf Z W cur))
      else
        (0, (-1))
def fX4_truth (X : Nat → Int32) (Z : Nat → Nat → Int32) (W : Nat → Int32) (x1 : Int32) : Nat × Int32 :=
  if (fX4_requireName x1) = 0 then
    fX4_truth_L8 X Z W x1 5 0 x1
  else
    ((fX4_requireName x1), 0)
theorem hiX4_truth_4 : ∀ w ∈ wsX40, w ∈ wsX4_truth := by decide +kernel
theorem hfX4_truth_10 : Cond.fieldLink RX4 10 "ResolverFleet" "zone" "LResolverFleet$Zone;" ∈ wsX4_truth := by decide +kernel
set_option maxHeartbeats 4000000 in
set_option maxRecDepth 100000 in
theorem kX4_truth_L8 (l : Launch) (hl : l.stackTraces = false) (K : zK) (ax : Nat) (az : Nat → Nat) (sa : Nat) (la : Nat) (tr : Nat) (tc : Nat) (X : Nat → Int32) (Z : Nat → Nat → Int32) (W : Nat → Int32) (x1 : Int32) {p : Program} {e : Env} {s : State} {m : MethodId} {args : Array Value} {below : List Frame} {meth : Method} {c : Code} {A : Nat → Prop} (B : zF K p l s m args meth c A cX4_truth 6 RX4 "truth" wsX4_truth (some .int) []) : ∀ (n a : Nat) (cur : Int32), a + n = 5 → fX4_truth X Z W x1 = fX4_truth_L8 X Z W x1 n a cur → zW K p l e { frames := 7, cells := 1, slots := 6, locals := 102 } s m args below meth c A (vx_MQ below (zQ K A (fun _ : Unit => ((some (.int ((fX4_truth X Z W x1).2))), [zXo ax (az 0) sa la tr tc X, zZo K az Z W])) (fun _ => ((fX4_truth X Z W x1).1 = 0))) (zX K A [zXo ax (az 0) sa la tr tc X, zZo K az Z W] (fun E => (E = zE1 ∧ (fX4_truth X Z W x1).1 = 1))) args s 1 6 A) 1 6 [zXo ax (az 0) sa la tr tc X, zZo K az Z W] [(0, .ref ax), (1, .int x1), (3, .int (nI a)), (2, .int cur)] [] 8 := by
  intro n
  induction n with
  | zero =>
    intro a cur ha  hF0
    refine z_iload_n B dX4_truth_8 2 rfl ?_
    refine z_iconst B (v := 4) dX4_truth_9 rfl ?_
    refine z_icgt B 60 dX4_truth_10 (by decide) (fun _ => ?_) (fun h => absurd (z_lgt0 ha (by decide)) h)
    refine z_bipush B (v := (-2)) dX4_truth_60 rfl ?_
    have hF : fX4_truth X Z W x1 = (0, (-2)) := hF0
    exact z_ret1 B rfl dX4_truth_62 () (by rw [hF]) (Nat.le_of_ble_eq_true rfl) (Nat.le_of_ble_eq_true rfl) (by rw [hF]) (by rw [hF])
  | succ n ih =>
    intro a cur ha  hF0
    refine z_iload_n B dX4_truth_8 2 rfl ?_
    refine z_iconst B (v := 4) dX4_truth_9 rfl ?_
    refine z_icgt B 60 dX4_truth_10 (by decide) (fun h => absurd h (z_lgtS ha (by decide))) (fun _ => ?_)
    refine z_aload_n B dX4_truth_13 0 rfl ?_
    refine z_get B (v := .ref (az 0)) 0 0 0 hiX4_truth_4 hfX4_truth_10 rfl rfl rfl (by decide) rfl rfl rfl rfl dX4_truth_14 ?_
    refine z_iload_n B dX4_truth_17 3 rfl ?_
    refine z_V1 B (kX3_kindOf l hl K az Z W cur) [1] [0] (br := [zXo ax (az 0) sa la tr tc X]) (bs' := [zXo ax (az 0) sa la tr tc X, zZo K az Z W]) (st := []) (nA := 1) (zsp rfl rfl rfl) (zsp rfl rfl rfl) 1 0 rfl rfl rfl rfl gX4_truth_X3_kindOf rfl (by decide +kernel) ⟨Nat.le_of_ble_eq_true rfl, Nat.le_of_ble_eq_true rfl⟩ rfl rfl (Nat.le_of_ble_eq_true rfl) ⟨Nat.le_of_ble_eq_true rfl, Nat.le_of_ble_eq_true rfl⟩ dX4_truth_18 z_noX (fun _ => ?_)
    refine z_istore B (lv' := [(4, .int (fX3_kindOf Z W cur)), (0, .ref ax), (1, .int x1), (3, .int (nI a)), (2, .int cur)]) dX4_truth_21 (by decide) rfl ?_
    refine z_aload_n B dX4_truth_23 1 rfl ?_
    refine z_get B (v := .ref (az 0)) 0 0 0 hiX4_truth_4 hfX4_truth_10 rfl rfl rfl (by decide) rfl rfl rfl rfl dX4_truth_24 ?_
    refine z_iload_n B dX4_truth_27 4 rfl ?_
    refine z_V1 B (kX3_valueOf l hl K az Z W cur) [1] [0] (br := [zXo ax (az 0) sa la tr tc X]) (bs' := [zXo ax (az 0) sa la tr tc X, zZo K az Z W]) (st := []) (nA := 1) (zsp rfl rfl rfl) (zsp rfl rfl rfl) 1 0 rfl rfl rfl rfl gX4_truth_X3_valueOf rfl (by decide +kernel) ⟨Nat.le_of_ble_eq_true rfl, Nat.le_of_ble_eq_true rfl⟩ rfl rfl (Nat.le_of_ble_eq_true rfl) ⟨Nat.le_of_ble_eq_true rfl, Nat.le_of_ble_eq_true rfl⟩ dX4_truth_28 z_noX (fun _ => ?_)
    refine z_istore B (lv' := [(5, .int (fX3_valueOf Z W cur)), (4, .int (fX3_kindOf Z W cur)), (0, .ref ax), (1, .int x1), (3, .int (nI a)), (2, .int cur)]) dX4_truth_31 (by decide) rfl ?_
    refine z_iload B dX4_truth_33 1 rfl ?_
    refine z_iconst B (v := 1) dX4_truth_35 rfl ?_
    refine z_iceq B 51 dX4_truth_36 (by decide) (fun c2 => ?_) (fun c2 => ?_)
    · refine z_iload B dX4_truth_51 0 rfl ?_
      refine z_istore_n B (lv' := [(2, .int (fX3_valueOf Z W cur)), (5, .int (fX3_valueOf Z W cur)), (4, .int (fX3_kindOf Z W cur)), (0, .ref ax), (1, .int x1), (3, .int (nI a))]) dX4_truth_53 (by decide) rfl ?_
      refine z_iinc B (v := nI (a + 1)) (lv' := [(3, .int (nI (a + 1))), (2, .int (fX3_valueOf Z W cur)), (5, .int (fX3_valueOf Z W cur)), (4, .int (fX3_kindOf Z W cur)), (0, .ref ax), (1, .int x1)]) dX4_truth_54 5 rfl (nI_1 a) (by decide) rfl ?_
      refine z_goto B (tgt := 8) dX4_truth_57 (by decide) ?_
      refine z_lsub [4, 5, 0, 1] rfl ?_
      have hF : fX4_truth X Z W x1 = fX4_truth_L8 X Z W x1 n (a + 1) (fX3_valueOf Z W cur) := (hF0).trans (if_pos c2)
      exact ih (a + 1) (fX3_valueOf Z W cur) (by omega)  hF
    · refine z_iload B dX4_truth_39 1 rfl ?_
      refine z_ifne B 49 dX4_truth_41 (by decide) (fun c3 => ?_) (fun c3 => ?_)
      · refine z_iload B dX4_truth_44 0 rfl ?_
        refine z_goto B (tgt := 50) dX4_truth_46 (by decide) ?_
        have hF : fX4_truth X Z W x1 = (0, (fX3_valueOf Z W cur)) := (hF0).trans ((if_neg c2).trans (if_pos c3))
        exact z_ret1 B rfl dX4_truth_50 () (by rw [hF]) (Nat.le_of_ble_eq_true rfl) (Nat.le_of_ble_eq_true rfl) (by rw [hF]) (by rw [hF])
      · refine z_iconst B (v := (-1)) dX4_truth_49 rfl ?_
        have hF : fX4_truth X Z W x1 = (0, (-1)) := (hF0).trans ((if_neg c2).trans (if_neg c3))
        exact z_ret1 B rfl dX4_truth_50 () (by rw [hF]) (Nat.le_of_ble_eq_true rfl) (Nat.le_of_ble_eq_true rfl) (by rw [hF]) (by rw [hF])
set_option maxHeartbeats 4000000 in
set_option maxRecDepth 100000 in
theorem kX4_truth (l : Launch) (hl : l.stackTraces = false) (K : zK) (ax : Nat) (az : Nat → Nat) (sa : Nat) (la : Nat) (tr : Nat) (tc : Nat) (X : Nat → Int32) (Z : Nat → Nat → Int32) (W : Nat → Int32) (x1 : Int32) : zMet l K yX4_truth wsX4_truth { frames := 7, cells := 1, slots := 6, locals := 102 } [.ref ax, .int x1] [zXo ax (az 0) sa la tr tc X, zZo K az Z W] (some (.int ((fX4_truth X Z W x1).2))) [zXo ax (az 0) sa la tr tc X, zZo K az Z W] ((fX4_truth X Z W x1).1 = 0) (fun E => (E = zE1 ∧ (fX4_truth X Z W x1).1 = 1)) := by
  refine zMeN.of (cc := cX4_truth) (maxL := 6) (ret := (some .int)) (own := RX4) (nm := "truth") hl (by decide +kernel) rfl rfl rfl (Nat.le_of_ble_eq_true rfl) (lv := [(0, .ref ax), (1, .int x1)]) rfl ?_
  intro p e s m args below meth c A B
  refine z_iload_n B dX4_truth_0 1 rfl ?_
  refine z_S0 B (kX4_requireName l hl K x1) [] [0, 1] (br := [zXo ax (az 0) sa la tr tc X, zZo K az Z W]) (bs' := [zXo ax (az 0) sa la tr tc X, zZo K az Z W]) (st := []) (nA := 1) (zsp rfl rfl rfl) (zsp rfl rfl rfl) gX4_truth_X4_requireName rfl (by decide +kernel) ⟨Nat.le_of_ble_eq_true rfl, Nat.le_of_ble_eq_true rfl⟩ rfl rfl (Nat.le_of_ble_eq_true rfl) ⟨Nat.le_of_ble_eq_true rfl, Nat.le_of_ble_eq_true rfl⟩ dX4_truth_1 (fun E hE => ?_) (fun h1 => ?_)
  · rcases hE with ⟨rfl, hx⟩
    · have hF : fX4_truth X Z W x1 = (1, 0) := (if_neg (show ¬ (fX4_requireName x1) = 0 by rw [hx]; decide)).trans ((by rw [hx]))
      exact z_out B (⟨rfl, by rw [hF]⟩) (Nat.le_of_ble_eq_true rfl) (Nat.le_of_ble_eq_true rfl)
  refine z_iload_n B dX4_truth_4 1 rfl ?_
  refine z_istore_n B (lv' := [(2, .int x1), (0, .ref ax), (1, .int x1)]) dX4_truth_5 (by decide) rfl ?_
  refine z_iconst B (v := 0) dX4_truth_6 rfl ?_
  refine z_istore_n B (lv' := [(3, .int 0), (2, .int x1), (0, .ref ax), (1, .int x1)]) dX4_truth_7 (by decide) rfl ?_
  refine z_lsub [2, 3, 0, 1] rfl ?_
  have hF : fX4_truth X Z W x1 = fX4_truth_L8 X Z W x1 5 0 x1 := if_pos h1
  exact kX4_truth_L8 l hl K ax az sa la tr tc X Z W x1 B 5 0 x1 (by omega)  hF
def fX4_pass (X : Nat → Int32) (x1 : Int32) : Nat × Int32 × (Nat → Int32) :=
  if (fX4_requireWithin x1 1 1000) = 0 then
    (0, ((X 3) + x1), (va_up X 3 ((X 3) + x1)))
  else
    ((fX4_requireWithin x1 1 1000), 0, X)
theorem hiX4_pass_4 : ∀ w ∈ wsX40, w ∈ wsX4_pass := by decide +kernel
theorem hfX4_pass_108 : Cond.fieldLink RX4 108 "ResolverFleet" "now" "I" ∈ wsX4_pass := by decide +kernel
set_option maxHeartbeats 4000000 in
set_option maxRecDepth 100000 in
theorem kX4_pass (l : Launch) (hl : l.stackTraces = false) (K : zK) (ax : Nat) (zn : Nat) (sa : Nat) (la : Nat) (tr : Nat) (tc : Nat) (X : Nat → Int32) (x1 : Int32) : zMet l K yX4_pass wsX4_pass { frames := 7, cells := 1, slots := 6, locals := 104 } [.ref ax, .int x1] [zXo ax zn sa la tr tc X] (some (.int ((fX4_pass X x1).2.1))) [zXo ax zn sa la tr tc ((fX4_pass X x1).2.2)] ((fX4_pass X x1).1 = 0) (fun E => (E = zE2 ∧ (fX4_pass X x1).1 = 2)) := by
  refine zMeN.of (cc := cX4_pass) (maxL := 2) (ret := (some .int)) (own := RX4) (nm := "pass") hl (by decide +kernel) rfl rfl rfl (Nat.le_of_ble_eq_true rfl) (lv := [(0, .ref ax), (1, .int x1)]) rfl ?_
  intro p e s m args below meth c A B
  refine z_iload_n B dX4_pass_0 1 rfl ?_
  refine z_iconst B (v := 1) dX4_pass_1 rfl ?_
  refine z_sipush B (v := 1000) dX4_pass_2 rfl ?_
  refine z_S0 B (kX4_requireWithin l hl K x1 1 1000) [] [0] (br := [zXo ax zn sa la tr tc X]) (bs' := [zXo ax zn sa la tr tc X]) (st := []) (nA := 3) (zsp rfl rfl rfl) (zsp rfl rfl rfl) gX4_pass_X4_requireWithin rfl (by decide +kernel) ⟨Nat.le_of_ble_eq_true rfl, Nat.le_of_ble_eq_true rfl⟩ rfl rfl (Nat.le_of_ble_eq_true rfl) ⟨Nat.le_of_ble_eq_true rfl, Nat.le_of_ble_eq_true rfl⟩ dX4_pass_5 (fun E hE => ?_) (fun h1 => ?_)
  · rcases hE with ⟨rfl, hx⟩
    · have hF : fX4_pass X x1 = (2, 0, X) := (if_neg (show ¬ (fX4_requireWithin x1 1 1000) = 0 by rw [hx]; decide)).trans ((by rw [hx]))
      exact z_out B (⟨rfl, by rw [hF]⟩) (Nat.le_of_ble_eq_true rfl) (Nat.le_of_ble_eq_true rfl)
  refine z_aload_n B dX4_pass_8 0 rfl ?_
  refine z_dup B dX4_pass_9 rfl ?_
  refine z_get B (v := .int (X 3)) 0 0 3 hiX4_pass_4 hfX4_pass_108 rfl rfl rfl (by decide) rfl rfl rfl rfl dX4_pass_10 ?_
  refine z_iload_n B dX4_pass_13 1 rfl ?_
  refine z_iadd B dX4_pass_14 ?_
  refine z_put B 0 0 3 hiX4_pass_4 hfX4_pass_108 tyX4_ok nmX4 rfl rfl rfl (by decide) rfl rfl rfl rfl rfl rfl rfl (Nat.le_of_ble_eq_true rfl) (bs' := [zXo ax zn sa la tr tc (va_up X 3 ((X 3) + x1))]) rfl dX4_pass_15 ?_
  refine z_aload_n B dX4_pass_18 0 rfl ?_
  refine z_get B (v := .int ((X 3) + x1)) 0 0 3 hiX4_pass_4 hfX4_pass_108 rfl rfl rfl (by decide) rfl rfl rfl rfl dX4_pass_19 ?_
  have hF : fX4_pass X x1 = (0, ((X 3) + x1), (va_up X 3 ((X 3) + x1))) := if_pos h1
  exact z_ret1 B rfl dX4_pass_22 () (by rw [hF]) (Nat.le_of_ble_eq_true rfl) (Nat.le_of_ble_eq_true rfl) (by rw [hF]) (by rw [hF])
def fX4_time (X : Nat → Int32) : Int32 :=
  (X 3)
theorem hiX4_time_4 : ∀ w ∈ wsX40, w ∈ wsX4_time := by decide +kernel
theorem hfX4_time_108 : Cond.fieldLink RX4 108 "ResolverFleet" "now" "I" ∈ wsX4_time := by decide +kernel
set_option maxHeartbeats 4000000 in
set_option maxRecDepth 100000 in
theorem kX4_time (l : Launch) (hl : l.stackTraces = false) (K : zK) (ax : Nat) (zn : Nat) (sa : Nat) (la : Nat) (tr : Nat) (tc : Nat) (X : Nat → Int32) : zMet l K yX4_time wsX4_time { frames := 0, cells := 0, slots := 0, locals := 0 } [.ref ax] [zXo ax zn sa la tr tc X] (some (.int (fX4_time X))) [zXo ax zn sa la tr tc X] True zNo := by
  refine zMeN.of (cc := cX4_time) (maxL := 1) (ret := (some .int)) (own := RX4) (nm := "time") hl (by decide +kernel) rfl rfl rfl (Nat.le_of_ble_eq_true rfl) (lv := [(0, .ref ax)]) rfl ?_
  intro p e s m args below meth c A B
  refine z_aload_n B dX4_time_0 0 rfl ?_
  refine z_get B (v := .int (X 3)) 0 0 3 hiX4_time_4 hfX4_time_108 rfl rfl rfl (by decide) rfl rfl rfl rfl dX4_time_1 ?_
  have hF : fX4_time X = (X 3) := rfl
  exact z_ret1 B rfl dX4_time_4 () (trivial) (Nat.le_of_ble_eq_true rfl) (Nat.le_of_ble_eq_true rfl) (by rw [hF]) (by rw [hF])
def fX4_lastSite (X : Nat → Int32) : Int32 :=
  (X 5)
theorem hiX4_lastSite_4 : ∀ w ∈ wsX40, w ∈ wsX4_lastSite := by decide +kernel
theorem hfX4_lastSite_29 : Cond.fieldLink RX4 29 "ResolverFleet" "lastSiteNumber" "I" ∈ wsX4_lastSite := by decide +kernel
set_option maxHeartbeats 4000000 in
set_option maxRecDepth 100000 in
theorem kX4_lastSite (l : Launch) (hl : l.stackTraces = false) (K : zK) (ax : Nat) (zn : Nat) (sa : Nat) (la : Nat) (tr : Nat) (tc : Nat) (X : Nat → Int32) : zMet l K yX4_lastSite wsX4_lastSite { frames := 0, cells := 0, slots := 0, locals := 0 } [.ref ax] [zXo ax zn sa la tr tc X] (some (.int (fX4_lastSite X))) [zXo ax zn sa la tr tc X] True zNo := by
  refine zMeN.of (cc := cX4_lastSite) (maxL := 1) (ret := (some .int)) (own := RX4) (nm := "lastSite") hl (by decide +kernel) rfl rfl rfl (Nat.le_of_ble_eq_true rfl) (lv := [(0, .ref ax)]) rfl ?_
  intro p e s m args below meth c A B
  refine z_aload_n B dX4_lastSite_0 0 rfl ?_
  refine z_get B (v := .int (X 5)) 0 0 5 hiX4_lastSite_4 hfX4_lastSite_29 rfl rfl rfl (by decide) rfl rfl rfl rfl dX4_lastSite_1 ?_
  have hF : fX4_lastSite X = (X 5) := rfl
  exact z_ret1 B rfl dX4_lastSite_4 () (trivial) (Nat.le_of_ble_eq_true rfl) (Nat.le_of_ble_eq_true rfl) (by rw [hF]) (by rw [hF])
def fX4_queries (X : Nat → Int32) : Int32 :=
  (X 8)
theorem hiX4_queries_4 : ∀ w ∈ wsX40, w ∈ wsX4_queries := by decide +kernel
theorem hfX4_queries_158 : Cond.fieldLink RX4 158 "ResolverFleet" "queryCount" "I" ∈ wsX4_queries := by decide +kernel
set_option maxHeartbeats 4000000 in
set_option maxRecDepth 100000 in
theorem kX4_queries (l : Launch) (hl : l.stackTraces = false) (K : zK) (ax : Nat) (zn : Nat) (sa : Nat) (la : Nat) (tr : Nat) (tc : Nat) (X : Nat → Int32) : zMet l K yX4_queries wsX4_queries { frames := 0, cells := 0, slots := 0, locals := 0 } [.ref ax] [zXo ax zn sa la tr tc X] (some (.int (fX4_queries X))) [zXo ax zn sa la tr tc X] True zNo := by
  refine zMeN.of (cc := cX4_queries) (maxL := 1) (ret := (some .int)) (own := RX4) (nm := "queries") hl (by decide +kernel) rfl rfl rfl (Nat.le_of_ble_eq_true rfl) (lv := [(0, .ref ax)]) rfl ?_
  intro p e s m args below meth c A B
  refine z_aload_n B dX4_queries_0 0 rfl ?_
  refine z_get B (v := .int (X 8)) 0 0 8 hiX4_queries_4 hfX4_queries_158 rfl rfl rfl (by decide) rfl rfl rfl rfl dX4_queries_1 ?_
  have hF : fX4_queries X = (X 8) := rfl
  exact z_ret1 B rfl dX4_queries_4 () (trivial) (Nat.le_of_ble_eq_true rfl) (Nat.le_of_ble_eq_true rfl) (by rw [hF]) (by rw [hF])
def fX4_fetches (X : Nat → Int32) : Int32 :=
  (X 9)
theorem hiX4_fetches_4 : ∀ w ∈ wsX40, w ∈ wsX4_fetches := by decide +kernel
theorem hfX4_fetches_161 : Cond.fieldLink RX4 161 "ResolverFleet" "fetchCount" "I" ∈ wsX4_fetches := by decide +kernel
set_option maxHeartbeats 4000000 in
set_option maxRecDepth 100000 in
theorem kX4_fetches (l : Launch) (hl : l.stackTraces = false) (K : zK) (ax : Nat) (zn : Nat) (sa : Nat) (la : Nat) (tr : Nat) (tc : Nat) (X : Nat → Int32) : zMet l K yX4_fetches wsX4_fetches { frames := 0, cells := 0, slots := 0, locals := 0 } [.ref ax] [zXo ax zn sa la tr tc X] (some (.int (fX4_fetches X))) [zXo ax zn sa la tr tc X] True zNo := by
  refine zMeN.of (cc := cX4_fetches) (maxL := 1) (ret := (some .int)) (own := RX4) (nm := "fetches") hl (by decide +kernel) rfl rfl rfl (Nat.le_of_ble_eq_true rfl) (lv := [(0, .ref ax)]) rfl ?_
  intro p e s m args below meth c A B
  refine z_aload_n B dX4_fetches_0 0 rfl ?_
  refine z_get B (v := .int (X 9)) 0 0 9 hiX4_fetches_4 hfX4_fetches_161 rfl rfl rfl (by decide) rfl rfl rfl rfl dX4_fetches_1 ?_
  have hF : fX4_fetches X = (X 9) := rfl
  exact z_ret1 B rfl dX4_fetches_4 () (trivial) (Nat.le_of_ble_eq_true rfl) (Nat.le_of_ble_eq_true rfl) (by rw [hF]) (by rw [hF])
def fX4_prefetches (X : Nat → Int32) : Int32 :=
  (X 10)
theorem hiX4_prefetches_4 : ∀ w ∈ wsX40, w ∈ wsX4_prefetches := by decide +kernel
theorem hfX4_prefetches_164 : Cond.fieldLink RX4 164 "ResolverFleet" "prefetchCount" "I" ∈ wsX4_prefetches := by decide +kernel
set_option maxHeartbeats 4000000 in
set_option maxRecDepth 100000 in
theorem kX4_prefetches (l : Launch) (hl : l.stackTraces = false) (K : zK) (ax : Nat) (zn : Nat) (sa : Nat) (la : Nat) (tr : Nat) (tc : Nat) (X : Nat → Int32) : zMet l K yX4_prefetches wsX4_prefetches { frames := 0, cells := 0, slots := 0, locals := 0 } [.ref ax] [zXo ax zn sa la tr tc X] (some (.int (fX4_prefetches X))) [zXo ax zn sa la tr tc X] True zNo := by
  refine zMeN.of (cc := cX4_prefetches) (maxL := 1) (ret := (some .int)) (own := RX4) (nm := "prefetches") hl (by decide +kernel) rfl rfl rfl (Nat.le_of_ble_eq_true rfl) (lv := [(0, .ref ax)]) rfl ?_
  intro p e s m args below meth c A B
  refine z_aload_n B dX4_prefetches_0 0 rfl ?_
  refine z_get B (v := .int (X 10)) 0 0 10 hiX4_prefetches_4 hfX4_prefetches_164 rfl rfl rfl (by decide) rfl rfl rfl rfl dX4_prefetches_1 ?_
  have hF : fX4_prefetches X = (X 10) := rfl
  exact z_ret1 B rfl dX4_prefetches_4 () (trivial) (Nat.le_of_ble_eq_true rfl) (Nat.le_of_ble_eq_true rfl) (by rw [hF]) (by rw [hF])
def fX4_staleAnswers (X : Nat → Int32) : Int32 :=
  (X 11)
theorem hiX4_staleAnswers_4 : ∀ w ∈ wsX40, w ∈ wsX4_staleAnswers := by decide +kernel
theorem hfX4_staleAnswers_167 : Cond.fieldLink RX4 167 "ResolverFleet" "staleCount" "I" ∈ wsX4_staleAnswers := by decide +kernel
set_option maxHeartbeats 4000000 in
set_option maxRecDepth 100000 in
theorem kX4_staleAnswers (l : Launch) (hl : l.stackTraces = false) (K : zK) (ax : Nat) (zn : Nat) (sa : Nat) (la : Nat) (tr : Nat) (tc : Nat) (X : Nat → Int32) : zMet l K yX4_staleAnswers wsX4_staleAnswers { frames := 0, cells := 0, slots := 0, locals := 0 } [.ref ax] [zXo ax zn sa la tr tc X] (some (.int (fX4_staleAnswers X))) [zXo ax zn sa la tr tc X] True zNo := by
  refine zMeN.of (cc := cX4_staleAnswers) (maxL := 1) (ret := (some .int)) (own := RX4) (nm := "staleAnswers") hl (by decide +kernel) rfl rfl rfl (Nat.le_of_ble_eq_true rfl) (lv := [(0, .ref ax)]) rfl ?_
  intro p e s m args below meth c A B
  refine z_aload_n B dX4_staleAnswers_0 0 rfl ?_
  refine z_get B (v := .int (X 11)) 0 0 11 hiX4_staleAnswers_4 hfX4_staleAnswers_167 rfl rfl rfl (by decide) rfl rfl rfl rfl dX4_staleAnswers_1 ?_
  have hF : fX4_staleAnswers X = (X 11) := rfl
  exact z_ret1 B rfl dX4_staleAnswers_4 () (trivial) (Nat.le_of_ble_eq_true rfl) (Nat.le_of_ble_eq_true rfl) (by rw [hF]) (by rw [hF])
def fX4_failures (X : Nat → Int32) : Int32 :=
  (X 12)
theorem hiX4_failures_4 : ∀ w ∈ wsX40, w ∈ wsX4_failures := by decide +kernel
theorem hfX4_failures_170 : Cond.fieldLink RX4 170 "ResolverFleet" "failureCount" "I" ∈ wsX4_failures := by decide +kernel
set_option maxHeartbeats 4000000 in
set_option maxRecDepth 100000 in
theorem kX4_failures (l : Launch) (hl : l.stackTraces = false) (K : zK) (ax : Nat) (zn : Nat) (sa : Nat) (la : Nat) (tr : Nat) (tc : Nat) (X : Nat → Int32) : zMet l K yX4_failures wsX4_failures { frames := 0, cells := 0, slots := 0, locals := 0 } [.ref ax] [zXo ax zn sa la tr tc X] (some (.int (fX4_failures X))) [zXo ax zn sa la tr tc X] True zNo := by
  refine zMeN.of (cc := cX4_failures) (maxL := 1) (ret := (some .int)) (own := RX4) (nm := "failures") hl (by decide +kernel) rfl rfl rfl (Nat.le_of_ble_eq_true rfl) (lv := [(0, .ref ax)]) rfl ?_
  intro p e s m args below meth c A B
  refine z_aload_n B dX4_failures_0 0 rfl ?_
  refine z_get B (v := .int (X 12)) 0 0 12 hiX4_failures_4 hfX4_failures_170 rfl rfl rfl (by decide) rfl rfl rfl rfl dX4_failures_1 ?_
  have hF : fX4_failures X = (X 12) := rfl
  exact z_ret1 B rfl dX4_failures_4 () (trivial) (Nat.le_of_ble_eq_true rfl) (Nat.le_of_ble_eq_true rfl) (by rw [hF]) (by rw [hF])
def fX4_lastWasStale (X : Nat → Int32) (F : Nat → Int32) (O : Nat → Int32) : Int32 :=
  (O 5)
theorem hiX4_lastWasStale_4 : ∀ w ∈ wsX40, w ∈ wsX4_lastWasStale := by decide +kernel
theorem hfX4_lastWasStale_25 : Cond.fieldLink RX4 25 "ResolverFleet" "last" "LResolverFleet$Course;" ∈ wsX4_lastWasStale := by decide +kernel
theorem hiX4_lastWasStale_1 : ∀ w ∈ wsX10, w ∈ wsX4_lastWasStale := by decide +kernel
theorem hfX4_lastWasStale_133 : Cond.fieldLink RX4 133 "ResolverFleet$Course" "isStale" "Z" ∈ wsX4_lastWasStale := by decide +kernel
set_option maxHeartbeats 4000000 in
set_option maxRecDepth 100000 in
theorem kX4_lastWasStale (l : Launch) (hl : l.stackTraces = false) (K : zK) (ax : Nat) (zn : Nat) (sa : Nat) (ak : Nat → Nat) (tr : Nat) (tc : Nat) (X : Nat → Int32) (F : Nat → Int32) (O : Nat → Int32) (hO5 : (O 5) = 0 ∨ (O 5) = 1) : zMet l K yX4_lastWasStale wsX4_lastWasStale { frames := 0, cells := 0, slots := 0, locals := 0 } [.ref ax] [zXo ax zn sa (ak 0) tr tc X, zCo K ak F O] (some (.int (fX4_lastWasStale X F O))) [zXo ax zn sa (ak 0) tr tc X, zCo K ak F O] True zNo := by
  refine zMeN.of (cc := cX4_lastWasStale) (maxL := 1) (ret := (some .boolean)) (own := RX4) (nm := "lastWasStale") hl (by decide +kernel) rfl rfl rfl (Nat.le_of_ble_eq_true rfl) (lv := [(0, .ref ax)]) rfl ?_
  intro p e s m args below meth c A B
  refine z_aload_n B dX4_lastWasStale_0 0 rfl ?_
  refine z_get B (v := .ref (ak 0)) 0 0 4 hiX4_lastWasStale_4 hfX4_lastWasStale_25 rfl rfl rfl (by decide) rfl rfl rfl rfl dX4_lastWasStale_1 ?_
  refine z_get B (v := .int (O 5)) 1 0 5 hiX4_lastWasStale_1 hfX4_lastWasStale_133 rfl rfl rfl (by decide) rfl rfl rfl rfl dX4_lastWasStale_4 ?_
  have hF : fX4_lastWasStale X F O = (O 5) := rfl
  exact z_ret1 B (z_nz hO5) dX4_lastWasStale_7 () (trivial) (Nat.le_of_ble_eq_true rfl) (Nat.le_of_ble_eq_true rfl) (by rw [hF]) (by rw [hF])
def fX4_lastLookUps (X : Nat → Int32) (F : Nat → Int32) (O : Nat → Int32) : Int32 :=
  (O 2)
theorem hiX4_lastLookUps_4 : ∀ w ∈ wsX40, w ∈ wsX4_lastLookUps := by decide +kernel
theorem hfX4_lastLookUps_25 : Cond.fieldLink RX4 25 "ResolverFleet" "last" "LResolverFleet$Course;" ∈ wsX4_lastLookUps := by decide +kernel
theorem hiX4_lastLookUps_1 : ∀ w ∈ wsX10, w ∈ wsX4_lastLookUps := by decide +kernel
theorem hfX4_lastLookUps_136 : Cond.fieldLink RX4 136 "ResolverFleet$Course" "lookUps" "I" ∈ wsX4_lastLookUps := by decide +kernel
set_option maxHeartbeats 4000000 in
set_option maxRecDepth 100000 in
theorem kX4_lastLookUps (l : Launch) (hl : l.stackTraces = false) (K : zK) (ax : Nat) (zn : Nat) (sa : Nat) (ak : Nat → Nat) (tr : Nat) (tc : Nat) (X : Nat → Int32) (F : Nat → Int32) (O : Nat → Int32) : zMet l K yX4_lastLookUps wsX4_lastLookUps { frames := 0, cells := 0, slots := 0, locals := 0 } [.ref ax] [zXo ax zn sa (ak 0) tr tc X, zCo K ak F O] (some (.int (fX4_lastLookUps X F O))) [zXo ax zn sa (ak 0) tr tc X, zCo K ak F O] True zNo := by
  refine zMeN.of (cc := cX4_lastLookUps) (maxL := 1) (ret := (some .int)) (own := RX4) (nm := "lastLookUps") hl (by decide +kernel) rfl rfl rfl (Nat.le_of_ble_eq_true rfl) (lv := [(0, .ref ax)]) rfl ?_
  intro p e s m args below meth c A B
  refine z_aload_n B dX4_lastLookUps_0 0 rfl ?_
  refine z_get B (v := .ref (ak 0)) 0 0 4 hiX4_lastLookUps_4 hfX4_lastLookUps_25 rfl rfl rfl (by decide) rfl rfl rfl rfl dX4_lastLookUps_1 ?_
  refine z_get B (v := .int (O 2)) 1 0 2 hiX4_lastLookUps_1 hfX4_lastLookUps_136 rfl rfl rfl (by decide) rfl rfl rfl rfl dX4_lastLookUps_4 ?_
  have hF : fX4_lastLookUps X F O = (O 2) := rfl
  exact z_ret1 B rfl dX4_lastLookUps_7 () (trivial) (Nat.le_of_ble_eq_true rfl) (Nat.le_of_ble_eq_true rfl) (by rw [hF]) (by rw [hF])
def fX4_lastFetches (X : Nat → Int32) (F : Nat → Int32) (O : Nat → Int32) : Int32 :=
  (O 3)
theorem hiX4_lastFetches_4 : ∀ w ∈ wsX40, w ∈ wsX4_lastFetches := by decide +kernel
theorem hfX4_lastFetches_25 : Cond.fieldLink RX4 25 "ResolverFleet" "last" "LResolverFleet$Course;" ∈ wsX4_lastFetches := by decide +kernel
theorem hiX4_lastFetches_1 : ∀ w ∈ wsX10, w ∈ wsX4_lastFetches := by decide +kernel
theorem hfX4_lastFetches_139 : Cond.fieldLink RX4 139 "ResolverFleet$Course" "fetches" "I" ∈ wsX4_lastFetches := by decide +kernel
set_option maxHeartbeats 4000000 in
set_option maxRecDepth 100000 in
theorem kX4_lastFetches (l : Launch) (hl : l.stackTraces = false) (K : zK) (ax : Nat) (zn : Nat) (sa : Nat) (ak : Nat → Nat) (tr : Nat) (tc : Nat) (X : Nat → Int32) (F : Nat → Int32) (O : Nat → Int32) : zMet l K yX4_lastFetches wsX4_lastFetches { frames := 0, cells := 0, slots := 0, locals := 0 } [.ref ax] [zXo ax zn sa (ak 0) tr tc X, zCo K ak F O] (some (.int (fX4_lastFetches X F O))) [zXo ax zn sa (ak 0) tr tc X, zCo K ak F O] True zNo := by
  refine zMeN.of (cc := cX4_lastFetches) (maxL := 1) (ret := (some .int)) (own := RX4) (nm := "lastFetches") hl (by decide +kernel) rfl rfl rfl (Nat.le_of_ble_eq_true rfl) (lv := [(0, .ref ax)]) rfl ?_
  intro p e s m args below meth c A B
  refine z_aload_n B dX4_lastFetches_0 0 rfl ?_
  refine z_get B (v := .ref (ak 0)) 0 0 4 hiX4_lastFetches_4 hfX4_lastFetches_25 rfl rfl rfl (by decide) rfl rfl rfl rfl dX4_lastFetches_1 ?_
  refine z_get B (v := .int (O 3)) 1 0 3 hiX4_lastFetches_1 hfX4_lastFetches_139 rfl rfl rfl (by decide) rfl rfl rfl rfl dX4_lastFetches_4 ?_
  have hF : fX4_lastFetches X F O = (O 3) := rfl
  exact z_ret1 B rfl dX4_lastFetches_7 () (trivial) (Nat.le_of_ble_eq_true rfl) (Nat.le_of_ble_eq_true rfl) (by rw [hF]) (by rw [hF])
