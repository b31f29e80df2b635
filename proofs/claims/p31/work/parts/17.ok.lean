/-! IN RANGE: the calls of the class that throw nothing; no new cell -/
def fX4_requireName_o (x1 : Int32) : Unit :=
  ()
set_option maxHeartbeats 4000000 in
set_option maxRecDepth 100000 in
theorem kX4_requireName_o (l : Launch) (hl : l.stackTraces = false) (K : zK) (x1 : Int32) (q0 : ¬ x1 < 0) (q1 : x1 < 16) : zMet l K yX4_requireName wsX4_requireName { frames := 0, cells := 0, slots := 0, locals := 0 } [.int x1] [] none [] True zNo := by
  refine zMeN.of (cc := cX4_requireName) (maxL := 1) (ret := none) (own := RX4) (nm := "requireName") hl (by decide +kernel) rfl rfl rfl (Nat.le_of_ble_eq_true rfl) (lv := [(0, .int x1)]) rfl ?_
  intro p e s m args below meth c A B
  refine z_iload_n B dX4_requireName_0 0 rfl ?_
  refine z_iflt B 10 dX4_requireName_1 (by decide) (fun h => absurd h q0) (fun _ => ?_)
  refine z_iload_n B dX4_requireName_4 0 rfl ?_
  refine z_bipush B (v := 16) dX4_requireName_5 rfl ?_
  refine z_iclt B 20 dX4_requireName_7 (by decide) (fun _ => ?_) (fun h => absurd q1 h)
  have hF : fX4_requireName_o x1 = () := rfl
  exact z_ret0 B dX4_requireName_20 () (trivial) (Nat.le_of_ble_eq_true rfl) (Nat.le_of_ble_eq_true rfl) rfl (by rfl)
def fX4_requireWithin_o (x1 : Int32) (x2 : Int32) (x3 : Int32) : Unit :=
  ()
set_option maxHeartbeats 4000000 in
set_option maxRecDepth 100000 in
theorem kX4_requireWithin_o (l : Launch) (hl : l.stackTraces = false) (K : zK) (x1 : Int32) (x2 : Int32) (x3 : Int32) (r0 : ¬ x1 < x2) (r1 : x1 ≤ x3) : zMet l K yX4_requireWithin wsX4_requireWithin { frames := 0, cells := 0, slots := 0, locals := 0 } [.int x1, .int x2, .int x3] [] none [] True zNo := by
  refine zMeN.of (cc := cX4_requireWithin) (maxL := 3) (ret := none) (own := RX4) (nm := "requireWithin") hl (by decide +kernel) rfl rfl rfl (Nat.le_of_ble_eq_true rfl) (lv := [(0, .int x1), (1, .int x2), (2, .int x3)]) rfl ?_
  intro p e s m args below meth c A B
  refine z_iload_n B dX4_requireWithin_0 0 rfl ?_
  refine z_iload_n B dX4_requireWithin_1 1 rfl ?_
  refine z_iclt B 10 dX4_requireWithin_2 (by decide) (fun h => absurd h r0) (fun _ => ?_)
  refine z_iload_n B dX4_requireWithin_5 0 rfl ?_
  refine z_iload_n B dX4_requireWithin_6 2 rfl ?_
  refine z_icle B 20 dX4_requireWithin_7 (by decide) (fun _ => ?_) (fun h => absurd r1 h)
  have hF : fX4_requireWithin_o x1 x2 x3 = () := rfl
  exact z_ret0 B dX4_requireWithin_20 () (trivial) (Nat.le_of_ble_eq_true rfl) (Nat.le_of_ble_eq_true rfl) rfl (by rfl)
def fX4_setAddress_o (X : Nat → Int32) (Z : Nat → Nat → Int32) (W : Nat → Int32) (x1 : Int32) (x2 : Int32) (x3 : Int32) : (Nat → Nat → Int32) :=
  (fX3_put Z W x1 0 x2 x3)
set_option maxHeartbeats 4000000 in
set_option maxRecDepth 100000 in
theorem kX4_setAddress_o (l : Launch) (hl : l.stackTraces = false) (K : zK) (ax : Nat) (az : Nat → Nat) (sa : Nat) (la : Nat) (tr : Nat) (tc : Nat) (X : Nat → Int32) (Z : Nat → Nat → Int32) (W : Nat → Int32) (x1 : Int32) (x2 : Int32) (x3 : Int32) (q0 : ¬ x1 < 0) (q1 : x1 < 16) (r0a : ¬ x2 < 1) (r1a : x2 ≤ 9999) (r0b : ¬ x3 < 1) (r1b : x3 ≤ 1000) : zMet l K yX4_setAddress wsX4_setAddress { frames := 1, cells := 0, slots := 0, locals := 24 } [.ref ax, .int x1, .int x2, .int x3] [zXo ax (az 0) sa la tr tc X, zZo K az Z W] none [zXo ax (az 0) sa la tr tc X, zZo K az (fX4_setAddress_o X Z W x1 x2 x3) W] True zNo := by
  refine zMeN.of (cc := cX4_setAddress) (maxL := 4) (ret := none) (own := RX4) (nm := "setAddress") hl (by decide +kernel) rfl rfl rfl (Nat.le_of_ble_eq_true rfl) (lv := [(0, .ref ax), (1, .int x1), (2, .int x2), (3, .int x3)]) rfl ?_
  intro p e s m args below meth c A B
  refine z_iload_n B dX4_setAddress_0 1 rfl ?_
  refine z_S0 B (kX4_requireName_o l hl K x1 q0 q1) [] [0, 1] (br := [zXo ax (az 0) sa la tr tc X, zZo K az Z W]) (bs' := [zXo ax (az 0) sa la tr tc X, zZo K az Z W]) (st := []) (nA := 1) (zsp rfl rfl rfl) (zsp rfl rfl rfl) gX4_setAddress_X4_requireName rfl (by decide +kernel) ⟨Nat.le_of_ble_eq_true rfl, Nat.le_of_ble_eq_true rfl⟩ rfl rfl (Nat.le_of_ble_eq_true rfl) ⟨Nat.le_of_ble_eq_true rfl, Nat.le_of_ble_eq_true rfl⟩ dX4_setAddress_1 z_noX (fun _ => ?_)
  refine z_iload_n B dX4_setAddress_4 2 rfl ?_
  refine z_iconst B (v := 1) dX4_setAddress_5 rfl ?_
  refine z_sipush B (v := 9999) dX4_setAddress_6 rfl ?_
  refine z_S0 B (kX4_requireWithin_o l hl K x2 1 9999 r0a r1a) [] [0, 1] (br := [zXo ax (az 0) sa la tr tc X, zZo K az Z W]) (bs' := [zXo ax (az 0) sa la tr tc X, zZo K az Z W]) (st := []) (nA := 3) (zsp rfl rfl rfl) (zsp rfl rfl rfl) gX4_setAddress_X4_requireWithin rfl (by decide +kernel) ⟨Nat.le_of_ble_eq_true rfl, Nat.le_of_ble_eq_true rfl⟩ rfl rfl (Nat.le_of_ble_eq_true rfl) ⟨Nat.le_of_ble_eq_true rfl, Nat.le_of_ble_eq_true rfl⟩ dX4_setAddress_9 z_noX (fun _ => ?_)
  refine z_iload_n B dX4_setAddress_12 3 rfl ?_
  refine z_iconst B (v := 1) dX4_setAddress_13 rfl ?_
  refine z_sipush B (v := 1000) dX4_setAddress_14 rfl ?_
  refine z_S0 B (kX4_requireWithin_o l hl K x3 1 1000 r0b r1b) [] [0, 1] (br := [zXo ax (az 0) sa la tr tc X, zZo K az Z W]) (bs' := [zXo ax (az 0) sa la tr tc X, zZo K az Z W]) (st := []) (nA := 3) (zsp rfl rfl rfl) (zsp rfl rfl rfl) gX4_setAddress_X4_requireWithin rfl (by decide +kernel) ⟨Nat.le_of_ble_eq_true rfl, Nat.le_of_ble_eq_true rfl⟩ rfl rfl (Nat.le_of_ble_eq_true rfl) ⟨Nat.le_of_ble_eq_true rfl, Nat.le_of_ble_eq_true rfl⟩ dX4_setAddress_17 z_noX (fun _ => ?_)
  refine z_aload_n B dX4_setAddress_20 0 rfl ?_
  refine z_get B (v := .ref (az 0)) 0 0 0 hiX4_setAddress_4 hfX4_setAddress_10 rfl rfl rfl (by decide) rfl rfl rfl rfl dX4_setAddress_21 ?_
  refine z_iload_n B dX4_setAddress_24 1 rfl ?_
  refine z_iconst B (v := 0) dX4_setAddress_25 rfl ?_
  refine z_iload_n B dX4_setAddress_26 2 rfl ?_
  refine z_iload_n B dX4_setAddress_27 3 rfl ?_
  refine z_V0 B (kX3_put l hl K az Z W x1 0 x2 x3) [1] [0] (br := [zXo ax (az 0) sa la tr tc X]) (bs' := [zXo ax (az 0) sa la tr tc X, zZo K az (fX3_put Z W x1 0 x2 x3) W]) (st := []) (nA := 4) (zsp rfl rfl rfl) (zsp rfl rfl rfl) 1 0 rfl rfl rfl rfl gX4_setAddress_X3_put rfl (by decide +kernel) ⟨Nat.le_of_ble_eq_true rfl, Nat.le_of_ble_eq_true rfl⟩ rfl rfl (Nat.le_of_ble_eq_true rfl) ⟨Nat.le_of_ble_eq_true rfl, Nat.le_of_ble_eq_true rfl⟩ dX4_setAddress_28 z_noX (fun _ => ?_)
  have hF : fX4_setAddress_o X Z W x1 x2 x3 = (fX3_put Z W x1 0 x2 x3) := rfl
  exact z_ret0 B dX4_setAddress_31 () (trivial) (Nat.le_of_ble_eq_true rfl) (Nat.le_of_ble_eq_true rfl) rfl (by rw [hF])
def fX4_setAlias_o (X : Nat → Int32) (Z : Nat → Nat → Int32) (W : Nat → Int32) (x1 : Int32) (x2 : Int32) (x3 : Int32) : (Nat → Nat → Int32) :=
  (fX3_put Z W x1 1 x2 x3)
set_option maxHeartbeats 4000000 in
set_option maxRecDepth 100000 in
theorem kX4_setAlias_o (l : Launch) (hl : l.stackTraces = false) (K : zK) (ax : Nat) (az : Nat → Nat) (sa : Nat) (la : Nat) (tr : Nat) (tc : Nat) (X : Nat → Int32) (Z : Nat → Nat → Int32) (W : Nat → Int32) (x1 : Int32) (x2 : Int32) (x3 : Int32) (q0 : ¬ x1 < 0) (q1 : x1 < 16) (q0a : ¬ x2 < 0) (q1a : x2 < 16) (qn : ¬ x2 = x1) (r0b : ¬ x3 < 1) (r1b : x3 ≤ 1000) : zMet l K yX4_setAlias wsX4_setAlias { frames := 1, cells := 0, slots := 0, locals := 24 } [.ref ax, .int x1, .int x2, .int x3] [zXo ax (az 0) sa la tr tc X, zZo K az Z W] none [zXo ax (az 0) sa la tr tc X, zZo K az (fX4_setAlias_o X Z W x1 x2 x3) W] True zNo := by
  refine zMeN.of (cc := cX4_setAlias) (maxL := 4) (ret := none) (own := RX4) (nm := "setAlias") hl (by decide +kernel) rfl rfl rfl (Nat.le_of_ble_eq_true rfl) (lv := [(0, .ref ax), (1, .int x1), (2, .int x2), (3, .int x3)]) rfl ?_
  intro p e s m args below meth c A B
  refine z_iload_n B dX4_setAlias_0 1 rfl ?_
  refine z_S0 B (kX4_requireName_o l hl K x1 q0 q1) [] [0, 1] (br := [zXo ax (az 0) sa la tr tc X, zZo K az Z W]) (bs' := [zXo ax (az 0) sa la tr tc X, zZo K az Z W]) (st := []) (nA := 1) (zsp rfl rfl rfl) (zsp rfl rfl rfl) gX4_setAlias_X4_requireName rfl (by decide +kernel) ⟨Nat.le_of_ble_eq_true rfl, Nat.le_of_ble_eq_true rfl⟩ rfl rfl (Nat.le_of_ble_eq_true rfl) ⟨Nat.le_of_ble_eq_true rfl, Nat.le_of_ble_eq_true rfl⟩ dX4_setAlias_1 z_noX (fun _ => ?_)
  refine z_iload_n B dX4_setAlias_4 2 rfl ?_
  refine z_S0 B (kX4_requireName_o l hl K x2 q0a q1a) [] [0, 1] (br := [zXo ax (az 0) sa la tr tc X, zZo K az Z W]) (bs' := [zXo ax (az 0) sa la tr tc X, zZo K az Z W]) (st := []) (nA := 1) (zsp rfl rfl rfl) (zsp rfl rfl rfl) gX4_setAlias_X4_requireName rfl (by decide +kernel) ⟨Nat.le_of_ble_eq_true rfl, Nat.le_of_ble_eq_true rfl⟩ rfl rfl (Nat.le_of_ble_eq_true rfl) ⟨Nat.le_of_ble_eq_true rfl, Nat.le_of_ble_eq_true rfl⟩ dX4_setAlias_5 z_noX (fun _ => ?_)
  refine z_iload_n B dX4_setAlias_8 2 rfl ?_
  refine z_iload_n B dX4_setAlias_9 1 rfl ?_
  refine z_icne B 23 dX4_setAlias_10 (by decide) (fun h => absurd h qn) (fun _ => ?_)
  refine z_iload_n B dX4_setAlias_23 3 rfl ?_
  refine z_iconst B (v := 1) dX4_setAlias_24 rfl ?_
  refine z_sipush B (v := 1000) dX4_setAlias_25 rfl ?_
  refine z_S0 B (kX4_requireWithin_o l hl K x3 1 1000 r0b r1b) [] [0, 1] (br := [zXo ax (az 0) sa la tr tc X, zZo K az Z W]) (bs' := [zXo ax (az 0) sa la tr tc X, zZo K az Z W]) (st := []) (nA := 3) (zsp rfl rfl rfl) (zsp rfl rfl rfl) gX4_setAlias_X4_requireWithin rfl (by decide +kernel) ⟨Nat.le_of_ble_eq_true rfl, Nat.le_of_ble_eq_true rfl⟩ rfl rfl (Nat.le_of_ble_eq_true rfl) ⟨Nat.le_of_ble_eq_true rfl, Nat.le_of_ble_eq_true rfl⟩ dX4_setAlias_28 z_noX (fun _ => ?_)
  refine z_aload_n B dX4_setAlias_31 0 rfl ?_
  refine z_get B (v := .ref (az 0)) 0 0 0 hiX4_setAlias_4 hfX4_setAlias_10 rfl rfl rfl (by decide) rfl rfl rfl rfl dX4_setAlias_32 ?_
  refine z_iload_n B dX4_setAlias_35 1 rfl ?_
  refine z_iconst B (v := 1) dX4_setAlias_36 rfl ?_
  refine z_iload_n B dX4_setAlias_37 2 rfl ?_
  refine z_iload_n B dX4_setAlias_38 3 rfl ?_
  refine z_V0 B (kX3_put l hl K az Z W x1 1 x2 x3) [1] [0] (br := [zXo ax (az 0) sa la tr tc X]) (bs' := [zXo ax (az 0) sa la tr tc X, zZo K az (fX3_put Z W x1 1 x2 x3) W]) (st := []) (nA := 4) (zsp rfl rfl rfl) (zsp rfl rfl rfl) 1 0 rfl rfl rfl rfl gX4_setAlias_X3_put rfl (by decide +kernel) ⟨Nat.le_of_ble_eq_true rfl, Nat.le_of_ble_eq_true rfl⟩ rfl rfl (Nat.le_of_ble_eq_true rfl) ⟨Nat.le_of_ble_eq_true rfl, Nat.le_of_ble_eq_true rfl⟩ dX4_setAlias_39 z_noX (fun _ => ?_)
  have hF : fX4_setAlias_o X Z W x1 x2 x3 = (fX3_put Z W x1 1 x2 x3) := rfl
  exact z_ret0 B dX4_setAlias_42 () (trivial) (Nat.le_of_ble_eq_true rfl) (Nat.le_of_ble_eq_true rfl) rfl (by rw [hF])
def fX4_remove_o (X : Nat → Int32) (Z : Nat → Nat → Int32) (W : Nat → Int32) (x1 : Int32) : Int32 × (Nat → Nat → Int32) :=
  if (fX3_kindOf Z W x1) = 2 then
    (0, (fX3_put Z W x1 2 (-3) 0))
  else
    (1, (fX3_put Z W x1 2 (-3) 0))
set_option maxHeartbeats 4000000 in
set_option maxRecDepth 100000 in
theorem kX4_remove_o (l : Launch) (hl : l.stackTraces = false) (K : zK) (ax : Nat) (az : Nat → Nat) (sa : Nat) (la : Nat) (tr : Nat) (tc : Nat) (X : Nat → Int32) (Z : Nat → Nat → Int32) (W : Nat → Int32) (x1 : Int32) (q0 : ¬ x1 < 0) (q1 : x1 < 16) : zMet l K yX4_remove wsX4_remove { frames := 1, cells := 0, slots := 0, locals := 24 } [.ref ax, .int x1] [zXo ax (az 0) sa la tr tc X, zZo K az Z W] (some (.int ((fX4_remove_o X Z W x1).1))) [zXo ax (az 0) sa la tr tc X, zZo K az ((fX4_remove_o X Z W x1).2) W] True zNo := by
  refine zMeN.of (cc := cX4_remove) (maxL := 3) (ret := (some .boolean)) (own := RX4) (nm := "remove") hl (by decide +kernel) rfl rfl rfl (Nat.le_of_ble_eq_true rfl) (lv := [(0, .ref ax), (1, .int x1)]) rfl ?_
  intro p e s m args below meth c A B
  refine z_iload_n B dX4_remove_0 1 rfl ?_
  refine z_S0 B (kX4_requireName_o l hl K x1 q0 q1) [] [0, 1] (br := [zXo ax (az 0) sa la tr tc X, zZo K az Z W]) (bs' := [zXo ax (az 0) sa la tr tc X, zZo K az Z W]) (st := []) (nA := 1) (zsp rfl rfl rfl) (zsp rfl rfl rfl) gX4_remove_X4_requireName rfl (by decide +kernel) ⟨Nat.le_of_ble_eq_true rfl, Nat.le_of_ble_eq_true rfl⟩ rfl rfl (Nat.le_of_ble_eq_true rfl) ⟨Nat.le_of_ble_eq_true rfl, Nat.le_of_ble_eq_true rfl⟩ dX4_remove_1 z_noX (fun _ => ?_)
  refine z_aload_n B dX4_remove_4 0 rfl ?_
  refine z_get B (v := .ref (az 0)) 0 0 0 hiX4_remove_4 hfX4_remove_10 rfl rfl rfl (by decide) rfl rfl rfl rfl dX4_remove_5 ?_
  refine z_iload_n B dX4_remove_8 1 rfl ?_
  refine z_V1 B (kX3_kindOf l hl K az Z W x1) [1] [0] (br := [zXo ax (az 0) sa la tr tc X]) (bs' := [zXo ax (az 0) sa la tr tc X, zZo K az Z W]) (st := []) (nA := 1) (zsp rfl rfl rfl) (zsp rfl rfl rfl) 1 0 rfl rfl rfl rfl gX4_remove_X3_kindOf rfl (by decide +kernel) ⟨Nat.le_of_ble_eq_true rfl, Nat.le_of_ble_eq_true rfl⟩ rfl rfl (Nat.le_of_ble_eq_true rfl) ⟨Nat.le_of_ble_eq_true rfl, Nat.le_of_ble_eq_true rfl⟩ dX4_remove_9 z_noX (fun _ => ?_)
  refine z_iconst B (v := 2) dX4_remove_12 rfl ?_
  refine z_iceq B 20 dX4_remove_13 (by decide) (fun c1 => ?_) (fun c1 => ?_)
  · refine z_iconst B (v := 0) dX4_remove_20 rfl ?_
    refine z_istore_n B (lv' := [(2, .int 0), (0, .ref ax), (1, .int x1)]) dX4_remove_21 (by decide) rfl ?_
    refine z_aload_n B dX4_remove_22 1 rfl ?_
    refine z_get B (v := .ref (az 0)) 0 0 0 hiX4_remove_4 hfX4_remove_10 rfl rfl rfl (by decide) rfl rfl rfl rfl dX4_remove_23 ?_
    refine z_iload_n B dX4_remove_26 2 rfl ?_
    refine z_iconst B (v := 2) dX4_remove_27 rfl ?_
    refine z_bipush B (v := (-3)) dX4_remove_28 rfl ?_
    refine z_iconst B (v := 0) dX4_remove_30 rfl ?_
    refine z_V0 B (kX3_put l hl K az Z W x1 2 (-3) 0) [1] [0] (br := [zXo ax (az 0) sa la tr tc X]) (bs' := [zXo ax (az 0) sa la tr tc X, zZo K az (fX3_put Z W x1 2 (-3) 0) W]) (st := []) (nA := 4) (zsp rfl rfl rfl) (zsp rfl rfl rfl) 1 0 rfl rfl rfl rfl gX4_remove_X3_put rfl (by decide +kernel) ⟨Nat.le_of_ble_eq_true rfl, Nat.le_of_ble_eq_true rfl⟩ rfl rfl (Nat.le_of_ble_eq_true rfl) ⟨Nat.le_of_ble_eq_true rfl, Nat.le_of_ble_eq_true rfl⟩ dX4_remove_31 z_noX (fun _ => ?_)
    refine z_iload_n B dX4_remove_34 0 rfl ?_
    have hF : fX4_remove_o X Z W x1 = (0, (fX3_put Z W x1 2 (-3) 0)) := if_pos c1
    exact z_ret1 B rfl dX4_remove_35 () (trivial) (Nat.le_of_ble_eq_true rfl) (Nat.le_of_ble_eq_true rfl) (by rw [hF]) (by rw [hF])
  · refine z_iconst B (v := 1) dX4_remove_16 rfl ?_
    refine z_goto B (tgt := 21) dX4_remove_17 (by decide) ?_
    refine z_istore_n B (lv' := [(2, .int 1), (0, .ref ax), (1, .int x1)]) dX4_remove_21 (by decide) rfl ?_
    refine z_aload_n B dX4_remove_22 1 rfl ?_
    refine z_get B (v := .ref (az 0)) 0 0 0 hiX4_remove_4 hfX4_remove_10 rfl rfl rfl (by decide) rfl rfl rfl rfl dX4_remove_23 ?_
    refine z_iload_n B dX4_remove_26 2 rfl ?_
    refine z_iconst B (v := 2) dX4_remove_27 rfl ?_
    refine z_bipush B (v := (-3)) dX4_remove_28 rfl ?_
    refine z_iconst B (v := 0) dX4_remove_30 rfl ?_
    refine z_V0 B (kX3_put l hl K az Z W x1 2 (-3) 0) [1] [0] (br := [zXo ax (az 0) sa la tr tc X]) (bs' := [zXo ax (az 0) sa la tr tc X, zZo K az (fX3_put Z W x1 2 (-3) 0) W]) (st := []) (nA := 4) (zsp rfl rfl rfl) (zsp rfl rfl rfl) 1 0 rfl rfl rfl rfl gX4_remove_X3_put rfl (by decide +kernel) ⟨Nat.le_of_ble_eq_true rfl, Nat.le_of_ble_eq_true rfl⟩ rfl rfl (Nat.le_of_ble_eq_true rfl) ⟨Nat.le_of_ble_eq_true rfl, Nat.le_of_ble_eq_true rfl⟩ dX4_remove_31 z_noX (fun _ => ?_)
    refine z_iload_n B dX4_remove_34 0 rfl ?_
    have hF : fX4_remove_o X Z W x1 = (1, (fX3_put Z W x1 2 (-3) 0)) := if_neg c1
    exact z_ret1 B rfl dX4_remove_35 () (trivial) (Nat.le_of_ble_eq_true rfl) (Nat.le_of_ble_eq_true rfl) (by rw [hF]) (by rw [hF])
def fX4_setBound_o (X : Nat → Int32) (Z : Nat → Nat → Int32) (W : Nat → Int32) (x1 : Int32) : Int32 × (Nat → Int32) :=
  ((W 3), (va_up W 3 x1))
set_option maxHeartbeats 4000000 in
set_option maxRecDepth 100000 in
theorem kX4_setBound_o (l : Launch) (hl : l.stackTraces = false) (K : zK) (ax : Nat) (az : Nat → Nat) (sa : Nat) (la : Nat) (tr : Nat) (tc : Nat) (X : Nat → Int32) (Z : Nat → Nat → Int32) (W : Nat → Int32) (x1 : Int32) (r0 : ¬ x1 < 1) (r1 : x1 ≤ 300) : zMet l K yX4_setBound wsX4_setBound { frames := 1, cells := 0, slots := 0, locals := 22 } [.ref ax, .int x1] [zXo ax (az 0) sa la tr tc X, zZo K az Z W] (some (.int ((fX4_setBound_o X Z W x1).1))) [zXo ax (az 0) sa la tr tc X, zZo K az Z ((fX4_setBound_o X Z W x1).2)] True zNo := by
  refine zMeN.of (cc := cX4_setBound) (maxL := 3) (ret := (some .int)) (own := RX4) (nm := "setBound") hl (by decide +kernel) rfl rfl rfl (Nat.le_of_ble_eq_true rfl) (lv := [(0, .ref ax), (1, .int x1)]) rfl ?_
  intro p e s m args below meth c A B
  refine z_iload_n B dX4_setBound_0 1 rfl ?_
  refine z_iconst B (v := 1) dX4_setBound_1 rfl ?_
  refine z_sipush B (v := 300) dX4_setBound_2 rfl ?_
  refine z_S0 B (kX4_requireWithin_o l hl K x1 1 300 r0 r1) [] [0, 1] (br := [zXo ax (az 0) sa la tr tc X, zZo K az Z W]) (bs' := [zXo ax (az 0) sa la tr tc X, zZo K az Z W]) (st := []) (nA := 3) (zsp rfl rfl rfl) (zsp rfl rfl rfl) gX4_setBound_X4_requireWithin rfl (by decide +kernel) ⟨Nat.le_of_ble_eq_true rfl, Nat.le_of_ble_eq_true rfl⟩ rfl rfl (Nat.le_of_ble_eq_true rfl) ⟨Nat.le_of_ble_eq_true rfl, Nat.le_of_ble_eq_true rfl⟩ dX4_setBound_5 z_noX (fun _ => ?_)
  refine z_aload_n B dX4_setBound_8 0 rfl ?_
  refine z_get B (v := .ref (az 0)) 0 0 0 hiX4_setBound_4 hfX4_setBound_10 rfl rfl rfl (by decide) rfl rfl rfl rfl dX4_setBound_9 ?_
  refine z_get B (v := .int (W 3)) 1 0 3 hiX4_setBound_3 hfX4_setBound_66 rfl rfl rfl (by decide) rfl rfl rfl rfl dX4_setBound_12 ?_
  refine z_istore_n B (lv' := [(2, .int (W 3)), (0, .ref ax), (1, .int x1)]) dX4_setBound_15 (by decide) rfl ?_
  refine z_aload_n B dX4_setBound_16 1 rfl ?_
  refine z_get B (v := .ref (az 0)) 0 0 0 hiX4_setBound_4 hfX4_setBound_10 rfl rfl rfl (by decide) rfl rfl rfl rfl dX4_setBound_17 ?_
  refine z_iload_n B dX4_setBound_20 2 rfl ?_
  refine z_put B 1 0 3 hiX4_setBound_3 hfX4_setBound_66 tyX3_ok nmX3 rfl rfl rfl (by decide) rfl rfl rfl rfl rfl rfl rfl (Nat.le_of_ble_eq_true rfl) (bs' := [zXo ax (az 0) sa la tr tc X, zZo K az Z (va_up W 3 x1)]) rfl dX4_setBound_21 ?_
  refine z_iload_n B dX4_setBound_24 0 rfl ?_
  have hF : fX4_setBound_o X Z W x1 = ((W 3), (va_up W 3 x1)) := rfl
  exact z_ret1 B rfl dX4_setBound_25 () (trivial) (Nat.le_of_ble_eq_true rfl) (Nat.le_of_ble_eq_true rfl) (by rw [hF]) (by rw [hF])
def fX4_truth_o_L8 (X : Nat → Int32) (Z : Nat → Nat → Int32) (W : Nat → Int32) (x1 : Int32) : Nat → Nat → (Int32) → Int32
  | 0, a, cur =>
    (-2)
  | n + 1, a, cur =>
    if (fX3_kindOf Z W cur) = 1 then
      fX4_truth_o_L8 X Z W x1 n (a + 1) (fX3_valueOf Z W cur)
    else
      if (fX3_kindOf Z W cur) = 0 then
        (fX3_valueOf Z W cur)
      else
        (-1)
def fX4_truth_o (X : Nat → Int32) (Z : Nat → Nat → Int32) (W : Nat → Int32) (x1 : Int32) : Int32 :=
  fX4_truth_o_L8 X Z W x1 5 0 x1
set_option maxHeartbeats 4000000 in
set_option maxRecDepth 100000 in
theorem kX4_truth_o_L8 (l : Launch) (hl : l.stackTraces = false) (K : zK) (ax : Nat) (az : Nat → Nat) (sa : Nat) (la : Nat) (tr : Nat) (tc : Nat) (X : Nat → Int32) (Z : Nat → Nat → Int32) (W : Nat → Int32) (x1 : Int32) (q0 : ¬ x1 < 0) (q1 : x1 < 16) {p : Program} {e : Env} {s : State} {m : MethodId} {args : Array Value} {below : List Frame} {meth : Method} {c : Code} {A : Nat → Prop} (B : zF K p l s m args meth c A cX4_truth 6 RX4 "truth" wsX4_truth (some .int) []) : ∀ (n a : Nat) (cur : Int32), a + n = 5 → fX4_truth_o X Z W x1 = fX4_truth_o_L8 X Z W x1 n a cur → zW K p l e { frames := 1, cells := 0, slots := 0, locals := 21 } s m args below meth c A (vx_MQ below (zQ K A (fun _ : Unit => ((some (.int (fX4_truth_o X Z W x1))), [zXo ax (az 0) sa la tr tc X, zZo K az Z W])) (fun _ => True)) (zX K A [zXo ax (az 0) sa la tr tc X, zZo K az Z W] zNo) args s 0 0 A) 0 0 [zXo ax (az 0) sa la tr tc X, zZo K az Z W] [(0, .ref ax), (1, .int x1), (3, .int (nI a)), (2, .int cur)] [] 8 := by
  intro n
  induction n with
  | zero =>
    intro a cur ha  hF0
    refine z_iload_n B dX4_truth_8 2 rfl ?_
    refine z_iconst B (v := 4) dX4_truth_9 rfl ?_
    refine z_icgt B 60 dX4_truth_10 (by decide) (fun _ => ?_) (fun h => absurd (z_lgt0 ha (by decide)) h)
    refine z_bipush B (v := (-2)) dX4_truth_60 rfl ?_
    have hF : fX4_truth_o X Z W x1 = (-2) := hF0
    exact z_ret1 B rfl dX4_truth_62 () (trivial) (Nat.le_of_ble_eq_true rfl) (Nat.le_of_ble_eq_true rfl) (by rw [hF]) (by rw [hF])
  | succ n ih =>
    intro a cur ha  hF0
    refine z_iload_n B dX4_truth_8 2 rfl ?_
    refine z_iconst B (v := 4) dX4_truth_9 rfl ?_
    refine z_icgt B 60 dX4_truth_10 (by decide) (fun h => absurd h (z_lgtS ha (by decide))) (fun _ => ?_)
    refine z_aload_n B dX4_truth_13 0 rfl ?_
    refine z_get B (v := .ref (az 0)) 0 0 0 hiX4_truth_4 hfX4_truth_10 rfl rfl rfl (by decide) rfl rfl rfl rfl dX4_truth_14 ?_
    refine z_iload_n B dX4_truth_17 3 rfl ?_
    refine z_V1 B (kX3_kindOf l hl K az Z W cur) [1] [0] (br := [zXo ax (az 0) sa la tr tc X]) (bs' := [zXo ax (az 0) sa la tr tc X, zZo K az Z W]) (st := []) (nA := 1) (zsp rfl rfl rfl) (zsp rfl rfl rfl) 1 0 rfl rfl rfl rfl gX4_truth_X3_kindOf rfl (by decide +kernel) ⟨Nat.le_of_ble_eq_true rfl, Nat.le_of_ble_eq_true rfl⟩ rfl rfl (Nat.le_of_ble_eq_true rfl) ⟨Nat.le_of_ble_eq_true rfl, Nat.le_of_ble_eq_true rfl⟩ dX4_truth_18 z_noX (fun _ => ?_)
    refine z_istore B (lv' := [(4, .int (fX3_kindOf Z W cur)), (0, .ref ax), (1, .int x1), (3, .int (nI a)), (2, .int cur)]) dX4_truth_21 (by decide) rfl ?_
    refine z_aload_n B dX4_truth_23 1 rfl ?_
    refine z_get B (v := .ref (az 0)) 0 0 0 hiX4_truth_4 hfX4_truth_10 rfl rfl rfl (by decide) rfl rfl rfl rfl dX4_truth_24 ?_
    refine z_iload_n B dX4_truth_27 4 rfl ?_
    refine z_V1 B (kX3_valueOf l hl K az Z W cur) [1] [0] (br := [zXo ax (az 0) sa la tr tc X]) (bs' := [zXo ax (az 0) sa la tr tc X, zZo K az Z W]) (st := []) (nA := 1) (zsp rfl rfl rfl) (zsp rfl rfl rfl) 1 0 rfl rfl rfl rfl gX4_truth_X3_valueOf rfl (by decide +kernel) ⟨Nat.le_of_ble_eq_true rfl, Nat.le_of_ble_eq_true rfl⟩ rfl rfl (Nat.le_of_ble_eq_true rfl) ⟨Nat.le_of_ble_eq_true rfl, Nat.le_of_ble_eq_true rfl⟩ dX4_truth_28 z_noX (fun _ => ?_)
    refine z_istore B (lv' := [(5, .int (fX3_valueOf Z W cur)), (4, .int (fX3_kindOf Z W cur)), (0, .ref ax), (1, .int x1), (3, .int (nI a)), (2, .int cur)]) dX4_truth_31 (by decide) rfl ?_
    refine z_iload B dX4_truth_33 1 rfl ?_
    refine z_iconst B (v := 1) dX4_truth_35 rfl ?_
    refine z_iceq B 51 dX4_truth_36 (by decide) (fun c1 => ?_) (fun c1 => ?_)
    · refine z_iload B dX4_truth_51 0 rfl ?_
      refine z_istore_n B (lv' := [(2, .int (fX3_valueOf Z W cur)), (5, .int (fX3_valueOf Z W cur)), (4, .int (fX3_kindOf Z W cur)), (0, .ref ax), (1, .int x1), (3, .int (nI a))]) dX4_truth_53 (by decide) rfl ?_
      refine z_iinc B (v := nI (a + 1)) (lv' := [(3, .int (nI (a + 1))), (2, .int (fX3_valueOf Z W cur)), (5, .int (fX3_valueOf Z W cur)), (4, .int (fX3_kindOf Z W cur)), (0, .ref ax), (1, .int x1)]) dX4_truth_54 5 rfl (nI_1 a) (by decide) rfl ?_
      refine z_goto B (tgt := 8) dX4_truth_57 (by decide) ?_
      refine z_lsub [4, 5, 0, 1] rfl ?_
      have hF : fX4_truth_o X Z W x1 = fX4_truth_o_L8 X Z W x1 n (a + 1) (fX3_valueOf Z W cur) := (hF0).trans (if_pos c1)
      exact ih (a + 1) (fX3_valueOf Z W cur) (by omega)  hF
    · refine z_iload B dX4_truth_39 1 rfl ?_
      refine z_ifne B 49 dX4_truth_41 (by decide) (fun c2 => ?_) (fun c2 => ?_)
      · refine z_iload B dX4_truth_44 0 rfl ?_
        refine z_goto B (tgt := 50) dX4_truth_46 (by decide) ?_
        have hF : fX4_truth_o X Z W x1 = (fX3_valueOf Z W cur) := (hF0).trans ((if_neg c1).trans (if_pos c2))
        exact z_ret1 B rfl dX4_truth_50 () (trivial) (Nat.le_of_ble_eq_true rfl) (Nat.le_of_ble_eq_true rfl) (by rw [hF]) (by rw [hF])
      · refine z_iconst B (v := (-1)) dX4_truth_49 rfl ?_
        have hF : fX4_truth_o X Z W x1 = (-1) := (hF0).trans ((if_neg c1).trans (if_neg c2))
        exact z_ret1 B rfl dX4_truth_50 () (trivial) (Nat.le_of_ble_eq_true rfl) (Nat.le_of_ble_eq_true rfl) (by rw [hF]) (by rw [hF])
set_option maxHeartbeats 4000000 in
set_option maxRecDepth 100000 in
theorem kX4_truth_o (l : Launch) (hl : l.stackTraces = false) (K : zK) (ax : Nat) (az : Nat → Nat) (sa : Nat) (la : Nat) (tr : Nat) (tc : Nat) (X : Nat → Int32) (Z : Nat → Nat → Int32) (W : Nat → Int32) (x1 : Int32) (q0 : ¬ x1 < 0) (q1 : x1 < 16) : zMet l K yX4_truth wsX4_truth { frames := 1, cells := 0, slots := 0, locals := 21 } [.ref ax, .int x1] [zXo ax (az 0) sa la tr tc X, zZo K az Z W] (some (.int (fX4_truth_o X Z W x1))) [zXo ax (az 0) sa la tr tc X, zZo K az Z W] True zNo := by
  refine zMeN.of (cc := cX4_truth) (maxL := 6) (ret := (some .int)) (own := RX4) (nm := "truth") hl (by decide +kernel) rfl rfl rfl (Nat.le_of_ble_eq_true rfl) (lv := [(0, .ref ax), (1, .int x1)]) rfl ?_
  intro p e s m args below meth c A B
  refine z_iload_n B dX4_truth_0 1 rfl ?_
  refine z_S0 B (kX4_requireName_o l hl K x1 q0 q1) [] [0, 1] (br := [zXo ax (az 0) sa la tr tc X, zZo K az Z W]) (bs' := [zXo ax (az 0) sa la tr tc X, zZo K az Z W]) (st := []) (nA := 1) (zsp rfl rfl rfl) (zsp rfl rfl rfl) gX4_truth_X4_requireName rfl (by decide +kernel) ⟨Nat.le_of_ble_eq_true rfl, Nat.le_of_ble_eq_true rfl⟩ rfl rfl (Nat.le_of_ble_eq_true rfl) ⟨Nat.le_of_ble_eq_true rfl, Nat.le_of_ble_eq_true rfl⟩ dX4_truth_1 z_noX (fun _ => ?_)
  refine z_iload_n B dX4_truth_4 1 rfl ?_
  refine z_istore_n B (lv' := [(2, .int x1), (0, .ref ax), (1, .int x1)]) dX4_truth_5 (by decide) rfl ?_
  refine z_iconst B (v := 0) dX4_truth_6 rfl ?_
  refine z_istore_n B (lv' := [(3, .int 0), (2, .int x1), (0, .ref ax), (1, .int x1)]) dX4_truth_7 (by decide) rfl ?_
  refine z_lsub [2, 3, 0, 1] rfl ?_
  have hF : fX4_truth_o X Z W x1 = fX4_truth_o_L8 X Z W x1 5 0 x1 := rfl
  exact kX4_truth_o_L8 l hl K ax az sa la tr tc X Z W x1 q0 q1 B 5 0 x1 (by omega)  hF
def fX4_pass_o (X : Nat → Int32) (x1 : Int32) : Int32 × (Nat → Int32) :=
  (((X 3) + x1), (va_up X 3 ((X 3) + x1)))
set_option maxHeartbeats 4000000 in
set_option maxRecDepth 100000 in
theorem kX4_pass_o (l : Launch) (hl : l.stackTraces = false) (K : zK) (ax : Nat) (zn : Nat) (sa : Nat) (la : Nat) (tr : Nat) (tc : Nat) (X : Nat → Int32) (x1 : Int32) (r0 : ¬ x1 < 1) (r1 : x1 ≤ 1000) : zMet l K yX4_pass wsX4_pass { frames := 1, cells := 0, slots := 0, locals := 22 } [.ref ax, .int x1] [zXo ax zn sa la tr tc X] (some (.int ((fX4_pass_o X x1).1))) [zXo ax zn sa la tr tc ((fX4_pass_o X x1).2)] True zNo := by
  refine zMeN.of (cc := cX4_pass) (maxL := 2) (ret := (some .int)) (own := RX4) (nm := "pass") hl (by decide +kernel) rfl rfl rfl (Nat.le_of_ble_eq_true rfl) (lv := [(0, .ref ax), (1, .int x1)]) rfl ?_
  intro p e s m args below meth c A B
  refine z_iload_n B dX4_pass_0 1 rfl ?_
  refine z_iconst B (v := 1) dX4_pass_1 rfl ?_
  refine z_sipush B (v := 1000) dX4_pass_2 rfl ?_
  refine z_S0 B (kX4_requireWithin_o l hl K x1 1 1000 r0 r1) [] [0] (br := [zXo ax zn sa la tr tc X]) (bs' := [zXo ax zn sa la tr tc X]) (st := []) (nA := 3) (zsp rfl rfl rfl) (zsp rfl rfl rfl) gX4_pass_X4_requireWithin rfl (by decide +kernel) ⟨Nat.le_of_ble_eq_true rfl, Nat.le_of_ble_eq_true rfl⟩ rfl rfl (Nat.le_of_ble_eq_true rfl) ⟨Nat.le_of_ble_eq_true rfl, Nat.le_of_ble_eq_true rfl⟩ dX4_pass_5 z_noX (fun _ => ?_)
  refine z_aload_n B dX4_pass_8 0 rfl ?_
  refine z_dup B dX4_pass_9 rfl ?_
  refine z_get B (v := .int (X 3)) 0 0 3 hiX4_pass_4 hfX4_pass_108 rfl rfl rfl (by decide) rfl rfl rfl rfl dX4_pass_10 ?_
  refine z_iload_n B dX4_pass_13 1 rfl ?_
  refine z_iadd B dX4_pass_14 ?_
  refine z_put B 0 0 3 hiX4_pass_4 hfX4_pass_108 tyX4_ok nmX4 rfl rfl rfl (by decide) rfl rfl rfl rfl rfl rfl rfl (Nat.le_of_ble_eq_true rfl) (bs' := [zXo ax zn sa la tr tc (va_up X 3 ((X 3) + x1))]) rfl dX4_pass_15 ?_
  refine z_aload_n B dX4_pass_18 0 rfl ?_
  refine z_get B (v := .int ((X 3) + x1)) 0 0 3 hiX4_pass_4 hfX4_pass_108 rfl rfl rfl (by decide) rfl rfl rfl rfl dX4_pass_19 ?_
  have hF : fX4_pass_o X x1 = (((X 3) + x1), (va_up X 3 ((X 3) + x1))) := rfl
  exact z_ret1 B rfl dX4_pass_22 () (trivial) (Nat.le_of_ble_eq_true rfl) (Nat.le_of_ble_eq_true rfl) (by rw [hF]) (by rw [hF])
def fX4_cacheAsked_o (x2 : Int32) : Unit :=
  ()
set_option maxHeartbeats 4000000 in
set_option maxRecDepth 100000 in
theorem kX4_cacheAsked_o (l : Launch) (hl : l.stackTraces = false) (K : zK) (ax : Nat) (zn : Nat) (sa : Nat) (la : Nat) (tr : Nat) (tc : Nat) (X : Nat → Int32) (f : Nat → Option Nat) (n : Nat) (so : Nat → Nat) (sc : Nat → Nat → Nat) (D : Nat → Nat → Int32) (i : Nat) (x2 : Int32) (hi4 : i < 4) (hi : i < n) (hfi : f (nI i).toNatClampNeg = some (so i)) (q0 : ¬ x2 < 0) (q1 : x2 < 16) : zMet l K yX4_cacheAsked wsX4_cacheAsked { frames := 1, cells := 0, slots := 0, locals := 22 } [.ref ax, .int (nI i), .int x2] [zXo ax zn sa la tr tc X, zSa K sa f, zSO n so sc D] (some (.ref ((sc i) 0))) [zXo ax zn sa la tr tc X, zSa K sa f, zSO n so sc D] True zNo := by
  refine zMeN.of (cc := cX4_cacheAsked) (maxL := 4) (ret := (some (.object "ResolverFleet$Cache"))) (own := RX4) (nm := "cacheAsked") hl (by decide +kernel) rfl rfl rfl (Nat.le_of_ble_eq_true rfl) (lv := [(0, .ref ax), (1, .int (nI i)), (2, .int x2)]) rfl ?_
  intro p e s m args below meth c A B
  refine z_aload_n B dX4_cacheAsked_0 0 rfl ?_
  refine z_iload_n B dX4_cacheAsked_1 1 rfl ?_
  refine z_V1 B (kX4_siteNumbered_h l hl K ax zn sa la tr tc X f so i hi4 hfi) [0, 1] [2] (br := [zSO n so sc D]) (bs' := [zXo ax zn sa la tr tc X, zSa K sa f, zSO n so sc D]) (st := []) (nA := 1) (zsp rfl rfl rfl) (zsp rfl rfl rfl) 0 0 rfl rfl rfl rfl gX4_cacheAsked_X4_siteNumbered rfl (by decide +kernel) ⟨Nat.le_of_ble_eq_true rfl, Nat.le_of_ble_eq_true rfl⟩ rfl rfl (Nat.le_of_ble_eq_true rfl) ⟨Nat.le_of_ble_eq_true rfl, Nat.le_of_ble_eq_true rfl⟩ dX4_cacheAsked_2 z_noX (fun _ => ?_)
  refine z_astore_n B (lv' := [(3, .ref (so i)), (0, .ref ax), (1, .int (nI i)), (2, .int x2)]) dX4_cacheAsked_5 (by decide) rfl ?_
  refine z_iload_n B dX4_cacheAsked_6 3 rfl ?_
  refine z_S0 B (kX4_requireName_o l hl K x2 q0 q1) [] [0, 1, 2] (br := [zXo ax zn sa la tr tc X, zSa K sa f, zSO n so sc D]) (bs' := [zXo ax zn sa la tr tc X, zSa K sa f, zSO n so sc D]) (st := []) (nA := 1) (zsp rfl rfl rfl) (zsp rfl rfl rfl) gX4_cacheAsked_X4_requireName rfl (by decide +kernel) ⟨Nat.le_of_ble_eq_true rfl, Nat.le_of_ble_eq_true rfl⟩ rfl rfl (Nat.le_of_ble_eq_true rfl) ⟨Nat.le_of_ble_eq_true rfl, Nat.le_of_ble_eq_true rfl⟩ dX4_cacheAsked_7 z_noX (fun _ => ?_)
  refine z_aload_n B dX4_cacheAsked_10 0 rfl ?_
  refine z_get B (v := .ref ((sc i) 0)) 2 i 2 hiX4_cacheAsked_2 hfX4_cacheAsked_115 rfl (zSO_get hi) rfl (by decide) rfl rfl rfl rfl dX4_cacheAsked_11 ?_
  have hF : fX4_cacheAsked_o x2 = () := rfl
  exact z_reta B (Or.inr ⟨_, rfl⟩) dX4_cacheAsked_14 () (trivial) (Nat.le_of_ble_eq_true rfl) (Nat.le_of_ble_eq_true rfl) rfl rfl
def fX4_flush_o (C : Nat → Nat → Int32) (x2 : Int32) : Int32 × (Nat → Nat → Int32) :=
  (((fX0_drop C x2).1), ((fX0_drop C x2).2))
set_option maxHeartbeats 4000000 in
set_option maxRecDepth 100000 in
theorem kX4_flush_o (l : Launch) (hl : l.stackTraces = false) (K : zK) (ax : Nat) (zn : Nat) (sa : Nat) (la : Nat) (tr : Nat) (tc : Nat) (X : Nat → Int32) (f : Nat → Option Nat) (n : Nat) (so : Nat → Nat) (sc : Nat → Nat → Nat) (D : Nat → Nat → Int32) (i : Nat) (C : Nat → Nat → Int32) (x2 : Int32) (hi4 : i < 4) (hi : i < n) (hfi : f (nI i).toNatClampNeg = some (so i)) (q0 : ¬ x2 < 0) (q1 : x2 < 16) : zMet l K yX4_flush wsX4_flush { frames := 2, cells := 0, slots := 0, locals := 45 } [.ref ax, .int (nI i), .int x2] [zXo ax zn sa la tr tc X, zSa K sa f, zSO n so sc D, zCa K (sc i) C] (some (.int ((fX4_flush_o C x2).1))) [zXo ax zn sa la tr tc X, zSa K sa f, zSO n so sc D, zCa K (sc i) ((fX4_flush_o C x2).2)] True zNo := by
  refine zMeN.of (cc := cX4_flush) (maxL := 3) (ret := (some .boolean)) (own := RX4) (nm := "flush") hl (by decide +kernel) rfl rfl rfl (Nat.le_of_ble_eq_true rfl) (lv := [(0, .ref ax), (1, .int (nI i)), (2, .int x2)]) rfl ?_
  intro p e s m args below meth c A B
  refine z_aload_n B dX4_flush_0 0 rfl ?_
  refine z_iload_n B dX4_flush_1 1 rfl ?_
  refine z_iload_n B dX4_flush_2 2 rfl ?_
  refine z_V1 B (kX4_cacheAsked_o l hl K ax zn sa la tr tc X f n so sc D i x2 hi4 hi hfi q0 q1) [0, 1, 2] [3] (br := [zCa K (sc i) C]) (bs' := [zXo ax zn sa la tr tc X, zSa K sa f, zSO n so sc D, zCa K (sc i) C]) (st := []) (nA := 2) (zsp rfl rfl rfl) (zsp rfl rfl rfl) 0 0 rfl rfl rfl rfl gX4_flush_X4_cacheAsked rfl (by decide +kernel) ⟨Nat.le_of_ble_eq_true rfl, Nat.le_of_ble_eq_true rfl⟩ rfl rfl (Nat.le_of_ble_eq_true rfl) ⟨Nat.le_of_ble_eq_true rfl, Nat.le_of_ble_eq_true rfl⟩ dX4_flush_3 z_noX (fun _ => ?_)
  refine z_iload_n B dX4_flush_6 2 rfl ?_
  refine z_V1 B (kX0_drop l hl K (sc i) C x2) [3] [0, 1, 2] (br := [zXo ax zn sa la tr tc X, zSa K sa f, zSO n so sc D]) (bs' := [zXo ax zn sa la tr tc X, zSa K sa f, zSO n so sc D, zCa K (sc i) ((fX0_drop C x2).2)]) (st := []) (nA := 1) (zsp rfl rfl rfl) (zsp rfl rfl rfl) 3 0 rfl rfl rfl rfl gX4_flush_X0_drop rfl (by decide +kernel) ⟨Nat.le_of_ble_eq_true rfl, Nat.le_of_ble_eq_true rfl⟩ rfl rfl (Nat.le_of_ble_eq_true rfl) ⟨Nat.le_of_ble_eq_true rfl, Nat.le_of_ble_eq_true rfl⟩ dX4_flush_7 z_noX (fun _ => ?_)
  have hF : fX4_flush_o C x2 = (((fX0_drop C x2).1), ((fX0_drop C x2).2)) := rfl
  exact z_ret1 B (z_nz z_drop01) dX4_flush_10 () (trivial) (Nat.le_of_ble_eq_true rfl) (Nat.le_of_ble_eq_true rfl) (by rw [hF]) (by rw [hF])
def fX4_cachedKind_o (C : Nat → Nat → Int32) (x2 : Int32) : Int32 :=
  (fX0_kindOf C x2)
set_option maxHeartbeats 4000000 in
set_option maxRecDepth 100000 in
theorem kX4_cachedKind_o (l : Launch) (hl : l.stackTraces = false) (K : zK) (ax : Nat) (zn : Nat) (sa : Nat) (la : Nat) (tr : Nat) (tc : Nat) (X : Nat → Int32) (f : Nat → Option Nat) (n : Nat) (so : Nat → Nat) (sc : Nat → Nat → Nat) (D : Nat → Nat → Int32) (i : Nat) (C : Nat → Nat → Int32) (x2 : Int32) (hi4 : i < 4) (hi : i < n) (hfi : f (nI i).toNatClampNeg = some (so i)) (q0 : ¬ x2 < 0) (q1 : x2 < 16) : zMet l K yX4_cachedKind wsX4_cachedKind { frames := 2, cells := 0, slots := 0, locals := 45 } [.ref ax, .int (nI i), .int x2] [zXo ax zn sa la tr tc X, zSa K sa f, zSO n so sc D, zCa K (sc i) C] (some (.int (fX4_cachedKind_o C x2))) [zXo ax zn sa la tr tc X, zSa K sa f, zSO n so sc D, zCa K (sc i) C] True zNo := by
  refine zMeN.of (cc := cX4_cachedKind) (maxL := 3) (ret := (some .int)) (own := RX4) (nm := "cachedKind") hl (by decide +kernel) rfl rfl rfl (Nat.le_of_ble_eq_true rfl) (lv := [(0, .ref ax), (1, .int (nI i)), (2, .int x2)]) rfl ?_
  intro p e s m args below meth c A B
  refine z_aload_n B dX4_cachedKind_0 0 rfl ?_
  refine z_iload_n B dX4_cachedKind_1 1 rfl ?_
  refine z_iload_n B dX4_cachedKind_2 2 rfl ?_
  refine z_V1 B (kX4_cacheAsked_o l hl K ax zn sa la tr tc X f n so sc D i x2 hi4 hi hfi q0 q1) [0, 1, 2] [3] (br := [zCa K (sc i) C]) (bs' := [zXo ax zn sa la tr tc X, zSa K sa f, zSO n so sc D, zCa K (sc i) C]) (st := []) (nA := 2) (zsp rfl rfl rfl) (zsp rfl rfl rfl) 0 0 rfl rfl rfl rfl gX4_cachedKind_X4_cacheAsked rfl (by decide +kernel) ⟨Nat.le_of_ble_eq_true rfl, Nat.le_of_ble_eq_true rfl⟩ rfl rfl (Nat.le_of_ble_eq_true rfl) ⟨Nat.le_of_ble_eq_true rfl, Nat.le_of_ble_eq_true rfl⟩ dX4_cachedKind_3 z_noX (fun _ => ?_)
  refine z_iload_n B dX4_cachedKind_6 2 rfl ?_
  refine z_V1 B (kX0_kindOf l hl K (sc i) C x2) [3] [0, 1, 2] (br := [zXo ax zn sa la tr tc X, zSa K sa f, zSO n so sc D]) (bs' := [zXo ax zn sa la tr tc X, zSa K sa f, zSO n so sc D, zCa K (sc i) C]) (st := []) (nA := 1) (zsp rfl rfl rfl) (zsp rfl rfl rfl) 3 0 rfl rfl rfl rfl gX4_cachedKind_X0_kindOf rfl (by decide +kernel) ⟨Nat.le_of_ble_eq_true rfl, Nat.le_of_ble_eq_true rfl⟩ rfl rfl (Nat.le_of_ble_eq_true rfl) ⟨Nat.le_of_ble_eq_true rfl, Nat.le_of_ble_eq_true rfl⟩ dX4_cachedKind_7 z_noX (fun _ => ?_)
  have hF : fX4_cachedKind_o C x2 = (fX0_kindOf C x2) := rfl
  exact z_ret1 B rfl dX4_cachedKind_10 () (trivial) (Nat.le_of_ble_eq_true rfl) (Nat.le_of_ble_eq_true rfl) (by rw [hF]) (by rw [hF])
def fX4_cachedValue_o (C : Nat → Nat → Int32) (x2 : Int32) : Int32 :=
  (fX0_valueOf C x2)
set_option maxHeartbeats 4000000 in
set_option maxRecDepth 100000 in
theorem kX4_cachedValue_o (l : Launch) (hl : l.stackTraces = false) (K : zK) (ax : Nat) (zn : Nat) (sa : Nat) (la : Nat) (tr : Nat) (tc : Nat) (X : Nat → Int32) (f : Nat → Option Nat) (n : Nat) (so : Nat → Nat) (sc : Nat → Nat → Nat) (D : Nat → Nat → Int32) (i : Nat) (C : Nat → Nat → Int32) (x2 : Int32) (hi4 : i < 4) (hi : i < n) (hfi : f (nI i).toNatClampNeg = some (so i)) (q0 : ¬ x2 < 0) (q1 : x2 < 16) : zMet l K yX4_cachedValue wsX4_cachedValue { frames := 2, cells := 0, slots := 0, locals := 45 } [.ref ax, .int (nI i), .int x2] [zXo ax zn sa la tr tc X, zSa K sa f, zSO n so sc D, zCa K (sc i) C] (some (.int (fX4_cachedValue_o C x2))) [zXo ax zn sa la tr tc X, zSa K sa f, zSO n so sc D, zCa K (sc i) C] True zNo := by
  refine zMeN.of (cc := cX4_cachedValue) (maxL := 3) (ret := (some .int)) (own := RX4) (nm := "cachedValue") hl (by decide +kernel) rfl rfl rfl (Nat.le_of_ble_eq_true rfl) (lv := [(0, .ref ax), (1, .int (nI i)), (2, .int x2)]) rfl ?_
  intro p e s m args below meth c A B
  refine z_aload_n B dX4_cachedValue_0 0 rfl ?_
  refine z_iload_n B dX4_cachedValue_1 1 rfl ?_
  refine z_iload_n B dX4_cachedValue_2 2 rfl ?_
  refine z_V1 B (kX4_cacheAsked_o l hl K ax zn sa la tr tc X f n so sc D i x2 hi4 hi hfi q0 q1) [0, 1, 2] [3] (br := [zCa K (sc i) C]) (bs' := [zXo ax zn sa la tr tc X, zSa K sa f, zSO n so sc D, zCa K (sc i) C]) (st := []) (nA := 2) (zsp rfl rfl rfl) (zsp rfl rfl rfl) 0 0 rfl rfl rfl rfl gX4_cachedValue_X4_cacheAsked rfl (by decide +kernel) ⟨Nat.le_of_ble_eq_true rfl, Nat.le_of_ble_eq_true rfl⟩ rfl rfl (Nat.le_of_ble_eq_true rfl) ⟨Nat.le_of_ble_eq_true rfl, Nat.le_of_ble_eq_true rfl⟩ dX4_cachedValue_3 z_noX (fun _ => ?_)
  refine z_iload_n B dX4_cachedValue_6 2 rfl ?_
  refine z_V1 B (kX0_valueOf l hl K (sc i) C x2) [3] [0, 1, 2] (br := [zXo ax zn sa la tr tc X, zSa K sa f, zSO n so sc D]) (bs' := [zXo ax zn sa la tr tc X, zSa K sa f, zSO n so sc D, zCa K (sc i) C]) (st := []) (nA := 1) (zsp rfl rfl rfl) (zsp rfl rfl rfl) 3 0 rfl rfl rfl rfl gX4_cachedValue_X0_valueOf rfl (by decide +kernel) ⟨Nat.le_of_ble_eq_true rfl, Nat.le_of_ble_eq_true rfl⟩ rfl rfl (Nat.le_of_ble_eq_true rfl) ⟨Nat.le_of_ble_eq_true rfl, Nat.le_of_ble_eq_true rfl⟩ dX4_cachedValue_7 z_noX (fun _ => ?_)
  have hF : fX4_cachedValue_o C x2 = (fX0_valueOf C x2) := rfl
  exact z_ret1 B rfl dX4_cachedValue_10 () (trivial) (Nat.le_of_ble_eq_true rfl) (Nat.le_of_ble_eq_true rfl) (by rw [hF]) (by rw [hF])
def fX4_hitsOf_o (C : Nat → Nat → Int32) (x2 : Int32) : Int32 :=
  (fX0_hitsFor C x2)
set_option maxHeartbeats 4000000 in
set_option maxRecDepth 100000 in
theorem kX4_hitsOf_o (l : Launch) (hl : l.stackTraces = false) (K : zK) (ax : Nat) (zn : Nat) (sa : Nat) (la : Nat) (tr : Nat) (tc : Nat) (X : Nat → Int32) (f : Nat → Option Nat) (n : Nat) (so : Nat → Nat) (sc : Nat → Nat → Nat) (D : Nat → Nat → Int32) (i : Nat) (C : Nat → Nat → Int32) (x2 : Int32) (hi4 : i < 4) (hi : i < n) (hfi : f (nI i).toNatClampNeg = some (so i)) (q0 : ¬ x2 < 0) (q1 : x2 < 16) : zMet l K yX4_hitsOf wsX4_hitsOf { frames := 2, cells := 0, slots := 0, locals := 45 } [.ref ax, .int (nI i), .int x2] [zXo ax zn sa la tr tc X, zSa K sa f, zSO n so sc D, zCa K (sc i) C] (some (.int (fX4_hitsOf_o C x2))) [zXo ax zn sa la tr tc X, zSa K sa f, zSO n so sc D, zCa K (sc i) C] True zNo := by
  refine zMeN.of (cc := cX4_hitsOf) (maxL := 3) (ret := (some .int)) (own := RX4) (nm := "hitsOf") hl (by decide +kernel) rfl rfl rfl (Nat.le_of_ble_eq_true rfl) (lv := [(0, .ref ax), (1, .int (nI i)), (2, .int x2)]) rfl ?_
  intro p e s m args below meth c A B
  refine z_aload_n B dX4_hitsOf_0 0 rfl ?_
  refine z_iload_n B dX4_hitsOf_1 1 rfl ?_
  refine z_iload_n B dX4_hitsOf_2 2 rfl ?_
  refine z_V1 B (kX4_cacheAsked_o l hl K ax zn sa la tr tc X f n so sc D i x2 hi4 hi hfi q0 q1) [0, 1, 2] [3] (br := [zCa K (sc i) C]) (bs' := [zXo ax zn sa la tr tc X, zSa K sa f, zSO n so sc D, zCa K (sc i) C]) (st := []) (nA := 2) (zsp rfl rfl rfl) (zsp rfl rfl rfl) 0 0 rfl rfl rfl rfl gX4_hitsOf_X4_cacheAsked rfl (by decide +kernel) ⟨Nat.le_of_ble_eq_true rfl, Nat.le_of_ble_eq_true rfl⟩ rfl rfl (Nat.le_of_ble_eq_true rfl) ⟨Nat.le_of_ble_eq_true rfl, Nat.le_of_ble_eq_true rfl⟩ dX4_hitsOf_3 z_noX (fun _ => ?_)
  refine z_iload_n B dX4_hitsOf_6 2 rfl ?_
  refine z_V1 B (kX0_hitsFor l hl K (sc i) C x2) [3] [0, 1, 2] (br := [zXo ax zn sa la tr tc X, zSa K sa f, zSO n so sc D]) (bs' := [zXo ax zn sa la tr tc X, zSa K sa f, zSO n so sc D, zCa K (sc i) C]) (st := []) (nA := 1) (zsp rfl rfl rfl) (zsp rfl rfl rfl) 3 0 rfl rfl rfl rfl gX4_hitsOf_X0_hitsFor rfl (by decide +kernel) ⟨Nat.le_of_ble_eq_true rfl, Nat.le_of_ble_eq_true rfl⟩ rfl rfl (Nat.le_of_ble_eq_true rfl) ⟨Nat.le_of_ble_eq_true rfl, Nat.le_of_ble_eq_true rfl⟩ dX4_hitsOf_7 z_noX (fun _ => ?_)
  have hF : fX4_hitsOf_o C x2 = (fX0_hitsFor C x2) := rfl
  exact z_ret1 B rfl dX4_hitsOf_10 () (trivial) (Nat.le_of_ble_eq_true rfl) (Nat.le_of_ble_eq_true rfl) (by rw [hF]) (by rw [hF])
def fX4_left_o (X : Nat → Int32) (C : Nat → Nat → Int32) (x2 : Int32) : Int32 :=
  ((fX0_endOf C x2) - (X 3))
set_option maxHeartbeats 4000000 in
set_option maxRecDepth 100000 in
theorem kX4_left_o (l : Launch) (hl : l.stackTraces = false) (K : zK) (ax : Nat) (zn : Nat) (sa : Nat) (la : Nat) (tr : Nat) (tc : Nat) (X : Nat → Int32) (f : Nat → Option Nat) (n : Nat) (so : Nat → Nat) (sc : Nat → Nat → Nat) (D : Nat → Nat → Int32) (i : Nat) (C : Nat → Nat → Int32) (x2 : Int32) (hi4 : i < 4) (hi : i < n) (hfi : f (nI i).toNatClampNeg = some (so i)) (q0 : ¬ x2 < 0) (q1 : x2 < 16) (qh : ¬ (fX0_has C x2) = 0) : zMet l K yX4_left wsX4_left { frames := 2, cells := 0, slots := 0, locals := 45 } [.ref ax, .int (nI i), .int x2] [zXo ax zn sa la tr tc X, zSa K sa f, zSO n so sc D, zCa K (sc i) C] (some (.int (fX4_left_o X C x2))) [zXo ax zn sa la tr tc X, zSa K sa f, zSO n so sc D, zCa K (sc i) C] True zNo := by
  refine zMeN.of (cc := cX4_left) (maxL := 4) (ret := (some .int)) (own := RX4) (nm := "left") hl (by decide +kernel) rfl rfl rfl (Nat.le_of_ble_eq_true rfl) (lv := [(0, .ref ax), (1, .int (nI i)), (2, .int x2)]) rfl ?_
  intro p e s m args below meth c A B
  refine z_aload_n B dX4_left_0 0 rfl ?_
  refine z_iload_n B dX4_left_1 1 rfl ?_
  refine z_iload_n B dX4_left_2 2 rfl ?_
  refine z_V1 B (kX4_cacheAsked_o l hl K ax zn sa la tr tc X f n so sc D i x2 hi4 hi hfi q0 q1) [0, 1, 2] [3] (br := [zCa K (sc i) C]) (bs' := [zXo ax zn sa la tr tc X, zSa K sa f, zSO n so sc D, zCa K (sc i) C]) (st := []) (nA := 2) (zsp rfl rfl rfl) (zsp rfl rfl rfl) 0 0 rfl rfl rfl rfl gX4_left_X4_cacheAsked rfl (by decide +kernel) ⟨Nat.le_of_ble_eq_true rfl, Nat.le_of_ble_eq_true rfl⟩ rfl rfl (Nat.le_of_ble_eq_true rfl) ⟨Nat.le_of_ble_eq_true rfl, Nat.le_of_ble_eq_true rfl⟩ dX4_left_3 z_noX (fun _ => ?_)
  refine z_astore_n B (lv' := [(3, .ref ((sc i) 0)), (0, .ref ax), (1, .int (nI i)), (2, .int x2)]) dX4_left_6 (by decide) rfl ?_
  refine z_aload_n B dX4_left_7 0 rfl ?_
  refine z_iload_n B dX4_left_8 3 rfl ?_
  refine z_V1 B (kX0_has l hl K (sc i) C x2) [3] [0, 1, 2] (br := [zXo ax zn sa la tr tc X, zSa K sa f, zSO n so sc D]) (bs' := [zXo ax zn sa la tr tc X, zSa K sa f, zSO n so sc D, zCa K (sc i) C]) (st := []) (nA := 1) (zsp rfl rfl rfl) (zsp rfl rfl rfl) 3 0 rfl rfl rfl rfl gX4_left_X0_has rfl (by decide +kernel) ⟨Nat.le_of_ble_eq_true rfl, Nat.le_of_ble_eq_true rfl⟩ rfl rfl (Nat.le_of_ble_eq_true rfl) ⟨Nat.le_of_ble_eq_true rfl, Nat.le_of_ble_eq_true rfl⟩ dX4_left_9 z_noX (fun _ => ?_)
  refine z_ifne B 25 dX4_left_12 (by decide) (fun h => absurd h qh) (fun _ => ?_)
  refine z_aload_n B dX4_left_25 0 rfl ?_
  refine z_iload_n B dX4_left_26 3 rfl ?_
  refine z_V1 B (kX0_endOf l hl K (sc i) C x2) [3] [0, 1, 2] (br := [zXo ax zn sa la tr tc X, zSa K sa f, zSO n so sc D]) (bs' := [zXo ax zn sa la tr tc X, zSa K sa f, zSO n so sc D, zCa K (sc i) C]) (st := []) (nA := 1) (zsp rfl rfl rfl) (zsp rfl rfl rfl) 3 0 rfl rfl rfl rfl gX4_left_X0_endOf rfl (by decide +kernel) ⟨Nat.le_of_ble_eq_true rfl, Nat.le_of_ble_eq_true rfl⟩ rfl rfl (Nat.le_of_ble_eq_true rfl) ⟨Nat.le_of_ble_eq_true rfl, Nat.le_of_ble_eq_true rfl⟩ dX4_left_27 z_noX (fun _ => ?_)
  refine z_aload_n B dX4_left_30 1 rfl ?_
  refine z_get B (v := .int (X 3)) 0 0 3 hiX4_left_4 hfX4_left_108 rfl rfl rfl (by decide) rfl rfl rfl rfl dX4_left_31 ?_
  refine z_isub B dX4_left_34 ?_
  have hF : fX4_left_o X C x2 = ((fX0_endOf C x2) - (X 3)) := rfl
  exact z_ret1 B rfl dX4_left_35 () (trivial) (Nat.le_of_ble_eq_true rfl) (Nat.le_of_ble_eq_true rfl) (by rw [hF]) (by rw [hF])
def fX4_siteFor_oh (D : Nat → Nat → Int32) (i : Nat) (x1 : Int32) : Int32 :=
  (D i 0)
set_option maxHeartbeats 4000000 in
set_option maxRecDepth 100000 in
theorem kX4_siteFor_oh (l : Launch) (hl : l.stackTraces = false) (K : zK) (ax : Nat) (zn : Nat) (sa : Nat) (la : Nat) (tr : Nat) (tc : Nat) (X : Nat → Int32) (f : Nat → Option Nat) (n : Nat) (so : Nat → Nat) (sc : Nat → Nat → Nat) (D : Nat → Nat → Int32) (i : Nat) (x1 : Int32) (hf1 : ∀ a, a < n → f a = some (so a)) (hf2 : ∀ a, n ≤ a → a < 4 → f a = none) (hi : i < n) (hN : fX4_near n D x1 = some i) (r0 : ¬ x1 < 0) (r1 : x1 ≤ 99) : zMet l K yX4_siteFor wsX4_siteFor { frames := 3, cells := 0, slots := 0, locals := 60 } [.ref ax, .int x1] [zXo ax zn sa la tr tc X, zSa K sa f, zSO n so sc D] (some (.int (fX4_siteFor_oh D i x1))) [zXo ax zn sa la tr tc X, zSa K sa f, zSO n so sc D] True zNo := by
  refine zMeN.of (cc := cX4_siteFor) (maxL := 3) (ret := (some .int)) (own := RX4) (nm := "siteFor") hl (by decide +kernel) rfl rfl rfl (Nat.le_of_ble_eq_true rfl) (lv := [(0, .ref ax), (1, .int x1)]) rfl ?_
  intro p e s m args below meth c A B
  refine z_iload_n B dX4_siteFor_0 1 rfl ?_
  refine z_iconst B (v := 0) dX4_siteFor_1 rfl ?_
  refine z_bipush B (v := 99) dX4_siteFor_2 rfl ?_
  refine z_S0 B (kX4_requireWithin_o l hl K x1 0 99 r0 r1) [] [0, 1, 2] (br := [zXo ax zn sa la tr tc X, zSa K sa f, zSO n so sc D]) (bs' := [zXo ax zn sa la tr tc X, zSa K sa f, zSO n so sc D]) (st := []) (nA := 3) (zsp rfl rfl rfl) (zsp rfl rfl rfl) gX4_siteFor_X4_requireWithin rfl (by decide +kernel) ⟨Nat.le_of_ble_eq_true rfl, Nat.le_of_ble_eq_true rfl⟩ rfl rfl (Nat.le_of_ble_eq_true rfl) ⟨Nat.le_of_ble_eq_true rfl, Nat.le_of_ble_eq_true rfl⟩ dX4_siteFor_4 z_noX (fun _ => ?_)
  refine z_aload_n B dX4_siteFor_7 0 rfl ?_
  refine z_iload_n B dX4_siteFor_8 1 rfl ?_
  refine z_V1 B (kX4_nearestSite_h l hl K ax zn sa la tr tc X f n so sc D i x1 hf1 hf2 hN) [0, 1, 2] [] (br := []) (bs' := [zXo ax zn sa la tr tc X, zSa K sa f, zSO n so sc D]) (st := []) (nA := 1) (zsp rfl rfl rfl) (zsp rfl rfl rfl) 0 0 rfl rfl rfl rfl gX4_siteFor_X4_nearestSite rfl (by decide +kernel) ⟨Nat.le_of_ble_eq_true rfl, Nat.le_of_ble_eq_true rfl⟩ rfl rfl (Nat.le_of_ble_eq_true rfl) ⟨Nat.le_of_ble_eq_true rfl, Nat.le_of_ble_eq_true rfl⟩ dX4_siteFor_9 z_noX (fun _ => ?_)
  refine z_astore_n B (lv' := [(2, .ref (so i)), (0, .ref ax), (1, .int x1)]) dX4_siteFor_12 (by decide) rfl ?_
  refine z_aload_n B dX4_siteFor_13 0 rfl ?_
  refine z_ifnonnull B 22 dX4_siteFor_14 (by decide) ?_
  refine z_aload_n B dX4_siteFor_22 0 rfl ?_
  refine z_get B (v := .int (D i 0)) 2 i 0 hiX4_siteFor_2 hfX4_siteFor_97 rfl (zSO_get hi) rfl (by decide) rfl rfl rfl rfl dX4_siteFor_23 ?_
  have hF : fX4_siteFor_oh D i x1 = (D i 0) := rfl
  exact z_ret1 B rfl dX4_siteFor_26 () (trivial) (Nat.le_of_ble_eq_true rfl) (Nat.le_of_ble_eq_true rfl) (by rw [hF]) (by rw [hF])
def fX4_siteFor_om (D : Nat → Nat → Int32) (x1 : Int32) : Int32 :=
  (-3)
set_option maxHeartbeats 4000000 in
set_option maxRecDepth 100000 in
theorem kX4_siteFor_om (l : Launch) (hl : l.stackTraces = false) (K : zK) (ax : Nat) (zn : Nat) (sa : Nat) (la : Nat) (tr : Nat) (tc : Nat) (X : Nat → Int32) (f : Nat → Option Nat) (n : Nat) (so : Nat → Nat) (sc : Nat → Nat → Nat) (D : Nat → Nat → Int32) (x1 : Int32) (hf1 : ∀ a, a < n → f a = some (so a)) (hf2 : ∀ a, n ≤ a → a < 4 → f a = none) (hN : fX4_near n D x1 = none) (r0 : ¬ x1 < 0) (r1 : x1 ≤ 99) : zMet l K yX4_siteFor wsX4_siteFor { frames := 3, cells := 0, slots := 0, locals := 60 } [.ref ax, .int x1] [zXo ax zn sa la tr tc X, zSa K sa f, zSO n so sc D] (some (.int (fX4_siteFor_om D x1))) [zXo ax zn sa la tr tc X, zSa K sa f, zSO n so sc D] True zNo := by
  refine zMeN.of (cc := cX4_siteFor) (maxL := 3) (ret := (some .int)) (own := RX4) (nm := "siteFor") hl (by decide +kernel) rfl rfl rfl (Nat.le_of_ble_eq_true rfl) (lv := [(0, .ref ax), (1, .int x1)]) rfl ?_
  intro p e s m args below meth c A B
  refine z_iload_n B dX4_siteFor_0 1 rfl ?_
  refine z_iconst B (v := 0) dX4_siteFor_1 rfl ?_
  refine z_bipush B (v := 99) dX4_siteFor_2 rfl ?_
  refine z_S0 B (kX4_requireWithin_o l hl K x1 0 99 r0 r1) [] [0, 1, 2] (br := [zXo ax zn sa la tr tc X, zSa K sa f, zSO n so sc D]) (bs' := [zXo ax zn sa la tr tc X, zSa K sa f, zSO n so sc D]) (st := []) (nA := 3) (zsp rfl rfl rfl) (zsp rfl rfl rfl) gX4_siteFor_X4_requireWithin rfl (by decide +kernel) ⟨Nat.le_of_ble_eq_true rfl, Nat.le_of_ble_eq_true rfl⟩ rfl rfl (Nat.le_of_ble_eq_true rfl) ⟨Nat.le_of_ble_eq_true rfl, Nat.le_of_ble_eq_true rfl⟩ dX4_siteFor_4 z_noX (fun _ => ?_)
  refine z_aload_n B dX4_siteFor_7 0 rfl ?_
  refine z_iload_n B dX4_siteFor_8 1 rfl ?_
  refine z_V1 B (kX4_nearestSite_m l hl K ax zn sa la tr tc X f n so sc D x1 hf1 hf2 hN) [0, 1, 2] [] (br := []) (bs' := [zXo ax zn sa la tr tc X, zSa K sa f, zSO n so sc D]) (st := []) (nA := 1) (zsp rfl rfl rfl) (zsp rfl rfl rfl) 0 0 rfl rfl rfl rfl gX4_siteFor_X4_nearestSite rfl (by decide +kernel) ⟨Nat.le_of_ble_eq_true rfl, Nat.le_of_ble_eq_true rfl⟩ rfl rfl (Nat.le_of_ble_eq_true rfl) ⟨Nat.le_of_ble_eq_true rfl, Nat.le_of_ble_eq_true rfl⟩ dX4_siteFor_9 z_noX (fun _ => ?_)
  refine z_astore_nN B (lv' := [(2, .null), (0, .ref ax), (1, .int x1)]) dX4_siteFor_12 (by decide) rfl ?_
  refine z_aload_nN B dX4_siteFor_13 0 rfl ?_
  refine z_ifnonnullN B dX4_siteFor_14 ?_
  refine z_bipush B (v := (-3)) dX4_siteFor_17 rfl ?_
  refine z_goto B (tgt := 26) dX4_siteFor_19 (by decide) ?_
  have hF : fX4_siteFor_om D x1 = (-3) := rfl
  exact z_ret1 B rfl dX4_siteFor_26 () (trivial) (Nat.le_of_ble_eq_true rfl) (Nat.le_of_ble_eq_true rfl) (by rw [hF]) (by rw [hF])
def fX4_siteAsked_oh (D : Nat → Nat → Int32) (i : Nat) (x1 : Int32) (x2 : Int32) : Unit :=
  ()
set_option maxHeartbeats 4000000 in
set_option maxRecDepth 100000 in
theorem kX4_siteAsked_oh (l : Launch) (hl : l.stackTraces = false) (K : zK) (ax : Nat) (zn : Nat) (sa : Nat) (la : Nat) (tr : Nat) (tc : Nat) (X : Nat → Int32) (f : Nat → Option Nat) (n : Nat) (so : Nat → Nat) (sc : Nat → Nat → Nat) (D : Nat → Nat → Int32) (i : Nat) (x1 : Int32) (x2 : Int32) (hf1 : ∀ a, a < n → f a = some (so a)) (hf2 : ∀ a, n ≤ a → a < 4 → f a = none) (hi : i < n) (hN : fX4_near n D x1 = some i) (q0 : ¬ x2 < 0) (q1 : x2 < 16) (r0 : ¬ x1 < 0) (r1 : x1 ≤ 99) : zMet l K yX4_siteAsked wsX4_siteAsked { frames := 3, cells := 0, slots := 0, locals := 60 } [.ref ax, .int x1, .int x2] [zXo ax zn sa la tr tc X, zSa K sa f, zSO n so sc D] (some (.ref (so i))) [zXo ax zn sa la tr tc X, zSa K sa f, zSO n so sc D] True zNo := by
  refine zMeN.of (cc := cX4_siteAsked) (maxL := 4) (ret := (some (.object "ResolverFleet$Site"))) (own := RX4) (nm := "siteAsked") hl (by decide +kernel) rfl rfl rfl (Nat.le_of_ble_eq_true rfl) (lv := [(0, .ref ax), (1, .int x1), (2, .int x2)]) rfl ?_
  intro p e s m args below meth c A B
  refine z_iload_n B dX4_siteAsked_0 2 rfl ?_
  refine z_S0 B (kX4_requireName_o l hl K x2 q0 q1) [] [0, 1, 2] (br := [zXo ax zn sa la tr tc X, zSa K sa f, zSO n so sc D]) (bs' := [zXo ax zn sa la tr tc X, zSa K sa f, zSO n so sc D]) (st := []) (nA := 1) (zsp rfl rfl rfl) (zsp rfl rfl rfl) gX4_siteAsked_X4_requireName rfl (by decide +kernel) ⟨Nat.le_of_ble_eq_true rfl, Nat.le_of_ble_eq_true rfl⟩ rfl rfl (Nat.le_of_ble_eq_true rfl) ⟨Nat.le_of_ble_eq_true rfl, Nat.le_of_ble_eq_true rfl⟩ dX4_siteAsked_1 z_noX (fun _ => ?_)
  refine z_iload_n B dX4_siteAsked_4 1 rfl ?_
  refine z_iconst B (v := 0) dX4_siteAsked_5 rfl ?_
  refine z_bipush B (v := 99) dX4_siteAsked_6 rfl ?_
  refine z_S0 B (kX4_requireWithin_o l hl K x1 0 99 r0 r1) [] [0, 1, 2] (br := [zXo ax zn sa la tr tc X, zSa K sa f, zSO n so sc D]) (bs' := [zXo ax zn sa la tr tc X, zSa K sa f, zSO n so sc D]) (st := []) (nA := 3) (zsp rfl rfl rfl) (zsp rfl rfl rfl) gX4_siteAsked_X4_requireWithin rfl (by decide +kernel) ⟨Nat.le_of_ble_eq_true rfl, Nat.le_of_ble_eq_true rfl⟩ rfl rfl (Nat.le_of_ble_eq_true rfl) ⟨Nat.le_of_ble_eq_true rfl, Nat.le_of_ble_eq_true rfl⟩ dX4_siteAsked_8 z_noX (fun _ => ?_)
  refine z_aload_n B dX4_siteAsked_11 0 rfl ?_
  refine z_iload_n B dX4_siteAsked_12 1 rfl ?_
  refine z_V1 B (kX4_nearestSite_h l hl K ax zn sa la tr tc X f n so sc D i x1 hf1 hf2 hN) [0, 1, 2] [] (br := []) (bs' := [zXo ax zn sa la tr tc X, zSa K sa f, zSO n so sc D]) (st := []) (nA := 1) (zsp rfl rfl rfl) (zsp rfl rfl rfl) 0 0 rfl rfl rfl rfl gX4_siteAsked_X4_nearestSite rfl (by decide +kernel) ⟨Nat.le_of_ble_eq_true rfl, Nat.le_of_ble_eq_true rfl⟩ rfl rfl (Nat.le_of_ble_eq_true rfl) ⟨Nat.le_of_ble_eq_true rfl, Nat.le_of_ble_eq_true rfl⟩ dX4_siteAsked_13 z_noX (fun _ => ?_)
  refine z_astore_n B (lv' := [(3, .ref (so i)), (0, .ref ax), (1, .int x1), (2, .int x2)]) dX4_siteAsked_16 (by decide) rfl ?_
  refine z_aload_n B dX4_siteAsked_17 0 rfl ?_
  refine z_ifnonnull B 31 dX4_siteAsked_18 (by decide) ?_
  refine z_aload_n B dX4_siteAsked_31 0 rfl ?_
  have hF : fX4_siteAsked_oh D i x1 x2 = () := rfl
  exact z_reta B (Or.inr ⟨_, rfl⟩) dX4_siteAsked_32 () (trivial) (Nat.le_of_ble_eq_true rfl) (Nat.le_of_ble_eq_true rfl) rfl rfl
def fX4_siteAsked_om (D : Nat → Nat → Int32) (x1 : Int32) (x2 : Int32) : Nat :=
  3
set_option maxHeartbeats 4000000 in
set_option maxRecDepth 100000 in
theorem kX4_siteAsked_om (l : Launch) (hl : l.stackTraces = false) (K : zK) (ax : Nat) (zn : Nat) (sa : Nat) (la : Nat) (tr : Nat) (tc : Nat) (X : Nat → Int32) (f : Nat → Option Nat) (n : Nat) (so : Nat → Nat) (sc : Nat → Nat → Nat) (D : Nat → Nat → Int32) (x1 : Int32) (x2 : Int32) (hf1 : ∀ a, a < n → f a = some (so a)) (hf2 : ∀ a, n ≤ a → a < 4 → f a = none) (hN : fX4_near n D x1 = none) (q0 : ¬ x2 < 0) (q1 : x2 < 16) (r0 : ¬ x1 < 0) (r1 : x1 ≤ 99) : zMet l K yX4_siteAsked wsX4_siteAsked { frames := 6, cells := 1, slots := 6, locals := 82 } [.ref ax, .int x1, .int x2] [zXo ax zn sa la tr tc X, zSa K sa f, zSO n so sc D] (some .null) [zXo ax zn sa la tr tc X, zSa K sa f, zSO n so sc D] False (fun E => (E = zE3 ∧ (fX4_siteAsked_om D x1 x2) = 3)) := by
  refine zMeN.of (cc := cX4_siteAsked) (maxL := 4) (ret := (some (.object "ResolverFleet$Site"))) (own := RX4) (nm := "siteAsked") hl (by decide +kernel) rfl rfl rfl (Nat.le_of_ble_eq_true rfl) (lv := [(0, .ref ax), (1, .int x1), (2, .int x2)]) rfl ?_
  intro p e s m args below meth c A B
  refine z_iload_n B dX4_siteAsked_0 2 rfl ?_
  refine z_S0 B (kX4_requireName_o l hl K x2 q0 q1) [] [0, 1, 2] (br := [zXo ax zn sa la tr tc X, zSa K sa f, zSO n so sc D]) (bs' := [zXo ax zn sa la tr tc X, zSa K sa f, zSO n so sc D]) (st := []) (nA := 1) (zsp rfl rfl rfl) (zsp rfl rfl rfl) gX4_siteAsked_X4_requireName rfl (by decide +kernel) ⟨Nat.le_of_ble_eq_true rfl, Nat.le_of_ble_eq_true rfl⟩ rfl rfl (Nat.le_of_ble_eq_true rfl) ⟨Nat.le_of_ble_eq_true rfl, Nat.le_of_ble_eq_true rfl⟩ dX4_siteAsked_1 z_noX (fun _ => ?_)
  refine z_iload_n B dX4_siteAsked_4 1 rfl ?_
  refine z_iconst B (v := 0) dX4_siteAsked_5 rfl ?_
  refine z_bipush B (v := 99) dX4_siteAsked_6 rfl ?_
  refine z_S0 B (kX4_requireWithin_o l hl K x1 0 99 r0 r1) [] [0, 1, 2] (br := [zXo ax zn sa la tr tc X, zSa K sa f, zSO n so sc D]) (bs' := [zXo ax zn sa la tr tc X, zSa K sa f, zSO n so sc D]) (st := []) (nA := 3) (zsp rfl rfl rfl) (zsp rfl rfl rfl) gX4_siteAsked_X4_requireWithin rfl (by decide +kernel) ⟨Nat.le_of_ble_eq_true rfl, Nat.le_of_ble_eq_true rfl⟩ rfl rfl (Nat.le_of_ble_eq_true rfl) ⟨Nat.le_of_ble_eq_true rfl, Nat.le_of_ble_eq_true rfl⟩ dX4_siteAsked_8 z_noX (fun _ => ?_)
  refine z_aload_n B dX4_siteAsked_11 0 rfl ?_
  refine z_iload_n B dX4_siteAsked_12 1 rfl ?_
  refine z_V1 B (kX4_nearestSite_m l hl K ax zn sa la tr tc X f n so sc D x1 hf1 hf2 hN) [0, 1, 2] [] (br := []) (bs' := [zXo ax zn sa la tr tc X, zSa K sa f, zSO n so sc D]) (st := []) (nA := 1) (zsp rfl rfl rfl) (zsp rfl rfl rfl) 0 0 rfl rfl rfl rfl gX4_siteAsked_X4_nearestSite rfl (by decide +kernel) ⟨Nat.le_of_ble_eq_true rfl, Nat.le_of_ble_eq_true rfl⟩ rfl rfl (Nat.le_of_ble_eq_true rfl) ⟨Nat.le_of_ble_eq_true rfl, Nat.le_of_ble_eq_true rfl⟩ dX4_siteAsked_13 z_noX (fun _ => ?_)
  refine z_astore_nN B (lv' := [(3, .null), (0, .ref ax), (1, .int x1), (2, .int x2)]) dX4_siteAsked_16 (by decide) rfl ?_
  refine z_aload_nN B dX4_siteAsked_17 0 rfl ?_
  refine z_ifnonnullN B dX4_siteAsked_18 ?_
  have hF : fX4_siteAsked_om D x1 x2 = 3 := rfl
  exact z_throw B rfl ["java/lang/RuntimeException", "java/lang/Exception"] (by decide +kernel) (by decide +kernel) hwX4_siteAsked_cl79 hwX4_siteAsked_ini79 (text := "no site is announced") (by decide +kernel) haX4_siteAsked_83 hgX4_siteAsked_83 hoX4_siteAsked_83 dX4_siteAsked_21 dX4_siteAsked_24 dX4_siteAsked_25 dX4_siteAsked_27 dX4_siteAsked_30 (by decide) (Nat.le_of_ble_eq_true rfl) (Nat.le_of_ble_eq_true rfl) (Nat.le_of_ble_eq_true rfl) (⟨rfl, by rw [hF]⟩) (Nat.le_of_ble_eq_true rfl) (Nat.le_of_ble_eq_true rfl)
def fX4_query_oh (X : Nat → Int32) (D : Nat → Nat → Int32) (i : Nat) (C : Nat → Nat → Int32) (Z : Nat → Nat → Int32) (W : Nat → Int32) (F : Nat → Int32) (O : Nat → Int32) (x1 : Int32) (x2 : Int32) : Int32 × (Nat → Int32) × (Nat → Nat → Int32) × (Nat → Int32) × (Nat → Int32) :=
  (((fX4_resolve X Z W C F O x2).1), (fX4_countQuery (va_up X 5 (D i 0)) ((fX4_resolve X Z W C F O x2).2.2.1) ((fX4_fetchHotAnew X Z W ((fX4_resolve X Z W C F O x2).2.1) ((fX4_resolve X Z W C F O x2).2.2.1) ((fX4_resolve X Z W C F O x2).2.2.2)).2) ((fX4_resolve X Z W C F O x2).1)), ((fX4_fetchHotAnew X Z W ((fX4_resolve X Z W C F O x2).2.1) ((fX4_resolve X Z W C F O x2).2.2.1) ((fX4_resolve X Z W C F O x2).2.2.2)).1), ((fX4_resolve X Z W C F O x2).2.2.1), ((fX4_fetchHotAnew X Z W ((fX4_resolve X Z W C F O x2).2.1) ((fX4_resolve X Z W C F O x2).2.2.1) ((fX4_resolve X Z W C F O x2).2.2.2)).2))
set_option maxHeartbeats 4000000 in
set_option maxRecDepth 100000 in
theorem kX4_query_oh (l : Launch) (hl : l.stackTraces = false) (K : zK) (ax : Nat) (az : Nat → Nat) (sa : Nat) (ak : Nat → Nat) (tr : Nat) (tc : Nat) (X : Nat → Int32) (f : Nat → Option Nat) (n : Nat) (so : Nat → Nat) (sc : Nat → Nat → Nat) (D : Nat → Nat → Int32) (i : Nat) (C : Nat → Nat → Int32) (Z : Nat → Nat → Int32) (W : Nat → Int32) (F : Nat → Int32) (O : Nat → Int32) (x1 : Int32) (x2 : Int32) (hf1 : ∀ a, a < n → f a = some (so a)) (hf2 : ∀ a, n ≤ a → a < 4 → f a = none) (hi : i < n) (hN : fX4_near n D x1 = some i) (q0 : ¬ x2 < 0) (q1 : x2 < 16) (r0 : ¬ x1 < 0) (r1 : x1 ≤ 99) : zMet l K yX4_query wsX4_query { frames := 6, cells := 0, slots := 0, locals := 140 } [.ref ax, .int x1, .int x2] [zXo ax (az 0) sa (ak 0) tr tc X, zSa K sa f, zSO n so sc D, zCa K (sc i) C, zZo K az Z W, zCo K ak F O] (some (.int ((fX4_query_oh X D i C Z W F O x1 x2).1))) [zXo ax (az 0) sa (ak 0) tr tc ((fX4_query_oh X D i C Z W F O x1 x2).2.1), zSa K sa f, zSO n so sc D, zCa K (sc i) ((fX4_query_oh X D i C Z W F O x1 x2).2.2.1), zZo K az Z W, zCo K ak ((fX4_query_oh X D i C Z W F O x1 x2).2.2.2.1) ((fX4_query_oh X D i C Z W F O x1 x2).2.2.2.2)] True zNo := by
  refine zMeN.of (cc := cX4_query) (maxL := 5) (ret := (some .int)) (own := RX4) (nm := "query") hl (by decide +kernel) rfl rfl rfl (Nat.le_of_ble_eq_true rfl) (lv := [(0, .ref ax), (1, .int x1), (2, .int x2)]) rfl ?_
  intro p e s m args below meth c A B
  refine z_aload_n B dX4_query_0 0 rfl ?_
  refine z_iload_n B dX4_query_1 1 rfl ?_
  refine z_iload_n B dX4_query_2 2 rfl ?_
  refine z_V1 B (kX4_siteAsked_oh l hl K ax (az 0) sa (ak 0) tr tc X f n so sc D i x1 x2 hf1 hf2 hi hN q0 q1 r0 r1) [0, 1, 2] [3, 4, 5] (br := [zCa K (sc i) C, zZo K az Z W, zCo K ak F O]) (bs' := [zXo ax (az 0) sa (ak 0) tr tc X, zSa K sa f, zSO n so sc D, zCa K (sc i) C, zZo K az Z W, zCo K ak F O]) (st := []) (nA := 2) (zsp rfl rfl rfl) (zsp rfl rfl rfl) 0 0 rfl rfl rfl rfl gX4_query_X4_siteAsked rfl (by decide +kernel) ⟨Nat.le_of_ble_eq_true rfl, Nat.le_of_ble_eq_true rfl⟩ rfl rfl (Nat.le_of_ble_eq_true rfl) ⟨Nat.le_of_ble_eq_true rfl, Nat.le_of_ble_eq_true rfl⟩ dX4_query_3 z_noX (fun _ => ?_)
  refine z_astore_n B (lv' := [(3, .ref (so i)), (0, .ref ax), (1, .int x1), (2, .int x2)]) dX4_query_6 (by decide) rfl ?_
  refine z_aload_n B dX4_query_7 1 rfl ?_
  refine z_aload_n B dX4_query_8 0 rfl ?_
  refine z_get B (v := .ref ((sc i) 0)) 2 i 2 hiX4_query_2 hfX4_query_115 rfl (zSO_get hi) rfl (by decide) rfl rfl rfl rfl dX4_query_9 ?_
  refine z_iload_n B dX4_query_12 3 rfl ?_
  refine z_aload_n B dX4_query_13 1 rfl ?_
  refine z_get B (v := .ref (ak 0)) 0 0 4 hiX4_query_4 hfX4_query_25 rfl rfl rfl (by decide) rfl rfl rfl rfl dX4_query_14 ?_
  refine z_V1 B (kX4_resolve l hl K ax az sa (ak 0) tr tc X Z W (sc i) C ak F O x2) [0, 4, 3, 5] [1, 2] (br := [zSa K sa f, zSO n so sc D]) (bs' := [zXo ax (az 0) sa (ak 0) tr tc X, zSa K sa f, zSO n so sc D, zCa K (sc i) ((fX4_resolve X Z W C F O x2).2.1), zZo K az Z W, zCo K ak ((fX4_resolve X Z W C F O x2).2.2.1) ((fX4_resolve X Z W C F O x2).2.2.2)]) (st := []) (nA := 3) (zsp rfl rfl rfl) (zsp rfl rfl rfl) 0 0 rfl rfl rfl rfl gX4_query_X4_resolve rfl (by decide +kernel) ⟨Nat.le_of_ble_eq_true rfl, Nat.le_of_ble_eq_true rfl⟩ rfl rfl (Nat.le_of_ble_eq_true rfl) ⟨Nat.le_of_ble_eq_true rfl, Nat.le_of_ble_eq_true rfl⟩ dX4_query_17 z_noX (fun _ => ?_)
  refine z_istore B (lv' := [(4, .int ((fX4_resolve X Z W C F O x2).1)), (3, .ref (so i)), (0, .ref ax), (1, .int x1), (2, .int x2)]) dX4_query_20 (by decide) rfl ?_
  refine z_aload_n B dX4_query_22 2 rfl ?_
  refine z_aload_n B dX4_query_23 1 rfl ?_
  refine z_get B (v := .ref ((sc i) 0)) 2 i 2 hiX4_query_2 hfX4_query_115 rfl (zSO_get hi) rfl (by decide) rfl rfl rfl rfl dX4_query_24 ?_
  refine z_aload_n B dX4_query_27 2 rfl ?_
  refine z_get B (v := .ref (ak 0)) 0 0 4 hiX4_query_4 hfX4_query_25 rfl rfl rfl (by decide) rfl rfl rfl rfl dX4_query_28 ?_
  refine z_V0 B (kX4_fetchHotAnew l hl K ax az sa (ak 0) tr tc X Z W (sc i) ((fX4_resolve X Z W C F O x2).2.1) ak ((fX4_resolve X Z W C F O x2).2.2.1) ((fX4_resolve X Z W C F O x2).2.2.2) z_resO) [0, 4, 3, 5] [1, 2] (br := [zSa K sa f, zSO n so sc D]) (bs' := [zXo ax (az 0) sa (ak 0) tr tc X, zSa K sa f, zSO n so sc D, zCa K (sc i) ((fX4_fetchHotAnew X Z W ((fX4_resolve X Z W C F O x2).2.1) ((fX4_resolve X Z W C F O x2).2.2.1) ((fX4_resolve X Z W C F O x2).2.2.2)).1), zZo K az Z W, zCo K ak ((fX4_resolve X Z W C F O x2).2.2.1) ((fX4_fetchHotAnew X Z W ((fX4_resolve X Z W C F O x2).2.1) ((fX4_resolve X Z W C F O x2).2.2.1) ((fX4_resolve X Z W C F O x2).2.2.2)).2)]) (st := []) (nA := 2) (zsp rfl rfl rfl) (zsp rfl rfl rfl) 0 0 rfl rfl rfl rfl gX4_query_X4_fetchHotAnew rfl (by decide +kernel) ⟨Nat.le_of_ble_eq_true rfl, Nat.le_of_ble_eq_true rfl⟩ rfl rfl (Nat.le_of_ble_eq_true rfl) ⟨Nat.le_of_ble_eq_true rfl, Nat.le_of_ble_eq_true rfl⟩ dX4_query_31 z_noX (fun _ => ?_)
  refine z_aload_n B dX4_query_34 2 rfl ?_
  refine z_aload_n B dX4_query_35 1 rfl ?_
  refine z_get B (v := .int (D i 0)) 2 i 0 hiX4_query_2 hfX4_query_97 rfl (zSO_get hi) rfl (by decide) rfl rfl rfl rfl dX4_query_36 ?_
  refine z_put B 0 0 5 hiX4_query_4 hfX4_query_29 tyX4_ok nmX4 rfl rfl rfl (by decide) rfl rfl rfl rfl rfl rfl rfl (Nat.le_of_ble_eq_true rfl) (bs' := [zXo ax (az 0) sa (ak 0) tr tc (va_up X 5 (D i 0)), zSa K sa f, zSO n so sc D, zCa K (sc i) ((fX4_fetchHotAnew X Z W ((fX4_resolve X Z W C F O x2).2.1) ((fX4_resolve X Z W C F O x2).2.2.1) ((fX4_resolve X Z W C F O x2).2.2.2)).1), zZo K az Z W, zCo K ak ((fX4_resolve X Z W C F O x2).2.2.1) ((fX4_fetchHotAnew X Z W ((fX4_resolve X Z W C F O x2).2.1) ((fX4_resolve X Z W C F O x2).2.2.1) ((fX4_resolve X Z W C F O x2).2.2.2)).2)]) rfl dX4_query_39 ?_
  refine z_aload_n B dX4_query_42 2 rfl ?_
  refine z_iload B dX4_query_43 0 rfl ?_
  refine z_V0 B (kX4_countQuery l hl K ax (az 0) sa ak tr tc (va_up X 5 (D i 0)) ((fX4_resolve X Z W C F O x2).2.2.1) ((fX4_fetchHotAnew X Z W ((fX4_resolve X Z W C F O x2).2.1) ((fX4_resolve X Z W C F O x2).2.2.1) ((fX4_resolve X Z W C F O x2).2.2.2)).2) ((fX4_resolve X Z W C F O x2).1)) [0, 5] [1, 2, 3, 4] (br := [zSa K sa f, zSO n so sc D, zCa K (sc i) ((fX4_fetchHotAnew X Z W ((fX4_resolve X Z W C F O x2).2.1) ((fX4_resolve X Z W C F O x2).2.2.1) ((fX4_resolve X Z W C F O x2).2.2.2)).1), zZo K az Z W]) (bs' := [zXo ax (az 0) sa (ak 0) tr tc (fX4_countQuery (va_up X 5 (D i 0)) ((fX4_resolve X Z W C F O x2).2.2.1) ((fX4_fetchHotAnew X Z W ((fX4_resolve X Z W C F O x2).2.1) ((fX4_resolve X Z W C F O x2).2.2.1) ((fX4_resolve X Z W C F O x2).2.2.2)).2) ((fX4_resolve X Z W C F O x2).1)), zSa K sa f, zSO n so sc D, zCa K (sc i) ((fX4_fetchHotAnew X Z W ((fX4_resolve X Z W C F O x2).2.1) ((fX4_resolve X Z W C F O x2).2.2.1) ((fX4_resolve X Z W C F O x2).2.2.2)).1), zZo K az Z W, zCo K ak ((fX4_resolve X Z W C F O x2).2.2.1) ((fX4_fetchHotAnew X Z W ((fX4_resolve X Z W C F O x2).2.1) ((fX4_resolve X Z W C F O x2).2.2.1) ((fX4_resolve X Z W C F O x2).2.2.2)).2)]) (st := []) (nA := 1) (zsp rfl rfl rfl) (zsp rfl rfl rfl) 0 0 rfl rfl rfl rfl gX4_query_X4_countQuery rfl (by decide +kernel) ⟨Nat.le_of_ble_eq_true rfl, Nat.le_of_ble_eq_true rfl⟩ rfl rfl (Nat.le_of_ble_eq_true rfl) ⟨Nat.le_of_ble_eq_true rfl, Nat.le_of_ble_eq_true rfl⟩ dX4_query_45 z_noX (fun _ => ?_)
  refine z_iload B dX4_query_48 0 rfl ?_
  have hF : fX4_query_oh X D i C Z W F O x1 x2 = (((fX4_resolve X Z W C F O x2).1), (fX4_countQuery (va_up X 5 (D i 0)) ((fX4_resolve X Z W C F O x2).2.2.1) ((fX4_fetchHotAnew X Z W ((fX4_resolve X Z W C F O x2).2.1) ((fX4_resolve X Z W C F O x2).2.2.1) ((fX4_resolve X Z W C F O x2).2.2.2)).2) ((fX4_resolve X Z W C F O x2).1)), ((fX4_fetchHotAnew X Z W ((fX4_resolve X Z W C F O x2).2.1) ((fX4_resolve X Z W C F O x2).2.2.1) ((fX4_resolve X Z W C F O x2).2.2.2)).1), ((fX4_resolve X Z W C F O x2).2.2.1), ((fX4_fetchHotAnew X Z W ((fX4_resolve X Z W C F O x2).2.1) ((fX4_resolve X Z W C F O x2).2.2.1) ((fX4_resolve X Z W C F O x2).2.2.2)).2)) := rfl
  exact z_ret1 B rfl dX4_query_50 () (trivial) (Nat.le_of_ble_eq_true rfl) (Nat.le_of_ble_eq_true rfl) (by rw [hF]) (by rw [hF])
def fX4_query_om (D : Nat → Nat → Int32) (x1 : Int32) (x2 : Int32) : Nat × Int32 :=
  ((fX4_siteAsked_om D x1 x2), 0)
set_option maxHeartbeats 4000000 in
set_option maxRecDepth 100000 in
theorem kX4_query_om (l : Launch) (hl : l.stackTraces = false) (K : zK) (ax : Nat) (zn : Nat) (sa : Nat) (la : Nat) (tr : Nat) (tc : Nat) (X : Nat → Int32) (f : Nat → Option Nat) (n : Nat) (so : Nat → Nat) (sc : Nat → Nat → Nat) (D : Nat → Nat → Int32) (x1 : Int32) (x2 : Int32) (hf1 : ∀ a, a < n → f a = some (so a)) (hf2 : ∀ a, n ≤ a → a < 4 → f a = none) (hN : fX4_near n D x1 = none) (q0 : ¬ x2 < 0) (q1 : x2 < 16) (r0 : ¬ x1 < 0) (r1 : x1 ≤ 99) : zMet l K yX4_query wsX4_query { frames := 7, cells := 1, slots := 6, locals := 105 } [.ref ax, .int x1, .int x2] [zXo ax zn sa la tr tc X, zSa K sa f, zSO n so sc D] (some (.int ((fX4_query_om D x1 x2).2))) [zXo ax zn sa la tr tc X, zSa K sa f, zSO n so sc D] False (fun E => (E = zE3 ∧ (fX4_query_om D x1 x2).1 = 3)) := by
  refine zMeN.of (cc := cX4_query) (maxL := 5) (ret := (some .int)) (own := RX4) (nm := "query") hl (by decide +kernel) rfl rfl rfl (Nat.le_of_ble_eq_true rfl) (lv := [(0, .ref ax), (1, .int x1), (2, .int x2)]) rfl ?_
  intro p e s m args below meth c A B
  refine z_aload_n B dX4_query_0 0 rfl ?_
  refine z_iload_n B dX4_query_1 1 rfl ?_
  refine z_iload_n B dX4_query_2 2 rfl ?_
  refine z_V1 B (kX4_siteAsked_om l hl K ax zn sa la tr tc X f n so sc D x1 x2 hf1 hf2 hN q0 q1 r0 r1) [0, 1, 2] [] (br := []) (bs' := [zXo ax zn sa la tr tc X, zSa K sa f, zSO n so sc D]) (st := []) (nA := 2) (zsp rfl rfl rfl) (zsp rfl rfl rfl) 0 0 rfl rfl rfl rfl gX4_query_X4_siteAsked rfl (by decide +kernel) ⟨Nat.le_of_ble_eq_true rfl, Nat.le_of_ble_eq_true rfl⟩ rfl rfl (Nat.le_of_ble_eq_true rfl) ⟨Nat.le_of_ble_eq_true rfl, Nat.le_of_ble_eq_true rfl⟩ dX4_query_3 (fun E hE => ?_) (fun h9 => h9.elim)
  · rcases hE with ⟨rfl, hx⟩
    · have hF : fX4_query_om D x1 x2 = (3, 0) := (show ((fX4_siteAsked_om D x1 x2), 0) = (3, 0) by rw [hx])
      exact z_out B (⟨rfl, by rw [hF]⟩) (Nat.le_of_ble_eq_true rfl) (Nat.le_of_ble_eq_true rfl)
def fX4_wouldAnswer_oh (X : Nat → Int32) (D : Nat → Nat → Int32) (i : Nat) (C : Nat → Nat → Int32) (Z : Nat → Nat → Int32) (W : Nat → Int32) (F : Nat → Int32) (O : Nat → Int32) (Tc : Nat → Nat → Int32) (x1 : Int32) (x2 : Int32) : Int32 × (Nat → Int32) × (Nat → Int32) × (Nat → Nat → Int32) :=
  (((fX4_resolve X Z W (fX0_copyFrom Tc C) F O x2).1), ((fX4_resolve X Z W (fX0_copyFrom Tc C) F O x2).2.2.1), ((fX4_resolve X Z W (fX0_copyFrom Tc C) F O x2).2.2.2), ((fX4_resolve X Z W (fX0_copyFrom Tc C) F O x2).2.1))
set_option maxHeartbeats 4000000 in
set_option maxRecDepth 100000 in
theorem kX4_wouldAnswer_oh (l : Launch) (hl : l.stackTraces = false) (K : zK) (ax : Nat) (az : Nat → Nat) (sa : Nat) (la : Nat) (ak : Nat → Nat) (ad : Nat → Nat) (X : Nat → Int32) (f : Nat → Option Nat) (n : Nat) (so : Nat → Nat) (sc : Nat → Nat → Nat) (D : Nat → Nat → Int32) (i : Nat) (C : Nat → Nat → Int32) (Z : Nat → Nat → Int32) (W : Nat → Int32) (F : Nat → Int32) (O : Nat → Int32) (Tc : Nat → Nat → Int32) (x1 : Int32) (x2 : Int32) (hf1 : ∀ a, a < n → f a = some (so a)) (hf2 : ∀ a, n ≤ a → a < 4 → f a = none) (hi : i < n) (hN : fX4_near n D x1 = some i) (q0 : ¬ x2 < 0) (q1 : x2 < 16) (r0 : ¬ x1 < 0) (r1 : x1 ≤ 99) : zMet l K yX4_wouldAnswer wsX4_wouldAnswer { frames := 6, cells := 0, slots := 0, locals := 140 } [.ref ax, .int x1, .int x2] [zXo ax (az 0) sa la (ak 0) (ad 0) X, zSa K sa f, zSO n so sc D, zCa K (sc i) C, zZo K az Z W, zCo K ak F O, zCa K ad Tc] (some (.int ((fX4_wouldAnswer_oh X D i C Z W F O Tc x1 x2).1))) [zXo ax (az 0) sa la (ak 0) (ad 0) X, zSa K sa f, zSO n so sc D, zCa K (sc i) C, zZo K az Z W, zCo K ak ((fX4_wouldAnswer_oh X D i C Z W F O Tc x1 x2).2.1) ((fX4_wouldAnswer_oh X D i C Z W F O Tc x1 x2).2.2.1), zCa K ad ((fX4_wouldAnswer_oh X D i C Z W F O Tc x1 x2).2.2.2)] True zNo := by
  refine zMeN.of (cc := cX4_wouldAnswer) (maxL := 4) (ret := (some .int)) (own := RX4) (nm := "wouldAnswer") hl (by decide +kernel) rfl rfl rfl (Nat.le_of_ble_eq_true rfl) (lv := [(0, .ref ax), (1, .int x1), (2, .int x2)]) rfl ?_
  intro p e s m args below meth c A B
  refine z_aload_n B dX4_wouldAnswer_0 0 rfl ?_
  refine z_iload_n B dX4_wouldAnswer_1 1 rfl ?_
  refine z_iload_n B dX4_wouldAnswer_2 2 rfl ?_
  refine z_V1 B (kX4_siteAsked_oh l hl K ax (az 0) sa la (ak 0) (ad 0) X f n so sc D i x1 x2 hf1 hf2 hi hN q0 q1 r0 r1) [0, 1, 2] [3, 4, 5, 6] (br := [zCa K (sc i) C, zZo K az Z W, zCo K ak F O, zCa K ad Tc]) (bs' := [zXo ax (az 0) sa la (ak 0) (ad 0) X, zSa K sa f, zSO n so sc D, zCa K (sc i) C, zZo K az Z W, zCo K ak F O, zCa K ad Tc]) (st := []) (nA := 2) (zsp rfl rfl rfl) (zsp rfl rfl rfl) 0 0 rfl rfl rfl rfl gX4_wouldAnswer_X4_siteAsked rfl (by decide +kernel) ⟨Nat.le_of_ble_eq_true rfl, Nat.le_of_ble_eq_true rfl⟩ rfl rfl (Nat.le_of_ble_eq_true rfl) ⟨Nat.le_of_ble_eq_true rfl, Nat.le_of_ble_eq_true rfl⟩ dX4_wouldAnswer_3 z_noX (fun _ => ?_)
  refine z_astore_n B (lv' := [(3, .ref (so i)), (0, .ref ax), (1, .int x1), (2, .int x2)]) dX4_wouldAnswer_6 (by decide) rfl ?_
  refine z_aload_n B dX4_wouldAnswer_7 1 rfl ?_
  refine z_get B (v := .ref (ad 0)) 0 0 7 hiX4_wouldAnswer_4 hfX4_wouldAnswer_39 rfl rfl rfl (by decide) rfl rfl rfl rfl dX4_wouldAnswer_8 ?_
  refine z_aload_n B dX4_wouldAnswer_11 0 rfl ?_
  refine z_get B (v := .ref ((sc i) 0)) 2 i 2 hiX4_wouldAnswer_2 hfX4_wouldAnswer_115 rfl (zSO_get hi) rfl (by decide) rfl rfl rfl rfl dX4_wouldAnswer_12 ?_
  refine z_V0 B (kX0_copyFrom l hl K ad Tc (sc i) C) [6, 3] [0, 1, 2, 4, 5] (br := [zXo ax (az 0) sa la (ak 0) (ad 0) X, zSa K sa f, zSO n so sc D, zZo K az Z W, zCo K ak F O]) (bs' := [zXo ax (az 0) sa la (ak 0) (ad 0) X, zSa K sa f, zSO n so sc D, zCa K (sc i) C, zZo K az Z W, zCo K ak F O, zCa K ad (fX0_copyFrom Tc C)]) (st := []) (nA := 1) (zsp rfl rfl rfl) (zsp rfl rfl rfl) 6 0 rfl rfl rfl rfl gX4_wouldAnswer_X0_copyFrom rfl (by decide +kernel) ⟨Nat.le_of_ble_eq_true rfl, Nat.le_of_ble_eq_true rfl⟩ rfl rfl (Nat.le_of_ble_eq_true rfl) ⟨Nat.le_of_ble_eq_true rfl, Nat.le_of_ble_eq_true rfl⟩ dX4_wouldAnswer_15 z_noX (fun _ => ?_)
  refine z_aload_n B dX4_wouldAnswer_18 1 rfl ?_
  refine z_aload_n B dX4_wouldAnswer_19 1 rfl ?_
  refine z_get B (v := .ref (ad 0)) 0 0 7 hiX4_wouldAnswer_4 hfX4_wouldAnswer_39 rfl rfl rfl (by decide) rfl rfl rfl rfl dX4_wouldAnswer_20 ?_
  refine z_iload_n B dX4_wouldAnswer_23 3 rfl ?_
  refine z_aload_n B dX4_wouldAnswer_24 1 rfl ?_
  refine z_get B (v := .ref (ak 0)) 0 0 6 hiX4_wouldAnswer_4 hfX4_wouldAnswer_33 rfl rfl rfl (by decide) rfl rfl rfl rfl dX4_wouldAnswer_25 ?_
  refine z_V1 B (kX4_resolve l hl K ax az sa la (ak 0) (ad 0) X Z W ad (fX0_copyFrom Tc C) ak F O x2) [0, 4, 6, 5] [1, 2, 3] (br := [zSa K sa f, zSO n so sc D, zCa K (sc i) C]) (bs' := [zXo ax (az 0) sa la (ak 0) (ad 0) X, zSa K sa f, zSO n so sc D, zCa K (sc i) C, zZo K az Z W, zCo K ak ((fX4_resolve X Z W (fX0_copyFrom Tc C) F O x2).2.2.1) ((fX4_resolve X Z W (fX0_copyFrom Tc C) F O x2).2.2.2), zCa K ad ((fX4_resolve X Z W (fX0_copyFrom Tc C) F O x2).2.1)]) (st := []) (nA := 3) (zsp rfl rfl rfl) (zsp rfl rfl rfl) 0 0 rfl rfl rfl rfl gX4_wouldAnswer_X4_resolve rfl (by decide +kernel) ⟨Nat.le_of_ble_eq_true rfl, Nat.le_of_ble_eq_true rfl⟩ rfl rfl (Nat.le_of_ble_eq_true rfl) ⟨Nat.le_of_ble_eq_true rfl, Nat.le_of_ble_eq_true rfl⟩ dX4_wouldAnswer_28 z_noX (fun _ => ?_)
  have hF : fX4_wouldAnswer_oh X D i C Z W F O Tc x1 x2 = (((fX4_resolve X Z W (fX0_copyFrom Tc C) F O x2).1), ((fX4_resolve X Z W (fX0_copyFrom Tc C) F O x2).2.2.1), ((fX4_resolve X Z W (fX0_copyFrom Tc C) F O x2).2.2.2), ((fX4_resolve X Z W (fX0_copyFrom Tc C) F O x2).2.1)) := rfl
  exact z_ret1 B rfl dX4_wouldAnswer_31 () (trivial) (Nat.le_of_ble_eq_true rfl) (Nat.le_of_ble_eq_true rfl) (by rw [hF]) (by rw [hF])
def fX4_wouldAnswer_om (D : Nat → Nat → Int32) (x1 : Int32) (x2 : Int32) : Nat × Int32 :=
  ((fX4_siteAsked_om D x1 x2), 0)
set_option maxHeartbeats 4000000 in
set_option maxRecDepth 100000 in
theorem kX4_wouldAnswer_om (l : Launch) (hl : l.stackTraces = false) (K : zK) (ax : Nat) (zn : Nat) (sa : Nat) (la : Nat) (tr : Nat) (tc : Nat) (X : Nat → Int32) (f : Nat → Option Nat) (n : Nat) (so : Nat → Nat) (sc : Nat → Nat → Nat) (D : Nat → Nat → Int32) (x1 : Int32) (x2 : Int32) (hf1 : ∀ a, a < n → f a = some (so a)) (hf2 : ∀ a, n ≤ a → a < 4 → f a = none) (hN : fX4_near n D x1 = none) (q0 : ¬ x2 < 0) (q1 : x2 < 16) (r0 : ¬ x1 < 0) (r1 : x1 ≤ 99) : zMet l K yX4_wouldAnswer wsX4_wouldAnswer { frames := 7, cells := 1, slots := 6, locals := 105 } [.ref ax, .int x1, .int x2] [zXo ax zn sa la tr tc X, zSa K sa f, zSO n so sc D] (some (.int ((fX4_wouldAnswer_om D x1 x2).2))) [zXo ax zn sa la tr tc X, zSa K sa f, zSO n so sc D] False (fun E => (E = zE3 ∧ (fX4_wouldAnswer_om D x1 x2).1 = 3)) := by
  refine zMeN.of (cc := cX4_wouldAnswer) (maxL := 4) (ret := (some .int)) (own := RX4) (nm := "wouldAnswer") hl (by decide +kernel) rfl rfl rfl (Nat.le_of_ble_eq_true rfl) (lv := [(0, .ref ax), (1, .int x1), (2, .int x2)]) rfl ?_
  intro p e s m args below meth c A B
  refine z_aload_n B dX4_wouldAnswer_0 0 rfl ?_
  refine z_iload_n B dX4_wouldAnswer_1 1 rfl ?_
  refine z_iload_n B dX4_wouldAnswer_2 2 rfl ?_
  refine z_V1 B (kX4_siteAsked_om l hl K ax zn sa la tr tc X f n so sc D x1 x2 hf1 hf2 hN q0 q1 r0 r1) [0, 1, 2] [] (br := []) (bs' := [zXo ax zn sa la tr tc X, zSa K sa f, zSO n so sc D]) (st := []) (nA := 2) (zsp rfl rfl rfl) (zsp rfl rfl rfl) 0 0 rfl rfl rfl rfl gX4_wouldAnswer_X4_siteAsked rfl (by decide +kernel) ⟨Nat.le_of_ble_eq_true rfl, Nat.le_of_ble_eq_true rfl⟩ rfl rfl (Nat.le_of_ble_eq_true rfl) ⟨Nat.le_of_ble_eq_true rfl, Nat.le_of_ble_eq_true rfl⟩ dX4_wouldAnswer_3 (fun E hE => ?_) (fun h9 => h9.elim)
  · rcases hE with ⟨rfl, hx⟩
    · have hF : fX4_wouldAnswer_om D x1 x2 = (3, 0) := (show ((fX4_siteAsked_om D x1 x2), 0) = (3, 0) by rw [hx])
      exact z_out B (⟨rfl, by rw [hF]⟩) (Nat.le_of_ble_eq_true rfl) (Nat.le_of_ble_eq_true rfl)
