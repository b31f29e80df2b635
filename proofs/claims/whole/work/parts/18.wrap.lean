/-! WRAPPERS: the law's own calls -/
theorem z_pass1 {α : Type} {P : α → Prop} {a : α} (h : P a) : ∀ z ∈ [a], P z := by
  intro z hz
  rcases List.mem_singleton.mp hz with rfl
  exact h
theorem z_pass2 {α : Type} {P : α → Prop} {a b : α} (h : P a) (h2 : P b) : ∀ z ∈ [a, b], P z := by
  intro z hz
  rcases List.mem_cons.mp hz with rfl | hz
  · exact h
  · rcases List.mem_singleton.mp hz with rfl
    exact h2
theorem z_ca1 : Cond.castable zE1 "java/lang/IndexOutOfBoundsException" ∈ zNw := by decide +kernel
theorem z_ca2 : Cond.castable zE2 "java/lang/IllegalArgumentException" ∈ zNw := by decide +kernel
theorem z_ca3 : Cond.castable zE3 "java/lang/IllegalStateException" ∈ zNw := by decide +kernel

def fL_setAddress (X : Nat → Int32) (Z : Nat → Nat → Int32) (W : Nat → Int32) (x1 : Int32) (x2 : Int32) (x3 : Int32) : Int32 × (Nat → Nat → Int32) :=
  if (fX4_setAddress X Z W x1 x2 x3).1 = 0 then
    (0, ((fX4_setAddress X Z W x1 x2 x3).2))
  else
    if (fX4_setAddress X Z W x1 x2 x3).1 = 1 then
      (1, Z)
    else
      (2, Z)
theorem hwL_setAddress_cl13 : Cond.classLink RL 13 "java/lang/IndexOutOfBoundsException" ∈ wsL_setAddress := by decide +kernel
theorem hwL_setAddress_cl15 : Cond.classLink RL 15 "java/lang/IllegalArgumentException" ∈ wsL_setAddress := by decide +kernel
set_option maxHeartbeats 4000000 in
set_option maxRecDepth 100000 in
theorem kL_setAddress (l : Launch) (hl : l.stackTraces = false) (K : zK) (ax : Nat) (az : Nat → Nat) (sa : Nat) (la : Nat) (tr : Nat) (tc : Nat) (X : Nat → Int32) (Z : Nat → Nat → Int32) (W : Nat → Int32) (x1 : Int32) (x2 : Int32) (x3 : Int32) : zMet l K yL_setAddress wsL_setAddress { frames := 8, cells := 3, slots := 18, locals := 127 } [.ref ax, .int x1, .int x2, .int x3] [zXo ax (az 0) sa la tr tc X, zZo K az Z W] (some (.int ((fL_setAddress X Z W x1 x2 x3).1))) [zXo ax (az 0) sa la tr tc X, zZo K az ((fL_setAddress X Z W x1 x2 x3).2) W] True zNo := by
  refine zMeN.ofH (hh := [(0, 7, 10, 13), (0, 7, 14, 15)]) (cc := cL_setAddress) (maxL := 5) (ret := (some .int)) (own := RL) (nm := "setAddress") hl (by decide +kernel) rfl rfl rfl (Nat.le_of_ble_eq_true rfl) (lv := [(0, .ref ax), (1, .int x1), (2, .int x2), (3, .int x3)]) rfl ?_
  intro p e s m args below meth c A B
  refine z_aload_n B dL_setAddress_0 0 rfl ?_
  refine z_iload_n B dL_setAddress_1 1 rfl ?_
  refine z_iload_n B dL_setAddress_2 2 rfl ?_
  refine z_iload_n B dL_setAddress_3 3 rfl ?_
  refine z_V0 B (kX4_setAddress l hl K ax az sa la tr tc X Z W x1 x2 x3) [0, 1] [] (br := []) (bs' := [zXo ax (az 0) sa la tr tc X, zZo K az ((fX4_setAddress X Z W x1 x2 x3).2) W]) (st := []) (nA := 3) (zsp rfl rfl rfl) (zsp rfl rfl rfl) 0 0 rfl rfl rfl rfl gL_setAddress_X4_setAddress rfl (by decide +kernel) ⟨Nat.le_of_ble_eq_true rfl, Nat.le_of_ble_eq_true rfl⟩ rfl rfl (Nat.le_of_ble_eq_true rfl) ⟨Nat.le_of_ble_eq_true rfl, Nat.le_of_ble_eq_true rfl⟩ dL_setAddress_4 (fun E hE => ?_) (fun h1 => ?_)
  · rcases hE with ⟨rfl, hx⟩ | ⟨rfl, hx⟩
    · refine z_catch B [] ⟨0, 7, 10, 13⟩ [⟨0, 7, 14, 15⟩] rfl (fun _ h => absurd h List.not_mem_nil) rfl (by decide) hwL_setAddress_cl13 z_ca1 (fun q9 => ?_)
      refine z_astore B (lv' := [(4, .ref q9), (0, .ref ax), (1, .int x1), (2, .int x2), (3, .int x3)]) dL_setAddress_10 (by decide) rfl ?_
      refine z_iconst B (v := 1) dL_setAddress_12 rfl ?_
      have hF : fL_setAddress X Z W x1 x2 x3 = (1, Z) := (if_neg (show ¬ (fX4_setAddress X Z W x1 x2 x3).1 = 0 by rw [hx]; decide)).trans (if_pos hx)
      exact z_ret1 B rfl dL_setAddress_13 () (trivial) (Nat.le_of_ble_eq_true rfl) (Nat.le_of_ble_eq_true rfl) (by rw [hF]) (by rw [hF])
    · refine z_catch B [⟨0, 7, 10, 13⟩] ⟨0, 7, 14, 15⟩ [] rfl (z_pass1 (Or.inr ⟨by decide, _, hwL_setAddress_cl13, B.2.2.2.2.2.2.2.2.2.2.2.1⟩)) rfl (by decide) hwL_setAddress_cl15 z_ca2 (fun q9 => ?_)
      refine z_astore B (lv' := [(4, .ref q9), (0, .ref ax), (1, .int x1), (2, .int x2), (3, .int x3)]) dL_setAddress_14 (by decide) rfl ?_
      refine z_iconst B (v := 2) dL_setAddress_16 rfl ?_
      have hF : fL_setAddress X Z W x1 x2 x3 = (2, Z) := (if_neg (show ¬ (fX4_setAddress X Z W x1 x2 x3).1 = 0 by rw [hx]; decide)).trans (if_neg (show ¬ (fX4_setAddress X Z W x1 x2 x3).1 = 1 by rw [hx]; decide))
      exact z_ret1 B rfl dL_setAddress_17 () (trivial) (Nat.le_of_ble_eq_true rfl) (Nat.le_of_ble_eq_true rfl) (by rw [hF]) (by rw [hF])
  refine z_goto B (tgt := 18) dL_setAddress_7 (by decide) ?_
  refine z_iconst B (v := 0) dL_setAddress_18 rfl ?_
  have hF : fL_setAddress X Z W x1 x2 x3 = (0, ((fX4_setAddress X Z W x1 x2 x3).2)) := if_pos h1
  exact z_ret1 B rfl dL_setAddress_19 () (trivial) (Nat.le_of_ble_eq_true rfl) (Nat.le_of_ble_eq_true rfl) (by rw [hF]) (by rw [hF])
def fL_setAlias (X : Nat → Int32) (Z : Nat → Nat → Int32) (W : Nat → Int32) (x1 : Int32) (x2 : Int32) (x3 : Int32) : Int32 × (Nat → Nat → Int32) :=
  if (fX4_setAlias X Z W x1 x2 x3).1 = 0 then
    (0, ((fX4_setAlias X Z W x1 x2 x3).2))
  else
    if (fX4_setAlias X Z W x1 x2 x3).1 = 1 then
      (1, Z)
    else
      (2, Z)
theorem hwL_setAlias_cl13 : Cond.classLink RL 13 "java/lang/IndexOutOfBoundsException" ∈ wsL_setAlias := by decide +kernel
theorem hwL_setAlias_cl15 : Cond.classLink RL 15 "java/lang/IllegalArgumentException" ∈ wsL_setAlias := by decide +kernel
set_option maxHeartbeats 4000000 in
set_option maxRecDepth 100000 in
theorem kL_setAlias (l : Launch) (hl : l.stackTraces = false) (K : zK) (ax : Nat) (az : Nat → Nat) (sa : Nat) (la : Nat) (tr : Nat) (tc : Nat) (X : Nat → Int32) (Z : Nat → Nat → Int32) (W : Nat → Int32) (x1 : Int32) (x2 : Int32) (x3 : Int32) : zMet l K yL_setAlias wsL_setAlias { frames := 8, cells := 3, slots := 18, locals := 127 } [.ref ax, .int x1, .int x2, .int x3] [zXo ax (az 0) sa la tr tc X, zZo K az Z W] (some (.int ((fL_setAlias X Z W x1 x2 x3).1))) [zXo ax (az 0) sa la tr tc X, zZo K az ((fL_setAlias X Z W x1 x2 x3).2) W] True zNo := by
  refine zMeN.ofH (hh := [(0, 7, 10, 13), (0, 7, 14, 15)]) (cc := cL_setAlias) (maxL := 5) (ret := (some .int)) (own := RL) (nm := "setAlias") hl (by decide +kernel) rfl rfl rfl (Nat.le_of_ble_eq_true rfl) (lv := [(0, .ref ax), (1, .int x1), (2, .int x2), (3, .int x3)]) rfl ?_
  intro p e s m args below meth c A B
  refine z_aload_n B dL_setAlias_0 0 rfl ?_
  refine z_iload_n B dL_setAlias_1 1 rfl ?_
  refine z_iload_n B dL_setAlias_2 2 rfl ?_
  refine z_iload_n B dL_setAlias_3 3 rfl ?_
  refine z_V0 B (kX4_setAlias l hl K ax az sa la tr tc X Z W x1 x2 x3) [0, 1] [] (br := []) (bs' := [zXo ax (az 0) sa la tr tc X, zZo K az ((fX4_setAlias X Z W x1 x2 x3).2) W]) (st := []) (nA := 3) (zsp rfl rfl rfl) (zsp rfl rfl rfl) 0 0 rfl rfl rfl rfl gL_setAlias_X4_setAlias rfl (by decide +kernel) ⟨Nat.le_of_ble_eq_true rfl, Nat.le_of_ble_eq_true rfl⟩ rfl rfl (Nat.le_of_ble_eq_true rfl) ⟨Nat.le_of_ble_eq_true rfl, Nat.le_of_ble_eq_true rfl⟩ dL_setAlias_4 (fun E hE => ?_) (fun h1 => ?_)
  · rcases hE with ⟨rfl, hx⟩ | ⟨rfl, hx⟩
    · refine z_catch B [] ⟨0, 7, 10, 13⟩ [⟨0, 7, 14, 15⟩] rfl (fun _ h => absurd h List.not_mem_nil) rfl (by decide) hwL_setAlias_cl13 z_ca1 (fun q9 => ?_)
      refine z_astore B (lv' := [(4, .ref q9), (0, .ref ax), (1, .int x1), (2, .int x2), (3, .int x3)]) dL_setAlias_10 (by decide) rfl ?_
      refine z_iconst B (v := 1) dL_setAlias_12 rfl ?_
      have hF : fL_setAlias X Z W x1 x2 x3 = (1, Z) := (if_neg (show ¬ (fX4_setAlias X Z W x1 x2 x3).1 = 0 by rw [hx]; decide)).trans (if_pos hx)
      exact z_ret1 B rfl dL_setAlias_13 () (trivial) (Nat.le_of_ble_eq_true rfl) (Nat.le_of_ble_eq_true rfl) (by rw [hF]) (by rw [hF])
    · refine z_catch B [⟨0, 7, 10, 13⟩] ⟨0, 7, 14, 15⟩ [] rfl (z_pass1 (Or.inr ⟨by decide, _, hwL_setAlias_cl13, B.2.2.2.2.2.2.2.2.2.2.2.1⟩)) rfl (by decide) hwL_setAlias_cl15 z_ca2 (fun q9 => ?_)
      refine z_astore B (lv' := [(4, .ref q9), (0, .ref ax), (1, .int x1), (2, .int x2), (3, .int x3)]) dL_setAlias_14 (by decide) rfl ?_
      refine z_iconst B (v := 2) dL_setAlias_16 rfl ?_
      have hF : fL_setAlias X Z W x1 x2 x3 = (2, Z) := (if_neg (show ¬ (fX4_setAlias X Z W x1 x2 x3).1 = 0 by rw [hx]; decide)).trans (if_neg (show ¬ (fX4_setAlias X Z W x1 x2 x3).1 = 1 by rw [hx]; decide))
      exact z_ret1 B rfl dL_setAlias_17 () (trivial) (Nat.le_of_ble_eq_true rfl) (Nat.le_of_ble_eq_true rfl) (by rw [hF]) (by rw [hF])
  refine z_goto B (tgt := 18) dL_setAlias_7 (by decide) ?_
  refine z_iconst B (v := 0) dL_setAlias_18 rfl ?_
  have hF : fL_setAlias X Z W x1 x2 x3 = (0, ((fX4_setAlias X Z W x1 x2 x3).2)) := if_pos h1
  exact z_ret1 B rfl dL_setAlias_19 () (trivial) (Nat.le_of_ble_eq_true rfl) (Nat.le_of_ble_eq_true rfl) (by rw [hF]) (by rw [hF])
def fL_remove (X : Nat → Int32) (Z : Nat → Nat → Int32) (W : Nat → Int32) (x1 : Int32) (g : Nat → Int64) : Int32 × (Nat → Nat → Int32) × (Nat → Int64) :=
  if (fX4_remove X Z W x1).1 = 0 then
    if ((fX4_remove X Z W x1).2.1) = 0 then
      (0, ((fX4_remove X Z W x1).2.2), (vp_updL g 0 0))
    else
      (0, ((fX4_remove X Z W x1).2.2), (vp_updL g 0 1))
  else
    (1, Z, g)
theorem hwL_remove_cl13 : Cond.classLink RL 13 "java/lang/IndexOutOfBoundsException" ∈ wsL_remove := by decide +kernel
set_option maxHeartbeats 4000000 in
set_option maxRecDepth 100000 in
theorem kL_remove (l : Launch) (hl : l.stackTraces = false) (K : zK) (ax : Nat) (az : Nat → Nat) (sa : Nat) (la : Nat) (tr : Nat) (tc : Nat) (X : Nat → Int32) (Z : Nat → Nat → Int32) (W : Nat → Int32) (x1 : Int32) (ao : Nat) (g : Nat → Int64) : zMet l K yL_remove wsL_remove { frames := 8, cells := 1, slots := 6, locals := 124 } [.ref ax, .int x1, .ref ao] [zXo ax (az 0) sa la tr tc X, zZo K az Z W, zOu K ao g] (some (.int ((fL_remove X Z W x1 g).1))) [zXo ax (az 0) sa la tr tc X, zZo K az ((fL_remove X Z W x1 g).2.1) W, zOu K ao ((fL_remove X Z W x1 g).2.2)] True zNo := by
  refine zMeN.ofH (hh := [(0, 16, 19, 13)]) (cc := cL_remove) (maxL := 4) (ret := (some .int)) (own := RL) (nm := "remove") hl (by decide +kernel) rfl rfl rfl (Nat.le_of_ble_eq_true rfl) (lv := [(0, .ref ax), (1, .int x1), (2, .ref ao)]) rfl ?_
  intro p e s m args below meth c A B
  refine z_aload_n B dL_remove_0 2 rfl ?_
  refine z_iconst B (v := 0) dL_remove_1 rfl ?_
  refine z_aload_n B dL_remove_2 0 rfl ?_
  refine z_iload_n B dL_remove_3 1 rfl ?_
  refine z_V1 B (kX4_remove l hl K ax az sa la tr tc X Z W x1) [0, 1] [2] (br := [zOu K ao g]) (bs' := [zXo ax (az 0) sa la tr tc X, zZo K az ((fX4_remove X Z W x1).2.2) W, zOu K ao g]) (st := [.int 0, .ref ao]) (nA := 1) (zsp rfl rfl rfl) (zsp rfl rfl rfl) 0 0 rfl rfl rfl rfl gL_remove_X4_remove rfl (by decide +kernel) ⟨Nat.le_of_ble_eq_true rfl, Nat.le_of_ble_eq_true rfl⟩ rfl rfl (Nat.le_of_ble_eq_true rfl) ⟨Nat.le_of_ble_eq_true rfl, Nat.le_of_ble_eq_true rfl⟩ dL_remove_4 (fun E hE => ?_) (fun h1 => ?_)
  · rcases hE with ⟨rfl, hx⟩
    · refine z_catch B [] ⟨0, 16, 19, 13⟩ [] rfl (fun _ h => absurd h List.not_mem_nil) rfl (by decide) hwL_remove_cl13 z_ca1 (fun q9 => ?_)
      refine z_astore_n B (lv' := [(3, .ref q9), (0, .ref ax), (1, .int x1), (2, .ref ao)]) dL_remove_19 (by decide) rfl ?_
      refine z_iconst B (v := 1) dL_remove_20 rfl ?_
      have hF : fL_remove X Z W x1 g = (1, Z, g) := if_neg (show ¬ (fX4_remove X Z W x1).1 = 0 by rw [hx]; decide)
      exact z_ret1 B rfl dL_remove_21 () (trivial) (Nat.le_of_ble_eq_true rfl) (Nat.le_of_ble_eq_true rfl) (by rw [hF]) (by rw [hF])
  refine z_ifeq B 14 dL_remove_7 (by decide) (fun c2 => ?_) (fun c2 => ?_)
  · refine z_lconst B (v := 0) dL_remove_14 rfl ?_
    refine z_last B (N := 1) (f := g) 2 0 rfl rfl (z_vpc (k := 0) rfl (by decide)) (bs' := [zXo ax (az 0) sa la tr tc X, zZo K az ((fX4_remove X Z W x1).2.2) W, zOu K ao (vp_updL g 0 0)]) rfl dL_remove_15 ?_
    refine z_goto B (tgt := 22) dL_remove_16 (by decide) ?_
    refine z_iconst B (v := 0) dL_remove_22 rfl ?_
    have hF : fL_remove X Z W x1 g = (0, ((fX4_remove X Z W x1).2.2), (vp_updL g 0 0)) := (if_pos h1).trans (if_pos c2)
    exact z_ret1 B rfl dL_remove_23 () (trivial) (Nat.le_of_ble_eq_true rfl) (Nat.le_of_ble_eq_true rfl) (by rw [hF]) (by rw [hF])
  · refine z_lconst B (v := 1) dL_remove_10 rfl ?_
    refine z_goto B (tgt := 15) dL_remove_11 (by decide) ?_
    refine z_last B (N := 1) (f := g) 2 0 rfl rfl (z_vpc (k := 0) rfl (by decide)) (bs' := [zXo ax (az 0) sa la tr tc X, zZo K az ((fX4_remove X Z W x1).2.2) W, zOu K ao (vp_updL g 0 1)]) rfl dL_remove_15 ?_
    refine z_goto B (tgt := 22) dL_remove_16 (by decide) ?_
    refine z_iconst B (v := 0) dL_remove_22 rfl ?_
    have hF : fL_remove X Z W x1 g = (0, ((fX4_remove X Z W x1).2.2), (vp_updL g 0 1)) := (if_pos h1).trans (if_neg c2)
    exact z_ret1 B rfl dL_remove_23 () (trivial) (Nat.le_of_ble_eq_true rfl) (Nat.le_of_ble_eq_true rfl) (by rw [hF]) (by rw [hF])
def fL_setBound (X : Nat → Int32) (Z : Nat → Nat → Int32) (W : Nat → Int32) (x1 : Int32) (g : Nat → Int64) : Int32 × (Nat → Int32) × (Nat → Int64) :=
  if (fX4_setBound X Z W x1).1 = 0 then
    (0, ((fX4_setBound X Z W x1).2.2), (vp_updL g 0 (((fX4_setBound X Z W x1).2.1).toInt64)))
  else
    (1, W, g)
theorem hwL_setBound_cl15 : Cond.classLink RL 15 "java/lang/IllegalArgumentException" ∈ wsL_setBound := by decide +kernel
set_option maxHeartbeats 4000000 in
set_option maxRecDepth 100000 in
theorem kL_setBound (l : Launch) (hl : l.stackTraces = false) (K : zK) (ax : Nat) (az : Nat → Nat) (sa : Nat) (la : Nat) (tr : Nat) (tc : Nat) (X : Nat → Int32) (Z : Nat → Nat → Int32) (W : Nat → Int32) (x1 : Int32) (ao : Nat) (g : Nat → Int64) : zMet l K yL_setBound wsL_setBound { frames := 8, cells := 1, slots := 6, locals := 126 } [.ref ax, .int x1, .ref ao] [zXo ax (az 0) sa la tr tc X, zZo K az Z W, zOu K ao g] (some (.int ((fL_setBound X Z W x1 g).1))) [zXo ax (az 0) sa la tr tc X, zZo K az Z ((fL_setBound X Z W x1 g).2.1), zOu K ao ((fL_setBound X Z W x1 g).2.2)] True zNo := by
  refine zMeN.ofH (hh := [(0, 9, 12, 15)]) (cc := cL_setBound) (maxL := 4) (ret := (some .int)) (own := RL) (nm := "setBound") hl (by decide +kernel) rfl rfl rfl (Nat.le_of_ble_eq_true rfl) (lv := [(0, .ref ax), (1, .int x1), (2, .ref ao)]) rfl ?_
  intro p e s m args below meth c A B
  refine z_aload_n B dL_setBound_0 2 rfl ?_
  refine z_iconst B (v := 0) dL_setBound_1 rfl ?_
  refine z_aload_n B dL_setBound_2 0 rfl ?_
  refine z_iload_n B dL_setBound_3 1 rfl ?_
  refine z_V1 B (kX4_setBound l hl K ax az sa la tr tc X Z W x1) [0, 1] [2] (br := [zOu K ao g]) (bs' := [zXo ax (az 0) sa la tr tc X, zZo K az Z ((fX4_setBound X Z W x1).2.2), zOu K ao g]) (st := [.int 0, .ref ao]) (nA := 1) (zsp rfl rfl rfl) (zsp rfl rfl rfl) 0 0 rfl rfl rfl rfl gL_setBound_X4_setBound rfl (by decide +kernel) ⟨Nat.le_of_ble_eq_true rfl, Nat.le_of_ble_eq_true rfl⟩ rfl rfl (Nat.le_of_ble_eq_true rfl) ⟨Nat.le_of_ble_eq_true rfl, Nat.le_of_ble_eq_true rfl⟩ dL_setBound_4 (fun E hE => ?_) (fun h1 => ?_)
  · rcases hE with ⟨rfl, hx⟩
    · refine z_catch B [] ⟨0, 9, 12, 15⟩ [] rfl (fun _ h => absurd h List.not_mem_nil) rfl (by decide) hwL_setBound_cl15 z_ca2 (fun q9 => ?_)
      refine z_astore_n B (lv' := [(3, .ref q9), (0, .ref ax), (1, .int x1), (2, .ref ao)]) dL_setBound_12 (by decide) rfl ?_
      refine z_iconst B (v := 1) dL_setBound_13 rfl ?_
      have hF : fL_setBound X Z W x1 g = (1, W, g) := if_neg (show ¬ (fX4_setBound X Z W x1).1 = 0 by rw [hx]; decide)
      exact z_ret1 B rfl dL_setBound_14 () (trivial) (Nat.le_of_ble_eq_true rfl) (Nat.le_of_ble_eq_true rfl) (by rw [hF]) (by rw [hF])
  refine z_i2l B dL_setBound_7 ?_
  refine z_last B (N := 1) (f := g) 2 0 rfl rfl (z_vpc (k := 0) rfl (by decide)) (bs' := [zXo ax (az 0) sa la tr tc X, zZo K az Z ((fX4_setBound X Z W x1).2.2), zOu K ao (vp_updL g 0 (((fX4_setBound X Z W x1).2.1).toInt64))]) rfl dL_setBound_8 ?_
  refine z_goto B (tgt := 15) dL_setBound_9 (by decide) ?_
  refine z_iconst B (v := 0) dL_setBound_15 rfl ?_
  have hF : fL_setBound X Z W x1 g = (0, ((fX4_setBound X Z W x1).2.2), (vp_updL g 0 (((fX4_setBound X Z W x1).2.1).toInt64))) := if_pos h1
  exact z_ret1 B rfl dL_setBound_16 () (trivial) (Nat.le_of_ble_eq_true rfl) (Nat.le_of_ble_eq_true rfl) (by rw [hF]) (by rw [hF])
def fL_truth (X : Nat → Int32) (Z : Nat → Nat → Int32) (W : Nat → Int32) (x1 : Int32) (g : Nat → Int64) : Int32 × (Nat → Int64) :=
  if (fX4_truth X Z W x1).1 = 0 then
    (0, (vp_updL g 0 (((fX4_truth X Z W x1).2).toInt64)))
  else
    (1, g)
theorem hwL_truth_cl13 : Cond.classLink RL 13 "java/lang/IndexOutOfBoundsException" ∈ wsL_truth := by decide +kernel
set_option maxHeartbeats 4000000 in
set_option maxRecDepth 100000 in
theorem kL_truth (l : Launch) (hl : l.stackTraces = false) (K : zK) (ax : Nat) (az : Nat → Nat) (sa : Nat) (la : Nat) (tr : Nat) (tc : Nat) (X : Nat → Int32) (Z : Nat → Nat → Int32) (W : Nat → Int32) (x1 : Int32) (ao : Nat) (g : Nat → Int64) : zMet l K yL_truth wsL_truth { frames := 8, cells := 1, slots := 6, locals := 127 } [.ref ax, .int x1, .ref ao] [zXo ax (az 0) sa la tr tc X, zZo K az Z W, zOu K ao g] (some (.int ((fL_truth X Z W x1 g).1))) [zXo ax (az 0) sa la tr tc X, zZo K az Z W, zOu K ao ((fL_truth X Z W x1 g).2)] True zNo := by
  refine zMeN.ofH (hh := [(0, 9, 12, 13)]) (cc := cL_truth) (maxL := 4) (ret := (some .int)) (own := RL) (nm := "truth") hl (by decide +kernel) rfl rfl rfl (Nat.le_of_ble_eq_true rfl) (lv := [(0, .ref ax), (1, .int x1), (2, .ref ao)]) rfl ?_
  intro p e s m args below meth c A B
  refine z_aload_n B dL_truth_0 2 rfl ?_
  refine z_iconst B (v := 0) dL_truth_1 rfl ?_
  refine z_aload_n B dL_truth_2 0 rfl ?_
  refine z_iload_n B dL_truth_3 1 rfl ?_
  refine z_V1 B (kX4_truth l hl K ax az sa la tr tc X Z W x1) [0, 1] [2] (br := [zOu K ao g]) (bs' := [zXo ax (az 0) sa la tr tc X, zZo K az Z W, zOu K ao g]) (st := [.int 0, .ref ao]) (nA := 1) (zsp rfl rfl rfl) (zsp rfl rfl rfl) 0 0 rfl rfl rfl rfl gL_truth_X4_truth rfl (by decide +kernel) ⟨Nat.le_of_ble_eq_true rfl, Nat.le_of_ble_eq_true rfl⟩ rfl rfl (Nat.le_of_ble_eq_true rfl) ⟨Nat.le_of_ble_eq_true rfl, Nat.le_of_ble_eq_true rfl⟩ dL_truth_4 (fun E hE => ?_) (fun h1 => ?_)
  · rcases hE with ⟨rfl, hx⟩
    · refine z_catch B [] ⟨0, 9, 12, 13⟩ [] rfl (fun _ h => absurd h List.not_mem_nil) rfl (by decide) hwL_truth_cl13 z_ca1 (fun q9 => ?_)
      refine z_astore_n B (lv' := [(3, .ref q9), (0, .ref ax), (1, .int x1), (2, .ref ao)]) dL_truth_12 (by decide) rfl ?_
      refine z_iconst B (v := 1) dL_truth_13 rfl ?_
      have hF : fL_truth X Z W x1 g = (1, g) := if_neg (show ¬ (fX4_truth X Z W x1).1 = 0 by rw [hx]; decide)
      exact z_ret1 B rfl dL_truth_14 () (trivial) (Nat.le_of_ble_eq_true rfl) (Nat.le_of_ble_eq_true rfl) (by rw [hF]) (by rw [hF])
  refine z_i2l B dL_truth_7 ?_
  refine z_last B (N := 1) (f := g) 2 0 rfl rfl (z_vpc (k := 0) rfl (by decide)) (bs' := [zXo ax (az 0) sa la tr tc X, zZo K az Z W, zOu K ao (vp_updL g 0 (((fX4_truth X Z W x1).2).toInt64))]) rfl dL_truth_8 ?_
  refine z_goto B (tgt := 15) dL_truth_9 (by decide) ?_
  refine z_iconst B (v := 0) dL_truth_15 rfl ?_
  have hF : fL_truth X Z W x1 g = (0, (vp_updL g 0 (((fX4_truth X Z W x1).2).toInt64))) := if_pos h1
  exact z_ret1 B rfl dL_truth_16 () (trivial) (Nat.le_of_ble_eq_true rfl) (Nat.le_of_ble_eq_true rfl) (by rw [hF]) (by rw [hF])
def fL_pass (X : Nat → Int32) (x1 : Int32) (g : Nat → Int64) : Int32 × (Nat → Int32) × (Nat → Int64) :=
  if (fX4_pass X x1).1 = 0 then
    (0, ((fX4_pass X x1).2.2), (vp_updL g 0 (((fX4_pass X x1).2.1).toInt64)))
  else
    (1, X, g)
theorem hwL_pass_cl15 : Cond.classLink RL 15 "java/lang/IllegalArgumentException" ∈ wsL_pass := by decide +kernel
set_option maxHeartbeats 4000000 in
set_option maxRecDepth 100000 in
theorem kL_pass (l : Launch) (hl : l.stackTraces = false) (K : zK) (ax : Nat) (zn : Nat) (sa : Nat) (la : Nat) (tr : Nat) (tc : Nat) (X : Nat → Int32) (x1 : Int32) (ao : Nat) (g : Nat → Int64) : zMet l K yL_pass wsL_pass { frames := 8, cells := 1, slots := 6, locals := 125 } [.ref ax, .int x1, .ref ao] [zXo ax zn sa la tr tc X, zOu K ao g] (some (.int ((fL_pass X x1 g).1))) [zXo ax zn sa la tr tc ((fL_pass X x1 g).2.1), zOu K ao ((fL_pass X x1 g).2.2)] True zNo := by
  refine zMeN.ofH (hh := [(0, 9, 12, 15)]) (cc := cL_pass) (maxL := 4) (ret := (some .int)) (own := RL) (nm := "pass") hl (by decide +kernel) rfl rfl rfl (Nat.le_of_ble_eq_true rfl) (lv := [(0, .ref ax), (1, .int x1), (2, .ref ao)]) rfl ?_
  intro p e s m args below meth c A B
  refine z_aload_n B dL_pass_0 2 rfl ?_
  refine z_iconst B (v := 0) dL_pass_1 rfl ?_
  refine z_aload_n B dL_pass_2 0 rfl ?_
  refine z_iload_n B dL_pass_3 1 rfl ?_
  refine z_V1 B (kX4_pass l hl K ax zn sa la tr tc X x1) [0] [1] (br := [zOu K ao g]) (bs' := [zXo ax zn sa la tr tc ((fX4_pass X x1).2.2), zOu K ao g]) (st := [.int 0, .ref ao]) (nA := 1) (zsp rfl rfl rfl) (zsp rfl rfl rfl) 0 0 rfl rfl rfl rfl gL_pass_X4_pass rfl (by decide +kernel) ⟨Nat.le_of_ble_eq_true rfl, Nat.le_of_ble_eq_true rfl⟩ rfl rfl (Nat.le_of_ble_eq_true rfl) ⟨Nat.le_of_ble_eq_true rfl, Nat.le_of_ble_eq_true rfl⟩ dL_pass_4 (fun E hE => ?_) (fun h1 => ?_)
  · rcases hE with ⟨rfl, hx⟩
    · refine z_catch B [] ⟨0, 9, 12, 15⟩ [] rfl (fun _ h => absurd h List.not_mem_nil) rfl (by decide) hwL_pass_cl15 z_ca2 (fun q9 => ?_)
      refine z_astore_n B (lv' := [(3, .ref q9), (0, .ref ax), (1, .int x1), (2, .ref ao)]) dL_pass_12 (by decide) rfl ?_
      refine z_iconst B (v := 1) dL_pass_13 rfl ?_
      have hF : fL_pass X x1 g = (1, X, g) := if_neg (show ¬ (fX4_pass X x1).1 = 0 by rw [hx]; decide)
      exact z_ret1 B rfl dL_pass_14 () (trivial) (Nat.le_of_ble_eq_true rfl) (Nat.le_of_ble_eq_true rfl) (by rw [hF]) (by rw [hF])
  refine z_i2l B dL_pass_7 ?_
  refine z_last B (N := 1) (f := g) 1 0 rfl rfl (z_vpc (k := 0) rfl (by decide)) (bs' := [zXo ax zn sa la tr tc ((fX4_pass X x1).2.2), zOu K ao (vp_updL g 0 (((fX4_pass X x1).2.1).toInt64))]) rfl dL_pass_8 ?_
  refine z_goto B (tgt := 15) dL_pass_9 (by decide) ?_
  refine z_iconst B (v := 0) dL_pass_15 rfl ?_
  have hF : fL_pass X x1 g = (0, ((fX4_pass X x1).2.2), (vp_updL g 0 (((fX4_pass X x1).2.1).toInt64))) := if_pos h1
  exact z_ret1 B rfl dL_pass_16 () (trivial) (Nat.le_of_ble_eq_true rfl) (Nat.le_of_ble_eq_true rfl) (by rw [hF]) (by rw [hF])
def fL_announce_h (D : Nat → Nat → Int32) (i : Nat) (x2 : Int32) (g : Nat → Int64) : Int32 × (Nat → Nat → Int32) × (Nat → Int64) :=
  if ((fX4_announce_h D i x2).1) = 0 then
    (0, ((fX4_announce_h D i x2).2), (vp_updL g 0 0))
  else
    (0, ((fX4_announce_h D i x2).2), (vp_updL g 0 1))
set_option maxHeartbeats 4000000 in
set_option maxRecDepth 100000 in
theorem kL_announce_h (l : Launch) (hl : l.stackTraces = false) (K : zK) (ax : Nat) (zn : Nat) (sa : Nat) (la : Nat) (tr : Nat) (tc : Nat) (X : Nat → Int32) (f : Nat → Option Nat) (n : Nat) (so : Nat → Nat) (sc : Nat → Nat → Nat) (D : Nat → Nat → Int32) (i : Nat) (x2 : Int32) (ao : Nat) (g : Nat → Int64) (hi4 : i < 4) (hi : i < n) (hfi : f (nI i).toNatClampNeg = some (so i)) (hx2 : x2 = 0 ∨ x2 = 1) (hD3 : (D i 3) = 0 ∨ (D i 3) = 1) : zMet l K yL_announce wsL_announce { frames := 2, cells := 0, slots := 0, locals := 46 } [.ref ax, .int (nI i), .int x2, .ref ao] [zXo ax zn sa la tr tc X, zSa K sa f, zSO n so sc D, zOu K ao g] (some (.int ((fL_announce_h D i x2 g).1))) [zXo ax zn sa la tr tc X, zSa K sa f, zSO n so sc ((fL_announce_h D i x2 g).2.1), zOu K ao ((fL_announce_h D i x2 g).2.2)] True zNo := by
  refine zMeN.ofH (hh := [(0, 17, 20, 13)]) (cc := cL_announce) (maxL := 5) (ret := (some .int)) (own := RL) (nm := "announce") hl (by decide +kernel) rfl rfl rfl (Nat.le_of_ble_eq_true rfl) (lv := [(0, .ref ax), (1, .int (nI i)), (2, .int x2), (3, .ref ao)]) rfl ?_
  intro p e s m args below meth c A B
  refine z_aload_n B dL_announce_0 3 rfl ?_
  refine z_iconst B (v := 0) dL_announce_1 rfl ?_
  refine z_aload_n B dL_announce_2 0 rfl ?_
  refine z_iload_n B dL_announce_3 1 rfl ?_
  refine z_iload_n B dL_announce_4 2 rfl ?_
  refine z_V1 B (kX4_announce_h l hl K ax zn sa la tr tc X f n so sc D i x2 hi4 hi hfi hx2 hD3) [0, 1, 2] [3] (br := [zOu K ao g]) (bs' := [zXo ax zn sa la tr tc X, zSa K sa f, zSO n so sc ((fX4_announce_h D i x2).2), zOu K ao g]) (st := [.int 0, .ref ao]) (nA := 2) (zsp rfl rfl rfl) (zsp rfl rfl rfl) 0 0 rfl rfl rfl rfl gL_announce_X4_announce rfl (by decide +kernel) ⟨Nat.le_of_ble_eq_true rfl, Nat.le_of_ble_eq_true rfl⟩ rfl rfl (Nat.le_of_ble_eq_true rfl) ⟨Nat.le_of_ble_eq_true rfl, Nat.le_of_ble_eq_true rfl⟩ dL_announce_5 z_noX (fun _ => ?_)
  refine z_ifeq B 15 dL_announce_8 (by decide) (fun c1 => ?_) (fun c1 => ?_)
  · refine z_lconst B (v := 0) dL_announce_15 rfl ?_
    refine z_last B (N := 1) (f := g) 3 0 rfl rfl (z_vpc (k := 0) rfl (by decide)) (bs' := [zXo ax zn sa la tr tc X, zSa K sa f, zSO n so sc ((fX4_announce_h D i x2).2), zOu K ao (vp_updL g 0 0)]) rfl dL_announce_16 ?_
    refine z_goto B (tgt := 24) dL_announce_17 (by decide) ?_
    refine z_iconst B (v := 0) dL_announce_24 rfl ?_
    have hF : fL_announce_h D i x2 g = (0, ((fX4_announce_h D i x2).2), (vp_updL g 0 0)) := if_pos c1
    exact z_ret1 B rfl dL_announce_25 () (trivial) (Nat.le_of_ble_eq_true rfl) (Nat.le_of_ble_eq_true rfl) (by rw [hF]) (by rw [hF])
  · refine z_lconst B (v := 1) dL_announce_11 rfl ?_
    refine z_goto B (tgt := 16) dL_announce_12 (by decide) ?_
    refine z_last B (N := 1) (f := g) 3 0 rfl rfl (z_vpc (k := 0) rfl (by decide)) (bs' := [zXo ax zn sa la tr tc X, zSa K sa f, zSO n so sc ((fX4_announce_h D i x2).2), zOu K ao (vp_updL g 0 1)]) rfl dL_announce_16 ?_
    refine z_goto B (tgt := 24) dL_announce_17 (by decide) ?_
    refine z_iconst B (v := 0) dL_announce_24 rfl ?_
    have hF : fL_announce_h D i x2 g = (0, ((fX4_announce_h D i x2).2), (vp_updL g 0 1)) := if_neg c1
    exact z_ret1 B rfl dL_announce_25 () (trivial) (Nat.le_of_ble_eq_true rfl) (Nat.le_of_ble_eq_true rfl) (by rw [hF]) (by rw [hF])
def fL_announce_m (x1 : Int32) (x2 : Int32) (g : Nat → Int64) : Int32 :=
  1
theorem hwL_announce_cl13 : Cond.classLink RL 13 "java/lang/IndexOutOfBoundsException" ∈ wsL_announce := by decide +kernel
set_option maxHeartbeats 4000000 in
set_option maxRecDepth 100000 in
theorem kL_announce_m (l : Launch) (hl : l.stackTraces = false) (K : zK) (ax : Nat) (zn : Nat) (sa : Nat) (la : Nat) (tr : Nat) (tc : Nat) (X : Nat → Int32) (f : Nat → Option Nat) (x1 : Int32) (x2 : Int32) (ao : Nat) (g : Nat → Int64) (hfn : x1 < 4 → ¬ x1 < 0 → f x1.toNatClampNeg = none) : zMet l K yL_announce wsL_announce { frames := 8, cells := 1, slots := 6, locals := 128 } [.ref ax, .int x1, .int x2, .ref ao] [zXo ax zn sa la tr tc X, zSa K sa f, zOu K ao g] (some (.int (fL_announce_m x1 x2 g))) [zXo ax zn sa la tr tc X, zSa K sa f, zOu K ao g] True zNo := by
  refine zMeN.ofH (hh := [(0, 17, 20, 13)]) (cc := cL_announce) (maxL := 5) (ret := (some .int)) (own := RL) (nm := "announce") hl (by decide +kernel) rfl rfl rfl (Nat.le_of_ble_eq_true rfl) (lv := [(0, .ref ax), (1, .int x1), (2, .int x2), (3, .ref ao)]) rfl ?_
  intro p e s m args below meth c A B
  refine z_aload_n B dL_announce_0 3 rfl ?_
  refine z_iconst B (v := 0) dL_announce_1 rfl ?_
  refine z_aload_n B dL_announce_2 0 rfl ?_
  refine z_iload_n B dL_announce_3 1 rfl ?_
  refine z_iload_n B dL_announce_4 2 rfl ?_
  refine z_V1 B (kX4_announce_m l hl K ax zn sa la tr tc X f x1 x2 hfn) [0, 1] [2] (br := [zOu K ao g]) (bs' := [zXo ax zn sa la tr tc X, zSa K sa f, zOu K ao g]) (st := [.int 0, .ref ao]) (nA := 2) (zsp rfl rfl rfl) (zsp rfl rfl rfl) 0 0 rfl rfl rfl rfl gL_announce_X4_announce rfl (by decide +kernel) ⟨Nat.le_of_ble_eq_true rfl, Nat.le_of_ble_eq_true rfl⟩ rfl rfl (Nat.le_of_ble_eq_true rfl) ⟨Nat.le_of_ble_eq_true rfl, Nat.le_of_ble_eq_true rfl⟩ dL_announce_5 (fun E hE => ?_) (fun h9 => h9.elim)
  · rcases hE with ⟨rfl, hx⟩
    · refine z_catch B [] ⟨0, 17, 20, 13⟩ [] rfl (fun _ h => absurd h List.not_mem_nil) rfl (by decide) hwL_announce_cl13 z_ca1 (fun q9 => ?_)
      refine z_astore B (lv' := [(4, .ref q9), (0, .ref ax), (1, .int x1), (2, .int x2), (3, .ref ao)]) dL_announce_20 (by decide) rfl ?_
      refine z_iconst B (v := 1) dL_announce_22 rfl ?_
      have hF : fL_announce_m x1 x2 g = 1 := rfl
      exact z_ret1 B rfl dL_announce_23 () (trivial) (Nat.le_of_ble_eq_true rfl) (Nat.le_of_ble_eq_true rfl) (by rw [hF]) (by rw [hF])
def fL_siteFor_h (D : Nat → Nat → Int32) (i : Nat) (x1 : Int32) (g : Nat → Int64) : Int32 × (Nat → Int64) :=
  if (fX4_siteFor_h D i x1).1 = 0 then
    (0, (vp_updL g 0 (((fX4_siteFor_h D i x1).2).toInt64)))
  else
    (1, g)
theorem hwL_siteFor_cl15 : Cond.classLink RL 15 "java/lang/IllegalArgumentException" ∈ wsL_siteFor := by decide +kernel
set_option maxHeartbeats 4000000 in
set_option maxRecDepth 100000 in
theorem kL_siteFor_h (l : Launch) (hl : l.stackTraces = false) (K : zK) (ax : Nat) (zn : Nat) (sa : Nat) (la : Nat) (tr : Nat) (tc : Nat) (X : Nat → Int32) (f : Nat → Option Nat) (n : Nat) (so : Nat → Nat) (sc : Nat → Nat → Nat) (D : Nat → Nat → Int32) (i : Nat) (x1 : Int32) (ao : Nat) (g : Nat → Int64) (hf1 : ∀ a, a < n → f a = some (so a)) (hf2 : ∀ a, n ≤ a → a < 4 → f a = none) (hi : i < n) (hN : fX4_near n D x1 = some i) : zMet l K yL_siteFor wsL_siteFor { frames := 8, cells := 1, slots := 6, locals := 126 } [.ref ax, .int x1, .ref ao] [zXo ax zn sa la tr tc X, zSa K sa f, zSO n so sc D, zOu K ao g] (some (.int ((fL_siteFor_h D i x1 g).1))) [zXo ax zn sa la tr tc X, zSa K sa f, zSO n so sc D, zOu K ao ((fL_siteFor_h D i x1 g).2)] True zNo := by
  refine zMeN.ofH (hh := [(0, 9, 12, 15)]) (cc := cL_siteFor) (maxL := 4) (ret := (some .int)) (own := RL) (nm := "siteFor") hl (by decide +kernel) rfl rfl rfl (Nat.le_of_ble_eq_true rfl) (lv := [(0, .ref ax), (1, .int x1), (2, .ref ao)]) rfl ?_
  intro p e s m args below meth c A B
  refine z_aload_n B dL_siteFor_0 2 rfl ?_
  refine z_iconst B (v := 0) dL_siteFor_1 rfl ?_
  refine z_aload_n B dL_siteFor_2 0 rfl ?_
  refine z_iload_n B dL_siteFor_3 1 rfl ?_
  refine z_V1 B (kX4_siteFor_h l hl K ax zn sa la tr tc X f n so sc D i x1 hf1 hf2 hi hN) [0, 1, 2] [3] (br := [zOu K ao g]) (bs' := [zXo ax zn sa la tr tc X, zSa K sa f, zSO n so sc D, zOu K ao g]) (st := [.int 0, .ref ao]) (nA := 1) (zsp rfl rfl rfl) (zsp rfl rfl rfl) 0 0 rfl rfl rfl rfl gL_siteFor_X4_siteFor rfl (by decide +kernel) ⟨Nat.le_of_ble_eq_true rfl, Nat.le_of_ble_eq_true rfl⟩ rfl rfl (Nat.le_of_ble_eq_true rfl) ⟨Nat.le_of_ble_eq_true rfl, Nat.le_of_ble_eq_true rfl⟩ dL_siteFor_4 (fun E hE => ?_) (fun h1 => ?_)
  · rcases hE with ⟨rfl, hx⟩
    · refine z_catch B [] ⟨0, 9, 12, 15⟩ [] rfl (fun _ h => absurd h List.not_mem_nil) rfl (by decide) hwL_siteFor_cl15 z_ca2 (fun q9 => ?_)
      refine z_astore_n B (lv' := [(3, .ref q9), (0, .ref ax), (1, .int x1), (2, .ref ao)]) dL_siteFor_12 (by decide) rfl ?_
      refine z_iconst B (v := 1) dL_siteFor_13 rfl ?_
      have hF : fL_siteFor_h D i x1 g = (1, g) := if_neg (show ¬ (fX4_siteFor_h D i x1).1 = 0 by rw [hx]; decide)
      exact z_ret1 B rfl dL_siteFor_14 () (trivial) (Nat.le_of_ble_eq_true rfl) (Nat.le_of_ble_eq_true rfl) (by rw [hF]) (by rw [hF])
  refine z_i2l B dL_siteFor_7 ?_
  refine z_last B (N := 1) (f := g) 3 0 rfl rfl (z_vpc (k := 0) rfl (by decide)) (bs' := [zXo ax zn sa la tr tc X, zSa K sa f, zSO n so sc D, zOu K ao (vp_updL g 0 (((fX4_siteFor_h D i x1).2).toInt64))]) rfl dL_siteFor_8 ?_
  refine z_goto B (tgt := 15) dL_siteFor_9 (by decide) ?_
  refine z_iconst B (v := 0) dL_siteFor_15 rfl ?_
  have hF : fL_siteFor_h D i x1 g = (0, (vp_updL g 0 (((fX4_siteFor_h D i x1).2).toInt64))) := if_pos h1
  exact z_ret1 B rfl dL_siteFor_16 () (trivial) (Nat.le_of_ble_eq_true rfl) (Nat.le_of_ble_eq_true rfl) (by rw [hF]) (by rw [hF])
def fL_siteFor_m (D : Nat → Nat → Int32) (x1 : Int32) (g : Nat → Int64) : Int32 × (Nat → Int64) :=
  if (fX4_siteFor_m D x1).1 = 0 then
    (0, (vp_updL g 0 (((fX4_siteFor_m D x1).2).toInt64)))
  else
    (1, g)
set_option maxHeartbeats 4000000 in
set_option maxRecDepth 100000 in
theorem kL_siteFor_m (l : Launch) (hl : l.stackTraces = false) (K : zK) (ax : Nat) (zn : Nat) (sa : Nat) (la : Nat) (tr : Nat) (tc : Nat) (X : Nat → Int32) (f : Nat → Option Nat) (n : Nat) (so : Nat → Nat) (sc : Nat → Nat → Nat) (D : Nat → Nat → Int32) (x1 : Int32) (ao : Nat) (g : Nat → Int64) (hf1 : ∀ a, a < n → f a = some (so a)) (hf2 : ∀ a, n ≤ a → a < 4 → f a = none) (hN : fX4_near n D x1 = none) : zMet l K yL_siteFor wsL_siteFor { frames := 8, cells := 1, slots := 6, locals := 126 } [.ref ax, .int x1, .ref ao] [zXo ax zn sa la tr tc X, zSa K sa f, zSO n so sc D, zOu K ao g] (some (.int ((fL_siteFor_m D x1 g).1))) [zXo ax zn sa la tr tc X, zSa K sa f, zSO n so sc D, zOu K ao ((fL_siteFor_m D x1 g).2)] True zNo := by
  refine zMeN.ofH (hh := [(0, 9, 12, 15)]) (cc := cL_siteFor) (maxL := 4) (ret := (some .int)) (own := RL) (nm := "siteFor") hl (by decide +kernel) rfl rfl rfl (Nat.le_of_ble_eq_true rfl) (lv := [(0, .ref ax), (1, .int x1), (2, .ref ao)]) rfl ?_
  intro p e s m args below meth c A B
  refine z_aload_n B dL_siteFor_0 2 rfl ?_
  refine z_iconst B (v := 0) dL_siteFor_1 rfl ?_
  refine z_aload_n B dL_siteFor_2 0 rfl ?_
  refine z_iload_n B dL_siteFor_3 1 rfl ?_
  refine z_V1 B (kX4_siteFor_m l hl K ax zn sa la tr tc X f n so sc D x1 hf1 hf2 hN) [0, 1, 2] [3] (br := [zOu K ao g]) (bs' := [zXo ax zn sa la tr tc X, zSa K sa f, zSO n so sc D, zOu K ao g]) (st := [.int 0, .ref ao]) (nA := 1) (zsp rfl rfl rfl) (zsp rfl rfl rfl) 0 0 rfl rfl rfl rfl gL_siteFor_X4_siteFor rfl (by decide +kernel) ⟨Nat.le_of_ble_eq_true rfl, Nat.le_of_ble_eq_true rfl⟩ rfl rfl (Nat.le_of_ble_eq_true rfl) ⟨Nat.le_of_ble_eq_true rfl, Nat.le_of_ble_eq_true rfl⟩ dL_siteFor_4 (fun E hE => ?_) (fun h1 => ?_)
  · rcases hE with ⟨rfl, hx⟩
    · refine z_catch B [] ⟨0, 9, 12, 15⟩ [] rfl (fun _ h => absurd h List.not_mem_nil) rfl (by decide) hwL_siteFor_cl15 z_ca2 (fun q9 => ?_)
      refine z_astore_n B (lv' := [(3, .ref q9), (0, .ref ax), (1, .int x1), (2, .ref ao)]) dL_siteFor_12 (by decide) rfl ?_
      refine z_iconst B (v := 1) dL_siteFor_13 rfl ?_
      have hF : fL_siteFor_m D x1 g = (1, g) := if_neg (show ¬ (fX4_siteFor_m D x1).1 = 0 by rw [hx]; decide)
      exact z_ret1 B rfl dL_siteFor_14 () (trivial) (Nat.le_of_ble_eq_true rfl) (Nat.le_of_ble_eq_true rfl) (by rw [hF]) (by rw [hF])
  refine z_i2l B dL_siteFor_7 ?_
  refine z_last B (N := 1) (f := g) 3 0 rfl rfl (z_vpc (k := 0) rfl (by decide)) (bs' := [zXo ax zn sa la tr tc X, zSa K sa f, zSO n so sc D, zOu K ao (vp_updL g 0 (((fX4_siteFor_m D x1).2).toInt64))]) rfl dL_siteFor_8 ?_
  refine z_goto B (tgt := 15) dL_siteFor_9 (by decide) ?_
  refine z_iconst B (v := 0) dL_siteFor_15 rfl ?_
  have hF : fL_siteFor_m D x1 g = (0, (vp_updL g 0 (((fX4_siteFor_m D x1).2).toInt64))) := if_pos h1
  exact z_ret1 B rfl dL_siteFor_16 () (trivial) (Nat.le_of_ble_eq_true rfl) (Nat.le_of_ble_eq_true rfl) (by rw [hF]) (by rw [hF])
def fL_flush_h (D : Nat → Nat → Int32) (i : Nat) (C : Nat → Nat → Int32) (x2 : Int32) (g : Nat → Int64) : Int32 × (Nat → Nat → Int32) × (Nat → Int64) :=
  if (fX4_flush_h D i C x2).1 = 0 then
    if ((fX4_flush_h D i C x2).2.1) = 0 then
      (0, ((fX4_flush_h D i C x2).2.2), (vp_updL g 0 0))
    else
      (0, ((fX4_flush_h D i C x2).2.2), (vp_updL g 0 1))
  else
    (1, C, g)
theorem hwL_flush_cl13 : Cond.classLink RL 13 "java/lang/IndexOutOfBoundsException" ∈ wsL_flush := by decide +kernel
set_option maxHeartbeats 4000000 in
set_option maxRecDepth 100000 in
theorem kL_flush_h (l : Launch) (hl : l.stackTraces = false) (K : zK) (ax : Nat) (zn : Nat) (sa : Nat) (la : Nat) (tr : Nat) (tc : Nat) (X : Nat → Int32) (f : Nat → Option Nat) (n : Nat) (so : Nat → Nat) (sc : Nat → Nat → Nat) (D : Nat → Nat → Int32) (i : Nat) (C : Nat → Nat → Int32) (x2 : Int32) (ao : Nat) (g : Nat → Int64) (hi4 : i < 4) (hi : i < n) (hfi : f (nI i).toNatClampNeg = some (so i)) : zMet l K yL_flush wsL_flush { frames := 9, cells := 1, slots := 6, locals := 147 } [.ref ax, .int (nI i), .int x2, .ref ao] [zXo ax zn sa la tr tc X, zSa K sa f, zSO n so sc D, zCa K (sc i) C, zOu K ao g] (some (.int ((fL_flush_h D i C x2 g).1))) [zXo ax zn sa la tr tc X, zSa K sa f, zSO n so sc D, zCa K (sc i) ((fL_flush_h D i C x2 g).2.1), zOu K ao ((fL_flush_h D i C x2 g).2.2)] True zNo := by
  refine zMeN.ofH (hh := [(0, 17, 20, 13)]) (cc := cL_flush) (maxL := 5) (ret := (some .int)) (own := RL) (nm := "flush") hl (by decide +kernel) rfl rfl rfl (Nat.le_of_ble_eq_true rfl) (lv := [(0, .ref ax), (1, .int (nI i)), (2, .int x2), (3, .ref ao)]) rfl ?_
  intro p e s m args below meth c A B
  refine z_aload_n B dL_flush_0 3 rfl ?_
  refine z_iconst B (v := 0) dL_flush_1 rfl ?_
  refine z_aload_n B dL_flush_2 0 rfl ?_
  refine z_iload_n B dL_flush_3 1 rfl ?_
  refine z_iload_n B dL_flush_4 2 rfl ?_
  refine z_V1 B (kX4_flush_h l hl K ax zn sa la tr tc X f n so sc D i C x2 hi4 hi hfi) [0, 1, 2, 3] [4] (br := [zOu K ao g]) (bs' := [zXo ax zn sa la tr tc X, zSa K sa f, zSO n so sc D, zCa K (sc i) ((fX4_flush_h D i C x2).2.2), zOu K ao g]) (st := [.int 0, .ref ao]) (nA := 2) (zsp rfl rfl rfl) (zsp rfl rfl rfl) 0 0 rfl rfl rfl rfl gL_flush_X4_flush rfl (by decide +kernel) ⟨Nat.le_of_ble_eq_true rfl, Nat.le_of_ble_eq_true rfl⟩ rfl rfl (Nat.le_of_ble_eq_true rfl) ⟨Nat.le_of_ble_eq_true rfl, Nat.le_of_ble_eq_true rfl⟩ dL_flush_5 (fun E hE => ?_) (fun h1 => ?_)
  · rcases hE with ⟨rfl, hx⟩
    · refine z_catch B [] ⟨0, 17, 20, 13⟩ [] rfl (fun _ h => absurd h List.not_mem_nil) rfl (by decide) hwL_flush_cl13 z_ca1 (fun q9 => ?_)
      refine z_astore B (lv' := [(4, .ref q9), (0, .ref ax), (1, .int (nI i)), (2, .int x2), (3, .ref ao)]) dL_flush_20 (by decide) rfl ?_
      refine z_iconst B (v := 1) dL_flush_22 rfl ?_
      have hF : fL_flush_h D i C x2 g = (1, C, g) := if_neg (show ¬ (fX4_flush_h D i C x2).1 = 0 by rw [hx]; decide)
      exact z_ret1 B rfl dL_flush_23 () (trivial) (Nat.le_of_ble_eq_true rfl) (Nat.le_of_ble_eq_true rfl) (by rw [hF]) (by rw [hF])
  refine z_ifeq B 15 dL_flush_8 (by decide) (fun c2 => ?_) (fun c2 => ?_)
  · refine z_lconst B (v := 0) dL_flush_15 rfl ?_
    refine z_last B (N := 1) (f := g) 4 0 rfl rfl (z_vpc (k := 0) rfl (by decide)) (bs' := [zXo ax zn sa la tr tc X, zSa K sa f, zSO n so sc D, zCa K (sc i) ((fX4_flush_h D i C x2).2.2), zOu K ao (vp_updL g 0 0)]) rfl dL_flush_16 ?_
    refine z_goto B (tgt := 24) dL_flush_17 (by decide) ?_
    refine z_iconst B (v := 0) dL_flush_24 rfl ?_
    have hF : fL_flush_h D i C x2 g = (0, ((fX4_flush_h D i C x2).2.2), (vp_updL g 0 0)) := (if_pos h1).trans (if_pos c2)
    exact z_ret1 B rfl dL_flush_25 () (trivial) (Nat.le_of_ble_eq_true rfl) (Nat.le_of_ble_eq_true rfl) (by rw [hF]) (by rw [hF])
  · refine z_lconst B (v := 1) dL_flush_11 rfl ?_
    refine z_goto B (tgt := 16) dL_flush_12 (by decide) ?_
    refine z_last B (N := 1) (f := g) 4 0 rfl rfl (z_vpc (k := 0) rfl (by decide)) (bs' := [zXo ax zn sa la tr tc X, zSa K sa f, zSO n so sc D, zCa K (sc i) ((fX4_flush_h D i C x2).2.2), zOu K ao (vp_updL g 0 1)]) rfl dL_flush_16 ?_
    refine z_goto B (tgt := 24) dL_flush_17 (by decide) ?_
    refine z_iconst B (v := 0) dL_flush_24 rfl ?_
    have hF : fL_flush_h D i C x2 g = (0, ((fX4_flush_h D i C x2).2.2), (vp_updL g 0 1)) := (if_pos h1).trans (if_neg c2)
    exact z_ret1 B rfl dL_flush_25 () (trivial) (Nat.le_of_ble_eq_true rfl) (Nat.le_of_ble_eq_true rfl) (by rw [hF]) (by rw [hF])
def fL_flush_m (x1 : Int32) (x2 : Int32) (g : Nat → Int64) : Int32 :=
  1
set_option maxHeartbeats 4000000 in
set_option maxRecDepth 100000 in
theorem kL_flush_m (l : Launch) (hl : l.stackTraces = false) (K : zK) (ax : Nat) (zn : Nat) (sa : Nat) (la : Nat) (tr : Nat) (tc : Nat) (X : Nat → Int32) (f : Nat → Option Nat) (x1 : Int32) (x2 : Int32) (ao : Nat) (g : Nat → Int64) (hfn : x1 < 4 → ¬ x1 < 0 → f x1.toNatClampNeg = none) : zMet l K yL_flush wsL_flush { frames := 9, cells := 1, slots := 6, locals := 149 } [.ref ax, .int x1, .int x2, .ref ao] [zXo ax zn sa la tr tc X, zSa K sa f, zOu K ao g] (some (.int (fL_flush_m x1 x2 g))) [zXo ax zn sa la tr tc X, zSa K sa f, zOu K ao g] True zNo := by
  refine zMeN.ofH (hh := [(0, 17, 20, 13)]) (cc := cL_flush) (maxL := 5) (ret := (some .int)) (own := RL) (nm := "flush") hl (by decide +kernel) rfl rfl rfl (Nat.le_of_ble_eq_true rfl) (lv := [(0, .ref ax), (1, .int x1), (2, .int x2), (3, .ref ao)]) rfl ?_
  intro p e s m args below meth c A B
  refine z_aload_n B dL_flush_0 3 rfl ?_
  refine z_iconst B (v := 0) dL_flush_1 rfl ?_
  refine z_aload_n B dL_flush_2 0 rfl ?_
  refine z_iload_n B dL_flush_3 1 rfl ?_
  refine z_iload_n B dL_flush_4 2 rfl ?_
  refine z_V1 B (kX4_flush_m l hl K ax zn sa la tr tc X f x1 x2 hfn) [0, 1] [2] (br := [zOu K ao g]) (bs' := [zXo ax zn sa la tr tc X, zSa K sa f, zOu K ao g]) (st := [.int 0, .ref ao]) (nA := 2) (zsp rfl rfl rfl) (zsp rfl rfl rfl) 0 0 rfl rfl rfl rfl gL_flush_X4_flush rfl (by decide +kernel) ⟨Nat.le_of_ble_eq_true rfl, Nat.le_of_ble_eq_true rfl⟩ rfl rfl (Nat.le_of_ble_eq_true rfl) ⟨Nat.le_of_ble_eq_true rfl, Nat.le_of_ble_eq_true rfl⟩ dL_flush_5 (fun E hE => ?_) (fun h9 => h9.elim)
  · rcases hE with ⟨rfl, hx⟩
    · refine z_catch B [] ⟨0, 17, 20, 13⟩ [] rfl (fun _ h => absurd h List.not_mem_nil) rfl (by decide) hwL_flush_cl13 z_ca1 (fun q9 => ?_)
      refine z_astore B (lv' := [(4, .ref q9), (0, .ref ax), (1, .int x1), (2, .int x2), (3, .ref ao)]) dL_flush_20 (by decide) rfl ?_
      refine z_iconst B (v := 1) dL_flush_22 rfl ?_
      have hF : fL_flush_m x1 x2 g = 1 := rfl
      exact z_ret1 B rfl dL_flush_23 () (trivial) (Nat.le_of_ble_eq_true rfl) (Nat.le_of_ble_eq_true rfl) (by rw [hF]) (by rw [hF])
def fL_query_h (X : Nat → Int32) (D : Nat → Nat → Int32) (i : Nat) (C : Nat → Nat → Int32) (Z : Nat → Nat → Int32) (W : Nat → Int32) (F : Nat → Int32) (O : Nat → Int32) (x1 : Int32) (x2 : Int32) (g : Nat → Int64) : Int32 × (Nat → Int32) × (Nat → Nat → Int32) × (Nat → Int32) × (Nat → Int32) × (Nat → Int64) :=
  if (fX4_query_h X D i C Z W F O x1 x2).1 = 0 then
    (0, ((fX4_query_h X D i C Z W F O x1 x2).2.2.1), ((fX4_query_h X D i C Z W F O x1 x2).2.2.2.1), ((fX4_query_h X D i C Z W F O x1 x2).2.2.2.2.1), ((fX4_query_h X D i C Z W F O x1 x2).2.2.2.2.2), (vp_updL g 0 (((fX4_query_h X D i C Z W F O x1 x2).2.1).toInt64)))
  else
    if (fX4_query_h X D i C Z W F O x1 x2).1 = 1 then
      (1, X, C, F, O, g)
    else
      (2, X, C, F, O, g)
theorem hwL_query_cl13 : Cond.classLink RL 13 "java/lang/IndexOutOfBoundsException" ∈ wsL_query := by decide +kernel
theorem hwL_query_cl15 : Cond.classLink RL 15 "java/lang/IllegalArgumentException" ∈ wsL_query := by decide +kernel
set_option maxHeartbeats 4000000 in
set_option maxRecDepth 100000 in
theorem kL_query_h (l : Launch) (hl : l.stackTraces = false) (K : zK) (ax : Nat) (az : Nat → Nat) (sa : Nat) (ak : Nat → Nat) (tr : Nat) (tc : Nat) (X : Nat → Int32) (f : Nat → Option Nat) (n : Nat) (so : Nat → Nat) (sc : Nat → Nat → Nat) (D : Nat → Nat → Int32) (i : Nat) (C : Nat → Nat → Int32) (Z : Nat → Nat → Int32) (W : Nat → Int32) (F : Nat → Int32) (O : Nat → Int32) (x1 : Int32) (x2 : Int32) (ao : Nat) (g : Nat → Int64) (hf1 : ∀ a, a < n → f a = some (so a)) (hf2 : ∀ a, n ≤ a → a < 4 → f a = none) (hi : i < n) (hN : fX4_near n D x1 = some i) : zMet l K yL_query wsL_query { frames := 9, cells := 2, slots := 12, locals := 164 } [.ref ax, .int x1, .int x2, .ref ao] [zXo ax (az 0) sa (ak 0) tr tc X, zSa K sa f, zSO n so sc D, zCa K (sc i) C, zZo K az Z W, zCo K ak F O, zOu K ao g] (some (.int ((fL_query_h X D i C Z W F O x1 x2 g).1))) [zXo ax (az 0) sa (ak 0) tr tc ((fL_query_h X D i C Z W F O x1 x2 g).2.1), zSa K sa f, zSO n so sc D, zCa K (sc i) ((fL_query_h X D i C Z W F O x1 x2 g).2.2.1), zZo K az Z W, zCo K ak ((fL_query_h X D i C Z W F O x1 x2 g).2.2.2.1) ((fL_query_h X D i C Z W F O x1 x2 g).2.2.2.2.1), zOu K ao ((fL_query_h X D i C Z W F O x1 x2 g).2.2.2.2.2)] True zNo := by
  refine zMeN.ofH (hh := [(0, 10, 13, 13), (0, 10, 17, 15), (0, 10, 21, 34)]) (cc := cL_query) (maxL := 5) (ret := (some .int)) (own := RL) (nm := "query") hl (by decide +kernel) rfl rfl rfl (Nat.le_of_ble_eq_true rfl) (lv := [(0, .ref ax), (1, .int x1), (2, .int x2), (3, .ref ao)]) rfl ?_
  intro p e s m args below meth c A B
  refine z_aload_n B dL_query_0 3 rfl ?_
  refine z_iconst B (v := 0) dL_query_1 rfl ?_
  refine z_aload_n B dL_query_2 0 rfl ?_
  refine z_iload_n B dL_query_3 1 rfl ?_
  refine z_iload_n B dL_query_4 2 rfl ?_
  refine z_V1 B (kX4_query_h l hl K ax az sa ak tr tc X f n so sc D i C Z W F O x1 x2 hf1 hf2 hi hN) [0, 1, 2, 3, 4, 5] [6] (br := [zOu K ao g]) (bs' := [zXo ax (az 0) sa (ak 0) tr tc ((fX4_query_h X D i C Z W F O x1 x2).2.2.1), zSa K sa f, zSO n so sc D, zCa K (sc i) ((fX4_query_h X D i C Z W F O x1 x2).2.2.2.1), zZo K az Z W, zCo K ak ((fX4_query_h X D i C Z W F O x1 x2).2.2.2.2.1) ((fX4_query_h X D i C Z W F O x1 x2).2.2.2.2.2), zOu K ao g]) (st := [.int 0, .ref ao]) (nA := 2) (zsp rfl rfl rfl) (zsp rfl rfl rfl) 0 0 rfl rfl rfl rfl gL_query_X4_query rfl (by decide +kernel) ⟨Nat.le_of_ble_eq_true rfl, Nat.le_of_ble_eq_true rfl⟩ rfl rfl (Nat.le_of_ble_eq_true rfl) ⟨Nat.le_of_ble_eq_true rfl, Nat.le_of_ble_eq_true rfl⟩ dL_query_5 (fun E hE => ?_) (fun h1 => ?_)
  · rcases hE with ⟨rfl, hx⟩ | ⟨rfl, hx⟩
    · refine z_catch B [] ⟨0, 10, 13, 13⟩ [⟨0, 10, 17, 15⟩, ⟨0, 10, 21, 34⟩] rfl (fun _ h => absurd h List.not_mem_nil) rfl (by decide) hwL_query_cl13 z_ca1 (fun q9 => ?_)
      refine z_astore B (lv' := [(4, .ref q9), (0, .ref ax), (1, .int x1), (2, .int x2), (3, .ref ao)]) dL_query_13 (by decide) rfl ?_
      refine z_iconst B (v := 1) dL_query_15 rfl ?_
      have hF : fL_query_h X D i C Z W F O x1 x2 g = (1, X, C, F, O, g) := (if_neg (show ¬ (fX4_query_h X D i C Z W F O x1 x2).1 = 0 by rw [hx]; decide)).trans (if_pos hx)
      exact z_ret1 B rfl dL_query_16 () (trivial) (Nat.le_of_ble_eq_true rfl) (Nat.le_of_ble_eq_true rfl) (by rw [hF]) (by rw [hF])
    · refine z_catch B [⟨0, 10, 13, 13⟩] ⟨0, 10, 17, 15⟩ [⟨0, 10, 21, 34⟩] rfl (z_pass1 (Or.inr ⟨by decide, _, hwL_query_cl13, B.2.2.2.2.2.2.2.2.2.2.2.1⟩)) rfl (by decide) hwL_query_cl15 z_ca2 (fun q9 => ?_)
      refine z_astore B (lv' := [(4, .ref q9), (0, .ref ax), (1, .int x1), (2, .int x2), (3, .ref ao)]) dL_query_17 (by decide) rfl ?_
      refine z_iconst B (v := 2) dL_query_19 rfl ?_
      have hF : fL_query_h X D i C Z W F O x1 x2 g = (2, X, C, F, O, g) := (if_neg (show ¬ (fX4_query_h X D i C Z W F O x1 x2).1 = 0 by rw [hx]; decide)).trans (if_neg (show ¬ (fX4_query_h X D i C Z W F O x1 x2).1 = 1 by rw [hx]; decide))
      exact z_ret1 B rfl dL_query_20 () (trivial) (Nat.le_of_ble_eq_true rfl) (Nat.le_of_ble_eq_true rfl) (by rw [hF]) (by rw [hF])
  refine z_i2l B dL_query_8 ?_
  refine z_last B (N := 1) (f := g) 6 0 rfl rfl (z_vpc (k := 0) rfl (by decide)) (bs' := [zXo ax (az 0) sa (ak 0) tr tc ((fX4_query_h X D i C Z W F O x1 x2).2.2.1), zSa K sa f, zSO n so sc D, zCa K (sc i) ((fX4_query_h X D i C Z W F O x1 x2).2.2.2.1), zZo K az Z W, zCo K ak ((fX4_query_h X D i C Z W F O x1 x2).2.2.2.2.1) ((fX4_query_h X D i C Z W F O x1 x2).2.2.2.2.2), zOu K ao (vp_updL g 0 (((fX4_query_h X D i C Z W F O x1 x2).2.1).toInt64))]) rfl dL_query_9 ?_
  refine z_goto B (tgt := 25) dL_query_10 (by decide) ?_
  refine z_iconst B (v := 0) dL_query_25 rfl ?_
  have hF : fL_query_h X D i C Z W F O x1 x2 g = (0, ((fX4_query_h X D i C Z W F O x1 x2).2.2.1), ((fX4_query_h X D i C Z W F O x1 x2).2.2.2.1), ((fX4_query_h X D i C Z W F O x1 x2).2.2.2.2.1), ((fX4_query_h X D i C Z W F O x1 x2).2.2.2.2.2), (vp_updL g 0 (((fX4_query_h X D i C Z W F O x1 x2).2.1).toInt64))) := if_pos h1
  exact z_ret1 B rfl dL_query_26 () (trivial) (Nat.le_of_ble_eq_true rfl) (Nat.le_of_ble_eq_true rfl) (by rw [hF]) (by rw [hF])
def fL_query_m (D : Nat → Nat → Int32) (x1 : Int32) (x2 : Int32) (g : Nat → Int64) : Int32 :=
  if (fX4_query_m D x1 x2).1 = 1 then
    1
  else
    if (fX4_query_m D x1 x2).1 = 2 then
      2
    else
      3
theorem hwL_query_cl34 : Cond.classLink RL 34 "java/lang/IllegalStateException" ∈ wsL_query := by decide +kernel
set_option maxHeartbeats 4000000 in
set_option maxRecDepth 100000 in
theorem kL_query_m (l : Launch) (hl : l.stackTraces = false) (K : zK) (ax : Nat) (zn : Nat) (sa : Nat) (la : Nat) (tr : Nat) (tc : Nat) (X : Nat → Int32) (f : Nat → Option Nat) (n : Nat) (so : Nat → Nat) (sc : Nat → Nat → Nat) (D : Nat → Nat → Int32) (x1 : Int32) (x2 : Int32) (ao : Nat) (g : Nat → Int64) (hf1 : ∀ a, a < n → f a = some (so a)) (hf2 : ∀ a, n ≤ a → a < 4 → f a = none) (hN : fX4_near n D x1 = none) : zMet l K yL_query wsL_query { frames := 9, cells := 3, slots := 18, locals := 151 } [.ref ax, .int x1, .int x2, .ref ao] [zXo ax zn sa la tr tc X, zSa K sa f, zSO n so sc D, zOu K ao g] (some (.int (fL_query_m D x1 x2 g))) [zXo ax zn sa la tr tc X, zSa K sa f, zSO n so sc D, zOu K ao g] True zNo := by
  refine zMeN.ofH (hh := [(0, 10, 13, 13), (0, 10, 17, 15), (0, 10, 21, 34)]) (cc := cL_query) (maxL := 5) (ret := (some .int)) (own := RL) (nm := "query") hl (by decide +kernel) rfl rfl rfl (Nat.le_of_ble_eq_true rfl) (lv := [(0, .ref ax), (1, .int x1), (2, .int x2), (3, .ref ao)]) rfl ?_
  intro p e s m args below meth c A B
  refine z_aload_n B dL_query_0 3 rfl ?_
  refine z_iconst B (v := 0) dL_query_1 rfl ?_
  refine z_aload_n B dL_query_2 0 rfl ?_
  refine z_iload_n B dL_query_3 1 rfl ?_
  refine z_iload_n B dL_query_4 2 rfl ?_
  refine z_V1 B (kX4_query_m l hl K ax zn sa la tr tc X f n so sc D x1 x2 hf1 hf2 hN) [0, 1, 2] [3] (br := [zOu K ao g]) (bs' := [zXo ax zn sa la tr tc X, zSa K sa f, zSO n so sc D, zOu K ao g]) (st := [.int 0, .ref ao]) (nA := 2) (zsp rfl rfl rfl) (zsp rfl rfl rfl) 0 0 rfl rfl rfl rfl gL_query_X4_query rfl (by decide +kernel) ⟨Nat.le_of_ble_eq_true rfl, Nat.le_of_ble_eq_true rfl⟩ rfl rfl (Nat.le_of_ble_eq_true rfl) ⟨Nat.le_of_ble_eq_true rfl, Nat.le_of_ble_eq_true rfl⟩ dL_query_5 (fun E hE => ?_) (fun h9 => h9.elim)
  · rcases hE with ⟨rfl, hx⟩ | ⟨rfl, hx⟩ | ⟨rfl, hx⟩
    · refine z_catch B [] ⟨0, 10, 13, 13⟩ [⟨0, 10, 17, 15⟩, ⟨0, 10, 21, 34⟩] rfl (fun _ h => absurd h List.not_mem_nil) rfl (by decide) hwL_query_cl13 z_ca1 (fun q9 => ?_)
      refine z_astore B (lv' := [(4, .ref q9), (0, .ref ax), (1, .int x1), (2, .int x2), (3, .ref ao)]) dL_query_13 (by decide) rfl ?_
      refine z_iconst B (v := 1) dL_query_15 rfl ?_
      have hF : fL_query_m D x1 x2 g = 1 := if_pos hx
      exact z_ret1 B rfl dL_query_16 () (trivial) (Nat.le_of_ble_eq_true rfl) (Nat.le_of_ble_eq_true rfl) (by rw [hF]) (by rw [hF])
    · refine z_catch B [⟨0, 10, 13, 13⟩] ⟨0, 10, 17, 15⟩ [⟨0, 10, 21, 34⟩] rfl (z_pass1 (Or.inr ⟨by decide, _, hwL_query_cl13, B.2.2.2.2.2.2.2.2.2.2.2.1⟩)) rfl (by decide) hwL_query_cl15 z_ca2 (fun q9 => ?_)
      refine z_astore B (lv' := [(4, .ref q9), (0, .ref ax), (1, .int x1), (2, .int x2), (3, .ref ao)]) dL_query_17 (by decide) rfl ?_
      refine z_iconst B (v := 2) dL_query_19 rfl ?_
      have hF : fL_query_m D x1 x2 g = 2 := (if_neg (show ¬ (fX4_query_m D x1 x2).1 = 1 by rw [hx]; decide)).trans (if_pos hx)
      exact z_ret1 B rfl dL_query_20 () (trivial) (Nat.le_of_ble_eq_true rfl) (Nat.le_of_ble_eq_true rfl) (by rw [hF]) (by rw [hF])
    · refine z_catch B [⟨0, 10, 13, 13⟩, ⟨0, 10, 17, 15⟩] ⟨0, 10, 21, 34⟩ [] rfl (z_pass2 (Or.inr ⟨by decide, _, hwL_query_cl13, B.2.2.2.2.2.2.2.2.2.2.2.2.1⟩) (Or.inr ⟨by decide, _, hwL_query_cl15, B.2.2.2.2.2.2.2.2.2.2.2.2.2.1⟩)) rfl (by decide) hwL_query_cl34 z_ca3 (fun q9 => ?_)
      refine z_astore B (lv' := [(4, .ref q9), (0, .ref ax), (1, .int x1), (2, .int x2), (3, .ref ao)]) dL_query_21 (by decide) rfl ?_
      refine z_iconst B (v := 3) dL_query_23 rfl ?_
      have hF : fL_query_m D x1 x2 g = 3 := (if_neg (show ¬ (fX4_query_m D x1 x2).1 = 1 by rw [hx]; decide)).trans (if_neg (show ¬ (fX4_query_m D x1 x2).1 = 2 by rw [hx]; decide))
      exact z_ret1 B rfl dL_query_24 () (trivial) (Nat.le_of_ble_eq_true rfl) (Nat.le_of_ble_eq_true rfl) (by rw [hF]) (by rw [hF])
def fL_wouldAnswer_h (X : Nat → Int32) (D : Nat → Nat → Int32) (i : Nat) (C : Nat → Nat → Int32) (Z : Nat → Nat → Int32) (W : Nat → Int32) (F : Nat → Int32) (O : Nat → Int32) (Tc : Nat → Nat → Int32) (x1 : Int32) (x2 : Int32) (g : Nat → Int64) : Int32 × (Nat → Int32) × (Nat → Int32) × (Nat → Nat → Int32) × (Nat → Int64) :=
  if (fX4_wouldAnswer_h X D i C Z W F O Tc x1 x2).1 = 0 then
    (0, ((fX4_wouldAnswer_h X D i C Z W F O Tc x1 x2).2.2.1), ((fX4_wouldAnswer_h X D i C Z W F O Tc x1 x2).2.2.2.1), ((fX4_wouldAnswer_h X D i C Z W F O Tc x1 x2).2.2.2.2), (vp_updL g 0 (((fX4_wouldAnswer_h X D i C Z W F O Tc x1 x2).2.1).toInt64)))
  else
    if (fX4_wouldAnswer_h X D i C Z W F O Tc x1 x2).1 = 1 then
      (1, F, O, Tc, g)
    else
      (2, F, O, Tc, g)
theorem hwL_wouldAnswer_cl13 : Cond.classLink RL 13 "java/lang/IndexOutOfBoundsException" ∈ wsL_wouldAnswer := by decide +kernel
theorem hwL_wouldAnswer_cl15 : Cond.classLink RL 15 "java/lang/IllegalArgumentException" ∈ wsL_wouldAnswer := by decide +kernel
set_option maxHeartbeats 4000000 in
set_option maxRecDepth 100000 in
theorem kL_wouldAnswer_h (l : Launch) (hl : l.stackTraces = false) (K : zK) (ax : Nat) (az : Nat → Nat) (sa : Nat) (la : Nat) (ak : Nat → Nat) (ad : Nat → Nat) (X : Nat → Int32) (f : Nat → Option Nat) (n : Nat) (so : Nat → Nat) (sc : Nat → Nat → Nat) (D : Nat → Nat → Int32) (i : Nat) (C : Nat → Nat → Int32) (Z : Nat → Nat → Int32) (W : Nat → Int32) (F : Nat → Int32) (O : Nat → Int32) (Tc : Nat → Nat → Int32) (x1 : Int32) (x2 : Int32) (ao : Nat) (g : Nat → Int64) (hf1 : ∀ a, a < n → f a = some (so a)) (hf2 : ∀ a, n ≤ a → a < 4 → f a = none) (hi : i < n) (hN : fX4_near n D x1 = some i) : zMet l K yL_wouldAnswer wsL_wouldAnswer { frames := 9, cells := 2, slots := 12, locals := 163 } [.ref ax, .int x1, .int x2, .ref ao] [zXo ax (az 0) sa la (ak 0) (ad 0) X, zSa K sa f, zSO n so sc D, zCa K (sc i) C, zZo K az Z W, zCo K ak F O, zCa K ad Tc, zOu K ao g] (some (.int ((fL_wouldAnswer_h X D i C Z W F O Tc x1 x2 g).1))) [zXo ax (az 0) sa la (ak 0) (ad 0) X, zSa K sa f, zSO n so sc D, zCa K (sc i) C, zZo K az Z W, zCo K ak ((fL_wouldAnswer_h X D i C Z W F O Tc x1 x2 g).2.1) ((fL_wouldAnswer_h X D i C Z W F O Tc x1 x2 g).2.2.1), zCa K ad ((fL_wouldAnswer_h X D i C Z W F O Tc x1 x2 g).2.2.2.1), zOu K ao ((fL_wouldAnswer_h X D i C Z W F O Tc x1 x2 g).2.2.2.2)] True zNo := by
  refine zMeN.ofH (hh := [(0, 10, 13, 13), (0, 10, 17, 15), (0, 10, 21, 34)]) (cc := cL_wouldAnswer) (maxL := 5) (ret := (some .int)) (own := RL) (nm := "wouldAnswer") hl (by decide +kernel) rfl rfl rfl (Nat.le_of_ble_eq_true rfl) (lv := [(0, .ref ax), (1, .int x1), (2, .int x2), (3, .ref ao)]) rfl ?_
  intro p e s m args below meth c A B
  refine z_aload_n B dL_wouldAnswer_0 3 rfl ?_
  refine z_iconst B (v := 0) dL_wouldAnswer_1 rfl ?_
  refine z_aload_n B dL_wouldAnswer_2 0 rfl ?_
  refine z_iload_n B dL_wouldAnswer_3 1 rfl ?_
  refine z_iload_n B dL_wouldAnswer_4 2 rfl ?_
  refine z_V1 B (kX4_wouldAnswer_h l hl K ax az sa la ak ad X f n so sc D i C Z W F O Tc x1 x2 hf1 hf2 hi hN) [0, 1, 2, 3, 4, 5, 6] [7] (br := [zOu K ao g]) (bs' := [zXo ax (az 0) sa la (ak 0) (ad 0) X, zSa K sa f, zSO n so sc D, zCa K (sc i) C, zZo K az Z W, zCo K ak ((fX4_wouldAnswer_h X D i C Z W F O Tc x1 x2).2.2.1) ((fX4_wouldAnswer_h X D i C Z W F O Tc x1 x2).2.2.2.1), zCa K ad ((fX4_wouldAnswer_h X D i C Z W F O Tc x1 x2).2.2.2.2), zOu K ao g]) (st := [.int 0, .ref ao]) (nA := 2) (zsp rfl rfl rfl) (zsp rfl rfl rfl) 0 0 rfl rfl rfl rfl gL_wouldAnswer_X4_wouldAnswer rfl (by decide +kernel) ⟨Nat.le_of_ble_eq_true rfl, Nat.le_of_ble_eq_true rfl⟩ rfl rfl (Nat.le_of_ble_eq_true rfl) ⟨Nat.le_of_ble_eq_true rfl, Nat.le_of_ble_eq_true rfl⟩ dL_wouldAnswer_5 (fun E hE => ?_) (fun h1 => ?_)
  · rcases hE with ⟨rfl, hx⟩ | ⟨rfl, hx⟩
    · refine z_catch B [] ⟨0, 10, 13, 13⟩ [⟨0, 10, 17, 15⟩, ⟨0, 10, 21, 34⟩] rfl (fun _ h => absurd h List.not_mem_nil) rfl (by decide) hwL_wouldAnswer_cl13 z_ca1 (fun q9 => ?_)
      refine z_astore B (lv' := [(4, .ref q9), (0, .ref ax), (1, .int x1), (2, .int x2), (3, .ref ao)]) dL_wouldAnswer_13 (by decide) rfl ?_
      refine z_iconst B (v := 1) dL_wouldAnswer_15 rfl ?_
      have hF : fL_wouldAnswer_h X D i C Z W F O Tc x1 x2 g = (1, F, O, Tc, g) := (if_neg (show ¬ (fX4_wouldAnswer_h X D i C Z W F O Tc x1 x2).1 = 0 by rw [hx]; decide)).trans (if_pos hx)
      exact z_ret1 B rfl dL_wouldAnswer_16 () (trivial) (Nat.le_of_ble_eq_true rfl) (Nat.le_of_ble_eq_true rfl) (by rw [hF]) (by rw [hF])
    · refine z_catch B [⟨0, 10, 13, 13⟩] ⟨0, 10, 17, 15⟩ [⟨0, 10, 21, 34⟩] rfl (z_pass1 (Or.inr ⟨by decide, _, hwL_wouldAnswer_cl13, B.2.2.2.2.2.2.2.2.2.2.2.1⟩)) rfl (by decide) hwL_wouldAnswer_cl15 z_ca2 (fun q9 => ?_)
      refine z_astore B (lv' := [(4, .ref q9), (0, .ref ax), (1, .int x1), (2, .int x2), (3, .ref ao)]) dL_wouldAnswer_17 (by decide) rfl ?_
      refine z_iconst B (v := 2) dL_wouldAnswer_19 rfl ?_
      have hF : fL_wouldAnswer_h X D i C Z W F O Tc x1 x2 g = (2, F, O, Tc, g) := (if_neg (show ¬ (fX4_wouldAnswer_h X D i C Z W F O Tc x1 x2).1 = 0 by rw [hx]; decide)).trans (if_neg (show ¬ (fX4_wouldAnswer_h X D i C Z W F O Tc x1 x2).1 = 1 by rw [hx]; decide))
      exact z_ret1 B rfl dL_wouldAnswer_20 () (trivial) (Nat.le_of_ble_eq_true rfl) (Nat.le_of_ble_eq_true rfl) (by rw [hF]) (by rw [hF])
  refine z_i2l B dL_wouldAnswer_8 ?_
  refine z_last B (N := 1) (f := g) 7 0 rfl rfl (z_vpc (k := 0) rfl (by decide)) (bs' := [zXo ax (az 0) sa la (ak 0) (ad 0) X, zSa K sa f, zSO n so sc D, zCa K (sc i) C, zZo K az Z W, zCo K ak ((fX4_wouldAnswer_h X D i C Z W F O Tc x1 x2).2.2.1) ((fX4_wouldAnswer_h X D i C Z W F O Tc x1 x2).2.2.2.1), zCa K ad ((fX4_wouldAnswer_h X D i C Z W F O Tc x1 x2).2.2.2.2), zOu K ao (vp_updL g 0 (((fX4_wouldAnswer_h X D i C Z W F O Tc x1 x2).2.1).toInt64))]) rfl dL_wouldAnswer_9 ?_
  refine z_goto B (tgt := 25) dL_wouldAnswer_10 (by decide) ?_
  refine z_iconst B (v := 0) dL_wouldAnswer_25 rfl ?_
  have hF : fL_wouldAnswer_h X D i C Z W F O Tc x1 x2 g = (0, ((fX4_wouldAnswer_h X D i C Z W F O Tc x1 x2).2.2.1), ((fX4_wouldAnswer_h X D i C Z W F O Tc x1 x2).2.2.2.1), ((fX4_wouldAnswer_h X D i C Z W F O Tc x1 x2).2.2.2.2), (vp_updL g 0 (((fX4_wouldAnswer_h X D i C Z W F O Tc x1 x2).2.1).toInt64))) := if_pos h1
  exact z_ret1 B rfl dL_wouldAnswer_26 () (trivial) (Nat.le_of_ble_eq_true rfl) (Nat.le_of_ble_eq_true rfl) (by rw [hF]) (by rw [hF])
def fL_wouldAnswer_m (D : Nat → Nat → Int32) (x1 : Int32) (x2 : Int32) (g : Nat → Int64) : Int32 :=
  if (fX4_wouldAnswer_m D x1 x2).1 = 1 then
    1
  else
    if (fX4_wouldAnswer_m D x1 x2).1 = 2 then
      2
    else
      3
theorem hwL_wouldAnswer_cl34 : Cond.classLink RL 34 "java/lang/IllegalStateException" ∈ wsL_wouldAnswer := by decide +kernel
set_option maxHeartbeats 4000000 in
set_option maxRecDepth 100000 in
theorem kL_wouldAnswer_m (l : Launch) (hl : l.stackTraces = false) (K : zK) (ax : Nat) (zn : Nat) (sa : Nat) (la : Nat) (tr : Nat) (tc : Nat) (X : Nat → Int32) (f : Nat → Option Nat) (n : Nat) (so : Nat → Nat) (sc : Nat → Nat → Nat) (D : Nat → Nat → Int32) (x1 : Int32) (x2 : Int32) (ao : Nat) (g : Nat → Int64) (hf1 : ∀ a, a < n → f a = some (so a)) (hf2 : ∀ a, n ≤ a → a < 4 → f a = none) (hN : fX4_near n D x1 = none) : zMet l K yL_wouldAnswer wsL_wouldAnswer { frames := 9, cells := 3, slots := 18, locals := 150 } [.ref ax, .int x1, .int x2, .ref ao] [zXo ax zn sa la tr tc X, zSa K sa f, zSO n so sc D, zOu K ao g] (some (.int (fL_wouldAnswer_m D x1 x2 g))) [zXo ax zn sa la tr tc X, zSa K sa f, zSO n so sc D, zOu K ao g] True zNo := by
  refine zMeN.ofH (hh := [(0, 10, 13, 13), (0, 10, 17, 15), (0, 10, 21, 34)]) (cc := cL_wouldAnswer) (maxL := 5) (ret := (some .int)) (own := RL) (nm := "wouldAnswer") hl (by decide +kernel) rfl rfl rfl (Nat.le_of_ble_eq_true rfl) (lv := [(0, .ref ax), (1, .int x1), (2, .int x2), (3, .ref ao)]) rfl ?_
  intro p e s m args below meth c A B
  refine z_aload_n B dL_wouldAnswer_0 3 rfl ?_
  refine z_iconst B (v := 0) dL_wouldAnswer_1 rfl ?_
  refine z_aload_n B dL_wouldAnswer_2 0 rfl ?_
  refine z_iload_n B dL_wouldAnswer_3 1 rfl ?_
  refine z_iload_n B dL_wouldAnswer_4 2 rfl ?_
  refine z_V1 B (kX4_wouldAnswer_m l hl K ax zn sa la tr tc X f n so sc D x1 x2 hf1 hf2 hN) [0, 1, 2] [3] (br := [zOu K ao g]) (bs' := [zXo ax zn sa la tr tc X, zSa K sa f, zSO n so sc D, zOu K ao g]) (st := [.int 0, .ref ao]) (nA := 2) (zsp rfl rfl rfl) (zsp rfl rfl rfl) 0 0 rfl rfl rfl rfl gL_wouldAnswer_X4_wouldAnswer rfl (by decide +kernel) ⟨Nat.le_of_ble_eq_true rfl, Nat.le_of_ble_eq_true rfl⟩ rfl rfl (Nat.le_of_ble_eq_true rfl) ⟨Nat.le_of_ble_eq_true rfl, Nat.le_of_ble_eq_true rfl⟩ dL_wouldAnswer_5 (fun E hE => ?_) (fun h9 => h9.elim)
  · rcases hE with ⟨rfl, hx⟩ | ⟨rfl, hx⟩ | ⟨rfl, hx⟩
    · refine z_catch B [] ⟨0, 10, 13, 13⟩ [⟨0, 10, 17, 15⟩, ⟨0, 10, 21, 34⟩] rfl (fun _ h => absurd h List.not_mem_nil) rfl (by decide) hwL_wouldAnswer_cl13 z_ca1 (fun q9 => ?_)
      refine z_astore B (lv' := [(4, .ref q9), (0, .ref ax), (1, .int x1), (2, .int x2), (3, .ref ao)]) dL_wouldAnswer_13 (by decide) rfl ?_
      refine z_iconst B (v := 1) dL_wouldAnswer_15 rfl ?_
      have hF : fL_wouldAnswer_m D x1 x2 g = 1 := if_pos hx
      exact z_ret1 B rfl dL_wouldAnswer_16 () (trivial) (Nat.le_of_ble_eq_true rfl) (Nat.le_of_ble_eq_true rfl) (by rw [hF]) (by rw [hF])
    · refine z_catch B [⟨0, 10, 13, 13⟩] ⟨0, 10, 17, 15⟩ [⟨0, 10, 21, 34⟩] rfl (z_pass1 (Or.inr ⟨by decide, _, hwL_wouldAnswer_cl13, B.2.2.2.2.2.2.2.2.2.2.2.1⟩)) rfl (by decide) hwL_wouldAnswer_cl15 z_ca2 (fun q9 => ?_)
      refine z_astore B (lv' := [(4, .ref q9), (0, .ref ax), (1, .int x1), (2, .int x2), (3, .ref ao)]) dL_wouldAnswer_17 (by decide) rfl ?_
      refine z_iconst B (v := 2) dL_wouldAnswer_19 rfl ?_
      have hF : fL_wouldAnswer_m D x1 x2 g = 2 := (if_neg (show ¬ (fX4_wouldAnswer_m D x1 x2).1 = 1 by rw [hx]; decide)).trans (if_pos hx)
      exact z_ret1 B rfl dL_wouldAnswer_20 () (trivial) (Nat.le_of_ble_eq_true rfl) (Nat.le_of_ble_eq_true rfl) (by rw [hF]) (by rw [hF])
    · refine z_catch B [⟨0, 10, 13, 13⟩, ⟨0, 10, 17, 15⟩] ⟨0, 10, 21, 34⟩ [] rfl (z_pass2 (Or.inr ⟨by decide, _, hwL_wouldAnswer_cl13, B.2.2.2.2.2.2.2.2.2.2.2.2.1⟩) (Or.inr ⟨by decide, _, hwL_wouldAnswer_cl15, B.2.2.2.2.2.2.2.2.2.2.2.2.2.1⟩)) rfl (by decide) hwL_wouldAnswer_cl34 z_ca3 (fun q9 => ?_)
      refine z_astore B (lv' := [(4, .ref q9), (0, .ref ax), (1, .int x1), (2, .int x2), (3, .ref ao)]) dL_wouldAnswer_21 (by decide) rfl ?_
      refine z_iconst B (v := 3) dL_wouldAnswer_23 rfl ?_
      have hF : fL_wouldAnswer_m D x1 x2 g = 3 := (if_neg (show ¬ (fX4_wouldAnswer_m D x1 x2).1 = 1 by rw [hx]; decide)).trans (if_neg (show ¬ (fX4_wouldAnswer_m D x1 x2).1 = 2 by rw [hx]; decide))
      exact z_ret1 B rfl dL_wouldAnswer_24 () (trivial) (Nat.le_of_ble_eq_true rfl) (Nat.le_of_ble_eq_true rfl) (by rw [hF]) (by rw [hF])
def fL_entries_h (D : Nat → Nat → Int32) (i : Nat) (C : Nat → Nat → Int32) (g : Nat → Int64) : Int32 × (Nat → Int64) :=
  (0, (vp_updL g 0 ((fX4_entries_h D i C).toInt64)))
set_option maxHeartbeats 4000000 in
set_option maxRecDepth 100000 in
theorem kL_entries_h (l : Launch) (hl : l.stackTraces = false) (K : zK) (ax : Nat) (zn : Nat) (sa : Nat) (la : Nat) (tr : Nat) (tc : Nat) (X : Nat → Int32) (f : Nat → Option Nat) (n : Nat) (so : Nat → Nat) (sc : Nat → Nat → Nat) (D : Nat → Nat → Int32) (i : Nat) (C : Nat → Nat → Int32) (ao : Nat) (g : Nat → Int64) (hi4 : i < 4) (hi : i < n) (hfi : f (nI i).toNatClampNeg = some (so i)) : zMet l K yL_entries wsL_entries { frames := 2, cells := 0, slots := 0, locals := 43 } [.ref ax, .int (nI i), .ref ao] [zXo ax zn sa la tr tc X, zSa K sa f, zSO n so sc D, zCa K (sc i) C, zOu K ao g] (some (.int ((fL_entries_h D i C g).1))) [zXo ax zn sa la tr tc X, zSa K sa f, zSO n so sc D, zCa K (sc i) C, zOu K ao ((fL_entries_h D i C g).2)] True zNo := by
  refine zMeN.ofH (hh := [(0, 9, 12, 13)]) (cc := cL_entries) (maxL := 4) (ret := (some .int)) (own := RL) (nm := "entries") hl (by decide +kernel) rfl rfl rfl (Nat.le_of_ble_eq_true rfl) (lv := [(0, .ref ax), (1, .int (nI i)), (2, .ref ao)]) rfl ?_
  intro p e s m args below meth c A B
  refine z_aload_n B dL_entries_0 2 rfl ?_
  refine z_iconst B (v := 0) dL_entries_1 rfl ?_
  refine z_aload_n B dL_entries_2 0 rfl ?_
  refine z_iload_n B dL_entries_3 1 rfl ?_
  refine z_V1 B (kX4_entries_h l hl K ax zn sa la tr tc X f n so sc D i C hi4 hi hfi) [0, 1, 2, 3] [4] (br := [zOu K ao g]) (bs' := [zXo ax zn sa la tr tc X, zSa K sa f, zSO n so sc D, zCa K (sc i) C, zOu K ao g]) (st := [.int 0, .ref ao]) (nA := 1) (zsp rfl rfl rfl) (zsp rfl rfl rfl) 0 0 rfl rfl rfl rfl gL_entries_X4_entries rfl (by decide +kernel) ⟨Nat.le_of_ble_eq_true rfl, Nat.le_of_ble_eq_true rfl⟩ rfl rfl (Nat.le_of_ble_eq_true rfl) ⟨Nat.le_of_ble_eq_true rfl, Nat.le_of_ble_eq_true rfl⟩ dL_entries_4 z_noX (fun _ => ?_)
  refine z_i2l B dL_entries_7 ?_
  refine z_last B (N := 1) (f := g) 4 0 rfl rfl (z_vpc (k := 0) rfl (by decide)) (bs' := [zXo ax zn sa la tr tc X, zSa K sa f, zSO n so sc D, zCa K (sc i) C, zOu K ao (vp_updL g 0 ((fX4_entries_h D i C).toInt64))]) rfl dL_entries_8 ?_
  refine z_goto B (tgt := 15) dL_entries_9 (by decide) ?_
  refine z_iconst B (v := 0) dL_entries_15 rfl ?_
  have hF : fL_entries_h D i C g = (0, (vp_updL g 0 ((fX4_entries_h D i C).toInt64))) := rfl
  exact z_ret1 B rfl dL_entries_16 () (trivial) (Nat.le_of_ble_eq_true rfl) (Nat.le_of_ble_eq_true rfl) (by rw [hF]) (by rw [hF])
def fL_entries_m (x1 : Int32) (g : Nat → Int64) : Int32 :=
  1
theorem hwL_entries_cl13 : Cond.classLink RL 13 "java/lang/IndexOutOfBoundsException" ∈ wsL_entries := by decide +kernel
set_option maxHeartbeats 4000000 in
set_option maxRecDepth 100000 in
theorem kL_entries_m (l : Launch) (hl : l.stackTraces = false) (K : zK) (ax : Nat) (zn : Nat) (sa : Nat) (la : Nat) (tr : Nat) (tc : Nat) (X : Nat → Int32) (f : Nat → Option Nat) (x1 : Int32) (ao : Nat) (g : Nat → Int64) (hfn : x1 < 4 → ¬ x1 < 0 → f x1.toNatClampNeg = none) : zMet l K yL_entries wsL_entries { frames := 8, cells := 1, slots := 6, locals := 125 } [.ref ax, .int x1, .ref ao] [zXo ax zn sa la tr tc X, zSa K sa f, zOu K ao g] (some (.int (fL_entries_m x1 g))) [zXo ax zn sa la tr tc X, zSa K sa f, zOu K ao g] True zNo := by
  refine zMeN.ofH (hh := [(0, 9, 12, 13)]) (cc := cL_entries) (maxL := 4) (ret := (some .int)) (own := RL) (nm := "entries") hl (by decide +kernel) rfl rfl rfl (Nat.le_of_ble_eq_true rfl) (lv := [(0, .ref ax), (1, .int x1), (2, .ref ao)]) rfl ?_
  intro p e s m args below meth c A B
  refine z_aload_n B dL_entries_0 2 rfl ?_
  refine z_iconst B (v := 0) dL_entries_1 rfl ?_
  refine z_aload_n B dL_entries_2 0 rfl ?_
  refine z_iload_n B dL_entries_3 1 rfl ?_
  refine z_V1 B (kX4_entries_m l hl K ax zn sa la tr tc X f x1 hfn) [0, 1] [2] (br := [zOu K ao g]) (bs' := [zXo ax zn sa la tr tc X, zSa K sa f, zOu K ao g]) (st := [.int 0, .ref ao]) (nA := 1) (zsp rfl rfl rfl) (zsp rfl rfl rfl) 0 0 rfl rfl rfl rfl gL_entries_X4_entries rfl (by decide +kernel) ⟨Nat.le_of_ble_eq_true rfl, Nat.le_of_ble_eq_true rfl⟩ rfl rfl (Nat.le_of_ble_eq_true rfl) ⟨Nat.le_of_ble_eq_true rfl, Nat.le_of_ble_eq_true rfl⟩ dL_entries_4 (fun E hE => ?_) (fun h9 => h9.elim)
  · rcases hE with ⟨rfl, hx⟩
    · refine z_catch B [] ⟨0, 9, 12, 13⟩ [] rfl (fun _ h => absurd h List.not_mem_nil) rfl (by decide) hwL_entries_cl13 z_ca1 (fun q9 => ?_)
      refine z_astore_n B (lv' := [(3, .ref q9), (0, .ref ax), (1, .int x1), (2, .ref ao)]) dL_entries_12 (by decide) rfl ?_
      refine z_iconst B (v := 1) dL_entries_13 rfl ?_
      have hF : fL_entries_m x1 g = 1 := rfl
      exact z_ret1 B rfl dL_entries_14 () (trivial) (Nat.le_of_ble_eq_true rfl) (Nat.le_of_ble_eq_true rfl) (by rw [hF]) (by rw [hF])
def fL_cachedKind_h (D : Nat → Nat → Int32) (i : Nat) (C : Nat → Nat → Int32) (x2 : Int32) (g : Nat → Int64) : Int32 × (Nat → Int64) :=
  if (fX4_cachedKind_h D i C x2).1 = 0 then
    (0, (vp_updL g 0 (((fX4_cachedKind_h D i C x2).2).toInt64)))
  else
    (1, g)
theorem hwL_cachedKind_cl13 : Cond.classLink RL 13 "java/lang/IndexOutOfBoundsException" ∈ wsL_cachedKind := by decide +kernel
set_option maxHeartbeats 4000000 in
set_option maxRecDepth 100000 in
theorem kL_cachedKind_h (l : Launch) (hl : l.stackTraces = false) (K : zK) (ax : Nat) (zn : Nat) (sa : Nat) (la : Nat) (tr : Nat) (tc : Nat) (X : Nat → Int32) (f : Nat → Option Nat) (n : Nat) (so : Nat → Nat) (sc : Nat → Nat → Nat) (D : Nat → Nat → Int32) (i : Nat) (C : Nat → Nat → Int32) (x2 : Int32) (ao : Nat) (g : Nat → Int64) (hi4 : i < 4) (hi : i < n) (hfi : f (nI i).toNatClampNeg = some (so i)) : zMet l K yL_cachedKind wsL_cachedKind { frames := 9, cells := 1, slots := 6, locals := 147 } [.ref ax, .int (nI i), .int x2, .ref ao] [zXo ax zn sa la tr tc X, zSa K sa f, zSO n so sc D, zCa K (sc i) C, zOu K ao g] (some (.int ((fL_cachedKind_h D i C x2 g).1))) [zXo ax zn sa la tr tc X, zSa K sa f, zSO n so sc D, zCa K (sc i) C, zOu K ao ((fL_cachedKind_h D i C x2 g).2)] True zNo := by
  refine zMeN.ofH (hh := [(0, 10, 13, 13)]) (cc := cL_cachedKind) (maxL := 5) (ret := (some .int)) (own := RL) (nm := "cachedKind") hl (by decide +kernel) rfl rfl rfl (Nat.le_of_ble_eq_true rfl) (lv := [(0, .ref ax), (1, .int (nI i)), (2, .int x2), (3, .ref ao)]) rfl ?_
  intro p e s m args below meth c A B
  refine z_aload_n B dL_cachedKind_0 3 rfl ?_
  refine z_iconst B (v := 0) dL_cachedKind_1 rfl ?_
  refine z_aload_n B dL_cachedKind_2 0 rfl ?_
  refine z_iload_n B dL_cachedKind_3 1 rfl ?_
  refine z_iload_n B dL_cachedKind_4 2 rfl ?_
  refine z_V1 B (kX4_cachedKind_h l hl K ax zn sa la tr tc X f n so sc D i C x2 hi4 hi hfi) [0, 1, 2, 3] [4] (br := [zOu K ao g]) (bs' := [zXo ax zn sa la tr tc X, zSa K sa f, zSO n so sc D, zCa K (sc i) C, zOu K ao g]) (st := [.int 0, .ref ao]) (nA := 2) (zsp rfl rfl rfl) (zsp rfl rfl rfl) 0 0 rfl rfl rfl rfl gL_cachedKind_X4_cachedKind rfl (by decide +kernel) ⟨Nat.le_of_ble_eq_true rfl, Nat.le_of_ble_eq_true rfl⟩ rfl rfl (Nat.le_of_ble_eq_true rfl) ⟨Nat.le_of_ble_eq_true rfl, Nat.le_of_ble_eq_true rfl⟩ dL_cachedKind_5 (fun E hE => ?_) (fun h1 => ?_)
  · rcases hE with ⟨rfl, hx⟩
    · refine z_catch B [] ⟨0, 10, 13, 13⟩ [] rfl (fun _ h => absurd h List.not_mem_nil) rfl (by decide) hwL_cachedKind_cl13 z_ca1 (fun q9 => ?_)
      refine z_astore B (lv' := [(4, .ref q9), (0, .ref ax), (1, .int (nI i)), (2, .int x2), (3, .ref ao)]) dL_cachedKind_13 (by decide) rfl ?_
      refine z_iconst B (v := 1) dL_cachedKind_15 rfl ?_
      have hF : fL_cachedKind_h D i C x2 g = (1, g) := if_neg (show ¬ (fX4_cachedKind_h D i C x2).1 = 0 by rw [hx]; decide)
      exact z_ret1 B rfl dL_cachedKind_16 () (trivial) (Nat.le_of_ble_eq_true rfl) (Nat.le_of_ble_eq_true rfl) (by rw [hF]) (by rw [hF])
  refine z_i2l B dL_cachedKind_8 ?_
  refine z_last B (N := 1) (f := g) 4 0 rfl rfl (z_vpc (k := 0) rfl (by decide)) (bs' := [zXo ax zn sa la tr tc X, zSa K sa f, zSO n so sc D, zCa K (sc i) C, zOu K ao (vp_updL g 0 (((fX4_cachedKind_h D i C x2).2).toInt64))]) rfl dL_cachedKind_9 ?_
  refine z_goto B (tgt := 17) dL_cachedKind_10 (by decide) ?_
  refine z_iconst B (v := 0) dL_cachedKind_17 rfl ?_
  have hF : fL_cachedKind_h D i C x2 g = (0, (vp_updL g 0 (((fX4_cachedKind_h D i C x2).2).toInt64))) := if_pos h1
  exact z_ret1 B rfl dL_cachedKind_18 () (trivial) (Nat.le_of_ble_eq_true rfl) (Nat.le_of_ble_eq_true rfl) (by rw [hF]) (by rw [hF])
def fL_cachedKind_m (x1 : Int32) (x2 : Int32) (g : Nat → Int64) : Int32 :=
  1
set_option maxHeartbeats 4000000 in
set_option maxRecDepth 100000 in
theorem kL_cachedKind_m (l : Launch) (hl : l.stackTraces = false) (K : zK) (ax : Nat) (zn : Nat) (sa : Nat) (la : Nat) (tr : Nat) (tc : Nat) (X : Nat → Int32) (f : Nat → Option Nat) (x1 : Int32) (x2 : Int32) (ao : Nat) (g : Nat → Int64) (hfn : x1 < 4 → ¬ x1 < 0 → f x1.toNatClampNeg = none) : zMet l K yL_cachedKind wsL_cachedKind { frames := 9, cells := 1, slots := 6, locals := 149 } [.ref ax, .int x1, .int x2, .ref ao] [zXo ax zn sa la tr tc X, zSa K sa f, zOu K ao g] (some (.int (fL_cachedKind_m x1 x2 g))) [zXo ax zn sa la tr tc X, zSa K sa f, zOu K ao g] True zNo := by
  refine zMeN.ofH (hh := [(0, 10, 13, 13)]) (cc := cL_cachedKind) (maxL := 5) (ret := (some .int)) (own := RL) (nm := "cachedKind") hl (by decide +kernel) rfl rfl rfl (Nat.le_of_ble_eq_true rfl) (lv := [(0, .ref ax), (1, .int x1), (2, .int x2), (3, .ref ao)]) rfl ?_
  intro p e s m args below meth c A B
  refine z_aload_n B dL_cachedKind_0 3 rfl ?_
  refine z_iconst B (v := 0) dL_cachedKind_1 rfl ?_
  refine z_aload_n B dL_cachedKind_2 0 rfl ?_
  refine z_iload_n B dL_cachedKind_3 1 rfl ?_
  refine z_iload_n B dL_cachedKind_4 2 rfl ?_
  refine z_V1 B (kX4_cachedKind_m l hl K ax zn sa la tr tc X f x1 x2 hfn) [0, 1] [2] (br := [zOu K ao g]) (bs' := [zXo ax zn sa la tr tc X, zSa K sa f, zOu K ao g]) (st := [.int 0, .ref ao]) (nA := 2) (zsp rfl rfl rfl) (zsp rfl rfl rfl) 0 0 rfl rfl rfl rfl gL_cachedKind_X4_cachedKind rfl (by decide +kernel) ⟨Nat.le_of_ble_eq_true rfl, Nat.le_of_ble_eq_true rfl⟩ rfl rfl (Nat.le_of_ble_eq_true rfl) ⟨Nat.le_of_ble_eq_true rfl, Nat.le_of_ble_eq_true rfl⟩ dL_cachedKind_5 (fun E hE => ?_) (fun h9 => h9.elim)
  · rcases hE with ⟨rfl, hx⟩
    · refine z_catch B [] ⟨0, 10, 13, 13⟩ [] rfl (fun _ h => absurd h List.not_mem_nil) rfl (by decide) hwL_cachedKind_cl13 z_ca1 (fun q9 => ?_)
      refine z_astore B (lv' := [(4, .ref q9), (0, .ref ax), (1, .int x1), (2, .int x2), (3, .ref ao)]) dL_cachedKind_13 (by decide) rfl ?_
      refine z_iconst B (v := 1) dL_cachedKind_15 rfl ?_
      have hF : fL_cachedKind_m x1 x2 g = 1 := rfl
      exact z_ret1 B rfl dL_cachedKind_16 () (trivial) (Nat.le_of_ble_eq_true rfl) (Nat.le_of_ble_eq_true rfl) (by rw [hF]) (by rw [hF])
def fL_cachedValue_h (D : Nat → Nat → Int32) (i : Nat) (C : Nat → Nat → Int32) (x2 : Int32) (g : Nat → Int64) : Int32 × (Nat → Int64) :=
  if (fX4_cachedValue_h D i C x2).1 = 0 then
    (0, (vp_updL g 0 (((fX4_cachedValue_h D i C x2).2).toInt64)))
  else
    (1, g)
theorem hwL_cachedValue_cl13 : Cond.classLink RL 13 "java/lang/IndexOutOfBoundsException" ∈ wsL_cachedValue := by decide +kernel
set_option maxHeartbeats 4000000 in
set_option maxRecDepth 100000 in
theorem kL_cachedValue_h (l : Launch) (hl : l.stackTraces = false) (K : zK) (ax : Nat) (zn : Nat) (sa : Nat) (la : Nat) (tr : Nat) (tc : Nat) (X : Nat → Int32) (f : Nat → Option Nat) (n : Nat) (so : Nat → Nat) (sc : Nat → Nat → Nat) (D : Nat → Nat → Int32) (i : Nat) (C : Nat → Nat → Int32) (x2 : Int32) (ao : Nat) (g : Nat → Int64) (hi4 : i < 4) (hi : i < n) (hfi : f (nI i).toNatClampNeg = some (so i)) : zMet l K yL_cachedValue wsL_cachedValue { frames := 9, cells := 1, slots := 6, locals := 147 } [.ref ax, .int (nI i), .int x2, .ref ao] [zXo ax zn sa la tr tc X, zSa K sa f, zSO n so sc D, zCa K (sc i) C, zOu K ao g] (some (.int ((fL_cachedValue_h D i C x2 g).1))) [zXo ax zn sa la tr tc X, zSa K sa f, zSO n so sc D, zCa K (sc i) C, zOu K ao ((fL_cachedValue_h D i C x2 g).2)] True zNo := by
  refine zMeN.ofH (hh := [(0, 10, 13, 13)]) (cc := cL_cachedValue) (maxL := 5) (ret := (some .int)) (own := RL) (nm := "cachedValue") hl (by decide +kernel) rfl rfl rfl (Nat.le_of_ble_eq_true rfl) (lv := [(0, .ref ax), (1, .int (nI i)), (2, .int x2), (3, .ref ao)]) rfl ?_
  intro p e s m args below meth c A B
  refine z_aload_n B dL_cachedValue_0 3 rfl ?_
  refine z_iconst B (v := 0) dL_cachedValue_1 rfl ?_
  refine z_aload_n B dL_cachedValue_2 0 rfl ?_
  refine z_iload_n B dL_cachedValue_3 1 rfl ?_
  refine z_iload_n B dL_cachedValue_4 2 rfl ?_
  refine z_V1 B (kX4_cachedValue_h l hl K ax zn sa la tr tc X f n so sc D i C x2 hi4 hi hfi) [0, 1, 2, 3] [4] (br := [zOu K ao g]) (bs' := [zXo ax zn sa la tr tc X, zSa K sa f, zSO n so sc D, zCa K (sc i) C, zOu K ao g]) (st := [.int 0, .ref ao]) (nA := 2) (zsp rfl rfl rfl) (zsp rfl rfl rfl) 0 0 rfl rfl rfl rfl gL_cachedValue_X4_cachedValue rfl (by decide +kernel) ⟨Nat.le_of_ble_eq_true rfl, Nat.le_of_ble_eq_true rfl⟩ rfl rfl (Nat.le_of_ble_eq_true rfl) ⟨Nat.le_of_ble_eq_true rfl, Nat.le_of_ble_eq_true rfl⟩ dL_cachedValue_5 (fun E hE => ?_) (fun h1 => ?_)
  · rcases hE with ⟨rfl, hx⟩
    · refine z_catch B [] ⟨0, 10, 13, 13⟩ [] rfl (fun _ h => absurd h List.not_mem_nil) rfl (by decide) hwL_cachedValue_cl13 z_ca1 (fun q9 => ?_)
      refine z_astore B (lv' := [(4, .ref q9), (0, .ref ax), (1, .int (nI i)), (2, .int x2), (3, .ref ao)]) dL_cachedValue_13 (by decide) rfl ?_
      refine z_iconst B (v := 1) dL_cachedValue_15 rfl ?_
      have hF : fL_cachedValue_h D i C x2 g = (1, g) := if_neg (show ¬ (fX4_cachedValue_h D i C x2).1 = 0 by rw [hx]; decide)
      exact z_ret1 B rfl dL_cachedValue_16 () (trivial) (Nat.le_of_ble_eq_true rfl) (Nat.le_of_ble_eq_true rfl) (by rw [hF]) (by rw [hF])
  refine z_i2l B dL_cachedValue_8 ?_
  refine z_last B (N := 1) (f := g) 4 0 rfl rfl (z_vpc (k := 0) rfl (by decide)) (bs' := [zXo ax zn sa la tr tc X, zSa K sa f, zSO n so sc D, zCa K (sc i) C, zOu K ao (vp_updL g 0 (((fX4_cachedValue_h D i C x2).2).toInt64))]) rfl dL_cachedValue_9 ?_
  refine z_goto B (tgt := 17) dL_cachedValue_10 (by decide) ?_
  refine z_iconst B (v := 0) dL_cachedValue_17 rfl ?_
  have hF : fL_cachedValue_h D i C x2 g = (0, (vp_updL g 0 (((fX4_cachedValue_h D i C x2).2).toInt64))) := if_pos h1
  exact z_ret1 B rfl dL_cachedValue_18 () (trivial) (Nat.le_of_ble_eq_true rfl) (Nat.le_of_ble_eq_true rfl) (by rw [hF]) (by rw [hF])
def fL_cachedValue_m (x1 : Int32) (x2 : Int32) (g : Nat → Int64) : Int32 :=
  1
set_option maxHeartbeats 4000000 in
set_option maxRecDepth 100000 in
theorem kL_cachedValue_m (l : Launch) (hl : l.stackTraces = false) (K : zK) (ax : Nat) (zn : Nat) (sa : Nat) (la : Nat) (tr : Nat) (tc : Nat) (X : Nat → Int32) (f : Nat → Option Nat) (x1 : Int32) (x2 : Int32) (ao : Nat) (g : Nat → Int64) (hfn : x1 < 4 → ¬ x1 < 0 → f x1.toNatClampNeg = none) : zMet l K yL_cachedValue wsL_cachedValue { frames := 9, cells := 1, slots := 6, locals := 149 } [.ref ax, .int x1, .int x2, .ref ao] [zXo ax zn sa la tr tc X, zSa K sa f, zOu K ao g] (some (.int (fL_cachedValue_m x1 x2 g))) [zXo ax zn sa la tr tc X, zSa K sa f, zOu K ao g] True zNo := by
  refine zMeN.ofH (hh := [(0, 10, 13, 13)]) (cc := cL_cachedValue) (maxL := 5) (ret := (some .int)) (own := RL) (nm := "cachedValue") hl (by decide +kernel) rfl rfl rfl (Nat.le_of_ble_eq_true rfl) (lv := [(0, .ref ax), (1, .int x1), (2, .int x2), (3, .ref ao)]) rfl ?_
  intro p e s m args below meth c A B
  refine z_aload_n B dL_cachedValue_0 3 rfl ?_
  refine z_iconst B (v := 0) dL_cachedValue_1 rfl ?_
  refine z_aload_n B dL_cachedValue_2 0 rfl ?_
  refine z_iload_n B dL_cachedValue_3 1 rfl ?_
  refine z_iload_n B dL_cachedValue_4 2 rfl ?_
  refine z_V1 B (kX4_cachedValue_m l hl K ax zn sa la tr tc X f x1 x2 hfn) [0, 1] [2] (br := [zOu K ao g]) (bs' := [zXo ax zn sa la tr tc X, zSa K sa f, zOu K ao g]) (st := [.int 0, .ref ao]) (nA := 2) (zsp rfl rfl rfl) (zsp rfl rfl rfl) 0 0 rfl rfl rfl rfl gL_cachedValue_X4_cachedValue rfl (by decide +kernel) ⟨Nat.le_of_ble_eq_true rfl, Nat.le_of_ble_eq_true rfl⟩ rfl rfl (Nat.le_of_ble_eq_true rfl) ⟨Nat.le_of_ble_eq_true rfl, Nat.le_of_ble_eq_true rfl⟩ dL_cachedValue_5 (fun E hE => ?_) (fun h9 => h9.elim)
  · rcases hE with ⟨rfl, hx⟩
    · refine z_catch B [] ⟨0, 10, 13, 13⟩ [] rfl (fun _ h => absurd h List.not_mem_nil) rfl (by decide) hwL_cachedValue_cl13 z_ca1 (fun q9 => ?_)
      refine z_astore B (lv' := [(4, .ref q9), (0, .ref ax), (1, .int x1), (2, .int x2), (3, .ref ao)]) dL_cachedValue_13 (by decide) rfl ?_
      refine z_iconst B (v := 1) dL_cachedValue_15 rfl ?_
      have hF : fL_cachedValue_m x1 x2 g = 1 := rfl
      exact z_ret1 B rfl dL_cachedValue_16 () (trivial) (Nat.le_of_ble_eq_true rfl) (Nat.le_of_ble_eq_true rfl) (by rw [hF]) (by rw [hF])
def fL_left_h (X : Nat → Int32) (D : Nat → Nat → Int32) (i : Nat) (C : Nat → Nat → Int32) (x2 : Int32) (g : Nat → Int64) : Int32 × (Nat → Int64) :=
  if (fX4_left_h X D i C x2).1 = 0 then
    (0, (vp_updL g 0 (((fX4_left_h X D i C x2).2).toInt64)))
  else
    if (fX4_left_h X D i C x2).1 = 1 then
      (1, g)
    else
      (2, g)
theorem hwL_left_cl13 : Cond.classLink RL 13 "java/lang/IndexOutOfBoundsException" ∈ wsL_left := by decide +kernel
theorem hwL_left_cl34 : Cond.classLink RL 34 "java/lang/IllegalStateException" ∈ wsL_left := by decide +kernel
set_option maxHeartbeats 4000000 in
set_option maxRecDepth 100000 in
theorem kL_left_h (l : Launch) (hl : l.stackTraces = false) (K : zK) (ax : Nat) (zn : Nat) (sa : Nat) (la : Nat) (tr : Nat) (tc : Nat) (X : Nat → Int32) (f : Nat → Option Nat) (n : Nat) (so : Nat → Nat) (sc : Nat → Nat → Nat) (D : Nat → Nat → Int32) (i : Nat) (C : Nat → Nat → Int32) (x2 : Int32) (ao : Nat) (g : Nat → Int64) (hi4 : i < 4) (hi : i < n) (hfi : f (nI i).toNatClampNeg = some (so i)) : zMet l K yL_left wsL_left { frames := 9, cells := 2, slots := 12, locals := 148 } [.ref ax, .int (nI i), .int x2, .ref ao] [zXo ax zn sa la tr tc X, zSa K sa f, zSO n so sc D, zCa K (sc i) C, zOu K ao g] (some (.int ((fL_left_h X D i C x2 g).1))) [zXo ax zn sa la tr tc X, zSa K sa f, zSO n so sc D, zCa K (sc i) C, zOu K ao ((fL_left_h X D i C x2 g).2)] True zNo := by
  refine zMeN.ofH (hh := [(0, 10, 13, 13), (0, 10, 17, 34)]) (cc := cL_left) (maxL := 5) (ret := (some .int)) (own := RL) (nm := "left") hl (by decide +kernel) rfl rfl rfl (Nat.le_of_ble_eq_true rfl) (lv := [(0, .ref ax), (1, .int (nI i)), (2, .int x2), (3, .ref ao)]) rfl ?_
  intro p e s m args below meth c A B
  refine z_aload_n B dL_left_0 3 rfl ?_
  refine z_iconst B (v := 0) dL_left_1 rfl ?_
  refine z_aload_n B dL_left_2 0 rfl ?_
  refine z_iload_n B dL_left_3 1 rfl ?_
  refine z_iload_n B dL_left_4 2 rfl ?_
  refine z_V1 B (kX4_left_h l hl K ax zn sa la tr tc X f n so sc D i C x2 hi4 hi hfi) [0, 1, 2, 3] [4] (br := [zOu K ao g]) (bs' := [zXo ax zn sa la tr tc X, zSa K sa f, zSO n so sc D, zCa K (sc i) C, zOu K ao g]) (st := [.int 0, .ref ao]) (nA := 2) (zsp rfl rfl rfl) (zsp rfl rfl rfl) 0 0 rfl rfl rfl rfl gL_left_X4_left rfl (by decide +kernel) ⟨Nat.le_of_ble_eq_true rfl, Nat.le_of_ble_eq_true rfl⟩ rfl rfl (Nat.le_of_ble_eq_true rfl) ⟨Nat.le_of_ble_eq_true rfl, Nat.le_of_ble_eq_true rfl⟩ dL_left_5 (fun E hE => ?_) (fun h1 => ?_)
  · rcases hE with ⟨rfl, hx⟩ | ⟨rfl, hx⟩
    · refine z_catch B [] ⟨0, 10, 13, 13⟩ [⟨0, 10, 17, 34⟩] rfl (fun _ h => absurd h List.not_mem_nil) rfl (by decide) hwL_left_cl13 z_ca1 (fun q9 => ?_)
      refine z_astore B (lv' := [(4, .ref q9), (0, .ref ax), (1, .int (nI i)), (2, .int x2), (3, .ref ao)]) dL_left_13 (by decide) rfl ?_
      refine z_iconst B (v := 1) dL_left_15 rfl ?_
      have hF : fL_left_h X D i C x2 g = (1, g) := (if_neg (show ¬ (fX4_left_h X D i C x2).1 = 0 by rw [hx]; decide)).trans (if_pos hx)
      exact z_ret1 B rfl dL_left_16 () (trivial) (Nat.le_of_ble_eq_true rfl) (Nat.le_of_ble_eq_true rfl) (by rw [hF]) (by rw [hF])
    · refine z_catch B [⟨0, 10, 13, 13⟩] ⟨0, 10, 17, 34⟩ [] rfl (z_pass1 (Or.inr ⟨by decide, _, hwL_left_cl13, B.2.2.2.2.2.2.2.2.2.2.2.2.1⟩)) rfl (by decide) hwL_left_cl34 z_ca3 (fun q9 => ?_)
      refine z_astore B (lv' := [(4, .ref q9), (0, .ref ax), (1, .int (nI i)), (2, .int x2), (3, .ref ao)]) dL_left_17 (by decide) rfl ?_
      refine z_iconst B (v := 2) dL_left_19 rfl ?_
      have hF : fL_left_h X D i C x2 g = (2, g) := (if_neg (show ¬ (fX4_left_h X D i C x2).1 = 0 by rw [hx]; decide)).trans (if_neg (show ¬ (fX4_left_h X D i C x2).1 = 1 by rw [hx]; decide))
      exact z_ret1 B rfl dL_left_20 () (trivial) (Nat.le_of_ble_eq_true rfl) (Nat.le_of_ble_eq_true rfl) (by rw [hF]) (by rw [hF])
  refine z_i2l B dL_left_8 ?_
  refine z_last B (N := 1) (f := g) 4 0 rfl rfl (z_vpc (k := 0) rfl (by decide)) (bs' := [zXo ax zn sa la tr tc X, zSa K sa f, zSO n so sc D, zCa K (sc i) C, zOu K ao (vp_updL g 0 (((fX4_left_h X D i C x2).2).toInt64))]) rfl dL_left_9 ?_
  refine z_goto B (tgt := 21) dL_left_10 (by decide) ?_
  refine z_iconst B (v := 0) dL_left_21 rfl ?_
  have hF : fL_left_h X D i C x2 g = (0, (vp_updL g 0 (((fX4_left_h X D i C x2).2).toInt64))) := if_pos h1
  exact z_ret1 B rfl dL_left_22 () (trivial) (Nat.le_of_ble_eq_true rfl) (Nat.le_of_ble_eq_true rfl) (by rw [hF]) (by rw [hF])
def fL_left_m (x1 : Int32) (x2 : Int32) (g : Nat → Int64) : Int32 :=
  1
set_option maxHeartbeats 4000000 in
set_option maxRecDepth 100000 in
theorem kL_left_m (l : Launch) (hl : l.stackTraces = false) (K : zK) (ax : Nat) (zn : Nat) (sa : Nat) (la : Nat) (tr : Nat) (tc : Nat) (X : Nat → Int32) (f : Nat → Option Nat) (x1 : Int32) (x2 : Int32) (ao : Nat) (g : Nat → Int64) (hfn : x1 < 4 → ¬ x1 < 0 → f x1.toNatClampNeg = none) : zMet l K yL_left wsL_left { frames := 9, cells := 1, slots := 6, locals := 150 } [.ref ax, .int x1, .int x2, .ref ao] [zXo ax zn sa la tr tc X, zSa K sa f, zOu K ao g] (some (.int (fL_left_m x1 x2 g))) [zXo ax zn sa la tr tc X, zSa K sa f, zOu K ao g] True zNo := by
  refine zMeN.ofH (hh := [(0, 10, 13, 13), (0, 10, 17, 34)]) (cc := cL_left) (maxL := 5) (ret := (some .int)) (own := RL) (nm := "left") hl (by decide +kernel) rfl rfl rfl (Nat.le_of_ble_eq_true rfl) (lv := [(0, .ref ax), (1, .int x1), (2, .int x2), (3, .ref ao)]) rfl ?_
  intro p e s m args below meth c A B
  refine z_aload_n B dL_left_0 3 rfl ?_
  refine z_iconst B (v := 0) dL_left_1 rfl ?_
  refine z_aload_n B dL_left_2 0 rfl ?_
  refine z_iload_n B dL_left_3 1 rfl ?_
  refine z_iload_n B dL_left_4 2 rfl ?_
  refine z_V1 B (kX4_left_m l hl K ax zn sa la tr tc X f x1 x2 hfn) [0, 1] [2] (br := [zOu K ao g]) (bs' := [zXo ax zn sa la tr tc X, zSa K sa f, zOu K ao g]) (st := [.int 0, .ref ao]) (nA := 2) (zsp rfl rfl rfl) (zsp rfl rfl rfl) 0 0 rfl rfl rfl rfl gL_left_X4_left rfl (by decide +kernel) ⟨Nat.le_of_ble_eq_true rfl, Nat.le_of_ble_eq_true rfl⟩ rfl rfl (Nat.le_of_ble_eq_true rfl) ⟨Nat.le_of_ble_eq_true rfl, Nat.le_of_ble_eq_true rfl⟩ dL_left_5 (fun E hE => ?_) (fun h9 => h9.elim)
  · rcases hE with ⟨rfl, hx⟩
    · refine z_catch B [] ⟨0, 10, 13, 13⟩ [⟨0, 10, 17, 34⟩] rfl (fun _ h => absurd h List.not_mem_nil) rfl (by decide) hwL_left_cl13 z_ca1 (fun q9 => ?_)
      refine z_astore B (lv' := [(4, .ref q9), (0, .ref ax), (1, .int x1), (2, .int x2), (3, .ref ao)]) dL_left_13 (by decide) rfl ?_
      refine z_iconst B (v := 1) dL_left_15 rfl ?_
      have hF : fL_left_m x1 x2 g = 1 := rfl
      exact z_ret1 B rfl dL_left_16 () (trivial) (Nat.le_of_ble_eq_true rfl) (Nat.le_of_ble_eq_true rfl) (by rw [hF]) (by rw [hF])
def fL_hitsOf_h (D : Nat → Nat → Int32) (i : Nat) (C : Nat → Nat → Int32) (x2 : Int32) (g : Nat → Int64) : Int32 × (Nat → Int64) :=
  if (fX4_hitsOf_h D i C x2).1 = 0 then
    (0, (vp_updL g 0 (((fX4_hitsOf_h D i C x2).2).toInt64)))
  else
    (1, g)
theorem hwL_hitsOf_cl13 : Cond.classLink RL 13 "java/lang/IndexOutOfBoundsException" ∈ wsL_hitsOf := by decide +kernel
set_option maxHeartbeats 4000000 in
set_option maxRecDepth 100000 in
theorem kL_hitsOf_h (l : Launch) (hl : l.stackTraces = false) (K : zK) (ax : Nat) (zn : Nat) (sa : Nat) (la : Nat) (tr : Nat) (tc : Nat) (X : Nat → Int32) (f : Nat → Option Nat) (n : Nat) (so : Nat → Nat) (sc : Nat → Nat → Nat) (D : Nat → Nat → Int32) (i : Nat) (C : Nat → Nat → Int32) (x2 : Int32) (ao : Nat) (g : Nat → Int64) (hi4 : i < 4) (hi : i < n) (hfi : f (nI i).toNatClampNeg = some (so i)) : zMet l K yL_hitsOf wsL_hitsOf { frames := 9, cells := 1, slots := 6, locals := 147 } [.ref ax, .int (nI i), .int x2, .ref ao] [zXo ax zn sa la tr tc X, zSa K sa f, zSO n so sc D, zCa K (sc i) C, zOu K ao g] (some (.int ((fL_hitsOf_h D i C x2 g).1))) [zXo ax zn sa la tr tc X, zSa K sa f, zSO n so sc D, zCa K (sc i) C, zOu K ao ((fL_hitsOf_h D i C x2 g).2)] True zNo := by
  refine zMeN.ofH (hh := [(0, 10, 13, 13)]) (cc := cL_hitsOf) (maxL := 5) (ret := (some .int)) (own := RL) (nm := "hitsOf") hl (by decide +kernel) rfl rfl rfl (Nat.le_of_ble_eq_true rfl) (lv := [(0, .ref ax), (1, .int (nI i)), (2, .int x2), (3, .ref ao)]) rfl ?_
  intro p e s m args below meth c A B
  refine z_aload_n B dL_hitsOf_0 3 rfl ?_
  refine z_iconst B (v := 0) dL_hitsOf_1 rfl ?_
  refine z_aload_n B dL_hitsOf_2 0 rfl ?_
  refine z_iload_n B dL_hitsOf_3 1 rfl ?_
  refine z_iload_n B dL_hitsOf_4 2 rfl ?_
  refine z_V1 B (kX4_hitsOf_h l hl K ax zn sa la tr tc X f n so sc D i C x2 hi4 hi hfi) [0, 1, 2, 3] [4] (br := [zOu K ao g]) (bs' := [zXo ax zn sa la tr tc X, zSa K sa f, zSO n so sc D, zCa K (sc i) C, zOu K ao g]) (st := [.int 0, .ref ao]) (nA := 2) (zsp rfl rfl rfl) (zsp rfl rfl rfl) 0 0 rfl rfl rfl rfl gL_hitsOf_X4_hitsOf rfl (by decide +kernel) ⟨Nat.le_of_ble_eq_true rfl, Nat.le_of_ble_eq_true rfl⟩ rfl rfl (Nat.le_of_ble_eq_true rfl) ⟨Nat.le_of_ble_eq_true rfl, Nat.le_of_ble_eq_true rfl⟩ dL_hitsOf_5 (fun E hE => ?_) (fun h1 => ?_)
  · rcases hE with ⟨rfl, hx⟩
    · refine z_catch B [] ⟨0, 10, 13, 13⟩ [] rfl (fun _ h => absurd h List.not_mem_nil) rfl (by decide) hwL_hitsOf_cl13 z_ca1 (fun q9 => ?_)
      refine z_astore B (lv' := [(4, .ref q9), (0, .ref ax), (1, .int (nI i)), (2, .int x2), (3, .ref ao)]) dL_hitsOf_13 (by decide) rfl ?_
      refine z_iconst B (v := 1) dL_hitsOf_15 rfl ?_
      have hF : fL_hitsOf_h D i C x2 g = (1, g) := if_neg (show ¬ (fX4_hitsOf_h D i C x2).1 = 0 by rw [hx]; decide)
      exact z_ret1 B rfl dL_hitsOf_16 () (trivial) (Nat.le_of_ble_eq_true rfl) (Nat.le_of_ble_eq_true rfl) (by rw [hF]) (by rw [hF])
  refine z_i2l B dL_hitsOf_8 ?_
  refine z_last B (N := 1) (f := g) 4 0 rfl rfl (z_vpc (k := 0) rfl (by decide)) (bs' := [zXo ax zn sa la tr tc X, zSa K sa f, zSO n so sc D, zCa K (sc i) C, zOu K ao (vp_updL g 0 (((fX4_hitsOf_h D i C x2).2).toInt64))]) rfl dL_hitsOf_9 ?_
  refine z_goto B (tgt := 17) dL_hitsOf_10 (by decide) ?_
  refine z_iconst B (v := 0) dL_hitsOf_17 rfl ?_
  have hF : fL_hitsOf_h D i C x2 g = (0, (vp_updL g 0 (((fX4_hitsOf_h D i C x2).2).toInt64))) := if_pos h1
  exact z_ret1 B rfl dL_hitsOf_18 () (trivial) (Nat.le_of_ble_eq_true rfl) (Nat.le_of_ble_eq_true rfl) (by rw [hF]) (by rw [hF])
def fL_hitsOf_m (x1 : Int32) (x2 : Int32) (g : Nat → Int64) : Int32 :=
  1
set_option maxHeartbeats 4000000 in
set_option maxRecDepth 100000 in
theorem kL_hitsOf_m (l : Launch) (hl : l.stackTraces = false) (K : zK) (ax : Nat) (zn : Nat) (sa : Nat) (la : Nat) (tr : Nat) (tc : Nat) (X : Nat → Int32) (f : Nat → Option Nat) (x1 : Int32) (x2 : Int32) (ao : Nat) (g : Nat → Int64) (hfn : x1 < 4 → ¬ x1 < 0 → f x1.toNatClampNeg = none) : zMet l K yL_hitsOf wsL_hitsOf { frames := 9, cells := 1, slots := 6, locals := 149 } [.ref ax, .int x1, .int x2, .ref ao] [zXo ax zn sa la tr tc X, zSa K sa f, zOu K ao g] (some (.int (fL_hitsOf_m x1 x2 g))) [zXo ax zn sa la tr tc X, zSa K sa f, zOu K ao g] True zNo := by
  refine zMeN.ofH (hh := [(0, 10, 13, 13)]) (cc := cL_hitsOf) (maxL := 5) (ret := (some .int)) (own := RL) (nm := "hitsOf") hl (by decide +kernel) rfl rfl rfl (Nat.le_of_ble_eq_true rfl) (lv := [(0, .ref ax), (1, .int x1), (2, .int x2), (3, .ref ao)]) rfl ?_
  intro p e s m args below meth c A B
  refine z_aload_n B dL_hitsOf_0 3 rfl ?_
  refine z_iconst B (v := 0) dL_hitsOf_1 rfl ?_
  refine z_aload_n B dL_hitsOf_2 0 rfl ?_
  refine z_iload_n B dL_hitsOf_3 1 rfl ?_
  refine z_iload_n B dL_hitsOf_4 2 rfl ?_
  refine z_V1 B (kX4_hitsOf_m l hl K ax zn sa la tr tc X f x1 x2 hfn) [0, 1] [2] (br := [zOu K ao g]) (bs' := [zXo ax zn sa la tr tc X, zSa K sa f, zOu K ao g]) (st := [.int 0, .ref ao]) (nA := 2) (zsp rfl rfl rfl) (zsp rfl rfl rfl) 0 0 rfl rfl rfl rfl gL_hitsOf_X4_hitsOf rfl (by decide +kernel) ⟨Nat.le_of_ble_eq_true rfl, Nat.le_of_ble_eq_true rfl⟩ rfl rfl (Nat.le_of_ble_eq_true rfl) ⟨Nat.le_of_ble_eq_true rfl, Nat.le_of_ble_eq_true rfl⟩ dL_hitsOf_5 (fun E hE => ?_) (fun h9 => h9.elim)
  · rcases hE with ⟨rfl, hx⟩
    · refine z_catch B [] ⟨0, 10, 13, 13⟩ [] rfl (fun _ h => absurd h List.not_mem_nil) rfl (by decide) hwL_hitsOf_cl13 z_ca1 (fun q9 => ?_)
      refine z_astore B (lv' := [(4, .ref q9), (0, .ref ax), (1, .int x1), (2, .int x2), (3, .ref ao)]) dL_hitsOf_13 (by decide) rfl ?_
      refine z_iconst B (v := 1) dL_hitsOf_15 rfl ?_
      have hF : fL_hitsOf_m x1 x2 g = 1 := rfl
      exact z_ret1 B rfl dL_hitsOf_16 () (trivial) (Nat.le_of_ble_eq_true rfl) (Nat.le_of_ble_eq_true rfl) (by rw [hF]) (by rw [hF])
def fL_addSite (X : Nat → Int32) (x1 : Int32) (g : Nat → Int64) : Int32 × (Nat → Int64) :=
  if (fX4_addSite X x1).1 = 0 then
    (0, (vp_updL g 0 (((fX4_addSite X x1).2.1).toInt64)))
  else
    if (fX4_addSite X x1).1 = 2 then
      (1, g)
    else
      (2, g)
theorem hwL_addSite_cl15 : Cond.classLink RL 15 "java/lang/IllegalArgumentException" ∈ wsL_addSite := by decide +kernel
theorem hwL_addSite_cl34 : Cond.classLink RL 34 "java/lang/IllegalStateException" ∈ wsL_addSite := by decide +kernel
set_option maxHeartbeats 4000000 in
set_option maxRecDepth 100000 in
theorem kL_addSite (l : Launch) (hl : l.stackTraces = false) (K : zK) (ax : Nat) (zn : Nat) (sa : Nat) (la : Nat) (tr : Nat) (tc : Nat) (X : Nat → Int32) (f : Nat → Option Nat) (n : Nat) (so : Nat → Nat) (sc : Nat → Nat → Nat) (D : Nat → Nat → Int32) (Cs : Nat → Nat → Nat → Int32) (x1 : Int32) (ao : Nat) (g : Nat → Int64) (hX2 : (X 2) = nI n) (hn4 : n ≤ 4) : zMeN l K yL_addSite wsL_addSite { frames := 8, cells := 8, slots := 96, locals := 126 } [.ref ax, .int x1, .ref ao] [zXo ax zn sa la tr tc X, zSa K sa f, zSO n so sc D, zSC K n sc Cs, zOu K ao g] (fun u : Nat × (Nat → Nat) => (some (.int (fL_addSite X x1 g).1), (if (fX4_addSite X x1).1 = 0 then [zXo ax zn sa la tr tc (fX4_addSite X x1).2.2, zSa K sa (va_up f n (some u.1)), zSO (n + 1) (va_up so n u.1) (va_up sc n u.2) (va_up D n (va_up (va_up (va_up (fun _ => 0) 0 (X 2)) 1 x1) 3 1)), zSC K (n + 1) (va_up sc n u.2) (va_up Cs n zC0), zOu K ao (fL_addSite X x1 g).2] else [zXo ax zn sa la tr tc X, zSa K sa f, zSO n so sc D, zSC K n sc Cs, zOu K ao (fL_addSite X x1 g).2] : zB))) (fun u : Nat × (Nat → Nat) => True) zNo := by
  refine zMeN.ofH (hh := [(0, 9, 12, 15), (0, 9, 15, 34)]) (cc := cL_addSite) (maxL := 4) (ret := (some .int)) (own := RL) (nm := "addSite") hl (by decide +kernel) rfl rfl rfl (Nat.le_of_ble_eq_true rfl) (lv := [(0, .ref ax), (1, .int x1), (2, .ref ao)]) rfl ?_
  intro p e s m args below meth c A B
  refine z_aload_n B dL_addSite_0 2 rfl ?_
  refine z_iconst B (v := 0) dL_addSite_1 rfl ?_
  refine z_aload_n B dL_addSite_2 0 rfl ?_
  refine z_iload_n B dL_addSite_3 1 rfl ?_
  refine z_callV B (kX4_addSite l hl K ax zn sa la tr tc X f n so sc D Cs x1 hX2 hn4) [0, 1, 2, 3] [4] (br := [zOu K ao g]) (bs' := fun u9 => [zXo ax zn sa la tr tc (fX4_addSite X x1).2.2, zSa K sa (va_up f n (some u9.1)), zSO (n + 1) (va_up so n u9.1) (va_up sc n u9.2) (va_up D n (va_up (va_up (va_up (fun _ => 0) 0 (X 2)) 1 x1) 3 1)), zSC K (n + 1) (va_up sc n u9.2) (va_up Cs n zC0), zOu K ao g]) (st := [.int 0, .ref ao]) (nA := 1) (zsp rfl rfl rfl) (fun _ => zsp rfl rfl rfl) 0 0 rfl rfl rfl rfl gL_addSite_X4_addSite rfl (by decide +kernel) ⟨Nat.le_of_ble_eq_true rfl, Nat.le_of_ble_eq_true rfl⟩ rfl rfl (Nat.le_of_ble_eq_true rfl) ⟨Nat.le_of_ble_eq_true rfl, Nat.le_of_ble_eq_true rfl⟩ dL_addSite_4 (fun E hE => ?_) (fun u9 h1 => ?_)
  · rcases hE with ⟨rfl, hx⟩ | ⟨rfl, hx⟩
    · refine z_catch B [] ⟨0, 9, 12, 15⟩ [⟨0, 9, 15, 34⟩] rfl (fun _ h => absurd h List.not_mem_nil) rfl (by decide) hwL_addSite_cl15 z_ca2 (fun q9 => ?_)
      refine z_astore_n B (lv' := [(3, .ref q9), (0, .ref ax), (1, .int x1), (2, .ref ao)]) dL_addSite_12 (by decide) rfl ?_
      refine z_iconst B (v := 1) dL_addSite_13 rfl ?_
      have hF : fL_addSite X x1 g = (1, g) := (if_neg (show ¬ (fX4_addSite X x1).1 = 0 by rw [hx]; decide)).trans (if_pos hx)
      exact z_ret1 B rfl dL_addSite_14 (0, fun _ => 0) trivial (Nat.le_of_ble_eq_true rfl) (Nat.le_of_ble_eq_true rfl) (by rw [hF]) (by rw [hF]; exact if_neg (show ¬ (fX4_addSite X x1).1 = 0 by rw [hx]; decide))
    · refine z_catch B [⟨0, 9, 12, 15⟩] ⟨0, 9, 15, 34⟩ [] rfl (z_pass1 (Or.inr ⟨by decide, _, hwL_addSite_cl15, B.2.2.2.2.2.2.2.2.2.2.2.2.2.1⟩)) rfl (by decide) hwL_addSite_cl34 z_ca3 (fun q9 => ?_)
      refine z_astore_n B (lv' := [(3, .ref q9), (0, .ref ax), (1, .int x1), (2, .ref ao)]) dL_addSite_15 (by decide) rfl ?_
      refine z_iconst B (v := 2) dL_addSite_16 rfl ?_
      have hF : fL_addSite X x1 g = (2, g) := (if_neg (show ¬ (fX4_addSite X x1).1 = 0 by rw [hx]; decide)).trans (if_neg (show ¬ (fX4_addSite X x1).1 = 2 by rw [hx]; decide))
      exact z_ret1 B rfl dL_addSite_17 (0, fun _ => 0) trivial (Nat.le_of_ble_eq_true rfl) (Nat.le_of_ble_eq_true rfl) (by rw [hF]) (by rw [hF]; exact if_neg (show ¬ (fX4_addSite X x1).1 = 0 by rw [hx]; decide))
  refine z_i2l B dL_addSite_7 ?_
  refine z_last B (N := 1) (f := g) 4 0 rfl rfl (z_vpc (k := 0) rfl (by decide)) (bs' := [zXo ax zn sa la tr tc (fX4_addSite X x1).2.2, zSa K sa (va_up f n (some u9.1)), zSO (n + 1) (va_up so n u9.1) (va_up sc n u9.2) (va_up D n (va_up (va_up (va_up (fun _ => 0) 0 (X 2)) 1 x1) 3 1)), zSC K (n + 1) (va_up sc n u9.2) (va_up Cs n zC0), zOu K ao (vp_updL g 0 (((fX4_addSite X x1).2.1).toInt64))]) rfl dL_addSite_8 ?_
  refine z_goto B (tgt := 18) dL_addSite_9 (by decide) ?_
  refine z_iconst B (v := 0) dL_addSite_18 rfl ?_
  have hF : fL_addSite X x1 g = (0, (vp_updL g 0 (((fX4_addSite X x1).2.1).toInt64))) := if_pos h1
  exact z_ret1 B rfl dL_addSite_19 u9 trivial (Nat.le_of_ble_eq_true rfl) (Nat.le_of_ble_eq_true rfl) (by rw [hF]) (by rw [hF]; exact if_pos h1)
