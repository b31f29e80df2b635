set_option maxHeartbeats 4000000 in
set_option maxRecDepth 100000 in
theorem kX4_addSite_y (l : Launch) (hl : l.stackTraces = false) (K : zK) (ax : Nat) (zn : Nat) (sa : Nat) (la : Nat) (tr : Nat) (tc : Nat) (X : Nat → Int32) (f : Nat → Option Nat) (n : Nat) (so : Nat → Nat) (sc : Nat → Nat → Nat) (D : Nat → Nat → Int32) (Cs : Nat → Nat → Nat → Int32) (x1 : Int32) (hX2 : (X 2) = nI n) (hn4 : n ≤ 4) (r0 : ¬ x1 < 0) (r1 : x1 ≤ 99) (hx4 : (X 2) < 4) : zMeN l K yX4_addSite wsX4_addSite { frames := 3, cells := 7, slots := 90, locals := 65 } [.ref ax, .int x1] [zXo ax zn sa la tr tc X, zSa K sa f, zSO n so sc D, zSC K n sc Cs] (fun u : Nat × (Nat → Nat) => (some (.int (X 2)), ([zXo ax zn sa la tr tc (va_up X 2 ((X 2) + 1)), zSa K sa (va_up f n (some u.1)), zSO (n + 1) (va_up so n u.1) (va_up sc n u.2) (va_up D n (va_up (va_up (va_up (fun _ => 0) 0 (X 2)) 1 x1) 3 1)), zSC K (n + 1) (va_up sc n u.2) (va_up Cs n zC0)] : zB))) (fun u : Nat × (Nat → Nat) => True) zNo := by
  refine zMeN.of (cc := cX4_addSite) (maxL := 3) (ret := (some .int)) (own := RX4) (nm := "addSite") hl (by decide +kernel) rfl rfl rfl (Nat.le_of_ble_eq_true rfl) (lv := [(0, .ref ax), (1, .int x1)]) rfl ?_
  intro p e s m args below meth c A B
  refine z_iload_n B dX4_addSite_0 1 rfl ?_
  refine z_iconst B (v := 0) dX4_addSite_1 rfl ?_
  refine z_bipush B (v := 99) dX4_addSite_2 rfl ?_
  refine z_S0 B (kX4_requireWithin_o l hl K x1 0 99 r0 r1) [] [0, 1, 2, 3] (br := [zXo ax zn sa la tr tc X, zSa K sa f, zSO n so sc D, zSC K n sc Cs]) (bs' := [zXo ax zn sa la tr tc X, zSa K sa f, zSO n so sc D, zSC K n sc Cs]) (st := []) (nA := 3) (zsp rfl rfl rfl) (zsp rfl rfl rfl) gX4_addSite_X4_requireWithin rfl (by decide +kernel) ⟨Nat.le_of_ble_eq_true rfl, Nat.le_of_ble_eq_true rfl⟩ rfl rfl (Nat.le_of_ble_eq_true rfl) ⟨Nat.le_of_ble_eq_true rfl, Nat.le_of_ble_eq_true rfl⟩ dX4_addSite_4 z_noX (fun _ => ?_)
  refine z_aload_n B dX4_addSite_7 0 rfl ?_
  refine z_get B (v := .int (X 2)) 0 0 2 hiX4_addSite_4 hfX4_addSite_76 rfl rfl rfl (by decide) rfl rfl rfl rfl dX4_addSite_8 ?_
  refine z_aload_n B dX4_addSite_11 0 rfl ?_
  refine z_get B (v := .ref sa) 0 0 1 hiX4_addSite_4 hfX4_addSite_18 rfl rfl rfl (by decide) rfl rfl rfl rfl dX4_addSite_12 ?_
  refine z_alen B (v := 4) 1 0 2 rfl rfl rfl rfl dX4_addSite_15 ?_
  refine z_iclt B 29 dX4_addSite_16 (by decide) (fun _ => ?_) (fun h => absurd hx4 h)
  refine z_aload_n B dX4_addSite_29 0 rfl ?_
  refine z_get B (v := .int (X 2)) 0 0 2 hiX4_addSite_4 hfX4_addSite_76 rfl rfl rfl (by decide) rfl rfl rfl rfl dX4_addSite_30 ?_
  refine z_istore_n B (lv' := [(2, .int (X 2)), (0, .ref ax), (1, .int x1)]) dX4_addSite_33 (by decide) rfl ?_
  refine z_aload_n B dX4_addSite_34 1 rfl ?_
  refine z_get B (v := .ref sa) 0 0 1 hiX4_addSite_4 hfX4_addSite_18 rfl rfl rfl (by decide) rfl rfl rfl rfl dX4_addSite_35 ?_
  refine z_iload_n B dX4_addSite_38 0 rfl ?_
  refine z_new B (ci := 2) (fs := [.int 0, .int 0, .null, .int 0]) hiX4_addSite_2 tyX2_ok hwX4_addSite_cl16 hwX4_addSite_ins2 hwX4_addSite_init2 rfl (by decide +kernel) (Nat.le_of_ble_eq_true rfl) (Nat.le_of_ble_eq_true rfl) dX4_addSite_39 (fun q1 => ?_)
  refine z_dup B dX4_addSite_42 rfl ?_
  refine z_iload_n B dX4_addSite_43 0 rfl ?_
  refine z_iload_n B dX4_addSite_44 2 rfl ?_
  refine z_callI B (kX2_init l hl K q1 (X 2) x1) [4] [0, 1, 2, 3] (br := [zXo ax zn sa la tr tc X, zSa K sa f, zSO n so sc D, zSC K n sc Cs]) (bs' := fun u2 => [zXo ax zn sa la tr tc X, zSa K sa f, zSO n so sc D, zSC K n sc Cs, (zSi q1 (u2 0) (va_up (va_up (va_up (fun _ => 0) 0 (X 2)) 1 x1) 3 1) :: zCa K u2 zC0)]) (st := [.ref q1, .int (X 2), .ref sa]) (nA := 2) (zsp rfl rfl rfl) (fun _ => zsp rfl rfl rfl) gX4_addSite_X2_init hwX4_addSite_ml84 hwX4_addSite_miX2_init hwX4_addSite_inX2_init rfl rfl (by decide +kernel) ⟨Nat.le_of_ble_eq_true rfl, Nat.le_of_ble_eq_true rfl⟩ rfl rfl (Nat.le_of_ble_eq_true rfl) ⟨Nat.le_of_ble_eq_true rfl, Nat.le_of_ble_eq_true rfl⟩ dX4_addSite_45 (fun u2 hu2 => ?_)
  refine z_aast B (N := 4) (f := f) 1 0 4 0 rfl rfl rfl rfl (z_vp2 (M := 4) rfl (show ¬ X 2 < 0 by rw [hX2]; exact nI_pos (by omega)) hx4) (bs' := [zXo ax zn sa la tr tc X, zSa K sa (va_up f (X 2).toNatClampNeg (some q1)), zSO n so sc D, zSC K n sc Cs, (zSi q1 (u2 0) (va_up (va_up (va_up (fun _ => 0) 0 (X 2)) 1 x1) 3 1) :: zCa K u2 zC0)]) rfl dX4_addSite_48 ?_
  refine z_aload_n B dX4_addSite_49 1 rfl ?_
  refine z_dup B dX4_addSite_50 rfl ?_
  refine z_get B (v := .int (X 2)) 0 0 2 hiX4_addSite_4 hfX4_addSite_76 rfl rfl rfl (by decide) rfl rfl rfl rfl dX4_addSite_51 ?_
  refine z_iconst B (v := 1) dX4_addSite_54 rfl ?_
  refine z_iadd B dX4_addSite_55 ?_
  refine z_put B 0 0 2 hiX4_addSite_4 hfX4_addSite_76 tyX4_ok nmX4 rfl rfl rfl (by decide) rfl rfl rfl rfl rfl rfl rfl (Nat.le_of_ble_eq_true rfl) (bs' := [zXo ax zn sa la tr tc (va_up X 2 ((X 2) + 1)), zSa K sa (va_up f (X 2).toNatClampNeg (some q1)), zSO n so sc D, zSC K n sc Cs, (zSi q1 (u2 0) (va_up (va_up (va_up (fun _ => 0) 0 (X 2)) 1 x1) 3 1) :: zCa K u2 zC0)]) rfl dX4_addSite_56 ?_
  refine z_iload_n B dX4_addSite_59 0 rfl ?_
  rw [show (X 2).toNatClampNeg = n from by rw [hX2]; exact z_cl4 hn4]
  refine z_perm (bs' := [zXo ax zn sa la tr tc (va_up X 2 ((X 2) + 1)), zSa K sa (va_up f n (some q1)), zSO (n + 1) (va_up so n q1) (va_up sc n u2) (va_up D n (va_up (va_up (va_up (fun _ => 0) 0 (X 2)) 1 x1) 3 1)), zSC K (n + 1) (va_up sc n u2) (va_up Cs n zC0)]) z_permS ?_
  exact z_ret1 B rfl dX4_addSite_60 (q1, u2) trivial (Nat.le_of_ble_eq_true rfl) (Nat.le_of_ble_eq_true rfl) rfl rfl
def fX4_addSite_n (X : Nat → Int32) (x1 : Int32) : Nat × Int32 :=
  (3, 0)
set_option maxHeartbeats 4000000 in
set_option maxRecDepth 100000 in
theorem kX4_addSite_n (l : Launch) (hl : l.stackTraces = false) (K : zK) (ax : Nat) (zn : Nat) (sa : Nat) (la : Nat) (tr : Nat) (tc : Nat) (X : Nat → Int32) (f : Nat → Option Nat) (n : Nat) (so : Nat → Nat) (sc : Nat → Nat → Nat) (D : Nat → Nat → Int32) (x1 : Int32) (hX2 : (X 2) = nI n) (hn4 : n ≤ 4) (r0 : ¬ x1 < 0) (r1 : x1 ≤ 99) (hx4 : ¬ (X 2) < 4) : zMet l K yX4_addSite wsX4_addSite { frames := 6, cells := 1, slots := 6, locals := 82 } [.ref ax, .int x1] [zXo ax zn sa la tr tc X, zSa K sa f, zSO n so sc D] (some (.int ((fX4_addSite_n X x1).2))) [zXo ax zn sa la tr tc X, zSa K sa f, zSO n so sc D] False (fun E => (E = zE3 ∧ (fX4_addSite_n X x1).1 = 3)) := by
  refine zMeN.of (cc := cX4_addSite) (maxL := 3) (ret := (some .int)) (own := RX4) (nm := "addSite") hl (by decide +kernel) rfl rfl rfl (Nat.le_of_ble_eq_true rfl) (lv := [(0, .ref ax), (1, .int x1)]) rfl ?_
  intro p e s m args below meth c A B
  refine z_iload_n B dX4_addSite_0 1 rfl ?_
  refine z_iconst B (v := 0) dX4_addSite_1 rfl ?_
  refine z_bipush B (v := 99) dX4_addSite_2 rfl ?_
  refine z_S0 B (kX4_requireWithin_o l hl K x1 0 99 r0 r1) [] [0, 1, 2] (br := [zXo ax zn sa la tr tc X, zSa K sa f, zSO n so sc D]) (bs' := [zXo ax zn sa la tr tc X, zSa K sa f, zSO n so sc D]) (st := []) (nA := 3) (zsp rfl rfl rfl) (zsp rfl rfl rfl) gX4_addSite_X4_requireWithin rfl (by decide +kernel) ⟨Nat.le_of_ble_eq_true rfl, Nat.le_of_ble_eq_true rfl⟩ rfl rfl (Nat.le_of_ble_eq_true rfl) ⟨Nat.le_of_ble_eq_true rfl, Nat.le_of_ble_eq_true rfl⟩ dX4_addSite_4 z_noX (fun _ => ?_)
  refine z_aload_n B dX4_addSite_7 0 rfl ?_
  refine z_get B (v := .int (X 2)) 0 0 2 hiX4_addSite_4 hfX4_addSite_76 rfl rfl rfl (by decide) rfl rfl rfl rfl dX4_addSite_8 ?_
  refine z_aload_n B dX4_addSite_11 0 rfl ?_
  refine z_get B (v := .ref sa) 0 0 1 hiX4_addSite_4 hfX4_addSite_18 rfl rfl rfl (by decide) rfl rfl rfl rfl dX4_addSite_12 ?_
  refine z_alen B (v := 4) 1 0 2 rfl rfl rfl rfl dX4_addSite_15 ?_
  refine z_iclt B 29 dX4_addSite_16 (by decide) (fun h => absurd h hx4) (fun _ => ?_)
  have hF : fX4_addSite_n X x1 = (3, 0) := rfl
  exact z_throw B rfl ["java/lang/RuntimeException", "java/lang/Exception"] (by decide +kernel) (by decide +kernel) hwX4_addSite_cl79 hwX4_addSite_ini79 (text := "there is no room for another site") (by decide +kernel) haX4_addSite_83 hgX4_addSite_83 hoX4_addSite_83 dX4_addSite_19 dX4_addSite_22 dX4_addSite_23 dX4_addSite_25 dX4_addSite_28 (by decide) (Nat.le_of_ble_eq_true rfl) (Nat.le_of_ble_eq_true rfl) (Nat.le_of_ble_eq_true rfl) (⟨rfl, by rw [hF]⟩) (Nat.le_of_ble_eq_true rfl) (Nat.le_of_ble_eq_true rfl)
set_option maxHeartbeats 4000000 in
set_option maxRecDepth 100000 in
theorem kL_told_ay (l : Launch) (hl : l.stackTraces = false) (K : zK) (ax : Nat) (zn : Nat) (sa : Nat) (la : Nat) (tr : Nat) (tc : Nat) (X : Nat → Int32) (f : Nat → Option Nat) (n : Nat) (so : Nat → Nat) (sc : Nat → Nat → Nat) (D : Nat → Nat → Int32) (Cs : Nat → Nat → Nat → Int32) (x1 : Int32) (hX2 : (X 2) = nI n) (hn4 : n ≤ 4) (r0 : ¬ x1 < 0) (r1 : x1 ≤ 99) (hx4 : (X 2) < 4) : zMeN l K yL_told wsL_told { frames := 4, cells := 7, slots := 90, locals := 87 } [.ref ax, .int 2, .int x1, .int 0] [zXo ax zn sa la tr tc X, zSa K sa f, zSO n so sc D, zSC K n sc Cs] (fun u : Nat × (Nat → Nat) => (some (.int (X 2)), ([zXo ax zn sa la tr tc (va_up X 2 ((X 2) + 1)), zSa K sa (va_up f n (some u.1)), zSO (n + 1) (va_up so n u.1) (va_up sc n u.2) (va_up D n (va_up (va_up (va_up (fun _ => 0) 0 (X 2)) 1 x1) 3 1)), zSC K (n + 1) (va_up sc n u.2) (va_up Cs n zC0)] : zB))) (fun u : Nat × (Nat → Nat) => True) zNo := by
  refine zMeN.ofH (hh := [(0, 46, 47, 44)]) (cc := cL_told) (maxL := 5) (ret := (some .int)) (own := RL) (nm := "told") hl (by decide +kernel) rfl rfl rfl (Nat.le_of_ble_eq_true rfl) (lv := [(0, .ref ax), (1, .int 2), (2, .int x1), (3, .int 0)]) rfl ?_
  intro p e s m args below meth c A B
  refine z_iload_n B dL_told_0 1 rfl ?_
  refine z_ifne B 13 dL_told_1 (by decide) (fun h => absurd h (by decide)) (fun _ => ?_)
  refine z_iload_n B dL_told_13 1 rfl ?_
  refine z_iconst B (v := 1) dL_told_14 rfl ?_
  refine z_icne B 27 dL_told_15 (by decide) (fun h => absurd h (by decide)) (fun _ => ?_)
  refine z_iload_n B dL_told_27 1 rfl ?_
  refine z_iconst B (v := 2) dL_told_28 rfl ?_
  refine z_icne B 40 dL_told_29 (by decide) (fun _ => ?_) (fun h => absurd (by decide) h)
  refine z_aload_n B dL_told_32 0 rfl ?_
  refine z_iload_n B dL_told_33 2 rfl ?_
  refine z_callV B (kX4_addSite_y l hl K ax zn sa la tr tc X f n so sc D Cs x1 hX2 hn4 r0 r1 hx4) [0, 1, 2, 3] [] (br := []) (bs' := fun u9 => [zXo ax zn sa la tr tc (va_up X 2 ((X 2) + 1)), zSa K sa (va_up f n (some u9.1)), zSO (n + 1) (va_up so n u9.1) (va_up sc n u9.2) (va_up D n (va_up (va_up (va_up (fun _ => 0) 0 (X 2)) 1 x1) 3 1)), zSC K (n + 1) (va_up sc n u9.2) (va_up Cs n zC0)]) (st := []) (nA := 1) (zsp rfl rfl rfl) (fun _ => zsp rfl rfl rfl) 0 0 rfl rfl rfl rfl gL_told_X4_addSite rfl (by decide +kernel) ⟨Nat.le_of_ble_eq_true rfl, Nat.le_of_ble_eq_true rfl⟩ rfl rfl (Nat.le_of_ble_eq_true rfl) ⟨Nat.le_of_ble_eq_true rfl, Nat.le_of_ble_eq_true rfl⟩ dL_told_34 z_noX (fun u9 _ => ?_)
  refine z_goto B (tgt := 46) dL_told_37 (by decide) ?_
  exact z_ret1 B rfl dL_told_46 u9 trivial (Nat.le_of_ble_eq_true rfl) (Nat.le_of_ble_eq_true rfl) rfl rfl
def fL_told_an (X : Nat → Int32) (x1 : Int32) : Int32 :=
  (-13)
set_option maxHeartbeats 4000000 in
set_option maxRecDepth 100000 in
theorem kL_told_an (l : Launch) (hl : l.stackTraces = false) (K : zK) (ax : Nat) (zn : Nat) (sa : Nat) (la : Nat) (tr : Nat) (tc : Nat) (X : Nat → Int32) (f : Nat → Option Nat) (n : Nat) (so : Nat → Nat) (sc : Nat → Nat → Nat) (D : Nat → Nat → Int32) (x1 : Int32) (hX2 : (X 2) = nI n) (hn4 : n ≤ 4) (r0 : ¬ x1 < 0) (r1 : x1 ≤ 99) (hx4 : ¬ (X 2) < 4) : zMet l K yL_told wsL_told { frames := 7, cells := 1, slots := 6, locals := 104 } [.ref ax, .int 2, .int x1, .int 0] [zXo ax zn sa la tr tc X, zSa K sa f, zSO n so sc D] (some (.int (fL_told_an X x1))) [zXo ax zn sa la tr tc X, zSa K sa f, zSO n so sc D] True zNo := by
  refine zMeN.ofH (hh := [(0, 46, 47, 44)]) (cc := cL_told) (maxL := 5) (ret := (some .int)) (own := RL) (nm := "told") hl (by decide +kernel) rfl rfl rfl (Nat.le_of_ble_eq_true rfl) (lv := [(0, .ref ax), (1, .int 2), (2, .int x1), (3, .int 0)]) rfl ?_
  intro p e s m args below meth c A B
  refine z_iload_n B dL_told_0 1 rfl ?_
  refine z_ifne B 13 dL_told_1 (by decide) (fun h => absurd h (by decide)) (fun _ => ?_)
  refine z_iload_n B dL_told_13 1 rfl ?_
  refine z_iconst B (v := 1) dL_told_14 rfl ?_
  refine z_icne B 27 dL_told_15 (by decide) (fun h => absurd h (by decide)) (fun _ => ?_)
  refine z_iload_n B dL_told_27 1 rfl ?_
  refine z_iconst B (v := 2) dL_told_28 rfl ?_
  refine z_icne B 40 dL_told_29 (by decide) (fun _ => ?_) (fun h => absurd (by decide) h)
  refine z_aload_n B dL_told_32 0 rfl ?_
  refine z_iload_n B dL_told_33 2 rfl ?_
  refine z_V1 B (kX4_addSite_n l hl K ax zn sa la tr tc X f n so sc D x1 hX2 hn4 r0 r1 hx4) [0, 1, 2] [] (br := []) (bs' := [zXo ax zn sa la tr tc X, zSa K sa f, zSO n so sc D]) (st := []) (nA := 1) (zsp rfl rfl rfl) (zsp rfl rfl rfl) 0 0 rfl rfl rfl rfl gL_told_X4_addSite rfl (by decide +kernel) ⟨Nat.le_of_ble_eq_true rfl, Nat.le_of_ble_eq_true rfl⟩ rfl rfl (Nat.le_of_ble_eq_true rfl) ⟨Nat.le_of_ble_eq_true rfl, Nat.le_of_ble_eq_true rfl⟩ dL_told_34 (fun E hE => ?_) (fun h9 => h9.elim)
  · rcases hE with ⟨rfl, hx⟩
    · refine z_catch B [] ⟨0, 46, 47, 44⟩ [] rfl (fun _ h => absurd h List.not_mem_nil) rfl (by decide) hwL_told_cl44 z_ca3 (fun q9 => ?_)
      refine z_astore B (lv' := [(4, .ref q9), (0, .ref ax), (1, .int 2), (2, .int x1), (3, .int 0)]) dL_told_47 (by decide) rfl ?_
      refine z_bipush B (v := (-13)) dL_told_49 rfl ?_
      have hF : fL_told_an X x1 = (-13) := rfl
      exact z_ret1 B rfl dL_told_51 () (trivial) (Nat.le_of_ble_eq_true rfl) (Nat.le_of_ble_eq_true rfl) (by rw [hF]) (by rw [hF])
