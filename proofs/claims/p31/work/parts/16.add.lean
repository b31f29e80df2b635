/-! ADDSITE: the lists grow by one -/
theorem zSO_push {n q : Nat} {u so : Nat → Nat} {sc : Nat → Nat → Nat} {D : Nat → Nat → Int32} {d : Nat → Int32} : zSO (n + 1) (va_up so n q) (va_up sc n u) (va_up D n d) = zSO n so sc D ++ [zSi q (u 0) d] := by
  unfold zSO
  rw [List.range_succ, List.map_append]
  congr 1
  · refine List.map_congr_left fun i hi => ?_
    have : i ≠ n := by have := List.mem_range.mp hi; omega
    rw [va_up_ne _ _ this, va_up_ne _ _ this, va_up_ne _ _ this]
  · simp only [List.map_cons, List.map_nil, va_up_self]
theorem zSC_push {K : zK} {n : Nat} {u : Nat → Nat} {sc : Nat → Nat → Nat} {Cs : Nat → Nat → Nat → Int32} {C : Nat → Nat → Int32} : zSC K (n + 1) (va_up sc n u) (va_up Cs n C) = zSC K n sc Cs ++ zCa K u C := by
  unfold zSC
  rw [List.range_succ, List.map_append, List.flatten_append]
  congr 1
  · refine congrArg List.flatten (List.map_congr_left fun i hi => ?_)
    have : i ≠ n := by have := List.mem_range.mp hi; omega
    rw [va_up_ne _ _ this, va_up_ne _ _ this]
  · simp only [List.map_cons, List.map_nil, va_up_self, List.flatten_cons, List.flatten_nil, List.append_nil]
theorem z_permA {α : Type} (a b c d : List α) (x : α) (y : List α) : ([a, b, c, d, x :: y] : List (List α)).flatten.Perm ([a, b, c ++ [x], d ++ y] : List (List α)).flatten := by
  simp only [List.flatten_cons, List.flatten_nil, List.append_nil]
  refine List.Perm.append_left _ (List.Perm.append_left _ ?_)
  rw [List.append_assoc]
  refine List.Perm.append_left _ ?_
  exact List.perm_middle
theorem z_permS {K : zK} {n q : Nat} {u so : Nat → Nat} {sc : Nat → Nat → Nat} {D : Nat → Nat → Int32} {Cs : Nat → Nat → Nat → Int32} {d : Nat → Int32} {C : Nat → Nat → Int32} {a b : va_W} : ([a, b, zSO n so sc D, zSC K n sc Cs, zSi q (u 0) d :: zCa K u C] : zB).flatten.Perm ([a, b, zSO (n + 1) (va_up so n q) (va_up sc n u) (va_up D n d), zSC K (n + 1) (va_up sc n u) (va_up Cs n C)] : zB).flatten := by
  rw [zSO_push, zSC_push]
  exact z_permA _ _ _ _ _ _
theorem z_cl4 {n : Nat} (h : n ≤ 4) : (nI n).toNatClampNeg = n := nI_clamp (by omega)

def fX4_addSite (X : Nat → Int32) (x1 : Int32) : Nat × Int32 × (Nat → Int32) :=
  if (fX4_requireWithin x1 0 99) = 0 then
    if (X 2) < 4 then
      (0, (X 2), (va_up X 2 ((X 2) + 1)))
    else
      (3, 0, X)
  else
    ((fX4_requireWithin x1 0 99), 0, X)
theorem hiX4_addSite_4 : ∀ w ∈ wsX40, w ∈ wsX4_addSite := by decide +kernel
theorem hfX4_addSite_76 : Cond.fieldLink RX4 76 "ResolverFleet" "siteCount" "I" ∈ wsX4_addSite := by decide +kernel
theorem hfX4_addSite_18 : Cond.fieldLink RX4 18 "ResolverFleet" "sites" "[LResolverFleet$Site;" ∈ wsX4_addSite := by decide +kernel
theorem hiX4_addSite_2 : ∀ w ∈ wsX20, w ∈ wsX4_addSite := by decide +kernel
theorem hwX4_addSite_cl16 : Cond.classLink RX4 16 RX2 ∈ wsX4_addSite := by decide +kernel
theorem hwX4_addSite_ins2 : Cond.instantiable RX2 4 ∈ wsX4_addSite := by decide +kernel
theorem hwX4_addSite_init2 : Cond.initialized RX2 ∈ wsX4_addSite := by decide +kernel
theorem hwX4_addSite_ml84 : Cond.methodLink RX4 84 yX2_init ∈ wsX4_addSite := by decide +kernel
theorem hwX4_addSite_miX2_init : Cond.instanceMethod yX2_init ∈ wsX4_addSite := by decide +kernel
theorem hwX4_addSite_inX2_init : Cond.initialized yX2_init.cls ∈ wsX4_addSite := by decide +kernel
theorem haX4_addSite_83 : ∀ w ∈ (vx_atS RX4 83 "java/lang/IllegalStateException" ["java/lang/RuntimeException", "java/lang/Exception"]).filter goodWord, w ∈ wsX4_addSite := by decide +kernel
theorem hgX4_addSite_83 : ∀ w ∈ (vx_atS RX4 83 "java/lang/IllegalStateException" ["java/lang/RuntimeException", "java/lang/Exception"]).filter (fun w => !goodWord w), w ∈ zNw := by decide +kernel
theorem hoX4_addSite_83 : ∀ w ∈ Cond.classLink RX4 79 "java/lang/IllegalStateException" :: Cond.initialized "java/lang/IllegalStateException" :: vx_atS RX4 83 "java/lang/IllegalStateException" ["java/lang/RuntimeException", "java/lang/Exception"], vx_ot w = true := by decide +kernel
theorem hwX4_addSite_cl79 : Cond.classLink RX4 79 "java/lang/IllegalStateException" ∈ wsX4_addSite := by decide +kernel
theorem hwX4_addSite_ini79 : Cond.initialized "java/lang/IllegalStateException" ∈ wsX4_addSite := by decide +kernel
set_option maxHeartbeats 4000000 in
set_option maxRecDepth 100000 in
theorem kX4_addSite (l : Launch) (hl : l.stackTraces = false) (K : zK) (ax : Nat) (zn : Nat) (sa : Nat) (la : Nat) (tr : Nat) (tc : Nat) (X : Nat → Int32) (f : Nat → Option Nat) (n : Nat) (so : Nat → Nat) (sc : Nat → Nat → Nat) (D : Nat → Nat → Int32) (Cs : Nat → Nat → Nat → Int32) (x1 : Int32) (hX2 : (X 2) = nI n) (hn4 : n ≤ 4) : zMeN l K yX4_addSite wsX4_addSite { frames := 7, cells := 8, slots := 96, locals := 104 } [.ref ax, .int x1] [zXo ax zn sa la tr tc X, zSa K sa f, zSO n so sc D, zSC K n sc Cs] (fun u : Nat × (Nat → Nat) => (some (.int (fX4_addSite X x1).2.1), ([zXo ax zn sa la tr tc (fX4_addSite X x1).2.2, zSa K sa (va_up f n (some u.1)), zSO (n + 1) (va_up so n u.1) (va_up sc n u.2) (va_up D n (va_up (va_up (va_up (fun _ => 0) 0 (X 2)) 1 x1) 3 1)), zSC K (n + 1) (va_up sc n u.2) (va_up Cs n zC0)] : zB))) (fun u : Nat × (Nat → Nat) => (fX4_addSite X x1).1 = 0) (fun E => (E = zE2 ∧ (fX4_addSite X x1).1 = 2) ∨ (E = zE3 ∧ (fX4_addSite X x1).1 = 3)) := by
  refine zMeN.of (cc := cX4_addSite) (maxL := 3) (ret := (some .int)) (own := RX4) (nm := "addSite") hl (by decide +kernel) rfl rfl rfl (Nat.le_of_ble_eq_true rfl) (lv := [(0, .ref ax), (1, .int x1)]) rfl ?_
  intro p e s m args below meth c A B
  refine z_iload_n B dX4_addSite_0 1 rfl ?_
  refine z_iconst B (v := 0) dX4_addSite_1 rfl ?_
  refine z_bipush B (v := 99) dX4_addSite_2 rfl ?_
  refine z_S0 B (kX4_requireWithin l hl K x1 0 99) [] [0, 1, 2, 3] (br := [zXo ax zn sa la tr tc X, zSa K sa f, zSO n so sc D, zSC K n sc Cs]) (bs' := [zXo ax zn sa la tr tc X, zSa K sa f, zSO n so sc D, zSC K n sc Cs]) (st := []) (nA := 3) (zsp rfl rfl rfl) (zsp rfl rfl rfl) gX4_addSite_X4_requireWithin rfl (by decide +kernel) ⟨Nat.le_of_ble_eq_true rfl, Nat.le_of_ble_eq_true rfl⟩ rfl rfl (Nat.le_of_ble_eq_true rfl) ⟨Nat.le_of_ble_eq_true rfl, Nat.le_of_ble_eq_true rfl⟩ dX4_addSite_4 (fun E hE => ?_) (fun h1 => ?_)
  · rcases hE with ⟨rfl, hx⟩
    · have hF : fX4_addSite X x1 = (2, 0, X) := (if_neg (show ¬ (fX4_requireWithin x1 0 99) = 0 by rw [hx]; decide)).trans ((show ((fX4_requireWithin x1 0 99), 0, X) = (2, 0, X) by rw [hx]))
      exact z_out B (Or.inl ⟨rfl, by rw [hF]⟩) (Nat.le_of_ble_eq_true rfl) (Nat.le_of_ble_eq_true rfl)
  refine z_aload_n B dX4_addSite_7 0 rfl ?_
  refine z_get B (v := .int (X 2)) 0 0 2 hiX4_addSite_4 hfX4_addSite_76 rfl rfl rfl (by decide) rfl rfl rfl rfl dX4_addSite_8 ?_
  refine z_aload_n B dX4_addSite_11 0 rfl ?_
  refine z_get B (v := .ref sa) 0 0 1 hiX4_addSite_4 hfX4_addSite_18 rfl rfl rfl (by decide) rfl rfl rfl rfl dX4_addSite_12 ?_
  refine z_alen B (v := 4) 1 0 2 rfl rfl rfl rfl dX4_addSite_15 ?_
  refine z_iclt B 29 dX4_addSite_16 (by decide) (fun c2 => ?_) (fun c2 => ?_)
  · refine z_aload_n B dX4_addSite_29 0 rfl ?_
    refine z_get B (v := .int (X 2)) 0 0 2 hiX4_addSite_4 hfX4_addSite_76 rfl rfl rfl (by decide) rfl rfl rfl rfl dX4_addSite_30 ?_
    refine z_istore_n B (lv' := [(2, .int (X 2)), (0, .ref ax), (1, .int x1)]) dX4_addSite_33 (by decide) rfl ?_
    refine z_aload_n B dX4_addSite_34 1 rfl ?_
    refine z_get B (v := .ref sa) 0 0 1 hiX4_addSite_4 hfX4_addSite_18 rfl rfl rfl (by decide) rfl rfl rfl rfl dX4_addSite_35 ?_
    refine z_iload_n B dX4_addSite_38 0 rfl ?_
    refine z_new B (ci := 2) (fs := [.int 0, .int 0, .null, .int 0]) hiX4_addSite_2 tyX2_ok hwX4_addSite_cl16 hwX4_addSite_ins2 hwX4_addSite_init2 rfl (by decide +kernel) (Nat.le_of_ble_eq_true rfl) (Nat.le_of_ble_eq_true rfl) dX4_addSite_39 (fun q3 => ?_)
    refine z_dup B dX4_addSite_42 rfl ?_
    refine z_iload_n B dX4_addSite_43 0 rfl ?_
    refine z_iload_n B dX4_addSite_44 2 rfl ?_
    refine z_callI B (kX2_init l hl K q3 (X 2) x1) [4] [0, 1, 2, 3] (br := [zXo ax zn sa la tr tc X, zSa K sa f, zSO n so sc D, zSC K n sc Cs]) (bs' := fun u4 => [zXo ax zn sa la tr tc X, zSa K sa f, zSO n so sc D, zSC K n sc Cs, (zSi q3 (u4 0) (va_up (va_up (va_up (fun _ => 0) 0 (X 2)) 1 x1) 3 1) :: zCa K u4 zC0)]) (st := [.ref q3, .int (X 2), .ref sa]) (nA := 2) (zsp rfl rfl rfl) (fun _ => zsp rfl rfl rfl) gX4_addSite_X2_init hwX4_addSite_ml84 hwX4_addSite_miX2_init hwX4_addSite_inX2_init rfl rfl (by decide +kernel) ⟨Nat.le_of_ble_eq_true rfl, Nat.le_of_ble_eq_true rfl⟩ rfl rfl (Nat.le_of_ble_eq_true rfl) ⟨Nat.le_of_ble_eq_true rfl, Nat.le_of_ble_eq_true rfl⟩ dX4_addSite_45 (fun u4 hu4 => ?_)
    refine z_aast B (N := 4) (f := f) 1 0 4 0 rfl rfl rfl rfl (z_vp2 (M := 4) rfl (show ¬ X 2 < 0 by rw [hX2]; exact nI_pos (by omega)) c2) (bs' := [zXo ax zn sa la tr tc X, zSa K sa (va_up f (X 2).toNatClampNeg (some q3)), zSO n so sc D, zSC K n sc Cs, (zSi q3 (u4 0) (va_up (va_up (va_up (fun _ => 0) 0 (X 2)) 1 x1) 3 1) :: zCa K u4 zC0)]) rfl dX4_addSite_48 ?_
    refine z_aload_n B dX4_addSite_49 1 rfl ?_
    refine z_dup B dX4_addSite_50 rfl ?_
    refine z_get B (v := .int (X 2)) 0 0 2 hiX4_addSite_4 hfX4_addSite_76 rfl rfl rfl (by decide) rfl rfl rfl rfl dX4_addSite_51 ?_
    refine z_iconst B (v := 1) dX4_addSite_54 rfl ?_
    refine z_iadd B dX4_addSite_55 ?_
    refine z_put B 0 0 2 hiX4_addSite_4 hfX4_addSite_76 tyX4_ok nmX4 rfl rfl rfl (by decide) rfl rfl rfl rfl rfl rfl rfl (Nat.le_of_ble_eq_true rfl) (bs' := [zXo ax zn sa la tr tc (va_up X 2 ((X 2) + 1)), zSa K sa (va_up f (X 2).toNatClampNeg (some q3)), zSO n so sc D, zSC K n sc Cs, (zSi q3 (u4 0) (va_up (va_up (va_up (fun _ => 0) 0 (X 2)) 1 x1) 3 1) :: zCa K u4 zC0)]) rfl dX4_addSite_56 ?_
    refine z_iload_n B dX4_addSite_59 0 rfl ?_
    have hF : fX4_addSite X x1 = (0, (X 2), (va_up X 2 ((X 2) + 1))) := (if_pos h1).trans (if_pos c2)
    rw [show (X 2).toNatClampNeg = n from by rw [hX2]; exact z_cl4 hn4]
    refine z_perm (bs' := [zXo ax zn sa la tr tc (va_up X 2 ((X 2) + 1)), zSa K sa (va_up f n (some q3)), zSO (n + 1) (va_up so n q3) (va_up sc n u4) (va_up D n (va_up (va_up (va_up (fun _ => 0) 0 (X 2)) 1 x1) 3 1)), zSC K (n + 1) (va_up sc n u4) (va_up Cs n zC0)]) z_permS ?_
    exact z_ret1 B rfl dX4_addSite_60 (q3, u4) (by rw [hF]) (Nat.le_of_ble_eq_true rfl) (Nat.le_of_ble_eq_true rfl) (by rw [hF]) (by rw [hF])
  · have hF : fX4_addSite X x1 = (3, 0, X) := (if_pos h1).trans (if_neg c2)
    exact z_throw B rfl ["java/lang/RuntimeException", "java/lang/Exception"] (by decide +kernel) (by decide +kernel) hwX4_addSite_cl79 hwX4_addSite_ini79 (text := "there is no room for another site") (by decide +kernel) haX4_addSite_83 hgX4_addSite_83 hoX4_addSite_83 dX4_addSite_19 dX4_addSite_22 dX4_addSite_23 dX4_addSite_25 dX4_addSite_28 (by decide) (Nat.le_of_ble_eq_true rfl) (Nat.le_of_ble_eq_true rfl) (Nat.le_of_ble_eq_true rfl) (Or.inr (⟨rfl, by rw [hF]⟩)) (Nat.le_of_ble_eq_true rfl) (Nat.le_of_ble_eq_true rfl)
