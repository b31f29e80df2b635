def fX2_distanceTo (D : Nat → Nat → Int32) (i : Nat) (x1 : Int32) : Int32 :=
  (if 0 ≤ (x1 - (D i 1)) then (x1 - (D i 1)) else 0 - (x1 - (D i 1)))
theorem hiX2_distanceTo_2 : ∀ w ∈ wsX20, w ∈ wsX2_distanceTo := by decide +kernel
theorem hfX2_distanceTo_24 : Cond.fieldLink RX2 24 "ResolverFleet$Site" "position" "I" ∈ wsX2_distanceTo := by decide +kernel
theorem hwX2_distanceTo_al : Cond.methodLink RX2 27 Lib.Math.abs.name ∈ wsX2_distanceTo := by decide +kernel
theorem hwX2_distanceTo_as : Cond.static Lib.Math.abs.name ∈ wsX2_distanceTo := by decide +kernel
theorem hwX2_distanceTo_ai : Cond.initialized "java/lang/Math" ∈ wsX2_distanceTo := by decide +kernel
theorem hwX2_distanceTo_ac : Cond.code Lib.Math.abs.name Lib.Math.abs.code 1 (some .int) ∈ wsX2_distanceTo := by decide +kernel
set_option maxHeartbeats 4000000 in
set_option maxRecDepth 100000 in
theorem kX2_distanceTo (l : Launch) (hl : l.stackTraces = false) (K : zK) (n : Nat) (so : Nat → Nat) (sc : Nat → Nat → Nat) (D : Nat → Nat → Int32) (i : Nat) (x1 : Int32) (hi : i < n) : zMet l K yX2_distanceTo wsX2_distanceTo { frames := 1, cells := 0, slots := 0, locals := 13 } [.ref (so i), .int x1] [zSO n so sc D] (some (.int (fX2_distanceTo D i x1))) [zSO n so sc D] True zNo := by
  refine zMeN.of (cc := cX2_distanceTo) (maxL := 2) (ret := (some .int)) (own := RX2) (nm := "distanceTo") hl (by decide +kernel) rfl rfl rfl (Nat.le_of_ble_eq_true rfl) (lv := [(0, .ref (so i)), (1, .int x1)]) rfl ?_
  intro p e s m args below meth c A B
  refine z_iload_n B dX2_distanceTo_0 1 rfl ?_
  refine z_aload_n B dX2_distanceTo_1 0 rfl ?_
  refine z_get B (v := .int (D i 1)) 0 i 1 hiX2_distanceTo_2 hfX2_distanceTo_24 rfl (zSO_get hi) rfl (by decide) rfl rfl rfl rfl dX2_distanceTo_2 ?_
  refine z_isub B dX2_distanceTo_5 ?_
  refine z_abs B hwX2_distanceTo_al hwX2_distanceTo_as hwX2_distanceTo_ai hwX2_distanceTo_ac (Nat.le_of_ble_eq_true rfl) (Nat.le_of_ble_eq_true rfl) (Nat.le_of_ble_eq_true rfl) (Nat.le_of_ble_eq_true rfl) dX2_distanceTo_6 ?_
  have hF : fX2_distanceTo D i x1 = (if 0 ≤ (x1 - (D i 1)) then (x1 - (D i 1)) else 0 - (x1 - (D i 1))) := rfl
  exact z_ret1 B rfl dX2_distanceTo_9 () (trivial) (Nat.le_of_ble_eq_true rfl) (Nat.le_of_ble_eq_true rfl) (by rw [hF]) (by rw [hF])
/-- the nearest announced site of n, by the loop over the four places -/
def fX4_nr (n : Nat) (D : Nat → Nat → Int32) (x1 : Int32) : Nat → Nat → Option Nat → Option Nat
  | 0, a, g => g
  | m + 1, a, g => if a < n then (if D a 3 = 0 then fX4_nr n D x1 m (a + 1) g else match g with
    | none => fX4_nr n D x1 m (a + 1) (some a)
    | some b => if fX2_distanceTo D b x1 ≤ fX2_distanceTo D a x1 then fX4_nr n D x1 m (a + 1) (some b) else fX4_nr n D x1 m (a + 1) (some a)) else fX4_nr n D x1 m (a + 1) g
def fX4_near (n : Nat) (D : Nat → Nat → Int32) (x1 : Int32) : Option Nat := fX4_nr n D x1 4 0 none
theorem hiX4_nearestSite_4 : ∀ w ∈ wsX40, w ∈ wsX4_nearestSite := by decide +kernel
theorem hfX4_nearestSite_18 : Cond.fieldLink RX4 18 "ResolverFleet" "sites" "[LResolverFleet$Site;" ∈ wsX4_nearestSite := by decide +kernel
theorem hiX4_nearestSite_2 : ∀ w ∈ wsX20, w ∈ wsX4_nearestSite := by decide +kernel
theorem hfX4_nearestSite_91 : Cond.fieldLink RX4 91 "ResolverFleet$Site" "isAnnounced" "Z" ∈ wsX4_nearestSite := by decide +kernel
theorem z_fcl {f : Nat → Option Nat} {so : Nat → Nat} {n a : Nat} (h : ∀ a, a < n → f a = some (so a)) (ha : a < n) (h4 : a < 4) : f (nI a).toNatClampNeg = some (so a) := by
  rw [nI_clamp (by omega)]
  exact h a ha
theorem z_fcn {f : Nat → Option Nat} {n a : Nat} (h : ∀ a, n ≤ a → a < 4 → f a = none) (ha : n ≤ a) (h4 : a < 4) : f (nI a).toNatClampNeg = none := by
  rw [nI_clamp (by omega)]
  exact h a ha h4
set_option maxHeartbeats 4000000 in
set_option maxRecDepth 100000 in
theorem kX4_nearestSite_L (l : Launch) (hl : l.stackTraces = false) (K : zK) (ax : Nat) (zn : Nat) (sa : Nat) (la : Nat) (tr : Nat) (tc : Nat) (X : Nat → Int32) (f : Nat → Option Nat) (n : Nat) (so : Nat → Nat) (sc : Nat → Nat → Nat) (D : Nat → Nat → Int32) (x1 : Int32) (hf1 : ∀ a, a < n → f a = some (so a)) (hf2 : ∀ a, n ≤ a → a < 4 → f a = none) {p : Program} {e : Env} {s : State} {m : MethodId} {args : Array Value} {below : List Frame} {meth : Method} {c : Code} {A : Nat → Prop} (B : zF K p l s m args meth c A cX4_nearestSite 7 RX4 "nearestSite" wsX4_nearestSite (some (.object "ResolverFleet$Site")) []) : ∀ (m9 a : Nat) (g : Option Nat), a + m9 = 4 → (∀ b, g = some b → b < n) → (fX4_near n D x1) = fX4_nr n D x1 m9 a g → zW K p l e { frames := 2, cells := 0, slots := 0, locals := 34 } s m args below meth c A (vx_MQ below (zQ K A (fun _ : Unit => ((some (va_rf ((fX4_near n D x1).map so))), [zXo ax zn sa la tr tc X, zSa K sa f, zSO n so sc D])) (fun _ => True)) (zX K A [zXo ax zn sa la tr tc X, zSa K sa f, zSO n so sc D] zNo) args s 0 0 A) 0 0 [zXo ax zn sa la tr tc X, zSa K sa f, zSO n so sc D] [(0, .ref ax), (1, .int x1), (2, va_rf (g.map so)), (3, .ref sa), (4, .int 4), (5, .int (nI a))] [] 14 := by
  intro m9
  induction m9 with
  | zero =>
    intro a g ha hg hF0
    cases g with
    | none =>
      refine z_iload B dX4_nearestSite_14 5 rfl ?_
      refine z_iload B dX4_nearestSite_16 4 rfl ?_
      refine z_icge B 70 dX4_nearestSite_18 (by decide) (fun _ => ?_) (fun h => absurd (z_lge0 ha (by decide)) h)
      refine z_aload_nN B dX4_nearestSite_70 2 rfl ?_
      exact z_reta B (Or.inl rfl) dX4_nearestSite_71 () trivial (Nat.le_of_ble_eq_true rfl) (Nat.le_of_ble_eq_true rfl) (by rw [hF0]; rfl) rfl
    | some b =>
      refine z_iload B dX4_nearestSite_14 5 rfl ?_
      refine z_iload B dX4_nearestSite_16 4 rfl ?_
      refine z_icge B 70 dX4_nearestSite_18 (by decide) (fun _ => ?_) (fun h => absurd (z_lge0 ha (by decide)) h)
      refine z_aload_n B dX4_nearestSite_70 2 rfl ?_
      exact z_reta B (Or.inr ⟨_, rfl⟩) dX4_nearestSite_71 () trivial (Nat.le_of_ble_eq_true rfl) (Nat.le_of_ble_eq_true rfl) (by rw [hF0]; rfl) rfl
  | succ m9 ih =>
    intro a g ha hg hF0
    by_cases han : a < n
    · by_cases hd : (D a 3) = 0
      · refine z_iload B dX4_nearestSite_14 5 rfl ?_
        refine z_iload B dX4_nearestSite_16 4 rfl ?_
        refine z_icge B 70 dX4_nearestSite_18 (by decide) (fun h => absurd h (z_lgeS ha (by decide))) (fun _ => ?_)
        refine z_aload_n B dX4_nearestSite_21 3 rfl ?_
        refine z_iload B dX4_nearestSite_22 5 rfl ?_
        refine z_aaldS B (N := 4) (f := f) 1 0 rfl rfl (z_nIr (by omega) (by decide)) (z_fcl hf1 han (by omega)) dX4_nearestSite_24 ?_
        refine z_astore B (lv' := [(6, .ref (so a)), (0, .ref ax), (1, .int x1), (2, va_rf (g.map so)), (3, .ref sa), (4, .int 4), (5, .int (nI a))]) dX4_nearestSite_25 (by decide) rfl ?_
        refine z_aload B dX4_nearestSite_27 0 rfl ?_
        refine z_ifnull B dX4_nearestSite_29 ?_
        refine z_aload B dX4_nearestSite_32 0 rfl ?_
        refine z_get B (v := .int (D a 3)) 2 a 3 hiX4_nearestSite_2 hfX4_nearestSite_91 rfl (zSO_get han) rfl (by decide) rfl rfl rfl rfl dX4_nearestSite_34 ?_
        refine z_ifne B 43 dX4_nearestSite_37 (by decide) (fun _ => ?_) (fun h => absurd hd h)
        refine z_goto B (tgt := 64) dX4_nearestSite_40 (by decide) ?_
        refine z_iinc B (v := nI (a + 1)) (lv' := [(5, .int (nI (a + 1))), (6, .ref (so a)), (0, .ref ax), (1, .int x1), (2, va_rf (g.map so)), (3, .ref sa), (4, .int 4)]) dX4_nearestSite_64 6 rfl (nI_1 a) (by decide) rfl ?_
        refine z_goto B (tgt := 14) dX4_nearestSite_67 (by decide) ?_
        refine z_lsub [2, 3, 4, 5, 6, 0] rfl ?_
        exact ih (a + 1) g (by omega) hg ((hF0).trans ((if_pos han).trans ((if_pos hd).trans (rfl))))
      · cases g with
        | none =>
          refine z_iload B dX4_nearestSite_14 5 rfl ?_
          refine z_iload B dX4_nearestSite_16 4 rfl ?_
          refine z_icge B 70 dX4_nearestSite_18 (by decide) (fun h => absurd h (z_lgeS ha (by decide))) (fun _ => ?_)
          refine z_aload_n B dX4_nearestSite_21 3 rfl ?_
          refine z_iload B dX4_nearestSite_22 5 rfl ?_
          refine z_aaldS B (N := 4) (f := f) 1 0 rfl rfl (z_nIr (by omega) (by decide)) (z_fcl hf1 han (by omega)) dX4_nearestSite_24 ?_
          refine z_astore B (lv' := [(6, .ref (so a)), (0, .ref ax), (1, .int x1), (2, .null), (3, .ref sa), (4, .int 4), (5, .int (nI a))]) dX4_nearestSite_25 (by decide) rfl ?_
          refine z_aload B dX4_nearestSite_27 0 rfl ?_
          refine z_ifnull B dX4_nearestSite_29 ?_
          refine z_aload B dX4_nearestSite_32 0 rfl ?_
          refine z_get B (v := .int (D a 3)) 2 a 3 hiX4_nearestSite_2 hfX4_nearestSite_91 rfl (zSO_get han) rfl (by decide) rfl rfl rfl rfl dX4_nearestSite_34 ?_
          refine z_ifne B 43 dX4_nearestSite_37 (by decide) (fun h => absurd h hd) (fun _ => ?_)
          refine z_aload_nN B dX4_nearestSite_43 3 rfl ?_
          refine z_ifnullN B 61 dX4_nearestSite_44 (by decide) ?_
          refine z_aload B dX4_nearestSite_61 0 rfl ?_
          refine z_astore_n B (lv' := [(2, .ref (so a)), (6, .ref (so a)), (0, .ref ax), (1, .int x1), (3, .ref sa), (4, .int 4), (5, .int (nI a))]) dX4_nearestSite_63 (by decide) rfl ?_
          refine z_iinc B (v := nI (a + 1)) (lv' := [(5, .int (nI (a + 1))), (2, .ref (so a)), (6, .ref (so a)), (0, .ref ax), (1, .int x1), (3, .ref sa), (4, .int 4)]) dX4_nearestSite_64 6 rfl (nI_1 a) (by decide) rfl ?_
          refine z_goto B (tgt := 14) dX4_nearestSite_67 (by decide) ?_
          refine z_lsub [3, 4, 1, 5, 6, 0] rfl ?_
          exact ih (a + 1) (some a) (by omega) (fun b hb => by cases hb; exact han) ((hF0).trans ((if_pos han).trans ((if_neg hd).trans (rfl))))
        | some b =>
          have hbn : b < n := hg b rfl
          refine z_iload B dX4_nearestSite_14 5 rfl ?_
          refine z_iload B dX4_nearestSite_16 4 rfl ?_
          refine z_icge B 70 dX4_nearestSite_18 (by decide) (fun h => absurd h (z_lgeS ha (by decide))) (fun _ => ?_)
          refine z_aload_n B dX4_nearestSite_21 3 rfl ?_
          refine z_iload B dX4_nearestSite_22 5 rfl ?_
          refine z_aaldS B (N := 4) (f := f) 1 0 rfl rfl (z_nIr (by omega) (by decide)) (z_fcl hf1 han (by omega)) dX4_nearestSite_24 ?_
          refine z_astore B (lv' := [(6, .ref (so a)), (0, .ref ax), (1, .int x1), (2, .ref (so b)), (3, .ref sa), (4, .int 4), (5, .int (nI a))]) dX4_nearestSite_25 (by decide) rfl ?_
          refine z_aload B dX4_nearestSite_27 0 rfl ?_
          refine z_ifnull B dX4_nearestSite_29 ?_
          refine z_aload B dX4_nearestSite_32 0 rfl ?_
          refine z_get B (v := .int (D a 3)) 2 a 3 hiX4_nearestSite_2 hfX4_nearestSite_91 rfl (zSO_get han) rfl (by decide) rfl rfl rfl rfl dX4_nearestSite_34 ?_
          refine z_ifne B 43 dX4_nearestSite_37 (by decide) (fun h => absurd h hd) (fun _ => ?_)
          refine z_aload_n B dX4_nearestSite_43 3 rfl ?_
          refine z_ifnull B dX4_nearestSite_44 ?_
          refine z_aload B dX4_nearestSite_47 0 rfl ?_
          refine z_iload_n B dX4_nearestSite_49 2 rfl ?_
          refine z_V1 B (kX2_distanceTo l hl K n so sc D a x1 han) [2] [0, 1] (br := [zXo ax zn sa la tr tc X, zSa K sa f]) (bs' := [zXo ax zn sa la tr tc X, zSa K sa f, zSO n so sc D]) (st := []) (nA := 1) (zsp rfl rfl rfl) (zsp rfl rfl rfl) 2 a rfl (zSO_get han) rfl rfl gX4_nearestSite_X2_distanceTo rfl (by decide +kernel) ⟨Nat.le_of_ble_eq_true rfl, Nat.le_of_ble_eq_true rfl⟩ rfl rfl (Nat.le_of_ble_eq_true rfl) ⟨Nat.le_of_ble_eq_true rfl, Nat.le_of_ble_eq_true rfl⟩ dX4_nearestSite_50 z_noX (fun _ => ?_)
          refine z_aload_n B dX4_nearestSite_53 3 rfl ?_
          refine z_iload_n B dX4_nearestSite_54 2 rfl ?_
          refine z_V1 B (kX2_distanceTo l hl K n so sc D b x1 hbn) [2] [0, 1] (br := [zXo ax zn sa la tr tc X, zSa K sa f]) (bs' := [zXo ax zn sa la tr tc X, zSa K sa f, zSO n so sc D]) (st := [.int (fX2_distanceTo D a x1)]) (nA := 1) (zsp rfl rfl rfl) (zsp rfl rfl rfl) 2 b rfl (zSO_get hbn) rfl rfl gX4_nearestSite_X2_distanceTo rfl (by decide +kernel) ⟨Nat.le_of_ble_eq_true rfl, Nat.le_of_ble_eq_true rfl⟩ rfl rfl (Nat.le_of_ble_eq_true rfl) ⟨Nat.le_of_ble_eq_true rfl, Nat.le_of_ble_eq_true rfl⟩ dX4_nearestSite_55 z_noX (fun _ => ?_)
          refine z_icge B 64 dX4_nearestSite_58 (by decide) (fun c1 => ?_) (fun c1 => ?_)
          · refine z_iinc B (v := nI (a + 1)) (lv' := [(5, .int (nI (a + 1))), (6, .ref (so a)), (0, .ref ax), (1, .int x1), (2, .ref (so b)), (3, .ref sa), (4, .int 4)]) dX4_nearestSite_64 6 rfl (nI_1 a) (by decide) rfl ?_
            refine z_goto B (tgt := 14) dX4_nearestSite_67 (by decide) ?_
            refine z_lsub [2, 3, 4, 5, 6, 0] rfl ?_
            exact ih (a + 1) (some b) (by omega) hg ((hF0).trans ((if_pos han).trans ((if_neg hd).trans ((if_pos c1).trans (rfl)))))
          · refine z_aload B dX4_nearestSite_61 0 rfl ?_
            refine z_astore_n B (lv' := [(2, .ref (so a)), (6, .ref (so a)), (0, .ref ax), (1, .int x1), (3, .ref sa), (4, .int 4), (5, .int (nI a))]) dX4_nearestSite_63 (by decide) rfl ?_
            refine z_iinc B (v := nI (a + 1)) (lv' := [(5, .int (nI (a + 1))), (2, .ref (so a)), (6, .ref (so a)), (0, .ref ax), (1, .int x1), (3, .ref sa), (4, .int 4)]) dX4_nearestSite_64 6 rfl (nI_1 a) (by decide) rfl ?_
            refine z_goto B (tgt := 14) dX4_nearestSite_67 (by decide) ?_
            refine z_lsub [3, 4, 1, 5, 6, 0] rfl ?_
            exact ih (a + 1) (some a) (by omega) (fun b hb => by cases hb; exact han) ((hF0).trans ((if_pos han).trans ((if_neg hd).trans ((if_neg c1).trans (rfl)))))
    · refine z_iload B dX4_nearestSite_14 5 rfl ?_
      refine z_iload B dX4_nearestSite_16 4 rfl ?_
      refine z_icge B 70 dX4_nearestSite_18 (by decide) (fun h => absurd h (z_lgeS ha (by decide))) (fun _ => ?_)
      refine z_aload_n B dX4_nearestSite_21 3 rfl ?_
      refine z_iload B dX4_nearestSite_22 5 rfl ?_
      refine z_aaldN B (N := 4) (f := f) 1 0 rfl rfl (z_nIr (by omega) (by decide)) (z_fcn hf2 (by omega) (by omega)) dX4_nearestSite_24 ?_
      refine z_astoreN B (lv' := [(6, .null), (0, .ref ax), (1, .int x1), (2, va_rf (g.map so)), (3, .ref sa), (4, .int 4), (5, .int (nI a))]) dX4_nearestSite_25 (by decide) rfl ?_
      refine z_aloadN B dX4_nearestSite_27 0 rfl ?_
      refine z_ifnullN B 64 dX4_nearestSite_29 (by decide) ?_
      refine z_iinc B (v := nI (a + 1)) (lv' := [(5, .int (nI (a + 1))), (6, .null), (0, .ref ax), (1, .int x1), (2, va_rf (g.map so)), (3, .ref sa), (4, .int 4)]) dX4_nearestSite_64 6 rfl (nI_1 a) (by decide) rfl ?_
      refine z_goto B (tgt := 14) dX4_nearestSite_67 (by decide) ?_
      refine z_lsub [2, 3, 4, 5, 6, 0] rfl ?_
      exact ih (a + 1) g (by omega) hg ((hF0).trans ((if_neg han).trans (rfl)))
set_option maxHeartbeats 4000000 in
set_option maxRecDepth 100000 in
theorem kX4_nearestSite (l : Launch) (hl : l.stackTraces = false) (K : zK) (ax : Nat) (zn : Nat) (sa : Nat) (la : Nat) (tr : Nat) (tc : Nat) (X : Nat → Int32) (f : Nat → Option Nat) (n : Nat) (so : Nat → Nat) (sc : Nat → Nat → Nat) (D : Nat → Nat → Int32) (x1 : Int32) (hf1 : ∀ a, a < n → f a = some (so a)) (hf2 : ∀ a, n ≤ a → a < 4 → f a = none) : zMet l K yX4_nearestSite wsX4_nearestSite { frames := 2, cells := 0, slots := 0, locals := 34 } [.ref ax, .int x1] [zXo ax zn sa la tr tc X, zSa K sa f, zSO n so sc D] (some (va_rf ((fX4_near n D x1).map so))) [zXo ax zn sa la tr tc X, zSa K sa f, zSO n so sc D] True zNo := by
  refine zMeN.of (cc := cX4_nearestSite) (maxL := 7) (ret := (some (.object "ResolverFleet$Site"))) (own := RX4) (nm := "nearestSite") hl (by decide +kernel) rfl rfl rfl (Nat.le_of_ble_eq_true rfl) (lv := [(0, .ref ax), (1, .int x1)]) rfl ?_
  intro p e s m args below meth c A B
  refine z_null B dX4_nearestSite_0 ?_
  refine z_astore_nN B (lv' := [(2, .null), (0, .ref ax), (1, .int x1)]) dX4_nearestSite_1 (by decide) rfl ?_
  refine z_aload_n B dX4_nearestSite_2 1 rfl ?_
  refine z_get B (v := .ref sa) 0 0 1 hiX4_nearestSite_4 hfX4_nearestSite_18 rfl rfl rfl (by decide) rfl rfl rfl rfl dX4_nearestSite_3 ?_
  refine z_astore_n B (lv' := [(3, .ref sa), (2, .null), (0, .ref ax), (1, .int x1)]) dX4_nearestSite_6 (by decide) rfl ?_
  refine z_aload_n B dX4_nearestSite_7 0 rfl ?_
  refine z_alen B (v := 4) 1 0 2 rfl rfl rfl rfl dX4_nearestSite_8 ?_
  refine z_istore B (lv' := [(4, .int 4), (3, .ref sa), (2, .null), (0, .ref ax), (1, .int x1)]) dX4_nearestSite_9 (by decide) rfl ?_
  refine z_iconst B (v := 0) dX4_nearestSite_11 rfl ?_
  refine z_istore B (lv' := [(5, .int 0), (4, .int 4), (3, .ref sa), (2, .null), (0, .ref ax), (1, .int x1)]) dX4_nearestSite_12 (by decide) rfl ?_
  refine z_lsub [4, 5, 3, 2, 1, 0] rfl ?_
  exact kX4_nearestSite_L l hl K ax zn sa la tr tc X f n so sc D x1 hf1 hf2 B 4 0 none rfl (fun b hb => nomatch hb) rfl
theorem kX4_nearestSite_h (l : Launch) (hl : l.stackTraces = false) (K : zK) (ax : Nat) (zn : Nat) (sa : Nat) (la : Nat) (tr : Nat) (tc : Nat) (X : Nat → Int32) (f : Nat → Option Nat) (n : Nat) (so : Nat → Nat) (sc : Nat → Nat → Nat) (D : Nat → Nat → Int32) (i : Nat) (x1 : Int32) (hf1 : ∀ a, a < n → f a = some (so a)) (hf2 : ∀ a, n ≤ a → a < 4 → f a = none) (hN : fX4_near n D x1 = some i) : zMet l K yX4_nearestSite wsX4_nearestSite { frames := 2, cells := 0, slots := 0, locals := 34 } [.ref ax, .int x1] [zXo ax zn sa la tr tc X, zSa K sa f, zSO n so sc D] (some (.ref (so i))) [zXo ax zn sa la tr tc X, zSa K sa f, zSO n so sc D] True zNo := by
  have h := kX4_nearestSite l hl K ax zn sa la tr tc X f n so sc D x1 hf1 hf2
  rw [hN] at h
  exact h
theorem kX4_nearestSite_m (l : Launch) (hl : l.stackTraces = false) (K : zK) (ax : Nat) (zn : Nat) (sa : Nat) (la : Nat) (tr : Nat) (tc : Nat) (X : Nat → Int32) (f : Nat → Option Nat) (n : Nat) (so : Nat → Nat) (sc : Nat → Nat → Nat) (D : Nat → Nat → Int32) (x1 : Int32) (hf1 : ∀ a, a < n → f a = some (so a)) (hf2 : ∀ a, n ≤ a → a < 4 → f a = none) (hN : fX4_near n D x1 = none) : zMet l K yX4_nearestSite wsX4_nearestSite { frames := 2, cells := 0, slots := 0, locals := 34 } [.ref ax, .int x1] [zXo ax zn sa la tr tc X, zSa K sa f, zSO n so sc D] (some .null) [zXo ax zn sa la tr tc X, zSa K sa f, zSO n so sc D] True zNo := by
  have h := kX4_nearestSite l hl K ax zn sa la tr tc X f n so sc D x1 hf1 hf2
  rw [hN] at h
  exact h
def fX4_siteFor_h (D : Nat → Nat → Int32) (i : Nat) (x1 : Int32) : Nat × Int32 :=
  if (fX4_requireWithin x1 0 99) = 0 then
    (0, (D i 0))
  else
    ((fX4_requireWithin x1 0 99), 0)
theorem hiX4_siteFor_2 : ∀ w ∈ wsX20, w ∈ wsX4_siteFor := by decide +kernel
theorem hfX4_siteFor_97 : Cond.fieldLink RX4 97 "ResolverFleet$Site" "number" "I" ∈ wsX4_siteFor := by decide +kernel
set_option maxHeartbeats 4000000 in
set_option maxRecDepth 100000 in
theorem kX4_siteFor_h (l : Launch) (hl : l.stackTraces = false) (K : zK) (ax : Nat) (zn : Nat) (sa : Nat) (la : Nat) (tr : Nat) (tc : Nat) (X : Nat → Int32) (f : Nat → Option Nat) (n : Nat) (so : Nat → Nat) (sc : Nat → Nat → Nat) (D : Nat → Nat → Int32) (i : Nat) (x1 : Int32) (hf1 : ∀ a, a < n → f a = some (so a)) (hf2 : ∀ a, n ≤ a → a < 4 → f a = none) (hi : i < n) (hN : fX4_near n D x1 = some i) : zMet l K yX4_siteFor wsX4_siteFor { frames := 7, cells := 1, slots := 6, locals := 104 } [.ref ax, .int x1] [zXo ax zn sa la tr tc X, zSa K sa f, zSO n so sc D] (some (.int ((fX4_siteFor_h D i x1).2))) [zXo ax zn sa la tr tc X, zSa K sa f, zSO n so sc D] ((fX4_siteFor_h D i x1).1 = 0) (fun E => (E = zE2 ∧ (fX4_siteFor_h D i x1).1 = 2)) := by
  refine zMeN.of (cc := cX4_siteFor) (maxL := 3) (ret := (some .int)) (own := RX4) (nm := "siteFor") hl (by decide +kernel) rfl rfl rfl (Nat.le_of_ble_eq_true rfl) (lv := [(0, .ref ax), (1, .int x1)]) rfl ?_
  intro p e s m args below meth c A B
  refine z_iload_n B dX4_siteFor_0 1 rfl ?_
  refine z_iconst B (v := 0) dX4_siteFor_1 rfl ?_
  refine z_bipush B (v := 99) dX4_siteFor_2 rfl ?_
  refine z_S0 B (kX4_requireWithin l hl K x1 0 99) [] [0, 1, 2] (br := [zXo ax zn sa la tr tc X, zSa K sa f, zSO n so sc D]) (bs' := [zXo ax zn sa la tr tc X, zSa K sa f, zSO n so sc D]) (st := []) (nA := 3) (zsp rfl rfl rfl) (zsp rfl rfl rfl) gX4_siteFor_X4_requireWithin rfl (by decide +kernel) ⟨Nat.le_of_ble_eq_true rfl, Nat.le_of_ble_eq_true rfl⟩ rfl rfl (Nat.le_of_ble_eq_true rfl) ⟨Nat.le_of_ble_eq_true rfl, Nat.le_of_ble_eq_true rfl⟩ dX4_siteFor_4 (fun E hE => ?_) (fun h1 => ?_)
  · rcases hE with ⟨rfl, hx⟩
    · have hF : fX4_siteFor_h D i x1 = (2, 0) := (if_neg (show ¬ (fX4_requireWithin x1 0 99) = 0 by rw [hx]; decide)).trans ((show ((fX4_requireWithin x1 0 99), 0) = (2, 0) by rw [hx]))
      exact z_out B (⟨rfl, by rw [hF]⟩) (Nat.le_of_ble_eq_true rfl) (Nat.le_of_ble_eq_true rfl)
  refine z_aload_n B dX4_siteFor_7 0 rfl ?_
  refine z_iload_n B dX4_siteFor_8 1 rfl ?_
  refine z_V1 B (kX4_nearestSite_h l hl K ax zn sa la tr tc X f n so sc D i x1 hf1 hf2 hN) [0, 1, 2] [] (br := []) (bs' := [zXo ax zn sa la tr tc X, zSa K sa f, zSO n so sc D]) (st := []) (nA := 1) (zsp rfl rfl rfl) (zsp rfl rfl rfl) 0 0 rfl rfl rfl rfl gX4_siteFor_X4_nearestSite rfl (by decide +kernel) ⟨Nat.le_of_ble_eq_true rfl, Nat.le_of_ble_eq_true rfl⟩ rfl rfl (Nat.le_of_ble_eq_true rfl) ⟨Nat.le_of_ble_eq_true rfl, Nat.le_of_ble_eq_true rfl⟩ dX4_siteFor_9 z_noX (fun _ => ?_)
  refine z_astore_n B (lv' := [(2, .ref (so i)), (0, .ref ax), (1, .int x1)]) dX4_siteFor_12 (by decide) rfl ?_
  refine z_aload_n B dX4_siteFor_13 0 rfl ?_
  refine z_ifnonnull B 22 dX4_siteFor_14 (by decide) ?_
  refine z_aload_n B dX4_siteFor_22 0 rfl ?_
  refine z_get B (v := .int (D i 0)) 2 i 0 hiX4_siteFor_2 hfX4_siteFor_97 rfl (zSO_get hi) rfl (by decide) rfl rfl rfl rfl dX4_siteFor_23 ?_
  have hF : fX4_siteFor_h D i x1 = (0, (D i 0)) := if_pos h1
  exact z_ret1 B rfl dX4_siteFor_26 () (by rw [hF]) (Nat.le_of_ble_eq_true rfl) (Nat.le_of_ble_eq_true rfl) (by rw [hF]) (by rw [hF])
def fX4_siteFor_m (D : Nat → Nat → Int32) (x1 : Int32) : Nat × Int32 :=
  if (fX4_requireWithin x1 0 99) = 0 then
    (0, (-3))
  else
    ((fX4_requireWithin x1 0 99), 0)
set_option maxHeartbeats 4000000 in
set_option maxRecDepth 100000 in
theorem kX4_siteFor_m (l : Launch) (hl : l.stackTraces = false) (K : zK) (ax : Nat) (zn : Nat) (sa : Nat) (la : Nat) (tr : Nat) (tc : Nat) (X : Nat → Int32) (f : Nat → Option Nat) (n : Nat) (so : Nat → Nat) (sc : Nat → Nat → Nat) (D : Nat → Nat → Int32) (x1 : Int32) (hf1 : ∀ a, a < n → f a = some (so a)) (hf2 : ∀ a, n ≤ a → a < 4 → f a = none) (hN : fX4_near n D x1 = none) : zMet l K yX4_siteFor wsX4_siteFor { frames := 7, cells := 1, slots := 6, locals := 104 } [.ref ax, .int x1] [zXo ax zn sa la tr tc X, zSa K sa f, zSO n so sc D] (some (.int ((fX4_siteFor_m D x1).2))) [zXo ax zn sa la tr tc X, zSa K sa f, zSO n so sc D] ((fX4_siteFor_m D x1).1 = 0) (fun E => (E = zE2 ∧ (fX4_siteFor_m D x1).1 = 2)) := by
  refine zMeN.of (cc := cX4_siteFor) (maxL := 3) (ret := (some .int)) (own := RX4) (nm := "siteFor") hl (by decide +kernel) rfl rfl rfl (Nat.le_of_ble_eq_true rfl) (lv := [(0, .ref ax), (1, .int x1)]) rfl ?_
  intro p e s m args below meth c A B
  refine z_iload_n B dX4_siteFor_0 1 rfl ?_
  refine z_iconst B (v := 0) dX4_siteFor_1 rfl ?_
  refine z_bipush B (v := 99) dX4_siteFor_2 rfl ?_
  refine z_S0 B (kX4_requireWithin l hl K x1 0 99) [] [0, 1, 2] (br := [zXo ax zn sa la tr tc X, zSa K sa f, zSO n so sc D]) (bs' := [zXo ax zn sa la tr tc X, zSa K sa f, zSO n so sc D]) (st := []) (nA := 3) (zsp rfl rfl rfl) (zsp rfl rfl rfl) gX4_siteFor_X4_requireWithin rfl (by decide +kernel) ⟨Nat.le_of_ble_eq_true rfl, Nat.le_of_ble_eq_true rfl⟩ rfl rfl (Nat.le_of_ble_eq_true rfl) ⟨Nat.le_of_ble_eq_true rfl, Nat.le_of_ble_eq_true rfl⟩ dX4_siteFor_4 (fun E hE => ?_) (fun h1 => ?_)
  · rcases hE with ⟨rfl, hx⟩
    · have hF : fX4_siteFor_m D x1 = (2, 0) := (if_neg (show ¬ (fX4_requireWithin x1 0 99) = 0 by rw [hx]; decide)).trans ((show ((fX4_requireWithin x1 0 99), 0) = (2, 0) by rw [hx]))
      exact z_out B (⟨rfl, by rw [hF]⟩) (Nat.le_of_ble_eq_true rfl) (Nat.le_of_ble_eq_true rfl)
  refine z_aload_n B dX4_siteFor_7 0 rfl ?_
  refine z_iload_n B dX4_siteFor_8 1 rfl ?_
  refine z_V1 B (kX4_nearestSite_m l hl K ax zn sa la tr tc X f n so sc D x1 hf1 hf2 hN) [0, 1, 2] [] (br := []) (bs' := [zXo ax zn sa la tr tc X, zSa K sa f, zSO n so sc D]) (st := []) (nA := 1) (zsp rfl rfl rfl) (zsp rfl rfl rfl) 0 0 rfl rfl rfl rfl gX4_siteFor_X4_nearestSite rfl (by decide +kernel) ⟨Nat.le_of_ble_eq_true rfl, Nat.le_of_ble_eq_true rfl⟩ rfl rfl (Nat.le_of_ble_eq_true rfl) ⟨Nat.le_of_ble_eq_true rfl, Nat.le_of_ble_eq_true rfl⟩ dX4_siteFor_9 z_noX (fun _ => ?_)
  refine z_astore_nN B (lv' := [(2, .null), (0, .ref ax), (1, .int x1)]) dX4_siteFor_12 (by decide) rfl ?_
  refine z_aload_nN B dX4_siteFor_13 0 rfl ?_
  refine z_ifnonnullN B dX4_siteFor_14 ?_
  refine z_bipush B (v := (-3)) dX4_siteFor_17 rfl ?_
  refine z_goto B (tgt := 26) dX4_siteFor_19 (by decide) ?_
  have hF : fX4_siteFor_m D x1 = (0, (-3)) := if_pos h1
  exact z_ret1 B rfl dX4_siteFor_26 () (by rw [hF]) (Nat.le_of_ble_eq_true rfl) (Nat.le_of_ble_eq_true rfl) (by rw [hF]) (by rw [hF])
def fX4_siteAsked_h (D : Nat → Nat → Int32) (i : Nat) (x1 : Int32) (x2 : Int32) : Nat :=
  if (fX4_requireName x2) = 0 then
    if (fX4_requireWithin x1 0 99) = 0 then
      0
    else
      (fX4_requireWithin x1 0 99)
  else
    (fX4_requireName x2)
set_option maxHeartbeats 4000000 in
set_option maxRecDepth 100000 in
theorem kX4_siteAsked_h (l : Launch) (hl : l.stackTraces = false) (K : zK) (ax : Nat) (zn : Nat) (sa : Nat) (la : Nat) (tr : Nat) (tc : Nat) (X : Nat → Int32) (f : Nat → Option Nat) (n : Nat) (so : Nat → Nat) (sc : Nat → Nat → Nat) (D : Nat → Nat → Int32) (i : Nat) (x1 : Int32) (x2 : Int32) (hf1 : ∀ a, a < n → f a = some (so a)) (hf2 : ∀ a, n ≤ a → a < 4 → f a = none) (hi : i < n) (hN : fX4_near n D x1 = some i) : zMet l K yX4_siteAsked wsX4_siteAsked { frames := 7, cells := 2, slots := 12, locals := 104 } [.ref ax, .int x1, .int x2] [zXo ax zn sa la tr tc X, zSa K sa f, zSO n so sc D] (some (.ref (so i))) [zXo ax zn sa la tr tc X, zSa K sa f, zSO n so sc D] ((fX4_siteAsked_h D i x1 x2) = 0) (fun E => (E = zE1 ∧ (fX4_siteAsked_h D i x1 x2) = 1) ∨ (E = zE2 ∧ (fX4_siteAsked_h D i x1 x2) = 2)) := by
  refine zMeN.of (cc := cX4_siteAsked) (maxL := 4) (ret := (some (.object "ResolverFleet$Site"))) (own := RX4) (nm := "siteAsked") hl (by decide +kernel) rfl rfl rfl (Nat.le_of_ble_eq_true rfl) (lv := [(0, .ref ax), (1, .int x1), (2, .int x2)]) rfl ?_
  intro p e s m args below meth c A B
  refine z_iload_n B dX4_siteAsked_0 2 rfl ?_
  refine z_S0 B (kX4_requireName l hl K x2) [] [0, 1, 2] (br := [zXo ax zn sa la tr tc X, zSa K sa f, zSO n so sc D]) (bs' := [zXo ax zn sa la tr tc X, zSa K sa f, zSO n so sc D]) (st := []) (nA := 1) (zsp rfl rfl rfl) (zsp rfl rfl rfl) gX4_siteAsked_X4_requireName rfl (by decide +kernel) ⟨Nat.le_of_ble_eq_true rfl, Nat.le_of_ble_eq_true rfl⟩ rfl rfl (Nat.le_of_ble_eq_true rfl) ⟨Nat.le_of_ble_eq_true rfl, Nat.le_of_ble_eq_true rfl⟩ dX4_siteAsked_1 (fun E hE => ?_) (fun h1 => ?_)
  · rcases hE with ⟨rfl, hx⟩
    · have hF : fX4_siteAsked_h D i x1 x2 = 1 := (if_neg (show ¬ (fX4_requireName x2) = 0 by rw [hx]; decide)).trans ((show (fX4_requireName x2) = 1 by rw [hx]))
      exact z_out B (Or.inl ⟨rfl, by rw [hF]⟩) (Nat.le_of_ble_eq_true rfl) (Nat.le_of_ble_eq_true rfl)
  refine z_iload_n B dX4_siteAsked_4 1 rfl ?_
  refine z_iconst B (v := 0) dX4_siteAsked_5 rfl ?_
  refine z_bipush B (v := 99) dX4_siteAsked_6 rfl ?_
  refine z_S0 B (kX4_requireWithin l hl K x1 0 99) [] [0, 1, 2] (br := [zXo ax zn sa la tr tc X, zSa K sa f, zSO n so sc D]) (bs' := [zXo ax zn sa la tr tc X, zSa K sa f, zSO n so sc D]) (st := []) (nA := 3) (zsp rfl rfl rfl) (zsp rfl rfl rfl) gX4_siteAsked_X4_requireWithin rfl (by decide +kernel) ⟨Nat.le_of_ble_eq_true rfl, Nat.le_of_ble_eq_true rfl⟩ rfl rfl (Nat.le_of_ble_eq_true rfl) ⟨Nat.le_of_ble_eq_true rfl, Nat.le_of_ble_eq_true rfl⟩ dX4_siteAsked_8 (fun E hE => ?_) (fun h2 => ?_)
  · rcases hE with ⟨rfl, hx⟩
    · have hF : fX4_siteAsked_h D i x1 x2 = 2 := (if_pos h1).trans ((if_neg (show ¬ (fX4_requireWithin x1 0 99) = 0 by rw [hx]; decide)).trans ((show (fX4_requireWithin x1 0 99) = 2 by rw [hx])))
      exact z_out B (Or.inr (⟨rfl, by rw [hF]⟩)) (Nat.le_of_ble_eq_true rfl) (Nat.le_of_ble_eq_true rfl)
  refine z_aload_n B dX4_siteAsked_11 0 rfl ?_
  refine z_iload_n B dX4_siteAsked_12 1 rfl ?_
  refine z_V1 B (kX4_nearestSite_h l hl K ax zn sa la tr tc X f n so sc D i x1 hf1 hf2 hN) [0, 1, 2] [] (br := []) (bs' := [zXo ax zn sa la tr tc X, zSa K sa f, zSO n so sc D]) (st := []) (nA := 1) (zsp rfl rfl rfl) (zsp rfl rfl rfl) 0 0 rfl rfl rfl rfl gX4_siteAsked_X4_nearestSite rfl (by decide +kernel) ⟨Nat.le_of_ble_eq_true rfl, Nat.le_of_ble_eq_true rfl⟩ rfl rfl (Nat.le_of_ble_eq_true rfl) ⟨Nat.le_of_ble_eq_true rfl, Nat.le_of_ble_eq_true rfl⟩ dX4_siteAsked_13 z_noX (fun _ => ?_)
  refine z_astore_n B (lv' := [(3, .ref (so i)), (0, .ref ax), (1, .int x1), (2, .int x2)]) dX4_siteAsked_16 (by decide) rfl ?_
  refine z_aload_n B dX4_siteAsked_17 0 rfl ?_
  refine z_ifnonnull B 31 dX4_siteAsked_18 (by decide) ?_
  refine z_aload_n B dX4_siteAsked_31 0 rfl ?_
  have hF : fX4_siteAsked_h D i x1 x2 = 0 := (if_pos h1).trans (if_pos h2)
  exact z_reta B (Or.inr ⟨_, rfl⟩) dX4_siteAsked_32 () (by rw [hF]) (Nat.le_of_ble_eq_true rfl) (Nat.le_of_ble_eq_true rfl) rfl rfl
def fX4_siteAsked_m (D : Nat → Nat → Int32) (x1 : Int32) (x2 : Int32) : Nat :=
  if (fX4_requireName x2) = 0 then
    if (fX4_requireWithin x1 0 99) = 0 then
      3
    else
      (fX4_requireWithin x1 0 99)
  else
    (fX4_requireName x2)
theorem haX4_siteAsked_83 : ∀ w ∈ (vx_atS RX4 83 "java/lang/IllegalStateException" ["java/lang/RuntimeException", "java/lang/Exception"]).filter goodWord, w ∈ wsX4_siteAsked := by decide +kernel
theorem hgX4_siteAsked_83 : ∀ w ∈ (vx_atS RX4 83 "java/lang/IllegalStateException" ["java/lang/RuntimeException", "java/lang/Exception"]).filter (fun w => !goodWord w), w ∈ zNw := by decide +kernel
theorem hoX4_siteAsked_83 : ∀ w ∈ Cond.classLink RX4 79 "java/lang/IllegalStateException" :: Cond.initialized "java/lang/IllegalStateException" :: vx_atS RX4 83 "java/lang/IllegalStateException" ["java/lang/RuntimeException", "java/lang/Exception"], vx_ot w = true := by decide +kernel
theorem hwX4_siteAsked_cl79 : Cond.classLink RX4 79 "java/lang/IllegalStateException" ∈ wsX4_siteAsked := by decide +kernel
theorem hwX4_siteAsked_ini79 : Cond.initialized "java/lang/IllegalStateException" ∈ wsX4_siteAsked := by decide +kernel
set_option maxHeartbeats 4000000 in
set_option maxRecDepth 100000 in
theorem kX4_siteAsked_m (l : Launch) (hl : l.stackTraces = false) (K : zK) (ax : Nat) (zn : Nat) (sa : Nat) (la : Nat) (tr : Nat) (tc : Nat) (X : Nat → Int32) (f : Nat → Option Nat) (n : Nat) (so : Nat → Nat) (sc : Nat → Nat → Nat) (D : Nat → Nat → Int32) (x1 : Int32) (x2 : Int32) (hf1 : ∀ a, a < n → f a = some (so a)) (hf2 : ∀ a, n ≤ a → a < 4 → f a = none) (hN : fX4_near n D x1 = none) : zMet l K yX4_siteAsked wsX4_siteAsked { frames := 7, cells := 3, slots := 18, locals := 104 } [.ref ax, .int x1, .int x2] [zXo ax zn sa la tr tc X, zSa K sa f, zSO n so sc D] (some .null) [zXo ax zn sa la tr tc X, zSa K sa f, zSO n so sc D] False (fun E => (E = zE1 ∧ (fX4_siteAsked_m D x1 x2) = 1) ∨ (E = zE2 ∧ (fX4_siteAsked_m D x1 x2) = 2) ∨ (E = zE3 ∧ (fX4_siteAsked_m D x1 x2) = 3)) := by
  refine zMeN.of (cc := cX4_siteAsked) (maxL := 4) (ret := (some (.object "ResolverFleet$Site"))) (own := RX4) (nm := "siteAsked") hl (by decide +kernel) rfl rfl rfl (Nat.le_of_ble_eq_true rfl) (lv := [(0, .ref ax), (1, .int x1), (2, .int x2)]) rfl ?_
  intro p e s m args below meth c A B
  refine z_iload_n B dX4_siteAsked_0 2 rfl ?_
  refine z_S0 B (kX4_requireName l hl K x2) [] [0, 1, 2] (br := [zXo ax zn sa la tr tc X, zSa K sa f, zSO n so sc D]) (bs' := [zXo ax zn sa la tr tc X, zSa K sa f, zSO n so sc D]) (st := []) (nA := 1) (zsp rfl rfl rfl) (zsp rfl rfl rfl) gX4_siteAsked_X4_requireName rfl (by decide +kernel) ⟨Nat.le_of_ble_eq_true rfl, Nat.le_of_ble_eq_true rfl⟩ rfl rfl (Nat.le_of_ble_eq_true rfl) ⟨Nat.le_of_ble_eq_true rfl, Nat.le_of_ble_eq_true rfl⟩ dX4_siteAsked_1 (fun E hE => ?_) (fun h1 => ?_)
  · rcases hE with ⟨rfl, hx⟩
    · have hF : fX4_siteAsked_m D x1 x2 = 1 := (if_neg (show ¬ (fX4_requireName x2) = 0 by rw [hx]; decide)).trans ((show (fX4_requireName x2) = 1 by rw [hx]))
      exact z_out B (Or.inl ⟨rfl, by rw [hF]⟩) (Nat.le_of_ble_eq_true rfl) (Nat.le_of_ble_eq_true rfl)
  refine z_iload_n B dX4_siteAsked_4 1 rfl ?_
  refine z_iconst B (v := 0) dX4_siteAsked_5 rfl ?_
  refine z_bipush B (v := 99) dX4_siteAsked_6 rfl ?_
  refine z_S0 B (kX4_requireWithin l hl K x1 0 99) [] [0, 1, 2] (br := [zXo ax zn sa la tr tc X, zSa K sa f, zSO n so sc D]) (bs' := [zXo ax zn sa la tr tc X, zSa K sa f, zSO n so sc D]) (st := []) (nA := 3) (zsp rfl rfl rfl) (zsp rfl rfl rfl) gX4_siteAsked_X4_requireWithin rfl (by decide +kernel) ⟨Nat.le_of_ble_eq_true rfl, Nat.le_of_ble_eq_true rfl⟩ rfl rfl (Nat.le_of_ble_eq_true rfl) ⟨Nat.le_of_ble_eq_true rfl, Nat.le_of_ble_eq_true rfl⟩ dX4_siteAsked_8 (fun E hE => ?_) (fun h2 => ?_)
  · rcases hE with ⟨rfl, hx⟩
    · have hF : fX4_siteAsked_m D x1 x2 = 2 := (if_pos h1).trans ((if_neg (show ¬ (fX4_requireWithin x1 0 99) = 0 by rw [hx]; decide)).trans ((show (fX4_requireWithin x1 0 99) = 2 by rw [hx])))
      exact z_out B (Or.inr (Or.inl ⟨rfl, by rw [hF]⟩)) (Nat.le_of_ble_eq_true rfl) (Nat.le_of_ble_eq_true rfl)
  refine z_aload_n B dX4_siteAsked_11 0 rfl ?_
  refine z_iload_n B dX4_siteAsked_12 1 rfl ?_
  refine z_V1 B (kX4_nearestSite_m l hl K ax zn sa la tr tc X f n so sc D x1 hf1 hf2 hN) [0, 1, 2] [] (br := []) (bs' := [zXo ax zn sa la tr tc X, zSa K sa f, zSO n so sc D]) (st := []) (nA := 1) (zsp rfl rfl rfl) (zsp rfl rfl rfl) 0 0 rfl rfl rfl rfl gX4_siteAsked_X4_nearestSite rfl (by decide +kernel) ⟨Nat.le_of_ble_eq_true rfl, Nat.le_of_ble_eq_true rfl⟩ rfl rfl (Nat.le_of_ble_eq_true rfl) ⟨Nat.le_of_ble_eq_true rfl, Nat.le_of_ble_eq_true rfl⟩ dX4_siteAsked_13 z_noX (fun _ => ?_)
  refine z_astore_nN B (lv' := [(3, .null), (0, .ref ax), (1, .int x1), (2, .int x2)]) dX4_siteAsked_16 (by decide) rfl ?_
  refine z_aload_nN B dX4_siteAsked_17 0 rfl ?_
  refine z_ifnonnullN B dX4_siteAsked_18 ?_
  have hF : fX4_siteAsked_m D x1 x2 = 3 := (if_pos h1).trans (if_pos h2)
  exact z_throw B rfl ["java/lang/RuntimeException", "java/lang/Exception"] (by decide +kernel) (by decide +kernel) hwX4_siteAsked_cl79 hwX4_siteAsked_ini79 (text := "no site is announced") (by decide +kernel) haX4_siteAsked_83 hgX4_siteAsked_83 hoX4_siteAsked_83 dX4_siteAsked_21 dX4_siteAsked_24 dX4_siteAsked_25 dX4_siteAsked_27 dX4_siteAsked_30 (by decide) (Nat.le_of_ble_eq_true rfl) (Nat.le_of_ble_eq_true rfl) (Nat.le_of_ble_eq_true rfl) (Or.inr (Or.inr (⟨rfl, by rw [hF]⟩))) (Nat.le_of_ble_eq_true rfl) (Nat.le_of_ble_eq_true rfl)
theorem z_resL {X : Nat → Int32} {Z : Nat → Nat → Int32} {W : Nat → Int32} {C : Nat → Nat → Int32} {F O : Nat → Int32} {x : Int32} : ∀ (n a : Nat) (cur : Int32) (C1 : Nat → Nat → Int32) (F1 O1 : Nat → Int32), ¬ (O1 1) < 0 → ¬ ((fX4_resolve_L10 X Z W C F O x n a cur C1 F1 O1).2.2.2 1) < 0
  | 0, a, cur, C1, F1, O1, h => h
  | n + 1, a, cur, C1, F1, O1, h => by
    have g : ¬ ((fX4_lookUp X Z W C1 F1 O1 cur).2.2.2 1) < 0 := z_look h
    rw [fX4_resolve_L10]
    split
    · exact g
    · split
      · exact z_resL n (a + 1) _ _ _ _ g
      · split
        · exact g
        · exact g
theorem z_resO {X : Nat → Int32} {Z : Nat → Nat → Int32} {W : Nat → Int32} {C : Nat → Nat → Int32} {F O : Nat → Int32} {x : Int32} : ¬ ((fX4_resolve X Z W C F O x).2.2.2 1) < 0 := z_resL 5 0 x C F (fX1_begin F O) (by show ¬ (0 : Int32) < 0; decide)
def fX4_query_s4 (X : Nat → Int32) (D : Nat → Nat → Int32) (i : Nat) (C : Nat → Nat → Int32) (Z : Nat → Nat → Int32) (W : Nat → Int32) (F : Nat → Int32) (O : Nat → Int32) (x1 : Int32) (x2 : Int32) (o2 : Int32 × (Nat → Nat → Int32) × (Nat → Int32) × (Nat → Int32)) (o3 : (Nat → Nat → Int32) × (Nat → Int32)) (o4 : (Nat → Int32)) : Nat × Int32 × (Nat → Int32) × (Nat → Nat → Int32) × (Nat → Int32) × (Nat → Int32) :=
  (0, (o2.1), o4, (o3.1), (o2.2.2.1), (o3.2))
def fX4_query_s3 (X : Nat → Int32) (D : Nat → Nat → Int32) (i : Nat) (C : Nat → Nat → Int32) (Z : Nat → Nat → Int32) (W : Nat → Int32) (F : Nat → Int32) (O : Nat → Int32) (x1 : Int32) (x2 : Int32) (o2 : Int32 × (Nat → Nat → Int32) × (Nat → Int32) × (Nat → Int32)) (o3 : (Nat → Nat → Int32) × (Nat → Int32)) : Nat × Int32 × (Nat → Int32) × (Nat → Nat → Int32) × (Nat → Int32) × (Nat → Int32) :=
  fX4_query_s4 X D i C Z W F O x1 x2 o2 o3 (fX4_countQuery (va_up X 5 (D i 0)) (o2.2.2.1) (o3.2) (o2.1))
def fX4_query_s2 (X : Nat → Int32) (D : Nat → Nat → Int32) (i : Nat) (C : Nat → Nat → Int32) (Z : Nat → Nat → Int32) (W : Nat → Int32) (F : Nat → Int32) (O : Nat → Int32) (x1 : Int32) (x2 : Int32) (o2 : Int32 × (Nat → Nat → Int32) × (Nat → Int32) × (Nat → Int32)) : Nat × Int32 × (Nat → Int32) × (Nat → Nat → Int32) × (Nat → Int32) × (Nat → Int32) :=
  fX4_query_s3 X D i C Z W F O x1 x2 o2 (fX4_fetchHotAnew X Z W (o2.2.1) (o2.2.2.1) (o2.2.2.2))
def fX4_query_h (X : Nat → Int32) (D : Nat → Nat → Int32) (i : Nat) (C : Nat → Nat → Int32) (Z : Nat → Nat → Int32) (W : Nat → Int32) (F : Nat → Int32) (O : Nat → Int32) (x1 : Int32) (x2 : Int32) : Nat × Int32 × (Nat → Int32) × (Nat → Nat → Int32) × (Nat → Int32) × (Nat → Int32) :=
  if (fX4_siteAsked_h D i x1 x2) = 0 then
    fX4_query_s2 X D i C Z W F O x1 x2 (fX4_resolve X Z W C F O x2)
  else
    ((fX4_siteAsked_h D i x1 x2), 0, X, C, F, O)
theorem hiX4_query_2 : ∀ w ∈ wsX20, w ∈ wsX4_query := by decide +kernel
theorem hfX4_query_115 : Cond.fieldLink RX4 115 "ResolverFleet$Site" "cache" "LResolverFleet$Cache;" ∈ wsX4_query := by decide +kernel
theorem hiX4_query_4 : ∀ w ∈ wsX40, w ∈ wsX4_query := by decide +kernel
theorem hfX4_query_25 : Cond.fieldLink RX4 25 "ResolverFleet" "last" "LResolverFleet$Course;" ∈ wsX4_query := by decide +kernel
theorem hfX4_query_97 : Cond.fieldLink RX4 97 "ResolverFleet$Site" "number" "I" ∈ wsX4_query := by decide +kernel
theorem hfX4_query_29 : Cond.fieldLink RX4 29 "ResolverFleet" "lastSiteNumber" "I" ∈ wsX4_query := by decide +kernel
set_option maxHeartbeats 4000000 in
set_option maxRecDepth 100000 in
theorem kX4_query_h (l : Launch) (hl : l.stackTraces = false) (K : zK) (ax : Nat) (az : Nat → Nat) (sa : Nat) (ak : Nat → Nat) (tr : Nat) (tc : Nat) (X : Nat → Int32) (f : Nat → Option Nat) (n : Nat) (so : Nat → Nat) (sc : Nat → Nat → Nat) (D : Nat → Nat → Int32) (i : Nat) (C : Nat → Nat → Int32) (Z : Nat → Nat → Int32) (W : Nat → Int32) (F : Nat → Int32) (O : Nat → Int32) (x1 : Int32) (x2 : Int32) (hf1 : ∀ a, a < n → f a = some (so a)) (hf2 : ∀ a, n ≤ a → a < 4 → f a = none) (hi : i < n) (hN : fX4_near n D x1 = some i) : zMet l K yX4_query wsX4_query { frames := 8, cells := 2, slots := 12, locals := 140 } [.ref ax, .int x1, .int x2] [zXo ax (az 0) sa (ak 0) tr tc X, zSa K sa f, zSO n so sc D, zCa K (sc i) C, zZo K az Z W, zCo K ak F O] (some (.int ((fX4_query_h X D i C Z W F O x1 x2).2.1))) [zXo ax (az 0) sa (ak 0) tr tc ((fX4_query_h X D i C Z W F O x1 x2).2.2.1), zSa K sa f, zSO n so sc D, zCa K (sc i) ((fX4_query_h X D i C Z W F O x1 x2).2.2.2.1), zZo K az Z W, zCo K ak ((fX4_query_h X D i C Z W F O x1 x2).2.2.2.2.1) ((fX4_query_h X D i C Z W F O x1 x2).2.2.2.2.2)] ((fX4_query_h X D i C Z W F O x1 x2).1 = 0) (fun E => (E = zE1 ∧ (fX4_query_h X D i C Z W F O x1 x2).1 = 1) ∨ (E = zE2 ∧ (fX4_query_h X D i C Z W F O x1 x2).1 = 2)) := by
  refine zMeN.of (cc := cX4_query) (maxL := 5) (ret := (some .int)) (own := RX4) (nm := "query") hl (by decide +kernel) rfl rfl rfl (Nat.le_of_ble_eq_true rfl) (lv := [(0, .ref ax), (1, .int x1), (2, .int x2)]) rfl ?_
  intro p e s m args below meth c A B
  refine z_aload_n B dX4_query_0 0 rfl ?_
  refine z_iload_n B dX4_query_1 1 rfl ?_
  refine z_iload_n B dX4_query_2 2 rfl ?_
  refine z_V1 B (kX4_siteAsked_h l hl K ax (az 0) sa (ak 0) tr tc X f n so sc D i x1 x2 hf1 hf2 hi hN) [0, 1, 2] [3, 4, 5] (br := [zCa K (sc i) C, zZo K az Z W, zCo K ak F O]) (bs' := [zXo ax (az 0) sa (ak 0) tr tc X, zSa K sa f, zSO n so sc D, zCa K (sc i) C, zZo K az Z W, zCo K ak F O]) (st := []) (nA := 2) (zsp rfl rfl rfl) (zsp rfl rfl rfl) 0 0 rfl rfl rfl rfl gX4_query_X4_siteAsked rfl (by decide +kernel) ⟨Nat.le_of_ble_eq_true rfl, Nat.le_of_ble_eq_true rfl⟩ rfl rfl (Nat.le_of_ble_eq_true rfl) ⟨Nat.le_of_ble_eq_true rfl, Nat.le_of_ble_eq_true rfl⟩ dX4_query_3 (fun E hE => ?_) (fun h1 => ?_)
  · rcases hE with ⟨rfl, hx⟩ | ⟨rfl, hx⟩
    · have hF : fX4_query_h X D i C Z W F O x1 x2 = (1, 0, X, C, F, O) := (if_neg (show ¬ (fX4_siteAsked_h D i x1 x2) = 0 by rw [hx]; decide)).trans ((show ((fX4_siteAsked_h D i x1 x2), 0, X, C, F, O) = (1, 0, X, C, F, O) by rw [hx]))
      exact z_out B (Or.inl ⟨rfl, by rw [hF]⟩) (Nat.le_of_ble_eq_true rfl) (Nat.le_of_ble_eq_true rfl)
    · have hF : fX4_query_h X D i C Z W F O x1 x2 = (2, 0, X, C, F, O) := (if_neg (show ¬ (fX4_siteAsked_h D i x1 x2) = 0 by rw [hx]; decide)).trans ((show ((fX4_siteAsked_h D i x1 x2), 0, X, C, F, O) = (2, 0, X, C, F, O) by rw [hx]))
      exact z_out B (Or.inr (⟨rfl, by rw [hF]⟩)) (Nat.le_of_ble_eq_true rfl) (Nat.le_of_ble_eq_true rfl)
  refine z_astore_n B (lv' := [(3, .ref (so i)), (0, .ref ax), (1, .int x1), (2, .int x2)]) dX4_query_6 (by decide) rfl ?_
  refine z_aload_n B dX4_query_7 1 rfl ?_
  refine z_aload_n B dX4_query_8 0 rfl ?_
  refine z_get B (v := .ref ((sc i) 0)) 2 i 2 hiX4_query_2 hfX4_query_115 rfl (zSO_get hi) rfl (by decide) rfl rfl rfl rfl dX4_query_9 ?_
  refine z_iload_n B dX4_query_12 3 rfl ?_
  refine z_aload_n B dX4_query_13 1 rfl ?_
  refine z_get B (v := .ref (ak 0)) 0 0 4 hiX4_query_4 hfX4_query_25 rfl rfl rfl (by decide) rfl rfl rfl rfl dX4_query_14 ?_
  refine z_V1 B (kX4_resolve l hl K ax az sa (ak 0) tr tc X Z W (sc i) C ak F O x2) [0, 4, 3, 5] [1, 2] (br := [zSa K sa f, zSO n so sc D]) (bs' := [zXo ax (az 0) sa (ak 0) tr tc X, zSa K sa f, zSO n so sc D, zCa K (sc i) ((fX4_resolve X Z W C F O x2).2.1), zZo K az Z W, zCo K ak ((fX4_resolve X Z W C F O x2).2.2.1) ((fX4_resolve X Z W C F O x2).2.2.2)]) (st := []) (nA := 3) (zsp rfl rfl rfl) (zsp rfl rfl rfl) 0 0 rfl rfl rfl rfl gX4_query_X4_resolve rfl (by decide +kernel) ⟨Nat.le_of_ble_eq_true rfl, Nat.le_of_ble_eq_true rfl⟩ rfl rfl (Nat.le_of_ble_eq_true rfl) ⟨Nat.le_of_ble_eq_true rfl, Nat.le_of_ble_eq_true rfl⟩ dX4_query_17 z_noX (fun _ => ?_)
  generalize ho2 : (fX4_resolve X Z W C F O x2) = o2
  refine z_istore B (lv' := [(4, .int (o2.1)), (3, .ref (so i)), (0, .ref ax), (1, .int x1), (2, .int x2)]) dX4_query_20 (by decide) rfl ?_
  refine z_aload_n B dX4_query_22 2 rfl ?_
  refine z_aload_n B dX4_query_23 1 rfl ?_
  refine z_get B (v := .ref ((sc i) 0)) 2 i 2 hiX4_query_2 hfX4_query_115 rfl (zSO_get hi) rfl (by decide) rfl rfl rfl rfl dX4_query_24 ?_
  refine z_aload_n B dX4_query_27 2 rfl ?_
  refine z_get B (v := .ref (ak 0)) 0 0 4 hiX4_query_4 hfX4_query_25 rfl rfl rfl (by decide) rfl rfl rfl rfl dX4_query_28 ?_
  refine z_V0 B (kX4_fetchHotAnew l hl K ax az sa (ak 0) tr tc X Z W (sc i) (o2.2.1) ak (o2.2.2.1) (o2.2.2.2) (by rw [← ho2]; exact z_resO)) [0, 4, 3, 5] [1, 2] (br := [zSa K sa f, zSO n so sc D]) (bs' := [zXo ax (az 0) sa (ak 0) tr tc X, zSa K sa f, zSO n so sc D, zCa K (sc i) ((fX4_fetchHotAnew X Z W (o2.2.1) (o2.2.2.1) (o2.2.2.2)).1), zZo K az Z W, zCo K ak (o2.2.2.1) ((fX4_fetchHotAnew X Z W (o2.2.1) (o2.2.2.1) (o2.2.2.2)).2)]) (st := []) (nA := 2) (zsp rfl rfl rfl) (zsp rfl rfl rfl) 0 0 rfl rfl rfl rfl gX4_query_X4_fetchHotAnew rfl (by decide +kernel) ⟨Nat.le_of_ble_eq_true rfl, Nat.le_of_ble_eq_true rfl⟩ rfl rfl (Nat.le_of_ble_eq_true rfl) ⟨Nat.le_of_ble_eq_true rfl, Nat.le_of_ble_eq_true rfl⟩ dX4_query_31 z_noX (fun _ => ?_)
  generalize ho3 : (fX4_fetchHotAnew X Z W (o2.2.1) (o2.2.2.1) (o2.2.2.2)) = o3
  refine z_aload_n B dX4_query_34 2 rfl ?_
  refine z_aload_n B dX4_query_35 1 rfl ?_
  refine z_get B (v := .int (D i 0)) 2 i 0 hiX4_query_2 hfX4_query_97 rfl (zSO_get hi) rfl (by decide) rfl rfl rfl rfl dX4_query_36 ?_
  refine z_put B 0 0 5 hiX4_query_4 hfX4_query_29 tyX4_ok nmX4 rfl rfl rfl (by decide) rfl rfl rfl rfl rfl rfl rfl (Nat.le_of_ble_eq_true rfl) (bs' := [zXo ax (az 0) sa (ak 0) tr tc (va_up X 5 (D i 0)), zSa K sa f, zSO n so sc D, zCa K (sc i) (o3.1), zZo K az Z W, zCo K ak (o2.2.2.1) (o3.2)]) rfl dX4_query_39 ?_
  refine z_aload_n B dX4_query_42 2 rfl ?_
  refine z_iload B dX4_query_43 0 rfl ?_
  refine z_V0 B (kX4_countQuery l hl K ax (az 0) sa ak tr tc (va_up X 5 (D i 0)) (o2.2.2.1) (o3.2) (o2.1)) [0, 5] [1, 2, 3, 4] (br := [zSa K sa f, zSO n so sc D, zCa K (sc i) (o3.1), zZo K az Z W]) (bs' := [zXo ax (az 0) sa (ak 0) tr tc (fX4_countQuery (va_up X 5 (D i 0)) (o2.2.2.1) (o3.2) (o2.1)), zSa K sa f, zSO n so sc D, zCa K (sc i) (o3.1), zZo K az Z W, zCo K ak (o2.2.2.1) (o3.2)]) (st := []) (nA := 1) (zsp rfl rfl rfl) (zsp rfl rfl rfl) 0 0 rfl rfl rfl rfl gX4_query_X4_countQuery rfl (by decide +kernel) ⟨Nat.le_of_ble_eq_true rfl, Nat.le_of_ble_eq_true rfl⟩ rfl rfl (Nat.le_of_ble_eq_true rfl) ⟨Nat.le_of_ble_eq_true rfl, Nat.le_of_ble_eq_true rfl⟩ dX4_query_45 z_noX (fun _ => ?_)
  generalize ho4 : (fX4_countQuery (va_up X 5 (D i 0)) (o2.2.2.1) (o3.2) (o2.1)) = o4
  refine z_iload B dX4_query_48 0 rfl ?_
  have hF : fX4_query_h X D i C Z W F O x1 x2 = (0, (o2.1), o4, (o3.1), (o2.2.2.1), (o3.2)) := (if_pos h1).trans ((congrArg (fun o => fX4_query_s2 X D i C Z W F O x1 x2 o) ho2).trans ((congrArg (fun o => fX4_query_s3 X D i C Z W F O x1 x2 o2 o) ho3).trans (congrArg (fun o => fX4_query_s4 X D i C Z W F O x1 x2 o2 o3 o) ho4)))
  exact z_ret1 B rfl dX4_query_50 () (by rw [hF]) (Nat.le_of_ble_eq_true rfl) (Nat.le_of_ble_eq_true rfl) (by rw [hF]) (by rw [hF])
def fX4_query_m (D : Nat → Nat → Int32) (x1 : Int32) (x2 : Int32) : Nat × Int32 :=
  ((fX4_siteAsked_m D x1 x2), 0)
set_option maxHeartbeats 4000000 in
set_option maxRecDepth 100000 in
theorem kX4_query_m (l : Launch) (hl : l.stackTraces = false) (K : zK) (ax : Nat) (zn : Nat) (sa : Nat) (la : Nat) (tr : Nat) (tc : Nat) (X : Nat → Int32) (f : Nat → Option Nat) (n : Nat) (so : Nat → Nat) (sc : Nat → Nat → Nat) (D : Nat → Nat → Int32) (x1 : Int32) (x2 : Int32) (hf1 : ∀ a, a < n → f a = some (so a)) (hf2 : ∀ a, n ≤ a → a < 4 → f a = none) (hN : fX4_near n D x1 = none) : zMet l K yX4_query wsX4_query { frames := 8, cells := 3, slots := 18, locals := 127 } [.ref ax, .int x1, .int x2] [zXo ax zn sa la tr tc X, zSa K sa f, zSO n so sc D] (some (.int ((fX4_query_m D x1 x2).2))) [zXo ax zn sa la tr tc X, zSa K sa f, zSO n so sc D] False (fun E => (E = zE1 ∧ (fX4_query_m D x1 x2).1 = 1) ∨ (E = zE2 ∧ (fX4_query_m D x1 x2).1 = 2) ∨ (E = zE3 ∧ (fX4_query_m D x1 x2).1 = 3)) := by
  refine zMeN.of (cc := cX4_query) (maxL := 5) (ret := (some .int)) (own := RX4) (nm := "query") hl (by decide +kernel) rfl rfl rfl (Nat.le_of_ble_eq_true rfl) (lv := [(0, .ref ax), (1, .int x1), (2, .int x2)]) rfl ?_
  intro p e s m args below meth c A B
  refine z_aload_n B dX4_query_0 0 rfl ?_
  refine z_iload_n B dX4_query_1 1 rfl ?_
  refine z_iload_n B dX4_query_2 2 rfl ?_
  refine z_V1 B (kX4_siteAsked_m l hl K ax zn sa la tr tc X f n so sc D x1 x2 hf1 hf2 hN) [0, 1, 2] [] (br := []) (bs' := [zXo ax zn sa la tr tc X, zSa K sa f, zSO n so sc D]) (st := []) (nA := 2) (zsp rfl rfl rfl) (zsp rfl rfl rfl) 0 0 rfl rfl rfl rfl gX4_query_X4_siteAsked rfl (by decide +kernel) ⟨Nat.le_of_ble_eq_true rfl, Nat.le_of_ble_eq_true rfl⟩ rfl rfl (Nat.le_of_ble_eq_true rfl) ⟨Nat.le_of_ble_eq_true rfl, Nat.le_of_ble_eq_true rfl⟩ dX4_query_3 (fun E hE => ?_) (fun h9 => h9.elim)
  · rcases hE with ⟨rfl, hx⟩ | ⟨rfl, hx⟩ | ⟨rfl, hx⟩
    · have hF : fX4_query_m D x1 x2 = (1, 0) := (show ((fX4_siteAsked_m D x1 x2), 0) = (1, 0) by rw [hx])
      exact z_out B (Or.inl ⟨rfl, by rw [hF]⟩) (Nat.le_of_ble_eq_true rfl) (Nat.le_of_ble_eq_true rfl)
    · have hF : fX4_query_m D x1 x2 = (2, 0) := (show ((fX4_siteAsked_m D x1 x2), 0) = (2, 0) by rw [hx])
      exact z_out B (Or.inr (Or.inl ⟨rfl, by rw [hF]⟩)) (Nat.le_of_ble_eq_true rfl) (Nat.le_of_ble_eq_true rfl)
    · have hF : fX4_query_m D x1 x2 = (3, 0) := (show ((fX4_siteAsked_m D x1 x2), 0) = (3, 0) by rw [hx])
      exact z_out B (Or.inr (Or.inr (⟨rfl, by rw [hF]⟩))) (Nat.le_of_ble_eq_true rfl) (Nat.le_of_ble_eq_true rfl)
def fX4_wouldAnswer_s3 (X : Nat → Int32) (D : Nat → Nat → Int32) (i : Nat) (C : Nat → Nat → Int32) (Z : Nat → Nat → Int32) (W : Nat → Int32) (F : Nat → Int32) (O : Nat → Int32) (Tc : Nat → Nat → Int32) (x1 : Int32) (x2 : Int32) (o2 : (Nat → Nat → Int32)) (o3 : Int32 × (Nat → Nat → Int32) × (Nat → Int32) × (Nat → Int32)) : Nat × Int32 × (Nat → Int32) × (Nat → Int32) × (Nat → Nat → Int32) :=
  (0, (o3.1), (o3.2.2.1), (o3.2.2.2), (o3.2.1))
def fX4_wouldAnswer_s2 (X : Nat → Int32) (D : Nat → Nat → Int32) (i : Nat) (C : Nat → Nat → Int32) (Z : Nat → Nat → Int32) (W : Nat → Int32) (F : Nat → Int32) (O : Nat → Int32) (Tc : Nat → Nat → Int32) (x1 : Int32) (x2 : Int32) (o2 : (Nat → Nat → Int32)) : Nat × Int32 × (Nat → Int32) × (Nat → Int32) × (Nat → Nat → Int32) :=
  fX4_wouldAnswer_s3 X D i C Z W F O Tc x1 x2 o2 (fX4_resolve X Z W o2 F O x2)
def fX4_wouldAnswer_h (X : Nat → Int32) (D : Nat → Nat → Int32) (i : Nat) (C : Nat → Nat → Int32) (Z : Nat → Nat → Int32) (W : Nat → Int32) (F : Nat → Int32) (O : Nat → Int32) (Tc : Nat → Nat → Int32) (x1 : Int32) (x2 : Int32) : Nat × Int32 × (Nat → Int32) × (Nat → Int32) × (Nat → Nat → Int32) :=
  if (fX4_siteAsked_h D i x1 x2) = 0 then
    fX4_wouldAnswer_s2 X D i C Z W F O Tc x1 x2 (fX0_copyFrom Tc C)
  else
    ((fX4_siteAsked_h D i x1 x2), 0, F, O, Tc)
theorem hiX4_wouldAnswer_4 : ∀ w ∈ wsX40, w ∈ wsX4_wouldAnswer := by decide +kernel
theorem hfX4_wouldAnswer_39 : Cond.fieldLink RX4 39 "ResolverFleet" "trialCache" "LResolverFleet$Cache;" ∈ wsX4_wouldAnswer := by decide +kernel
theorem hiX4_wouldAnswer_2 : ∀ w ∈ wsX20, w ∈ wsX4_wouldAnswer := by decide +kernel
theorem hfX4_wouldAnswer_115 : Cond.fieldLink RX4 115 "ResolverFleet$Site" "cache" "LResolverFleet$Cache;" ∈ wsX4_wouldAnswer := by decide +kernel
theorem hfX4_wouldAnswer_33 : Cond.fieldLink RX4 33 "ResolverFleet" "trial" "LResolverFleet$Course;" ∈ wsX4_wouldAnswer := by decide +kernel
set_option maxHeartbeats 4000000 in
set_option maxRecDepth 100000 in
theorem kX4_wouldAnswer_h (l : Launch) (hl : l.stackTraces = false) (K : zK) (ax : Nat) (az : Nat → Nat) (sa : Nat) (la : Nat) (ak : Nat → Nat) (ad : Nat → Nat) (X : Nat → Int32) (f : Nat → Option Nat) (n : Nat) (so : Nat → Nat) (sc : Nat → Nat → Nat) (D : Nat → Nat → Int32) (i : Nat) (C : Nat → Nat → Int32) (Z : Nat → Nat → Int32) (W : Nat → Int32) (F : Nat → Int32) (O : Nat → Int32) (Tc : Nat → Nat → Int32) (x1 : Int32) (x2 : Int32) (hf1 : ∀ a, a < n → f a = some (so a)) (hf2 : ∀ a, n ≤ a → a < 4 → f a = none) (hi : i < n) (hN : fX4_near n D x1 = some i) : zMet l K yX4_wouldAnswer wsX4_wouldAnswer { frames := 8, cells := 2, slots := 12, locals := 140 } [.ref ax, .int x1, .int x2] [zXo ax (az 0) sa la (ak 0) (ad 0) X, zSa K sa f, zSO n so sc D, zCa K (sc i) C, zZo K az Z W, zCo K ak F O, zCa K ad Tc] (some (.int ((fX4_wouldAnswer_h X D i C Z W F O Tc x1 x2).2.1))) [zXo ax (az 0) sa la (ak 0) (ad 0) X, zSa K sa f, zSO n so sc D, zCa K (sc i) C, zZo K az Z W, zCo K ak ((fX4_wouldAnswer_h X D i C Z W F O Tc x1 x2).2.2.1) ((fX4_wouldAnswer_h X D i C Z W F O Tc x1 x2).2.2.2.1), zCa K ad ((fX4_wouldAnswer_h X D i C Z W F O Tc x1 x2).2.2.2.2)] ((fX4_wouldAnswer_h X D i C Z W F O Tc x1 x2).1 = 0) (fun E => (E = zE1 ∧ (fX4_wouldAnswer_h X D i C Z W F O Tc x1 x2).1 = 1) ∨ (E = zE2 ∧ (fX4_wouldAnswer_h X D i C Z W F O Tc x1 x2).1 = 2)) := by
  refine zMeN.of (cc := cX4_wouldAnswer) (maxL := 4) (ret := (some .int)) (own := RX4) (nm := "wouldAnswer") hl (by decide +kernel) rfl rfl rfl (Nat.le_of_ble_eq_true rfl) (lv := [(0, .ref ax), (1, .int x1), (2, .int x2)]) rfl ?_
  intro p e s m args below meth c A B
  refine z_aload_n B dX4_wouldAnswer_0 0 rfl ?_
  refine z_iload_n B dX4_wouldAnswer_1 1 rfl ?_
  refine z_iload_n B dX4_wouldAnswer_2 2 rfl ?_
  refine z_V1 B (kX4_siteAsked_h l hl K ax (az 0) sa la (ak 0) (ad 0) X f n so sc D i x1 x2 hf1 hf2 hi hN) [0, 1, 2] [3, 4, 5, 6] (br := [zCa K (sc i) C, zZo K az Z W, zCo K ak F O, zCa K ad Tc]) (bs' := [zXo ax (az 0) sa la (ak 0) (ad 0) X, zSa K sa f, zSO n so sc D, zCa K (sc i) C, zZo K az Z W, zCo K ak F O, zCa K ad Tc]) (st := []) (nA := 2) (zsp rfl rfl rfl) (zsp rfl rfl rfl) 0 0 rfl rfl rfl rfl gX4_wouldAnswer_X4_siteAsked rfl (by decide +kernel) ⟨Nat.le_of_ble_eq_true rfl, Nat.le_of_ble_eq_true rfl⟩ rfl rfl (Nat.le_of_ble_eq_true rfl) ⟨Nat.le_of_ble_eq_true rfl, Nat.le_of_ble_eq_true rfl⟩ dX4_wouldAnswer_3 (fun E hE => ?_) (fun h1 => ?_)
  · rcases hE with ⟨rfl, hx⟩ | ⟨rfl, hx⟩
    · have hF : fX4_wouldAnswer_h X D i C Z W F O Tc x1 x2 = (1, 0, F, O, Tc) := (if_neg (show ¬ (fX4_siteAsked_h D i x1 x2) = 0 by rw [hx]; decide)).trans ((show ((fX4_siteAsked_h D i x1 x2), 0, F, O, Tc) = (1, 0, F, O, Tc) by rw [hx]))
      exact z_out B (Or.inl ⟨rfl, by rw [hF]⟩) (Nat.le_of_ble_eq_true rfl) (Nat.le_of_ble_eq_true rfl)
    · have hF : fX4_wouldAnswer_h X D i C Z W F O Tc x1 x2 = (2, 0, F, O, Tc) := (if_neg (show ¬ (fX4_siteAsked_h D i x1 x2) = 0 by rw [hx]; decide)).trans ((show ((fX4_siteAsked_h D i x1 x2), 0, F, O, Tc) = (2, 0, F, O, Tc) by rw [hx]))
      exact z_out B (Or.inr (⟨rfl, by rw [hF]⟩)) (Nat.le_of_ble_eq_true rfl) (Nat.le_of_ble_eq_true rfl)
  refine z_astore_n B (lv' := [(3, .ref (so i)), (0, .ref ax), (1, .int x1), (2, .int x2)]) dX4_wouldAnswer_6 (by decide) rfl ?_
  refine z_aload_n B dX4_wouldAnswer_7 1 rfl ?_
  refine z_get B (v := .ref (ad 0)) 0 0 7 hiX4_wouldAnswer_4 hfX4_wouldAnswer_39 rfl rfl rfl (by decide) rfl rfl rfl rfl dX4_wouldAnswer_8 ?_
  refine z_aload_n B dX4_wouldAnswer_11 0 rfl ?_
  refine z_get B (v := .ref ((sc i) 0)) 2 i 2 hiX4_wouldAnswer_2 hfX4_wouldAnswer_115 rfl (zSO_get hi) rfl (by decide) rfl rfl rfl rfl dX4_wouldAnswer_12 ?_
  refine z_V0 B (kX0_copyFrom l hl K ad Tc (sc i) C) [6, 3] [0, 1, 2, 4, 5] (br := [zXo ax (az 0) sa la (ak 0) (ad 0) X, zSa K sa f, zSO n so sc D, zZo K az Z W, zCo K ak F O]) (bs' := [zXo ax (az 0) sa la (ak 0) (ad 0) X, zSa K sa f, zSO n so sc D, zCa K (sc i) C, zZo K az Z W, zCo K ak F O, zCa K ad (fX0_copyFrom Tc C)]) (st := []) (nA := 1) (zsp rfl rfl rfl) (zsp rfl rfl rfl) 6 0 rfl rfl rfl rfl gX4_wouldAnswer_X0_copyFrom rfl (by decide +kernel) ⟨Nat.le_of_ble_eq_true rfl, Nat.le_of_ble_eq_true rfl⟩ rfl rfl (Nat.le_of_ble_eq_true rfl) ⟨Nat.le_of_ble_eq_true rfl, Nat.le_of_ble_eq_true rfl⟩ dX4_wouldAnswer_15 z_noX (fun _ => ?_)
  generalize ho2 : (fX0_copyFrom Tc C) = o2
  refine z_aload_n B dX4_wouldAnswer_18 1 rfl ?_
  refine z_aload_n B dX4_wouldAnswer_19 1 rfl ?_
  refine z_get B (v := .ref (ad 0)) 0 0 7 hiX4_wouldAnswer_4 hfX4_wouldAnswer_39 rfl rfl rfl (by decide) rfl rfl rfl rfl dX4_wouldAnswer_20 ?_
  refine z_iload_n B dX4_wouldAnswer_23 3 rfl ?_
  refine z_aload_n B dX4_wouldAnswer_24 1 rfl ?_
  refine z_get B (v := .ref (ak 0)) 0 0 6 hiX4_wouldAnswer_4 hfX4_wouldAnswer_33 rfl rfl rfl (by decide) rfl rfl rfl rfl dX4_wouldAnswer_25 ?_
  refine z_V1 B (kX4_resolve l hl K ax az sa la (ak 0) (ad 0) X Z W ad o2 ak F O x2) [0, 4, 6, 5] [1, 2, 3] (br := [zSa K sa f, zSO n so sc D, zCa K (sc i) C]) (bs' := [zXo ax (az 0) sa la (ak 0) (ad 0) X, zSa K sa f, zSO n so sc D, zCa K (sc i) C, zZo K az Z W, zCo K ak ((fX4_resolve X Z W o2 F O x2).2.2.1) ((fX4_resolve X Z W o2 F O x2).2.2.2), zCa K ad ((fX4_resolve X Z W o2 F O x2).2.1)]) (st := []) (nA := 3) (zsp rfl rfl rfl) (zsp rfl rfl rfl) 0 0 rfl rfl rfl rfl gX4_wouldAnswer_X4_resolve rfl (by decide +kernel) ⟨Nat.le_of_ble_eq_true rfl, Nat.le_of_ble_eq_true rfl⟩ rfl rfl (Nat.le_of_ble_eq_true rfl) ⟨Nat.le_of_ble_eq_true rfl, Nat.le_of_ble_eq_true rfl⟩ dX4_wouldAnswer_28 z_noX (fun _ => ?_)
  generalize ho3 : (fX4_resolve X Z W o2 F O x2) = o3
  have hF : fX4_wouldAnswer_h X D i C Z W F O Tc x1 x2 = (0, (o3.1), (o3.2.2.1), (o3.2.2.2), (o3.2.1)) := (if_pos h1).trans ((congrArg (fun o => fX4_wouldAnswer_s2 X D i C Z W F O Tc x1 x2 o) ho2).trans (congrArg (fun o => fX4_wouldAnswer_s3 X D i C Z W F O Tc x1 x2 o2 o) ho3))
  exact z_ret1 B rfl dX4_wouldAnswer_31 () (by rw [hF]) (Nat.le_of_ble_eq_true rfl) (Nat.le_of_ble_eq_true rfl) (by rw [hF]) (by rw [hF])
def fX4_wouldAnswer_m (D : Nat → Nat → Int32) (x1 : Int32) (x2 : Int32) : Nat × Int32 :=
  ((fX4_siteAsked_m D x1 x2), 0)
set_option maxHeartbeats 4000000 in
set_option maxRecDepth 100000 in
theorem kX4_wouldAnswer_m (l : Launch) (hl : l.stackTraces = false) (K : zK) (ax : Nat) (zn : Nat) (sa : Nat) (la : Nat) (tr : Nat) (tc : Nat) (X : Nat → Int32) (f : Nat → Option Nat) (n : Nat) (so : Nat → Nat) (sc : Nat → Nat → Nat) (D : Nat → Nat → Int32) (x1 : Int32) (x2 : Int32) (hf1 : ∀ a, a < n → f a = some (so a)) (hf2 : ∀ a, n ≤ a → a < 4 → f a = none) (hN : fX4_near n D x1 = none) : zMet l K yX4_wouldAnswer wsX4_wouldAnswer { frames := 8, cells := 3, slots := 18, locals := 127 } [.ref ax, .int x1, .int x2] [zXo ax zn sa la tr tc X, zSa K sa f, zSO n so sc D] (some (.int ((fX4_wouldAnswer_m D x1 x2).2))) [zXo ax zn sa la tr tc X, zSa K sa f, zSO n so sc D] False (fun E => (E = zE1 ∧ (fX4_wouldAnswer_m D x1 x2).1 = 1) ∨ (E = zE2 ∧ (fX4_wouldAnswer_m D x1 x2).1 = 2) ∨ (E = zE3 ∧ (fX4_wouldAnswer_m D x1 x2).1 = 3)) := by
  refine zMeN.of (cc := cX4_wouldAnswer) (maxL := 4) (ret := (some .int)) (own := RX4) (nm := "wouldAnswer") hl (by decide +kernel) rfl rfl rfl (Nat.le_of_ble_eq_true rfl) (lv := [(0, .ref ax), (1, .int x1), (2, .int x2)]) rfl ?_
  intro p e s m args below meth c A B
  refine z_aload_n B dX4_wouldAnswer_0 0 rfl ?_
  refine z_iload_n B dX4_wouldAnswer_1 1 rfl ?_
  refine z_iload_n B dX4_wouldAnswer_2 2 rfl ?_
  refine z_V1 B (kX4_siteAsked_m l hl K ax zn sa la tr tc X f n so sc D x1 x2 hf1 hf2 hN) [0, 1, 2] [] (br := []) (bs' := [zXo ax zn sa la tr tc X, zSa K sa f, zSO n so sc D]) (st := []) (nA := 2) (zsp rfl rfl rfl) (zsp rfl rfl rfl) 0 0 rfl rfl rfl rfl gX4_wouldAnswer_X4_siteAsked rfl (by decide +kernel) ⟨Nat.le_of_ble_eq_true rfl, Nat.le_of_ble_eq_true rfl⟩ rfl rfl (Nat.le_of_ble_eq_true rfl) ⟨Nat.le_of_ble_eq_true rfl, Nat.le_of_ble_eq_true rfl⟩ dX4_wouldAnswer_3 (fun E hE => ?_) (fun h9 => h9.elim)
  · rcases hE with ⟨rfl, hx⟩ | ⟨rfl, hx⟩ | ⟨rfl, hx⟩
    · have hF : fX4_wouldAnswer_m D x1 x2 = (1, 0) := (show ((fX4_siteAsked_m D x1 x2), 0) = (1, 0) by rw [hx])
      exact z_out B (Or.inl ⟨rfl, by rw [hF]⟩) (Nat.le_of_ble_eq_true rfl) (Nat.le_of_ble_eq_true rfl)
    · have hF : fX4_wouldAnswer_m D x1 x2 = (2, 0) := (show ((fX4_siteAsked_m D x1 x2), 0) = (2, 0) by rw [hx])
      exact z_out B (Or.inr (Or.inl ⟨rfl, by rw [hF]⟩)) (Nat.le_of_ble_eq_true rfl) (Nat.le_of_ble_eq_true rfl)
    · have hF : fX4_wouldAnswer_m D x1 x2 = (3, 0) := (show ((fX4_siteAsked_m D x1 x2), 0) = (3, 0) by rw [hx])
      exact z_out B (Or.inr (Or.inr (⟨rfl, by rw [hF]⟩))) (Nat.le_of_ble_eq_true rfl) (Nat.le_of_ble_eq_true rfl)
