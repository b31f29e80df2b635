/-! SITES: a site's own cell among the others' -/
theorem zSO_set3 {n i : Nat} {so : Nat → Nat} {sc : Nat → Nat → Nat} {D : Nat → Nat → Int32} {v : Int32} (h : i < n) : (zSO n so sc D).set i (so i, .inr (2, ([.int (D i 0), .int (D i 1), .ref (sc i 0), .int (D i 3)] : List Value).set 3 (.int v))) = zSO n so sc (va_up D i (va_up (D i) 3 v)) := by
  refine List.ext_getElem? fun j => ?_
  unfold zSO
  by_cases hj : j = i
  · subst hj
    rw [List.getElem?_set_self (by simpa using h), List.getElem?_map, List.getElem?_range h]
    simp [zSi, va_up]
  · rw [List.getElem?_set_ne (Ne.symm hj), List.getElem?_map, List.getElem?_map]
    cases hr : (List.range n)[j]? with
    | none => rfl
    | some k =>
      have hk : k ≠ i := by
        have := List.getElem?_eq_some_iff.mp hr
        obtain ⟨h1, h2⟩ := this
        rw [List.getElem_range] at h2
        omega
      simp [zSi, va_up, hk]
theorem z_lt0n {i : Nat} (h : i < 4) : ¬ nI i < 0 := nI_pos (by omega)
theorem z_lt4n {i : Nat} (h : i < 4) : nI i < 4 := by
  show nI i < nI 4
  exact nI_lt h (by decide)
section ZT4
variable {K : zK} {p : Program} {l : Launch} {e : Env} {R : Room} {s : State} {m : MethodId} {args : Array Value} {below : List Frame} {meth : Method} {c : Code} {A : Nat → Prop} {Q : State → Prop} {k n : Nat} {bs : zB} {lv : List (Nat × Value)} {st : List Value} {pc : Nat}
variable {cc : ByteArray} {nL : Nat} {own nm : String} {Ts : List Cond} {ret : Option FieldType} {tb : List ExceptionTableEntry}
theorem z_aaldS (B : zF K p l s m args meth c A cc nL own nm Ts ret tb) {a N v : Nat} {f : Nat → Option Nat} {b : va_W} (q j : Nat) (hb : bs[q]? = some b) (he : b[j]? = some (a, .inl (zS K, N, .inr (.inr (.inr (.inr f)))))) {i : Int32} (hin : vp_in i N) (hf : f i.toNatClampNeg = some v) (d : decode cc pc = .ok (.aaload, 1))
    (kk : zW K p l e R s m args below meth c A Q k n bs lv (.ref v :: st) (pc + 1)) : zW K p l e R s m args below meth c A Q k n bs lv (.int i :: .ref a :: st) pc :=
  z_aald B q j hb he hin d (by rw [hf]; exact kk)
theorem z_aaldN (B : zF K p l s m args meth c A cc nL own nm Ts ret tb) {a N : Nat} {f : Nat → Option Nat} {b : va_W} (q j : Nat) (hb : bs[q]? = some b) (he : b[j]? = some (a, .inl (zS K, N, .inr (.inr (.inr (.inr f)))))) {i : Int32} (hin : vp_in i N) (hf : f i.toNatClampNeg = none) (d : decode cc pc = .ok (.aaload, 1))
    (kk : zW K p l e R s m args below meth c A Q k n bs lv (.null :: st) (pc + 1)) : zW K p l e R s m args below meth c A Q k n bs lv (.int i :: .ref a :: st) pc :=
  z_aald B q j hb he hin d (by rw [hf]; exact kk)
end ZT4

def fX4_siteNumbered_h  : Unit :=
  ()
theorem hiX4_siteNumbered_4 : ∀ w ∈ wsX40, w ∈ wsX4_siteNumbered := by decide +kernel
theorem hfX4_siteNumbered_18 : Cond.fieldLink RX4 18 "ResolverFleet" "sites" "[LResolverFleet$Site;" ∈ wsX4_siteNumbered := by decide +kernel
set_option maxHeartbeats 4000000 in
set_option maxRecDepth 100000 in
theorem kX4_siteNumbered_h (l : Launch) (hl : l.stackTraces = false) (K : zK) (ax : Nat) (zn : Nat) (sa : Nat) (la : Nat) (tr : Nat) (tc : Nat) (X : Nat → Int32) (f : Nat → Option Nat) (so : Nat → Nat) (i : Nat) (hi4 : i < 4) (hfi : f (nI i).toNatClampNeg = some (so i)) : zMet l K yX4_siteNumbered wsX4_siteNumbered { frames := 0, cells := 0, slots := 0, locals := 0 } [.ref ax, .int (nI i)] [zXo ax zn sa la tr tc X, zSa K sa f] (some (.ref (so i))) [zXo ax zn sa la tr tc X, zSa K sa f] True zNo := by
  refine zMeN.of (cc := cX4_siteNumbered) (maxL := 3) (ret := (some (.object "ResolverFleet$Site"))) (own := RX4) (nm := "siteNumbered") hl (by decide +kernel) rfl rfl rfl (Nat.le_of_ble_eq_true rfl) (lv := [(0, .ref ax), (1, .int (nI i))]) rfl ?_
  intro p e s m args below meth c A B
  refine z_iload_n B dX4_siteNumbered_0 1 rfl ?_
  refine z_iflt B 13 dX4_siteNumbered_1 (by decide) (fun h => absurd h (z_lt0n hi4)) (fun _ => ?_)
  refine z_iload_n B dX4_siteNumbered_4 1 rfl ?_
  refine z_aload_n B dX4_siteNumbered_5 0 rfl ?_
  refine z_get B (v := .ref sa) 0 0 1 hiX4_siteNumbered_4 hfX4_siteNumbered_18 rfl rfl rfl (by decide) rfl rfl rfl rfl dX4_siteNumbered_6 ?_
  refine z_alen B (v := 4) 1 0 2 rfl rfl rfl rfl dX4_siteNumbered_9 ?_
  refine z_iclt B 17 dX4_siteNumbered_10 (by decide) (fun _ => ?_) (fun h => absurd (z_lt4n hi4) h)
  refine z_aload_n B dX4_siteNumbered_17 0 rfl ?_
  refine z_get B (v := .ref sa) 0 0 1 hiX4_siteNumbered_4 hfX4_siteNumbered_18 rfl rfl rfl (by decide) rfl rfl rfl rfl dX4_siteNumbered_18 ?_
  refine z_iload_n B dX4_siteNumbered_21 1 rfl ?_
  refine z_aaldS B (N := 4) (f := f) 1 0 rfl rfl (z_nIr hi4 (by decide)) hfi dX4_siteNumbered_22 ?_
  refine z_astore_n B (lv' := [(2, .ref (so i)), (0, .ref ax), (1, .int (nI i))]) dX4_siteNumbered_23 (by decide) rfl ?_
  refine z_aload_n B dX4_siteNumbered_24 0 rfl ?_
  refine z_ifnonnull B 38 dX4_siteNumbered_25 (by decide) ?_
  refine z_aload_n B dX4_siteNumbered_38 0 rfl ?_
  have hF : fX4_siteNumbered_h = () := rfl
  exact z_reta B (Or.inr ⟨_, rfl⟩) dX4_siteNumbered_39 () (trivial) (Nat.le_of_ble_eq_true rfl) (Nat.le_of_ble_eq_true rfl) rfl rfl
def fX4_siteNumbered_m (x1 : Int32) : Nat :=
  if x1 < 0 then
    1
  else
    if x1 < 4 then
      1
    else
      1
theorem haX4_siteNumbered_219 : ∀ w ∈ (vx_atS RX4 219 "java/lang/IndexOutOfBoundsException" ["java/lang/RuntimeException", "java/lang/Exception"]).filter goodWord, w ∈ wsX4_siteNumbered := by decide +kernel
theorem hgX4_siteNumbered_219 : ∀ w ∈ (vx_atS RX4 219 "java/lang/IndexOutOfBoundsException" ["java/lang/RuntimeException", "java/lang/Exception"]).filter (fun w => !goodWord w), w ∈ zNw := by decide +kernel
theorem hoX4_siteNumbered_219 : ∀ w ∈ Cond.classLink RX4 215 "java/lang/IndexOutOfBoundsException" :: Cond.initialized "java/lang/IndexOutOfBoundsException" :: vx_atS RX4 219 "java/lang/IndexOutOfBoundsException" ["java/lang/RuntimeException", "java/lang/Exception"], vx_ot w = true := by decide +kernel
theorem hwX4_siteNumbered_cl215 : Cond.classLink RX4 215 "java/lang/IndexOutOfBoundsException" ∈ wsX4_siteNumbered := by decide +kernel
theorem hwX4_siteNumbered_ini215 : Cond.initialized "java/lang/IndexOutOfBoundsException" ∈ wsX4_siteNumbered := by decide +kernel
set_option maxHeartbeats 4000000 in
set_option maxRecDepth 100000 in
theorem kX4_siteNumbered_m (l : Launch) (hl : l.stackTraces = false) (K : zK) (ax : Nat) (zn : Nat) (sa : Nat) (la : Nat) (tr : Nat) (tc : Nat) (X : Nat → Int32) (f : Nat → Option Nat) (x1 : Int32) (hfn : x1 < 4 → ¬ x1 < 0 → f x1.toNatClampNeg = none) : zMet l K yX4_siteNumbered wsX4_siteNumbered { frames := 6, cells := 1, slots := 6, locals := 82 } [.ref ax, .int x1] [zXo ax zn sa la tr tc X, zSa K sa f] (some .null) [zXo ax zn sa la tr tc X, zSa K sa f] False (fun E => (E = zE1 ∧ (fX4_siteNumbered_m x1) = 1)) := by
  refine zMeN.of (cc := cX4_siteNumbered) (maxL := 3) (ret := (some (.object "ResolverFleet$Site"))) (own := RX4) (nm := "siteNumbered") hl (by decide +kernel) rfl rfl rfl (Nat.le_of_ble_eq_true rfl) (lv := [(0, .ref ax), (1, .int x1)]) rfl ?_
  intro p e s m args below meth c A B
  refine z_iload_n B dX4_siteNumbered_0 1 rfl ?_
  refine z_iflt B 13 dX4_siteNumbered_1 (by decide) (fun c1 => ?_) (fun c1 => ?_)
  · refine z_null B dX4_siteNumbered_13 ?_
    refine z_goto B (tgt := 23) dX4_siteNumbered_14 (by decide) ?_
    refine z_astore_nN B (lv' := [(2, .null), (0, .ref ax), (1, .int x1)]) dX4_siteNumbered_23 (by decide) rfl ?_
    refine z_aload_nN B dX4_siteNumbered_24 0 rfl ?_
    refine z_ifnonnullN B dX4_siteNumbered_25 ?_
    have hF : fX4_siteNumbered_m x1 = 1 := if_pos c1
    exact z_throw B rfl ["java/lang/RuntimeException", "java/lang/Exception"] (by decide +kernel) (by decide +kernel) hwX4_siteNumbered_cl215 hwX4_siteNumbered_ini215 (text := "there is no such site") (by decide +kernel) haX4_siteNumbered_219 hgX4_siteNumbered_219 hoX4_siteNumbered_219 dX4_siteNumbered_28 dX4_siteNumbered_31 dX4_siteNumbered_32 dX4_siteNumbered_34 dX4_siteNumbered_37 (by decide) (Nat.le_of_ble_eq_true rfl) (Nat.le_of_ble_eq_true rfl) (Nat.le_of_ble_eq_true rfl) (⟨rfl, by rw [hF]⟩) (Nat.le_of_ble_eq_true rfl) (Nat.le_of_ble_eq_true rfl)
  · refine z_iload_n B dX4_siteNumbered_4 1 rfl ?_
    refine z_aload_n B dX4_siteNumbered_5 0 rfl ?_
    refine z_get B (v := .ref sa) 0 0 1 hiX4_siteNumbered_4 hfX4_siteNumbered_18 rfl rfl rfl (by decide) rfl rfl rfl rfl dX4_siteNumbered_6 ?_
    refine z_alen B (v := 4) 1 0 2 rfl rfl rfl rfl dX4_siteNumbered_9 ?_
    refine z_iclt B 17 dX4_siteNumbered_10 (by decide) (fun c2 => ?_) (fun c2 => ?_)
    · refine z_aload_n B dX4_siteNumbered_17 0 rfl ?_
      refine z_get B (v := .ref sa) 0 0 1 hiX4_siteNumbered_4 hfX4_siteNumbered_18 rfl rfl rfl (by decide) rfl rfl rfl rfl dX4_siteNumbered_18 ?_
      refine z_iload_n B dX4_siteNumbered_21 1 rfl ?_
      refine z_aaldN B (N := 4) (f := f) 1 0 rfl rfl (z_vp2 (M := 4) rfl c1 c2) (hfn c2 c1) dX4_siteNumbered_22 ?_
      refine z_astore_nN B (lv' := [(2, .null), (0, .ref ax), (1, .int x1)]) dX4_siteNumbered_23 (by decide) rfl ?_
      refine z_aload_nN B dX4_siteNumbered_24 0 rfl ?_
      refine z_ifnonnullN B dX4_siteNumbered_25 ?_
      have hF : fX4_siteNumbered_m x1 = 1 := (if_neg c1).trans (if_pos c2)
      exact z_throw B rfl ["java/lang/RuntimeException", "java/lang/Exception"] (by decide +kernel) (by decide +kernel) hwX4_siteNumbered_cl215 hwX4_siteNumbered_ini215 (text := "there is no such site") (by decide +kernel) haX4_siteNumbered_219 hgX4_siteNumbered_219 hoX4_siteNumbered_219 dX4_siteNumbered_28 dX4_siteNumbered_31 dX4_siteNumbered_32 dX4_siteNumbered_34 dX4_siteNumbered_37 (by decide) (Nat.le_of_ble_eq_true rfl) (Nat.le_of_ble_eq_true rfl) (Nat.le_of_ble_eq_true rfl) (⟨rfl, by rw [hF]⟩) (Nat.le_of_ble_eq_true rfl) (Nat.le_of_ble_eq_true rfl)
    · refine z_null B dX4_siteNumbered_13 ?_
      refine z_goto B (tgt := 23) dX4_siteNumbered_14 (by decide) ?_
      refine z_astore_nN B (lv' := [(2, .null), (0, .ref ax), (1, .int x1)]) dX4_siteNumbered_23 (by decide) rfl ?_
      refine z_aload_nN B dX4_siteNumbered_24 0 rfl ?_
      refine z_ifnonnullN B dX4_siteNumbered_25 ?_
      have hF : fX4_siteNumbered_m x1 = 1 := (if_neg c1).trans (if_neg c2)
      exact z_throw B rfl ["java/lang/RuntimeException", "java/lang/Exception"] (by decide +kernel) (by decide +kernel) hwX4_siteNumbered_cl215 hwX4_siteNumbered_ini215 (text := "there is no such site") (by decide +kernel) haX4_siteNumbered_219 hgX4_siteNumbered_219 hoX4_siteNumbered_219 dX4_siteNumbered_28 dX4_siteNumbered_31 dX4_siteNumbered_32 dX4_siteNumbered_34 dX4_siteNumbered_37 (by decide) (Nat.le_of_ble_eq_true rfl) (Nat.le_of_ble_eq_true rfl) (Nat.le_of_ble_eq_true rfl) (⟨rfl, by rw [hF]⟩) (Nat.le_of_ble_eq_true rfl) (Nat.le_of_ble_eq_true rfl)
