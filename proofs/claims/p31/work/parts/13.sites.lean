/-! SITES: a site's own cell among the others' -/
theorem zSO_set3 {n i : Nat} {so : Nat → Nat} {sc : Nat → Nat → Nat} {D : Nat → Nat → Int32} {v : Int32} (h : i < n) : (zSO n so sc D).set i (so i, .inr (2, ([.int (D i 0), .int (D i 1), .ref (sc i 0), .int (D i 3)] : List Value).set 3 (.int v))) = zSO n so sc (va_up D i (va_up (D i) 3 v)) := by
  refine List.ext_getElem? fun j => ?_
  unfold zSO
  by_cases hj : j = i
  · subst hj
    rw [List.getElem?_set_self (by simpa using h), List.getElem?_map, List.getElem?_range h]
    simp [zSi, va_up]
  · rw [List.getElem?_set_ne (Ne.symm hj), List.getElem?_map, List.getElem?_map]
    cases hr : (List.range n)[j]? with
    | none => rfl
    | some k =>
      have hk : k ≠ i := by
        have := List.getElem?_eq_some_iff.mp hr
        obtain ⟨h1, h2⟩ := this
        rw [List.getElem_range] at h2
        omega
      simp [zSi, va_up, hk]
theorem z_lt0n {i : Nat} (h : i < 4) : ¬ nI i < 0 := nI_pos (by omega)
theorem z_lt4n {i : Nat} (h : i < 4) : nI i < 4 := by
  show nI i < nI 4
  exact nI_lt h (by decide)
section ZT4
variable {K : zK} {p : Program} {l : Launch} {e : Env} {R : Room} {s : State} {m : MethodId} {args : Array Value} {below : List Frame} {meth : Method} {c : Code} {A : Nat → Prop} {Q : State → Prop} {k n : Nat} {bs : zB} {lv : List (Nat × Value)} {st : List Value} {pc : Nat}
variable {cc : ByteArray} {nL : Nat} {own nm : String} {Ts : List Cond} {ret : Option FieldType} {tb : List ExceptionTableEntry}
theorem z_aaldS (B : zF K p l s m args meth c A cc nL own nm Ts ret tb) {a N v : Nat} {f : Nat → Option Nat} {b : va_W} (q j : Nat) (hb : bs[q]? = some b) (he : b[j]? = some (a, .inl (zS K, N, .inr (.inr (.inr (.inr f)))))) {i : Int32} (hin : vp_in i N) (hf : f i.toNatClampNeg = some v) (d : decode cc pc = .ok (.aaload, 1))
    (kk : zW K p l e R s m args below meth c A Q k n bs lv (.ref v :: st) (pc + 1)) : zW K p l e R s m args below meth c A Q k n bs lv (.int i :: .ref a :: st) pc :=
  z_aald B q j hb he hin d (by rw [hf]; exact kk)
theorem z_aaldN (B : zF K p l s m args meth c A cc nL own nm Ts ret tb) {a N : Nat} {f : Nat → Option Nat} {b : va_W} (q j : Nat) (hb : bs[q]? = some b) (he : b[j]? = some (a, .inl (zS K, N, .inr (.inr (.inr (.inr f)))))) {i : Int32} (hin : vp_in i N) (hf : f i.toNatClampNeg = none) (d : decode cc pc = .ok (.aaload, 1))
    (kk : zW K p l e R s m args below meth c A Q k n bs lv (.null :: st) (pc + 1)) : zW K p l e R s m args below meth c A Q k n bs lv (.int i :: .ref a :: st) pc :=
  z_aald B q j hb he hin d (by rw [hf]; exact kk)
end ZT4

theorem z_drop01 {C : Nat → Nat → Int32} {x : Int32} : (fX0_drop C x).1 = 0 ∨ (fX0_drop C x).1 = 1 := by
  unfold fX0_drop
  split
  · exact Or.inl rfl
  · exact Or.inr rfl
def fX4_siteNumbered_h  : Unit :=
  ()
theorem hiX4_siteNumbered_4 : ∀ w ∈ wsX40, w ∈ wsX4_siteNumbered := by decide +kernel
theorem hfX4_siteNumbered_18 : Cond.fieldLink RX4 18 "ResolverFleet" "sites" "[LResolverFleet$Site;" ∈ wsX4_siteNumbered := by decide +kernel
set_option maxHeartbeats 4000000 in
set_option maxRecDepth 100000 in
theorem kX4_siteNumbered_h (l : Launch) (hl : l.stackTraces = false) (K : zK) (ax : Nat) (zn : Nat) (sa : Nat) (la : Nat) (tr : Nat) (tc : Nat) (X : Nat → Int32) (f : Nat → Option Nat) (so : Nat → Nat) (i : Nat) (hi4 : i < 4) (hfi : f (nI i).toNatClampNeg = some (so i)) : zMet l K yX4_siteNumbered wsX4_siteNumbered { frames := 0, cells := 0, slots := 0, locals := 0 } [.ref ax, .int (nI i)] [zXo ax zn sa la tr tc X, zSa K sa f] (some (.ref (so i))) [zXo ax zn sa la tr tc X, zSa K sa f] True zNo := by
  refine zMeN.of (cc := cX4_siteNumbered) (maxL := 3) (ret := (some (.object "ResolverFleet$Site"))) (own := RX4) (nm := "siteNumbered") hl (by decide +kernel) rfl rfl rfl (Nat.le_of_ble_eq_true rfl) (lv := [(0, .ref ax), (1, .int (nI i))]) rfl ?_
  intro p e s m args below meth c A B
  refine z_iload_n B dX4_siteNumbered_0 1 rfl ?_
  refine z_iflt B 13 dX4_siteNumbered_1 (by decide) (fun h => absurd h (z_lt0n hi4)) (fun _ => ?_)
  refine z_iload_n B dX4_siteNumbered_4 1 rfl ?_
  refine z_aload_n B dX4_siteNumbered_5 0 rfl ?_
  refine z_get B (v := .ref sa) 0 0 1 hiX4_siteNumbered_4 hfX4_siteNumbered_18 rfl rfl rfl (by decide) rfl rfl rfl rfl dX4_siteNumbered_6 ?_
  refine z_alen B (v := 4) 1 0 2 rfl rfl rfl rfl dX4_siteNumbered_9 ?_
  refine z_iclt B 17 dX4_siteNumbered_10 (by decide) (fun _ => ?_) (fun h => absurd (z_lt4n hi4) h)
  refine z_aload_n B dX4_siteNumbered_17 0 rfl ?_
  refine z_get B (v := .ref sa) 0 0 1 hiX4_siteNumbered_4 hfX4_siteNumbered_18 rfl rfl rfl (by decide) rfl rfl rfl rfl dX4_siteNumbered_18 ?_
  refine z_iload_n B dX4_siteNumbered_21 1 rfl ?_
  refine z_aaldS B (N := 4) (f := f) 1 0 rfl rfl (z_nIr hi4 (by decide)) hfi dX4_siteNumbered_22 ?_
  refine z_astore_n B (lv' := [(2, .ref (so i)), (0, .ref ax), (1, .int (nI i))]) dX4_siteNumbered_23 (by decide) rfl ?_
  refine z_aload_n B dX4_siteNumbered_24 0 rfl ?_
  refine z_ifnonnull B 38 dX4_siteNumbered_25 (by decide) ?_
  refine z_aload_n B dX4_siteNumbered_38 0 rfl ?_
  have hF : fX4_siteNumbered_h = () := rfl
  exact z_reta B (Or.inr ⟨_, rfl⟩) dX4_siteNumbered_39 () (trivial) (Nat.le_of_ble_eq_true rfl) (Nat.le_of_ble_eq_true rfl) rfl rfl
def fX4_siteNumbered_m (x1 : Int32) : Nat :=
  if x1 < 0 then
    1
  else
    if x1 < 4 then
      1
    else
      1
theorem haX4_siteNumbered_219 : ∀ w ∈ (vx_atS RX4 219 "java/lang/IndexOutOfBoundsException" ["java/lang/RuntimeException", "java/lang/Exception"]).filter goodWord, w ∈ wsX4_siteNumbered := by decide +kernel
theorem hgX4_siteNumbered_219 : ∀ w ∈ (vx_atS RX4 219 "java/lang/IndexOutOfBoundsException" ["java/lang/RuntimeException", "java/lang/Exception"]).filter (fun w => !goodWord w), w ∈ zNw := by decide +kernel
theorem hoX4_siteNumbered_219 : ∀ w ∈ Cond.classLink RX4 215 "java/lang/IndexOutOfBoundsException" :: Cond.initialized "java/lang/IndexOutOfBoundsException" :: vx_atS RX4 219 "java/lang/IndexOutOfBoundsException" ["java/lang/RuntimeException", "java/lang/Exception"], vx_ot w = true := by decide +kernel
theorem hwX4_siteNumbered_cl215 : Cond.classLink RX4 215 "java/lang/IndexOutOfBoundsException" ∈ wsX4_siteNumbered := by decide +kernel
theorem hwX4_siteNumbered_ini215 : Cond.initialized "java/lang/IndexOutOfBoundsException" ∈ wsX4_siteNumbered := by decide +kernel
set_option maxHeartbeats 4000000 in
set_option maxRecDepth 100000 in
theorem kX4_siteNumbered_m (l : Launch) (hl : l.stackTraces = false) (K : zK) (ax : Nat) (zn : Nat) (sa : Nat) (la : Nat) (tr : Nat) (tc : Nat) (X : Nat → Int32) (f : Nat → Option Nat) (x1 : Int32) (hfn : x1 < 4 → ¬ x1 < 0 → f x1.toNatClampNeg = none) : zMet l K yX4_siteNumbered wsX4_siteNumbered { frames := 6, cells := 1, slots := 6, locals := 82 } [.ref ax, .int x1] [zXo ax zn sa la tr tc X, zSa K sa f] (some .null) [zXo ax zn sa la tr tc X, zSa K sa f] False (fun E => (E = zE1 ∧ (fX4_siteNumbered_m x1) = 1)) := by
  refine zMeN.of (cc := cX4_siteNumbered) (maxL := 3) (ret := (some (.object "ResolverFleet$Site"))) (own := RX4) (nm := "siteNumbered") hl (by decide +kernel) rfl rfl rfl (Nat.le_of_ble_eq_true rfl) (lv := [(0, .ref ax), (1, .int x1)]) rfl ?_
  intro p e s m args below meth c A B
  refine z_iload_n B dX4_siteNumbered_0 1 rfl ?_
  refine z_iflt B 13 dX4_siteNumbered_1 (by decide) (fun c1 => ?_) (fun c1 => ?_)
  · refine z_null B dX4_siteNumbered_13 ?_
    refine z_goto B (tgt := 23) dX4_siteNumbered_14 (by decide) ?_
    refine z_astore_nN B (lv' := [(2, .null), (0, .ref ax), (1, .int x1)]) dX4_siteNumbered_23 (by decide) rfl ?_
    refine z_aload_nN B dX4_siteNumbered_24 0 rfl ?_
    refine z_ifnonnullN B dX4_siteNumbered_25 ?_
    have hF : fX4_siteNumbered_m x1 = 1 := if_pos c1
    exact z_throw B rfl ["java/lang/RuntimeException", "java/lang/Exception"] (by decide +kernel) (by decide +kernel) hwX4_siteNumbered_cl215 hwX4_siteNumbered_ini215 (text := "there is no such site") (by decide +kernel) haX4_siteNumbered_219 hgX4_siteNumbered_219 hoX4_siteNumbered_219 dX4_siteNumbered_28 dX4_siteNumbered_31 dX4_siteNumbered_32 dX4_siteNumbered_34 dX4_siteNumbered_37 (by decide) (Nat.le_of_ble_eq_true rfl) (Nat.le_of_ble_eq_true rfl) (Nat.le_of_ble_eq_true rfl) (⟨rfl, by rw [hF]⟩) (Nat.le_of_ble_eq_true rfl) (Nat.le_of_ble_eq_true rfl)
  · refine z_iload_n B dX4_siteNumbered_4 1 rfl ?_
    refine z_aload_n B dX4_siteNumbered_5 0 rfl ?_
    refine z_get B (v := .ref sa) 0 0 1 hiX4_siteNumbered_4 hfX4_siteNumbered_18 rfl rfl rfl (by decide) rfl rfl rfl rfl dX4_siteNumbered_6 ?_
    refine z_alen B (v := 4) 1 0 2 rfl rfl rfl rfl dX4_siteNumbered_9 ?_
    refine z_iclt B 17 dX4_siteNumbered_10 (by decide) (fun c2 => ?_) (fun c2 => ?_)
    · refine z_aload_n B dX4_siteNumbered_17 0 rfl ?_
      refine z_get B (v := .ref sa) 0 0 1 hiX4_siteNumbered_4 hfX4_siteNumbered_18 rfl rfl rfl (by decide) rfl rfl rfl rfl dX4_siteNumbered_18 ?_
      refine z_iload_n B dX4_siteNumbered_21 1 rfl ?_
      refine z_aaldN B (N := 4) (f := f) 1 0 rfl rfl (z_vp2 (M := 4) rfl c1 c2) (hfn c2 c1) dX4_siteNumbered_22 ?_
      refine z_astore_nN B (lv' := [(2, .null), (0, .ref ax), (1, .int x1)]) dX4_siteNumbered_23 (by decide) rfl ?_
      refine z_aload_nN B dX4_siteNumbered_24 0 rfl ?_
      refine z_ifnonnullN B dX4_siteNumbered_25 ?_
      have hF : fX4_siteNumbered_m x1 = 1 := (if_neg c1).trans (if_pos c2)
      exact z_throw B rfl ["java/lang/RuntimeException", "java/lang/Exception"] (by decide +kernel) (by decide +kernel) hwX4_siteNumbered_cl215 hwX4_siteNumbered_ini215 (text := "there is no such site") (by decide +kernel) haX4_siteNumbered_219 hgX4_siteNumbered_219 hoX4_siteNumbered_219 dX4_siteNumbered_28 dX4_siteNumbered_31 dX4_siteNumbered_32 dX4_siteNumbered_34 dX4_siteNumbered_37 (by decide) (Nat.le_of_ble_eq_true rfl) (Nat.le_of_ble_eq_true rfl) (Nat.le_of_ble_eq_true rfl) (⟨rfl, by rw [hF]⟩) (Nat.le_of_ble_eq_true rfl) (Nat.le_of_ble_eq_true rfl)
    · refine z_null B dX4_siteNumbered_13 ?_
      refine z_goto B (tgt := 23) dX4_siteNumbered_14 (by decide) ?_
      refine z_astore_nN B (lv' := [(2, .null), (0, .ref ax), (1, .int x1)]) dX4_siteNumbered_23 (by decide) rfl ?_
      refine z_aload_nN B dX4_siteNumbered_24 0 rfl ?_
      refine z_ifnonnullN B dX4_siteNumbered_25 ?_
      have hF : fX4_siteNumbered_m x1 = 1 := (if_neg c1).trans (if_neg c2)
      exact z_throw B rfl ["java/lang/RuntimeException", "java/lang/Exception"] (by decide +kernel) (by decide +kernel) hwX4_siteNumbered_cl215 hwX4_siteNumbered_ini215 (text := "there is no such site") (by decide +kernel) haX4_siteNumbered_219 hgX4_siteNumbered_219 hoX4_siteNumbered_219 dX4_siteNumbered_28 dX4_siteNumbered_31 dX4_siteNumbered_32 dX4_siteNumbered_34 dX4_siteNumbered_37 (by decide) (Nat.le_of_ble_eq_true rfl) (Nat.le_of_ble_eq_true rfl) (Nat.le_of_ble_eq_true rfl) (⟨rfl, by rw [hF]⟩) (Nat.le_of_ble_eq_true rfl) (Nat.le_of_ble_eq_true rfl)
def fX4_announce_h (D : Nat → Nat → Int32) (i : Nat) (x2 : Int32) : Int32 × (Nat → Nat → Int32) :=
  ((D i 3), (va_up D i (va_up (D i) 3 x2)))
theorem hiX4_announce_2 : ∀ w ∈ wsX20, w ∈ wsX4_announce := by decide +kernel
theorem hfX4_announce_91 : Cond.fieldLink RX4 91 "ResolverFleet$Site" "isAnnounced" "Z" ∈ wsX4_announce := by decide +kernel
set_option maxHeartbeats 4000000 in
set_option maxRecDepth 100000 in
theorem kX4_announce_h (l : Launch) (hl : l.stackTraces = false) (K : zK) (ax : Nat) (zn : Nat) (sa : Nat) (la : Nat) (tr : Nat) (tc : Nat) (X : Nat → Int32) (f : Nat → Option Nat) (n : Nat) (so : Nat → Nat) (sc : Nat → Nat → Nat) (D : Nat → Nat → Int32) (i : Nat) (x2 : Int32) (hi4 : i < 4) (hi : i < n) (hfi : f (nI i).toNatClampNeg = some (so i)) (hx2 : x2 = 0 ∨ x2 = 1) (hD3 : (D i 3) = 0 ∨ (D i 3) = 1) : zMet l K yX4_announce wsX4_announce { frames := 1, cells := 0, slots := 0, locals := 22 } [.ref ax, .int (nI i), .int x2] [zXo ax zn sa la tr tc X, zSa K sa f, zSO n so sc D] (some (.int ((fX4_announce_h D i x2).1))) [zXo ax zn sa la tr tc X, zSa K sa f, zSO n so sc ((fX4_announce_h D i x2).2)] True zNo := by
  refine zMeN.of (cc := cX4_announce) (maxL := 5) (ret := (some .boolean)) (own := RX4) (nm := "announce") hl (by decide +kernel) rfl rfl rfl (Nat.le_of_ble_eq_true rfl) (lv := [(0, .ref ax), (1, .int (nI i)), (2, .int x2)]) rfl ?_
  intro p e s m args below meth c A B
  refine z_aload_n B dX4_announce_0 0 rfl ?_
  refine z_iload_n B dX4_announce_1 1 rfl ?_
  refine z_V1 B (kX4_siteNumbered_h l hl K ax zn sa la tr tc X f so i hi4 hfi) [0, 1] [2] (br := [zSO n so sc D]) (bs' := [zXo ax zn sa la tr tc X, zSa K sa f, zSO n so sc D]) (st := []) (nA := 1) (zsp rfl rfl rfl) (zsp rfl rfl rfl) 0 0 rfl rfl rfl rfl gX4_announce_X4_siteNumbered rfl (by decide +kernel) ⟨Nat.le_of_ble_eq_true rfl, Nat.le_of_ble_eq_true rfl⟩ rfl rfl (Nat.le_of_ble_eq_true rfl) ⟨Nat.le_of_ble_eq_true rfl, Nat.le_of_ble_eq_true rfl⟩ dX4_announce_2 z_noX (fun _ => ?_)
  refine z_astore_n B (lv' := [(3, .ref (so i)), (0, .ref ax), (1, .int (nI i)), (2, .int x2)]) dX4_announce_5 (by decide) rfl ?_
  refine z_aload_n B dX4_announce_6 0 rfl ?_
  refine z_get B (v := .int (D i 3)) 2 i 3 hiX4_announce_2 hfX4_announce_91 rfl (zSO_get hi) rfl (by decide) rfl rfl rfl rfl dX4_announce_7 ?_
  refine z_istore B (lv' := [(4, .int (D i 3)), (3, .ref (so i)), (0, .ref ax), (1, .int (nI i)), (2, .int x2)]) dX4_announce_10 (by decide) rfl ?_
  refine z_aload_n B dX4_announce_12 1 rfl ?_
  refine z_iload_n B dX4_announce_13 4 rfl ?_
  refine z_put B 2 i 3 hiX4_announce_2 hfX4_announce_91 tyX2_ok nmX2 rfl (zSO_get hi) rfl (by decide) rfl rfl rfl rfl rfl (z_nz hx2) (z_fz hx2) (Nat.le_of_ble_eq_true rfl) (bs' := [zXo ax zn sa la tr tc X, zSa K sa f, zSO n so sc (va_up D i (va_up (D i) 3 x2))]) (congrArg (fun z => ([zXo ax zn sa la tr tc X, zSa K sa f, z] : zB)) (zSO_set3 hi)) dX4_announce_14 ?_
  refine z_iload B dX4_announce_17 0 rfl ?_
  have hF : fX4_announce_h D i x2 = ((D i 3), (va_up D i (va_up (D i) 3 x2))) := rfl
  exact z_ret1 B (z_nz hD3) dX4_announce_19 () (trivial) (Nat.le_of_ble_eq_true rfl) (Nat.le_of_ble_eq_true rfl) (by rw [hF]) (by rw [hF])
def fX4_cacheAsked_h (D : Nat → Nat → Int32) (i : Nat) (x2 : Int32) : Nat :=
  if (fX4_requireName x2) = 0 then
    0
  else
    (fX4_requireName x2)
theorem hiX4_cacheAsked_2 : ∀ w ∈ wsX20, w ∈ wsX4_cacheAsked := by decide +kernel
theorem hfX4_cacheAsked_115 : Cond.fieldLink RX4 115 "ResolverFleet$Site" "cache" "LResolverFleet$Cache;" ∈ wsX4_cacheAsked := by decide +kernel
set_option maxHeartbeats 4000000 in
set_option maxRecDepth 100000 in
theorem kX4_cacheAsked_h (l : Launch) (hl : l.stackTraces = false) (K : zK) (ax : Nat) (zn : Nat) (sa : Nat) (la : Nat) (tr : Nat) (tc : Nat) (X : Nat → Int32) (f : Nat → Option Nat) (n : Nat) (so : Nat → Nat) (sc : Nat → Nat → Nat) (D : Nat → Nat → Int32) (i : Nat) (x2 : Int32) (hi4 : i < 4) (hi : i < n) (hfi : f (nI i).toNatClampNeg = some (so i)) : zMet l K yX4_cacheAsked wsX4_cacheAsked { frames := 7, cells := 1, slots := 6, locals := 102 } [.ref ax, .int (nI i), .int x2] [zXo ax zn sa la tr tc X, zSa K sa f, zSO n so sc D] (some (.ref ((sc i) 0))) [zXo ax zn sa la tr tc X, zSa K sa f, zSO n so sc D] ((fX4_cacheAsked_h D i x2) = 0) (fun E => (E = zE1 ∧ (fX4_cacheAsked_h D i x2) = 1)) := by
  refine zMeN.of (cc := cX4_cacheAsked) (maxL := 4) (ret := (some (.object "ResolverFleet$Cache"))) (own := RX4) (nm := "cacheAsked") hl (by decide +kernel) rfl rfl rfl (Nat.le_of_ble_eq_true rfl) (lv := [(0, .ref ax), (1, .int (nI i)), (2, .int x2)]) rfl ?_
  intro p e s m args below meth c A B
  refine z_aload_n B dX4_cacheAsked_0 0 rfl ?_
  refine z_iload_n B dX4_cacheAsked_1 1 rfl ?_
  refine z_V1 B (kX4_siteNumbered_h l hl K ax zn sa la tr tc X f so i hi4 hfi) [0, 1] [2] (br := [zSO n so sc D]) (bs' := [zXo ax zn sa la tr tc X, zSa K sa f, zSO n so sc D]) (st := []) (nA := 1) (zsp rfl rfl rfl) (zsp rfl rfl rfl) 0 0 rfl rfl rfl rfl gX4_cacheAsked_X4_siteNumbered rfl (by decide +kernel) ⟨Nat.le_of_ble_eq_true rfl, Nat.le_of_ble_eq_true rfl⟩ rfl rfl (Nat.le_of_ble_eq_true rfl) ⟨Nat.le_of_ble_eq_true rfl, Nat.le_of_ble_eq_true rfl⟩ dX4_cacheAsked_2 z_noX (fun _ => ?_)
  refine z_astore_n B (lv' := [(3, .ref (so i)), (0, .ref ax), (1, .int (nI i)), (2, .int x2)]) dX4_cacheAsked_5 (by decide) rfl ?_
  refine z_iload_n B dX4_cacheAsked_6 3 rfl ?_
  refine z_S0 B (kX4_requireName l hl K x2) [] [0, 1, 2] (br := [zXo ax zn sa la tr tc X, zSa K sa f, zSO n so sc D]) (bs' := [zXo ax zn sa la tr tc X, zSa K sa f, zSO n so sc D]) (st := []) (nA := 1) (zsp rfl rfl rfl) (zsp rfl rfl rfl) gX4_cacheAsked_X4_requireName rfl (by decide +kernel) ⟨Nat.le_of_ble_eq_true rfl, Nat.le_of_ble_eq_true rfl⟩ rfl rfl (Nat.le_of_ble_eq_true rfl) ⟨Nat.le_of_ble_eq_true rfl, Nat.le_of_ble_eq_true rfl⟩ dX4_cacheAsked_7 (fun E hE => ?_) (fun h1 => ?_)
  · rcases hE with ⟨rfl, hx⟩
    · have hF : fX4_cacheAsked_h D i x2 = 1 := (if_neg (show ¬ (fX4_requireName x2) = 0 by rw [hx]; decide)).trans ((show (fX4_requireName x2) = 1 by rw [hx]))
      exact z_out B (⟨rfl, by rw [hF]⟩) (Nat.le_of_ble_eq_true rfl) (Nat.le_of_ble_eq_true rfl)
  refine z_aload_n B dX4_cacheAsked_10 0 rfl ?_
  refine z_get B (v := .ref ((sc i) 0)) 2 i 2 hiX4_cacheAsked_2 hfX4_cacheAsked_115 rfl (zSO_get hi) rfl (by decide) rfl rfl rfl rfl dX4_cacheAsked_11 ?_
  have hF : fX4_cacheAsked_h D i x2 = 0 := if_pos h1
  exact z_reta B (Or.inr ⟨_, rfl⟩) dX4_cacheAsked_14 () (by rw [hF]) (Nat.le_of_ble_eq_true rfl) (Nat.le_of_ble_eq_true rfl) rfl rfl
def fX4_flush_s2 (D : Nat → Nat → Int32) (i : Nat) (C : Nat → Nat → Int32) (x2 : Int32) (o2 : Int32 × (Nat → Nat → Int32)) : Nat × Int32 × (Nat → Nat → Int32) :=
  (0, (o2.1), (o2.2))
def fX4_flush_h (D : Nat → Nat → Int32) (i : Nat) (C : Nat → Nat → Int32) (x2 : Int32) : Nat × Int32 × (Nat → Nat → Int32) :=
  if (fX4_cacheAsked_h D i x2) = 0 then
    fX4_flush_s2 D i C x2 (fX0_drop C x2)
  else
    ((fX4_cacheAsked_h D i x2), 0, C)
set_option maxHeartbeats 4000000 in
set_option maxRecDepth 100000 in
theorem kX4_flush_h (l : Launch) (hl : l.stackTraces = false) (K : zK) (ax : Nat) (zn : Nat) (sa : Nat) (la : Nat) (tr : Nat) (tc : Nat) (X : Nat → Int32) (f : Nat → Option Nat) (n : Nat) (so : Nat → Nat) (sc : Nat → Nat → Nat) (D : Nat → Nat → Int32) (i : Nat) (C : Nat → Nat → Int32) (x2 : Int32) (hi4 : i < 4) (hi : i < n) (hfi : f (nI i).toNatClampNeg = some (so i)) : zMet l K yX4_flush wsX4_flush { frames := 8, cells := 1, slots := 6, locals := 125 } [.ref ax, .int (nI i), .int x2] [zXo ax zn sa la tr tc X, zSa K sa f, zSO n so sc D, zCa K (sc i) C] (some (.int ((fX4_flush_h D i C x2).2.1))) [zXo ax zn sa la tr tc X, zSa K sa f, zSO n so sc D, zCa K (sc i) ((fX4_flush_h D i C x2).2.2)] ((fX4_flush_h D i C x2).1 = 0) (fun E => (E = zE1 ∧ (fX4_flush_h D i C x2).1 = 1)) := by
  refine zMeN.of (cc := cX4_flush) (maxL := 3) (ret := (some .boolean)) (own := RX4) (nm := "flush") hl (by decide +kernel) rfl rfl rfl (Nat.le_of_ble_eq_true rfl) (lv := [(0, .ref ax), (1, .int (nI i)), (2, .int x2)]) rfl ?_
  intro p e s m args below meth c A B
  refine z_aload_n B dX4_flush_0 0 rfl ?_
  refine z_iload_n B dX4_flush_1 1 rfl ?_
  refine z_iload_n B dX4_flush_2 2 rfl ?_
  refine z_V1 B (kX4_cacheAsked_h l hl K ax zn sa la tr tc X f n so sc D i x2 hi4 hi hfi) [0, 1, 2] [3] (br := [zCa K (sc i) C]) (bs' := [zXo ax zn sa la tr tc X, zSa K sa f, zSO n so sc D, zCa K (sc i) C]) (st := []) (nA := 2) (zsp rfl rfl rfl) (zsp rfl rfl rfl) 0 0 rfl rfl rfl rfl gX4_flush_X4_cacheAsked rfl (by decide +kernel) ⟨Nat.le_of_ble_eq_true rfl, Nat.le_of_ble_eq_true rfl⟩ rfl rfl (Nat.le_of_ble_eq_true rfl) ⟨Nat.le_of_ble_eq_true rfl, Nat.le_of_ble_eq_true rfl⟩ dX4_flush_3 (fun E hE => ?_) (fun h1 => ?_)
  · rcases hE with ⟨rfl, hx⟩
    · have hF : fX4_flush_h D i C x2 = (1, 0, C) := (if_neg (show ¬ (fX4_cacheAsked_h D i x2) = 0 by rw [hx]; decide)).trans ((show ((fX4_cacheAsked_h D i x2), 0, C) = (1, 0, C) by rw [hx]))
      exact z_out B (⟨rfl, by rw [hF]⟩) (Nat.le_of_ble_eq_true rfl) (Nat.le_of_ble_eq_true rfl)
  refine z_iload_n B dX4_flush_6 2 rfl ?_
  refine z_V1 B (kX0_drop l hl K (sc i) C x2) [3] [0, 1, 2] (br := [zXo ax zn sa la tr tc X, zSa K sa f, zSO n so sc D]) (bs' := [zXo ax zn sa la tr tc X, zSa K sa f, zSO n so sc D, zCa K (sc i) ((fX0_drop C x2).2)]) (st := []) (nA := 1) (zsp rfl rfl rfl) (zsp rfl rfl rfl) 3 0 rfl rfl rfl rfl gX4_flush_X0_drop rfl (by decide +kernel) ⟨Nat.le_of_ble_eq_true rfl, Nat.le_of_ble_eq_true rfl⟩ rfl rfl (Nat.le_of_ble_eq_true rfl) ⟨Nat.le_of_ble_eq_true rfl, Nat.le_of_ble_eq_true rfl⟩ dX4_flush_7 z_noX (fun _ => ?_)
  generalize ho2 : (fX0_drop C x2) = o2
  have hF : fX4_flush_h D i C x2 = (0, (o2.1), (o2.2)) := (if_pos h1).trans (congrArg (fun o => fX4_flush_s2 D i C x2 o) ho2)
  exact z_ret1 B (z_nz (by rw [← ho2]; exact z_drop01)) dX4_flush_10 () (by rw [hF]) (Nat.le_of_ble_eq_true rfl) (Nat.le_of_ble_eq_true rfl) (by rw [hF]) (by rw [hF])
def fX4_entries_h (D : Nat → Nat → Int32) (i : Nat) (C : Nat → Nat → Int32) : Int32 :=
  (C 5 0)
theorem hiX4_entries_2 : ∀ w ∈ wsX20, w ∈ wsX4_entries := by decide +kernel
theorem hfX4_entries_115 : Cond.fieldLink RX4 115 "ResolverFleet$Site" "cache" "LResolverFleet$Cache;" ∈ wsX4_entries := by decide +kernel
theorem hiX4_entries_0 : ∀ w ∈ wsX00, w ∈ wsX4_entries := by decide +kernel
theorem hfX4_entries_142 : Cond.fieldLink RX4 142 "ResolverFleet$Cache" "size" "I" ∈ wsX4_entries := by decide +kernel
set_option maxHeartbeats 4000000 in
set_option maxRecDepth 100000 in
theorem kX4_entries_h (l : Launch) (hl : l.stackTraces = false) (K : zK) (ax : Nat) (zn : Nat) (sa : Nat) (la : Nat) (tr : Nat) (tc : Nat) (X : Nat → Int32) (f : Nat → Option Nat) (n : Nat) (so : Nat → Nat) (sc : Nat → Nat → Nat) (D : Nat → Nat → Int32) (i : Nat) (C : Nat → Nat → Int32) (hi4 : i < 4) (hi : i < n) (hfi : f (nI i).toNatClampNeg = some (so i)) : zMet l K yX4_entries wsX4_entries { frames := 1, cells := 0, slots := 0, locals := 22 } [.ref ax, .int (nI i)] [zXo ax zn sa la tr tc X, zSa K sa f, zSO n so sc D, zCa K (sc i) C] (some (.int (fX4_entries_h D i C))) [zXo ax zn sa la tr tc X, zSa K sa f, zSO n so sc D, zCa K (sc i) C] True zNo := by
  refine zMeN.of (cc := cX4_entries) (maxL := 2) (ret := (some .int)) (own := RX4) (nm := "entries") hl (by decide +kernel) rfl rfl rfl (Nat.le_of_ble_eq_true rfl) (lv := [(0, .ref ax), (1, .int (nI i))]) rfl ?_
  intro p e s m args below meth c A B
  refine z_aload_n B dX4_entries_0 0 rfl ?_
  refine z_iload_n B dX4_entries_1 1 rfl ?_
  refine z_V1 B (kX4_siteNumbered_h l hl K ax zn sa la tr tc X f so i hi4 hfi) [0, 1] [2, 3] (br := [zSO n so sc D, zCa K (sc i) C]) (bs' := [zXo ax zn sa la tr tc X, zSa K sa f, zSO n so sc D, zCa K (sc i) C]) (st := []) (nA := 1) (zsp rfl rfl rfl) (zsp rfl rfl rfl) 0 0 rfl rfl rfl rfl gX4_entries_X4_siteNumbered rfl (by decide +kernel) ⟨Nat.le_of_ble_eq_true rfl, Nat.le_of_ble_eq_true rfl⟩ rfl rfl (Nat.le_of_ble_eq_true rfl) ⟨Nat.le_of_ble_eq_true rfl, Nat.le_of_ble_eq_true rfl⟩ dX4_entries_2 z_noX (fun _ => ?_)
  refine z_get B (v := .ref ((sc i) 0)) 2 i 2 hiX4_entries_2 hfX4_entries_115 rfl (zSO_get hi) rfl (by decide) rfl rfl rfl rfl dX4_entries_5 ?_
  refine z_get B (v := .int (C 5 0)) 3 0 5 hiX4_entries_0 hfX4_entries_142 rfl rfl rfl (by decide) rfl rfl rfl rfl dX4_entries_8 ?_
  have hF : fX4_entries_h D i C = (C 5 0) := rfl
  exact z_ret1 B rfl dX4_entries_11 () (trivial) (Nat.le_of_ble_eq_true rfl) (Nat.le_of_ble_eq_true rfl) (by rw [hF]) (by rw [hF])
def fX4_cachedKind_h (D : Nat → Nat → Int32) (i : Nat) (C : Nat → Nat → Int32) (x2 : Int32) : Nat × Int32 :=
  if (fX4_cacheAsked_h D i x2) = 0 then
    (0, (fX0_kindOf C x2))
  else
    ((fX4_cacheAsked_h D i x2), 0)
set_option maxHeartbeats 4000000 in
set_option maxRecDepth 100000 in
theorem kX4_cachedKind_h (l : Launch) (hl : l.stackTraces = false) (K : zK) (ax : Nat) (zn : Nat) (sa : Nat) (la : Nat) (tr : Nat) (tc : Nat) (X : Nat → Int32) (f : Nat → Option Nat) (n : Nat) (so : Nat → Nat) (sc : Nat → Nat → Nat) (D : Nat → Nat → Int32) (i : Nat) (C : Nat → Nat → Int32) (x2 : Int32) (hi4 : i < 4) (hi : i < n) (hfi : f (nI i).toNatClampNeg = some (so i)) : zMet l K yX4_cachedKind wsX4_cachedKind { frames := 8, cells := 1, slots := 6, locals := 125 } [.ref ax, .int (nI i), .int x2] [zXo ax zn sa la tr tc X, zSa K sa f, zSO n so sc D, zCa K (sc i) C] (some (.int ((fX4_cachedKind_h D i C x2).2))) [zXo ax zn sa la tr tc X, zSa K sa f, zSO n so sc D, zCa K (sc i) C] ((fX4_cachedKind_h D i C x2).1 = 0) (fun E => (E = zE1 ∧ (fX4_cachedKind_h D i C x2).1 = 1)) := by
  refine zMeN.of (cc := cX4_cachedKind) (maxL := 3) (ret := (some .int)) (own := RX4) (nm := "cachedKind") hl (by decide +kernel) rfl rfl rfl (Nat.le_of_ble_eq_true rfl) (lv := [(0, .ref ax), (1, .int (nI i)), (2, .int x2)]) rfl ?_
  intro p e s m args below meth c A B
  refine z_aload_n B dX4_cachedKind_0 0 rfl ?_
  refine z_iload_n B dX4_cachedKind_1 1 rfl ?_
  refine z_iload_n B dX4_cachedKind_2 2 rfl ?_
  refine z_V1 B (kX4_cacheAsked_h l hl K ax zn sa la tr tc X f n so sc D i x2 hi4 hi hfi) [0, 1, 2] [3] (br := [zCa K (sc i) C]) (bs' := [zXo ax zn sa la tr tc X, zSa K sa f, zSO n so sc D, zCa K (sc i) C]) (st := []) (nA := 2) (zsp rfl rfl rfl) (zsp rfl rfl rfl) 0 0 rfl rfl rfl rfl gX4_cachedKind_X4_cacheAsked rfl (by decide +kernel) ⟨Nat.le_of_ble_eq_true rfl, Nat.le_of_ble_eq_true rfl⟩ rfl rfl (Nat.le_of_ble_eq_true rfl) ⟨Nat.le_of_ble_eq_true rfl, Nat.le_of_ble_eq_true rfl⟩ dX4_cachedKind_3 (fun E hE => ?_) (fun h1 => ?_)
  · rcases hE with ⟨rfl, hx⟩
    · have hF : fX4_cachedKind_h D i C x2 = (1, 0) := (if_neg (show ¬ (fX4_cacheAsked_h D i x2) = 0 by rw [hx]; decide)).trans ((show ((fX4_cacheAsked_h D i x2), 0) = (1, 0) by rw [hx]))
      exact z_out B (⟨rfl, by rw [hF]⟩) (Nat.le_of_ble_eq_true rfl) (Nat.le_of_ble_eq_true rfl)
  refine z_iload_n B dX4_cachedKind_6 2 rfl ?_
  refine z_V1 B (kX0_kindOf l hl K (sc i) C x2) [3] [0, 1, 2] (br := [zXo ax zn sa la tr tc X, zSa K sa f, zSO n so sc D]) (bs' := [zXo ax zn sa la tr tc X, zSa K sa f, zSO n so sc D, zCa K (sc i) C]) (st := []) (nA := 1) (zsp rfl rfl rfl) (zsp rfl rfl rfl) 3 0 rfl rfl rfl rfl gX4_cachedKind_X0_kindOf rfl (by decide +kernel) ⟨Nat.le_of_ble_eq_true rfl, Nat.le_of_ble_eq_true rfl⟩ rfl rfl (Nat.le_of_ble_eq_true rfl) ⟨Nat.le_of_ble_eq_true rfl, Nat.le_of_ble_eq_true rfl⟩ dX4_cachedKind_7 z_noX (fun _ => ?_)
  have hF : fX4_cachedKind_h D i C x2 = (0, (fX0_kindOf C x2)) := if_pos h1
  exact z_ret1 B rfl dX4_cachedKind_10 () (by rw [hF]) (Nat.le_of_ble_eq_true rfl) (Nat.le_of_ble_eq_true rfl) (by rw [hF]) (by rw [hF])
def fX4_cachedValue_h (D : Nat → Nat → Int32) (i : Nat) (C : Nat → Nat → Int32) (x2 : Int32) : Nat × Int32 :=
  if (fX4_cacheAsked_h D i x2) = 0 then
    (0, (fX0_valueOf C x2))
  else
    ((fX4_cacheAsked_h D i x2), 0)
set_option maxHeartbeats 4000000 in
set_option maxRecDepth 100000 in
theorem kX4_cachedValue_h (l : Launch) (hl : l.stackTraces = false) (K : zK) (ax : Nat) (zn : Nat) (sa : Nat) (la : Nat) (tr : Nat) (tc : Nat) (X : Nat → Int32) (f : Nat → Option Nat) (n : Nat) (so : Nat → Nat) (sc : Nat → Nat → Nat) (D : Nat → Nat → Int32) (i : Nat) (C : Nat → Nat → Int32) (x2 : Int32) (hi4 : i < 4) (hi : i < n) (hfi : f (nI i).toNatClampNeg = some (so i)) : zMet l K yX4_cachedValue wsX4_cachedValue { frames := 8, cells := 1, slots := 6, locals := 125 } [.ref ax, .int (nI i), .int x2] [zXo ax zn sa la tr tc X, zSa K sa f, zSO n so sc D, zCa K (sc i) C] (some (.int ((fX4_cachedValue_h D i C x2).2))) [zXo ax zn sa la tr tc X, zSa K sa f, zSO n so sc D, zCa K (sc i) C] ((fX4_cachedValue_h D i C x2).1 = 0) (fun E => (E = zE1 ∧ (fX4_cachedValue_h D i C x2).1 = 1)) := by
  refine zMeN.of (cc := cX4_cachedValue) (maxL := 3) (ret := (some .int)) (own := RX4) (nm := "cachedValue") hl (by decide +kernel) rfl rfl rfl (Nat.le_of_ble_eq_true rfl) (lv := [(0, .ref ax), (1, .int (nI i)), (2, .int x2)]) rfl ?_
  intro p e s m args below meth c A B
  refine z_aload_n B dX4_cachedValue_0 0 rfl ?_
  refine z_iload_n B dX4_cachedValue_1 1 rfl ?_
  refine z_iload_n B dX4_cachedValue_2 2 rfl ?_
  refine z_V1 B (kX4_cacheAsked_h l hl K ax zn sa la tr tc X f n so sc D i x2 hi4 hi hfi) [0, 1, 2] [3] (br := [zCa K (sc i) C]) (bs' := [zXo ax zn sa la tr tc X, zSa K sa f, zSO n so sc D, zCa K (sc i) C]) (st := []) (nA := 2) (zsp rfl rfl rfl) (zsp rfl rfl rfl) 0 0 rfl rfl rfl rfl gX4_cachedValue_X4_cacheAsked rfl (by decide +kernel) ⟨Nat.le_of_ble_eq_true rfl, Nat.le_of_ble_eq_true rfl⟩ rfl rfl (Nat.le_of_ble_eq_true rfl) ⟨Nat.le_of_ble_eq_true rfl, Nat.le_of_ble_eq_true rfl⟩ dX4_cachedValue_3 (fun E hE => ?_) (fun h1 => ?_)
  · rcases hE with ⟨rfl, hx⟩
    · have hF : fX4_cachedValue_h D i C x2 = (1, 0) := (if_neg (show ¬ (fX4_cacheAsked_h D i x2) = 0 by rw [hx]; decide)).trans ((show ((fX4_cacheAsked_h D i x2), 0) = (1, 0) by rw [hx]))
      exact z_out B (⟨rfl, by rw [hF]⟩) (Nat.le_of_ble_eq_true rfl) (Nat.le_of_ble_eq_true rfl)
  refine z_iload_n B dX4_cachedValue_6 2 rfl ?_
  refine z_V1 B (kX0_valueOf l hl K (sc i) C x2) [3] [0, 1, 2] (br := [zXo ax zn sa la tr tc X, zSa K sa f, zSO n so sc D]) (bs' := [zXo ax zn sa la tr tc X, zSa K sa f, zSO n so sc D, zCa K (sc i) C]) (st := []) (nA := 1) (zsp rfl rfl rfl) (zsp rfl rfl rfl) 3 0 rfl rfl rfl rfl gX4_cachedValue_X0_valueOf rfl (by decide +kernel) ⟨Nat.le_of_ble_eq_true rfl, Nat.le_of_ble_eq_true rfl⟩ rfl rfl (Nat.le_of_ble_eq_true rfl) ⟨Nat.le_of_ble_eq_true rfl, Nat.le_of_ble_eq_true rfl⟩ dX4_cachedValue_7 z_noX (fun _ => ?_)
  have hF : fX4_cachedValue_h D i C x2 = (0, (fX0_valueOf C x2)) := if_pos h1
  exact z_ret1 B rfl dX4_cachedValue_10 () (by rw [hF]) (Nat.le_of_ble_eq_true rfl) (Nat.le_of_ble_eq_true rfl) (by rw [hF]) (by rw [hF])
def fX4_hitsOf_h (D : Nat → Nat → Int32) (i : Nat) (C : Nat → Nat → Int32) (x2 : Int32) : Nat × Int32 :=
  if (fX4_cacheAsked_h D i x2) = 0 then
    (0, (fX0_hitsFor C x2))
  else
    ((fX4_cacheAsked_h D i x2), 0)
set_option maxHeartbeats 4000000 in
set_option maxRecDepth 100000 in
theorem kX4_hitsOf_h (l : Launch) (hl : l.stackTraces = false) (K : zK) (ax : Nat) (zn : Nat) (sa : Nat) (la : Nat) (tr : Nat) (tc : Nat) (X : Nat → Int32) (f : Nat → Option Nat) (n : Nat) (so : Nat → Nat) (sc : Nat → Nat → Nat) (D : Nat → Nat → Int32) (i : Nat) (C : Nat → Nat → Int32) (x2 : Int32) (hi4 : i < 4) (hi : i < n) (hfi : f (nI i).toNatClampNeg = some (so i)) : zMet l K yX4_hitsOf wsX4_hitsOf { frames := 8, cells := 1, slots := 6, locals := 125 } [.ref ax, .int (nI i), .int x2] [zXo ax zn sa la tr tc X, zSa K sa f, zSO n so sc D, zCa K (sc i) C] (some (.int ((fX4_hitsOf_h D i C x2).2))) [zXo ax zn sa la tr tc X, zSa K sa f, zSO n so sc D, zCa K (sc i) C] ((fX4_hitsOf_h D i C x2).1 = 0) (fun E => (E = zE1 ∧ (fX4_hitsOf_h D i C x2).1 = 1)) := by
  refine zMeN.of (cc := cX4_hitsOf) (maxL := 3) (ret := (some .int)) (own := RX4) (nm := "hitsOf") hl (by decide +kernel) rfl rfl rfl (Nat.le_of_ble_eq_true rfl) (lv := [(0, .ref ax), (1, .int (nI i)), (2, .int x2)]) rfl ?_
  intro p e s m args below meth c A B
  refine z_aload_n B dX4_hitsOf_0 0 rfl ?_
  refine z_iload_n B dX4_hitsOf_1 1 rfl ?_
  refine z_iload_n B dX4_hitsOf_2 2 rfl ?_
  refine z_V1 B (kX4_cacheAsked_h l hl K ax zn sa la tr tc X f n so sc D i x2 hi4 hi hfi) [0, 1, 2] [3] (br := [zCa K (sc i) C]) (bs' := [zXo ax zn sa la tr tc X, zSa K sa f, zSO n so sc D, zCa K (sc i) C]) (st := []) (nA := 2) (zsp rfl rfl rfl) (zsp rfl rfl rfl) 0 0 rfl rfl rfl rfl gX4_hitsOf_X4_cacheAsked rfl (by decide +kernel) ⟨Nat.le_of_ble_eq_true rfl, Nat.le_of_ble_eq_true rfl⟩ rfl rfl (Nat.le_of_ble_eq_true rfl) ⟨Nat.le_of_ble_eq_true rfl, Nat.le_of_ble_eq_true rfl⟩ dX4_hitsOf_3 (fun E hE => ?_) (fun h1 => ?_)
  · rcases hE with ⟨rfl, hx⟩
    · have hF : fX4_hitsOf_h D i C x2 = (1, 0) := (if_neg (show ¬ (fX4_cacheAsked_h D i x2) = 0 by rw [hx]; decide)).trans ((show ((fX4_cacheAsked_h D i x2), 0) = (1, 0) by rw [hx]))
      exact z_out B (⟨rfl, by rw [hF]⟩) (Nat.le_of_ble_eq_true rfl) (Nat.le_of_ble_eq_true rfl)
  refine z_iload_n B dX4_hitsOf_6 2 rfl ?_
  refine z_V1 B (kX0_hitsFor l hl K (sc i) C x2) [3] [0, 1, 2] (br := [zXo ax zn sa la tr tc X, zSa K sa f, zSO n so sc D]) (bs' := [zXo ax zn sa la tr tc X, zSa K sa f, zSO n so sc D, zCa K (sc i) C]) (st := []) (nA := 1) (zsp rfl rfl rfl) (zsp rfl rfl rfl) 3 0 rfl rfl rfl rfl gX4_hitsOf_X0_hitsFor rfl (by decide +kernel) ⟨Nat.le_of_ble_eq_true rfl, Nat.le_of_ble_eq_true rfl⟩ rfl rfl (Nat.le_of_ble_eq_true rfl) ⟨Nat.le_of_ble_eq_true rfl, Nat.le_of_ble_eq_true rfl⟩ dX4_hitsOf_7 z_noX (fun _ => ?_)
  have hF : fX4_hitsOf_h D i C x2 = (0, (fX0_hitsFor C x2)) := if_pos h1
  exact z_ret1 B rfl dX4_hitsOf_10 () (by rw [hF]) (Nat.le_of_ble_eq_true rfl) (Nat.le_of_ble_eq_true rfl) (by rw [hF]) (by rw [hF])
def fX4_left_h (X : Nat → Int32) (D : Nat → Nat → Int32) (i : Nat) (C : Nat → Nat → Int32) (x2 : Int32) : Nat × Int32 :=
  if (fX4_cacheAsked_h D i x2) = 0 then
    if (fX0_has C x2) = 0 then
      (3, 0)
    else
      (0, ((fX0_endOf C x2) - (X 3)))
  else
    ((fX4_cacheAsked_h D i x2), 0)
theorem haX4_left_83 : ∀ w ∈ (vx_atS RX4 83 "java/lang/IllegalStateException" ["java/lang/RuntimeException", "java/lang/Exception"]).filter goodWord, w ∈ wsX4_left := by decide +kernel
theorem hgX4_left_83 : ∀ w ∈ (vx_atS RX4 83 "java/lang/IllegalStateException" ["java/lang/RuntimeException", "java/lang/Exception"]).filter (fun w => !goodWord w), w ∈ zNw := by decide +kernel
theorem hoX4_left_83 : ∀ w ∈ Cond.classLink RX4 79 "java/lang/IllegalStateException" :: Cond.initialized "java/lang/IllegalStateException" :: vx_atS RX4 83 "java/lang/IllegalStateException" ["java/lang/RuntimeException", "java/lang/Exception"], vx_ot w = true := by decide +kernel
theorem hwX4_left_cl79 : Cond.classLink RX4 79 "java/lang/IllegalStateException" ∈ wsX4_left := by decide +kernel
theorem hwX4_left_ini79 : Cond.initialized "java/lang/IllegalStateException" ∈ wsX4_left := by decide +kernel
theorem hiX4_left_4 : ∀ w ∈ wsX40, w ∈ wsX4_left := by decide +kernel
theorem hfX4_left_108 : Cond.fieldLink RX4 108 "ResolverFleet" "now" "I" ∈ wsX4_left := by decide +kernel
set_option maxHeartbeats 4000000 in
set_option maxRecDepth 100000 in
theorem kX4_left_h (l : Launch) (hl : l.stackTraces = false) (K : zK) (ax : Nat) (zn : Nat) (sa : Nat) (la : Nat) (tr : Nat) (tc : Nat) (X : Nat → Int32) (f : Nat → Option Nat) (n : Nat) (so : Nat → Nat) (sc : Nat → Nat → Nat) (D : Nat → Nat → Int32) (i : Nat) (C : Nat → Nat → Int32) (x2 : Int32) (hi4 : i < 4) (hi : i < n) (hfi : f (nI i).toNatClampNeg = some (so i)) : zMet l K yX4_left wsX4_left { frames := 8, cells := 2, slots := 12, locals := 125 } [.ref ax, .int (nI i), .int x2] [zXo ax zn sa la tr tc X, zSa K sa f, zSO n so sc D, zCa K (sc i) C] (some (.int ((fX4_left_h X D i C x2).2))) [zXo ax zn sa la tr tc X, zSa K sa f, zSO n so sc D, zCa K (sc i) C] ((fX4_left_h X D i C x2).1 = 0) (fun E => (E = zE1 ∧ (fX4_left_h X D i C x2).1 = 1) ∨ (E = zE3 ∧ (fX4_left_h X D i C x2).1 = 3)) := by
  refine zMeN.of (cc := cX4_left) (maxL := 4) (ret := (some .int)) (own := RX4) (nm := "left") hl (by decide +kernel) rfl rfl rfl (Nat.le_of_ble_eq_true rfl) (lv := [(0, .ref ax), (1, .int (nI i)), (2, .int x2)]) rfl ?_
  intro p e s m args below meth c A B
  refine z_aload_n B dX4_left_0 0 rfl ?_
  refine z_iload_n B dX4_left_1 1 rfl ?_
  refine z_iload_n B dX4_left_2 2 rfl ?_
  refine z_V1 B (kX4_cacheAsked_h l hl K ax zn sa la tr tc X f n so sc D i x2 hi4 hi hfi) [0, 1, 2] [3] (br := [zCa K (sc i) C]) (bs' := [zXo ax zn sa la tr tc X, zSa K sa f, zSO n so sc D, zCa K (sc i) C]) (st := []) (nA := 2) (zsp rfl rfl rfl) (zsp rfl rfl rfl) 0 0 rfl rfl rfl rfl gX4_left_X4_cacheAsked rfl (by decide +kernel) ⟨Nat.le_of_ble_eq_true rfl, Nat.le_of_ble_eq_true rfl⟩ rfl rfl (Nat.le_of_ble_eq_true rfl) ⟨Nat.le_of_ble_eq_true rfl, Nat.le_of_ble_eq_true rfl⟩ dX4_left_3 (fun E hE => ?_) (fun h1 => ?_)
  · rcases hE with ⟨rfl, hx⟩
    · have hF : fX4_left_h X D i C x2 = (1, 0) := (if_neg (show ¬ (fX4_cacheAsked_h D i x2) = 0 by rw [hx]; decide)).trans ((show ((fX4_cacheAsked_h D i x2), 0) = (1, 0) by rw [hx]))
      exact z_out B (Or.inl ⟨rfl, by rw [hF]⟩) (Nat.le_of_ble_eq_true rfl) (Nat.le_of_ble_eq_true rfl)
  refine z_astore_n B (lv' := [(3, .ref ((sc i) 0)), (0, .ref ax), (1, .int (nI i)), (2, .int x2)]) dX4_left_6 (by decide) rfl ?_
  refine z_aload_n B dX4_left_7 0 rfl ?_
  refine z_iload_n B dX4_left_8 3 rfl ?_
  refine z_V1 B (kX0_has l hl K (sc i) C x2) [3] [0, 1, 2] (br := [zXo ax zn sa la tr tc X, zSa K sa f, zSO n so sc D]) (bs' := [zXo ax zn sa la tr tc X, zSa K sa f, zSO n so sc D, zCa K (sc i) C]) (st := []) (nA := 1) (zsp rfl rfl rfl) (zsp rfl rfl rfl) 3 0 rfl rfl rfl rfl gX4_left_X0_has rfl (by decide +kernel) ⟨Nat.le_of_ble_eq_true rfl, Nat.le_of_ble_eq_true rfl⟩ rfl rfl (Nat.le_of_ble_eq_true rfl) ⟨Nat.le_of_ble_eq_true rfl, Nat.le_of_ble_eq_true rfl⟩ dX4_left_9 z_noX (fun _ => ?_)
  refine z_ifne B 25 dX4_left_12 (by decide) (fun c2 => ?_) (fun c2 => ?_)
  · have hF : fX4_left_h X D i C x2 = (3, 0) := (if_pos h1).trans (if_pos c2)
    exact z_throw B rfl ["java/lang/RuntimeException", "java/lang/Exception"] (by decide +kernel) (by decide +kernel) hwX4_left_cl79 hwX4_left_ini79 (text := "there is no entry for this name") (by decide +kernel) haX4_left_83 hgX4_left_83 hoX4_left_83 dX4_left_15 dX4_left_18 dX4_left_19 dX4_left_21 dX4_left_24 (by decide) (Nat.le_of_ble_eq_true rfl) (Nat.le_of_ble_eq_true rfl) (Nat.le_of_ble_eq_true rfl) (Or.inr (⟨rfl, by rw [hF]⟩)) (Nat.le_of_ble_eq_true rfl) (Nat.le_of_ble_eq_true rfl)
  · refine z_aload_n B dX4_left_25 0 rfl ?_
    refine z_iload_n B dX4_left_26 3 rfl ?_
    refine z_V1 B (kX0_endOf l hl K (sc i) C x2) [3] [0, 1, 2] (br := [zXo ax zn sa la tr tc X, zSa K sa f, zSO n so sc D]) (bs' := [zXo ax zn sa la tr tc X, zSa K sa f, zSO n so sc D, zCa K (sc i) C]) (st := []) (nA := 1) (zsp rfl rfl rfl) (zsp rfl rfl rfl) 3 0 rfl rfl rfl rfl gX4_left_X0_endOf rfl (by decide +kernel) ⟨Nat.le_of_ble_eq_true rfl, Nat.le_of_ble_eq_true rfl⟩ rfl rfl (Nat.le_of_ble_eq_true rfl) ⟨Nat.le_of_ble_eq_true rfl, Nat.le_of_ble_eq_true rfl⟩ dX4_left_27 z_noX (fun _ => ?_)
    refine z_aload_n B dX4_left_30 1 rfl ?_
    refine z_get B (v := .int (X 3)) 0 0 3 hiX4_left_4 hfX4_left_108 rfl rfl rfl (by decide) rfl rfl rfl rfl dX4_left_31 ?_
    refine z_isub B dX4_left_34 ?_
    have hF : fX4_left_h X D i C x2 = (0, ((fX0_endOf C x2) - (X 3))) := (if_pos h1).trans (if_neg c2)
    exact z_ret1 B rfl dX4_left_35 () (by rw [hF]) (Nat.le_of_ble_eq_true rfl) (Nat.le_of_ble_eq_true rfl) (by rw [hF]) (by rw [hF])
def fX4_announce_m (x1 : Int32) (x2 : Int32) : Nat × Int32 :=
  ((fX4_siteNumbered_m x1), 0)
set_option maxHeartbeats 4000000 in
set_option maxRecDepth 100000 in
theorem kX4_announce_m (l : Launch) (hl : l.stackTraces = false) (K : zK) (ax : Nat) (zn : Nat) (sa : Nat) (la : Nat) (tr : Nat) (tc : Nat) (X : Nat → Int32) (f : Nat → Option Nat) (x1 : Int32) (x2 : Int32) (hfn : x1 < 4 → ¬ x1 < 0 → f x1.toNatClampNeg = none) : zMet l K yX4_announce wsX4_announce { frames := 7, cells := 1, slots := 6, locals := 104 } [.ref ax, .int x1, .int x2] [zXo ax zn sa la tr tc X, zSa K sa f] (some (.int ((fX4_announce_m x1 x2).2))) [zXo ax zn sa la tr tc X, zSa K sa f] False (fun E => (E = zE1 ∧ (fX4_announce_m x1 x2).1 = 1)) := by
  refine zMeN.of (cc := cX4_announce) (maxL := 5) (ret := (some .boolean)) (own := RX4) (nm := "announce") hl (by decide +kernel) rfl rfl rfl (Nat.le_of_ble_eq_true rfl) (lv := [(0, .ref ax), (1, .int x1), (2, .int x2)]) rfl ?_
  intro p e s m args below meth c A B
  refine z_aload_n B dX4_announce_0 0 rfl ?_
  refine z_iload_n B dX4_announce_1 1 rfl ?_
  refine z_V1 B (kX4_siteNumbered_m l hl K ax zn sa la tr tc X f x1 hfn) [0, 1] [] (br := []) (bs' := [zXo ax zn sa la tr tc X, zSa K sa f]) (st := []) (nA := 1) (zsp rfl rfl rfl) (zsp rfl rfl rfl) 0 0 rfl rfl rfl rfl gX4_announce_X4_siteNumbered rfl (by decide +kernel) ⟨Nat.le_of_ble_eq_true rfl, Nat.le_of_ble_eq_true rfl⟩ rfl rfl (Nat.le_of_ble_eq_true rfl) ⟨Nat.le_of_ble_eq_true rfl, Nat.le_of_ble_eq_true rfl⟩ dX4_announce_2 (fun E hE => ?_) (fun h9 => h9.elim)
  · rcases hE with ⟨rfl, hx⟩
    · have hF : fX4_announce_m x1 x2 = (1, 0) := (show ((fX4_siteNumbered_m x1), 0) = (1, 0) by rw [hx])
      exact z_out B (⟨rfl, by rw [hF]⟩) (Nat.le_of_ble_eq_true rfl) (Nat.le_of_ble_eq_true rfl)
def fX4_cacheAsked_m (x1 : Int32) (x2 : Int32) : Nat :=
  (fX4_siteNumbered_m x1)
set_option maxHeartbeats 4000000 in
set_option maxRecDepth 100000 in
theorem kX4_cacheAsked_m (l : Launch) (hl : l.stackTraces = false) (K : zK) (ax : Nat) (zn : Nat) (sa : Nat) (la : Nat) (tr : Nat) (tc : Nat) (X : Nat → Int32) (f : Nat → Option Nat) (x1 : Int32) (x2 : Int32) (hfn : x1 < 4 → ¬ x1 < 0 → f x1.toNatClampNeg = none) : zMet l K yX4_cacheAsked wsX4_cacheAsked { frames := 7, cells := 1, slots := 6, locals := 104 } [.ref ax, .int x1, .int x2] [zXo ax zn sa la tr tc X, zSa K sa f] (some .null) [zXo ax zn sa la tr tc X, zSa K sa f] False (fun E => (E = zE1 ∧ (fX4_cacheAsked_m x1 x2) = 1)) := by
  refine zMeN.of (cc := cX4_cacheAsked) (maxL := 4) (ret := (some (.object "ResolverFleet$Cache"))) (own := RX4) (nm := "cacheAsked") hl (by decide +kernel) rfl rfl rfl (Nat.le_of_ble_eq_true rfl) (lv := [(0, .ref ax), (1, .int x1), (2, .int x2)]) rfl ?_
  intro p e s m args below meth c A B
  refine z_aload_n B dX4_cacheAsked_0 0 rfl ?_
  refine z_iload_n B dX4_cacheAsked_1 1 rfl ?_
  refine z_V1 B (kX4_siteNumbered_m l hl K ax zn sa la tr tc X f x1 hfn) [0, 1] [] (br := []) (bs' := [zXo ax zn sa la tr tc X, zSa K sa f]) (st := []) (nA := 1) (zsp rfl rfl rfl) (zsp rfl rfl rfl) 0 0 rfl rfl rfl rfl gX4_cacheAsked_X4_siteNumbered rfl (by decide +kernel) ⟨Nat.le_of_ble_eq_true rfl, Nat.le_of_ble_eq_true rfl⟩ rfl rfl (Nat.le_of_ble_eq_true rfl) ⟨Nat.le_of_ble_eq_true rfl, Nat.le_of_ble_eq_true rfl⟩ dX4_cacheAsked_2 (fun E hE => ?_) (fun h9 => h9.elim)
  · rcases hE with ⟨rfl, hx⟩
    · have hF : fX4_cacheAsked_m x1 x2 = 1 := (show (fX4_siteNumbered_m x1) = 1 by rw [hx])
      exact z_out B (⟨rfl, by rw [hF]⟩) (Nat.le_of_ble_eq_true rfl) (Nat.le_of_ble_eq_true rfl)
def fX4_flush_m (x1 : Int32) (x2 : Int32) : Nat × Int32 :=
  ((fX4_cacheAsked_m x1 x2), 0)
set_option maxHeartbeats 4000000 in
set_option maxRecDepth 100000 in
theorem kX4_flush_m (l : Launch) (hl : l.stackTraces = false) (K : zK) (ax : Nat) (zn : Nat) (sa : Nat) (la : Nat) (tr : Nat) (tc : Nat) (X : Nat → Int32) (f : Nat → Option Nat) (x1 : Int32) (x2 : Int32) (hfn : x1 < 4 → ¬ x1 < 0 → f x1.toNatClampNeg = none) : zMet l K yX4_flush wsX4_flush { frames := 8, cells := 1, slots := 6, locals := 127 } [.ref ax, .int x1, .int x2] [zXo ax zn sa la tr tc X, zSa K sa f] (some (.int ((fX4_flush_m x1 x2).2))) [zXo ax zn sa la tr tc X, zSa K sa f] False (fun E => (E = zE1 ∧ (fX4_flush_m x1 x2).1 = 1)) := by
  refine zMeN.of (cc := cX4_flush) (maxL := 3) (ret := (some .boolean)) (own := RX4) (nm := "flush") hl (by decide +kernel) rfl rfl rfl (Nat.le_of_ble_eq_true rfl) (lv := [(0, .ref ax), (1, .int x1), (2, .int x2)]) rfl ?_
  intro p e s m args below meth c A B
  refine z_aload_n B dX4_flush_0 0 rfl ?_
  refine z_iload_n B dX4_flush_1 1 rfl ?_
  refine z_iload_n B dX4_flush_2 2 rfl ?_
  refine z_V1 B (kX4_cacheAsked_m l hl K ax zn sa la tr tc X f x1 x2 hfn) [0, 1] [] (br := []) (bs' := [zXo ax zn sa la tr tc X, zSa K sa f]) (st := []) (nA := 2) (zsp rfl rfl rfl) (zsp rfl rfl rfl) 0 0 rfl rfl rfl rfl gX4_flush_X4_cacheAsked rfl (by decide +kernel) ⟨Nat.le_of_ble_eq_true rfl, Nat.le_of_ble_eq_true rfl⟩ rfl rfl (Nat.le_of_ble_eq_true rfl) ⟨Nat.le_of_ble_eq_true rfl, Nat.le_of_ble_eq_true rfl⟩ dX4_flush_3 (fun E hE => ?_) (fun h9 => h9.elim)
  · rcases hE with ⟨rfl, hx⟩
    · have hF : fX4_flush_m x1 x2 = (1, 0) := (show ((fX4_cacheAsked_m x1 x2), 0) = (1, 0) by rw [hx])
      exact z_out B (⟨rfl, by rw [hF]⟩) (Nat.le_of_ble_eq_true rfl) (Nat.le_of_ble_eq_true rfl)
def fX4_cachedKind_m (x1 : Int32) (x2 : Int32) : Nat × Int32 :=
  ((fX4_cacheAsked_m x1 x2), 0)
set_option maxHeartbeats 4000000 in
set_option maxRecDepth 100000 in
theorem kX4_cachedKind_m (l : Launch) (hl : l.stackTraces = false) (K : zK) (ax : Nat) (zn : Nat) (sa : Nat) (la : Nat) (tr : Nat) (tc : Nat) (X : Nat → Int32) (f : Nat → Option Nat) (x1 : Int32) (x2 : Int32) (hfn : x1 < 4 → ¬ x1 < 0 → f x1.toNatClampNeg = none) : zMet l K yX4_cachedKind wsX4_cachedKind { frames := 8, cells := 1, slots := 6, locals := 127 } [.ref ax, .int x1, .int x2] [zXo ax zn sa la tr tc X, zSa K sa f] (some (.int ((fX4_cachedKind_m x1 x2).2))) [zXo ax zn sa la tr tc X, zSa K sa f] False (fun E => (E = zE1 ∧ (fX4_cachedKind_m x1 x2).1 = 1)) := by
  refine zMeN.of (cc := cX4_cachedKind) (maxL := 3) (ret := (some .int)) (own := RX4) (nm := "cachedKind") hl (by decide +kernel) rfl rfl rfl (Nat.le_of_ble_eq_true rfl) (lv := [(0, .ref ax), (1, .int x1), (2, .int x2)]) rfl ?_
  intro p e s m args below meth c A B
  refine z_aload_n B dX4_cachedKind_0 0 rfl ?_
  refine z_iload_n B dX4_cachedKind_1 1 rfl ?_
  refine z_iload_n B dX4_cachedKind_2 2 rfl ?_
  refine z_V1 B (kX4_cacheAsked_m l hl K ax zn sa la tr tc X f x1 x2 hfn) [0, 1] [] (br := []) (bs' := [zXo ax zn sa la tr tc X, zSa K sa f]) (st := []) (nA := 2) (zsp rfl rfl rfl) (zsp rfl rfl rfl) 0 0 rfl rfl rfl rfl gX4_cachedKind_X4_cacheAsked rfl (by decide +kernel) ⟨Nat.le_of_ble_eq_true rfl, Nat.le_of_ble_eq_true rfl⟩ rfl rfl (Nat.le_of_ble_eq_true rfl) ⟨Nat.le_of_ble_eq_true rfl, Nat.le_of_ble_eq_true rfl⟩ dX4_cachedKind_3 (fun E hE => ?_) (fun h9 => h9.elim)
  · rcases hE with ⟨rfl, hx⟩
    · have hF : fX4_cachedKind_m x1 x2 = (1, 0) := (show ((fX4_cacheAsked_m x1 x2), 0) = (1, 0) by rw [hx])
      exact z_out B (⟨rfl, by rw [hF]⟩) (Nat.le_of_ble_eq_true rfl) (Nat.le_of_ble_eq_true rfl)
def fX4_cachedValue_m (x1 : Int32) (x2 : Int32) : Nat × Int32 :=
  ((fX4_cacheAsked_m x1 x2), 0)
set_option maxHeartbeats 4000000 in
set_option maxRecDepth 100000 in
theorem kX4_cachedValue_m (l : Launch) (hl : l.stackTraces = false) (K : zK) (ax : Nat) (zn : Nat) (sa : Nat) (la : Nat) (tr : Nat) (tc : Nat) (X : Nat → Int32) (f : Nat → Option Nat) (x1 : Int32) (x2 : Int32) (hfn : x1 < 4 → ¬ x1 < 0 → f x1.toNatClampNeg = none) : zMet l K yX4_cachedValue wsX4_cachedValue { frames := 8, cells := 1, slots := 6, locals := 127 } [.ref ax, .int x1, .int x2] [zXo ax zn sa la tr tc X, zSa K sa f] (some (.int ((fX4_cachedValue_m x1 x2).2))) [zXo ax zn sa la tr tc X, zSa K sa f] False (fun E => (E = zE1 ∧ (fX4_cachedValue_m x1 x2).1 = 1)) := by
  refine zMeN.of (cc := cX4_cachedValue) (maxL := 3) (ret := (some .int)) (own := RX4) (nm := "cachedValue") hl (by decide +kernel) rfl rfl rfl (Nat.le_of_ble_eq_true rfl) (lv := [(0, .ref ax), (1, .int x1), (2, .int x2)]) rfl ?_
  intro p e s m args below meth c A B
  refine z_aload_n B dX4_cachedValue_0 0 rfl ?_
  refine z_iload_n B dX4_cachedValue_1 1 rfl ?_
  refine z_iload_n B dX4_cachedValue_2 2 rfl ?_
  refine z_V1 B (kX4_cacheAsked_m l hl K ax zn sa la tr tc X f x1 x2 hfn) [0, 1] [] (br := []) (bs' := [zXo ax zn sa la tr tc X, zSa K sa f]) (st := []) (nA := 2) (zsp rfl rfl rfl) (zsp rfl rfl rfl) 0 0 rfl rfl rfl rfl gX4_cachedValue_X4_cacheAsked rfl (by decide +kernel) ⟨Nat.le_of_ble_eq_true rfl, Nat.le_of_ble_eq_true rfl⟩ rfl rfl (Nat.le_of_ble_eq_true rfl) ⟨Nat.le_of_ble_eq_true rfl, Nat.le_of_ble_eq_true rfl⟩ dX4_cachedValue_3 (fun E hE => ?_) (fun h9 => h9.elim)
  · rcases hE with ⟨rfl, hx⟩
    · have hF : fX4_cachedValue_m x1 x2 = (1, 0) := (show ((fX4_cacheAsked_m x1 x2), 0) = (1, 0) by rw [hx])
      exact z_out B (⟨rfl, by rw [hF]⟩) (Nat.le_of_ble_eq_true rfl) (Nat.le_of_ble_eq_true rfl)
def fX4_left_m (x1 : Int32) (x2 : Int32) : Nat × Int32 :=
  ((fX4_cacheAsked_m x1 x2), 0)
set_option maxHeartbeats 4000000 in
set_option maxRecDepth 100000 in
theorem kX4_left_m (l : Launch) (hl : l.stackTraces = false) (K : zK) (ax : Nat) (zn : Nat) (sa : Nat) (la : Nat) (tr : Nat) (tc : Nat) (X : Nat → Int32) (f : Nat → Option Nat) (x1 : Int32) (x2 : Int32) (hfn : x1 < 4 → ¬ x1 < 0 → f x1.toNatClampNeg = none) : zMet l K yX4_left wsX4_left { frames := 8, cells := 1, slots := 6, locals := 127 } [.ref ax, .int x1, .int x2] [zXo ax zn sa la tr tc X, zSa K sa f] (some (.int ((fX4_left_m x1 x2).2))) [zXo ax zn sa la tr tc X, zSa K sa f] False (fun E => (E = zE1 ∧ (fX4_left_m x1 x2).1 = 1)) := by
  refine zMeN.of (cc := cX4_left) (maxL := 4) (ret := (some .int)) (own := RX4) (nm := "left") hl (by decide +kernel) rfl rfl rfl (Nat.le_of_ble_eq_true rfl) (lv := [(0, .ref ax), (1, .int x1), (2, .int x2)]) rfl ?_
  intro p e s m args below meth c A B
  refine z_aload_n B dX4_left_0 0 rfl ?_
  refine z_iload_n B dX4_left_1 1 rfl ?_
  refine z_iload_n B dX4_left_2 2 rfl ?_
  refine z_V1 B (kX4_cacheAsked_m l hl K ax zn sa la tr tc X f x1 x2 hfn) [0, 1] [] (br := []) (bs' := [zXo ax zn sa la tr tc X, zSa K sa f]) (st := []) (nA := 2) (zsp rfl rfl rfl) (zsp rfl rfl rfl) 0 0 rfl rfl rfl rfl gX4_left_X4_cacheAsked rfl (by decide +kernel) ⟨Nat.le_of_ble_eq_true rfl, Nat.le_of_ble_eq_true rfl⟩ rfl rfl (Nat.le_of_ble_eq_true rfl) ⟨Nat.le_of_ble_eq_true rfl, Nat.le_of_ble_eq_true rfl⟩ dX4_left_3 (fun E hE => ?_) (fun h9 => h9.elim)
  · rcases hE with ⟨rfl, hx⟩
    · have hF : fX4_left_m x1 x2 = (1, 0) := (show ((fX4_cacheAsked_m x1 x2), 0) = (1, 0) by rw [hx])
      exact z_out B (⟨rfl, by rw [hF]⟩) (Nat.le_of_ble_eq_true rfl) (Nat.le_of_ble_eq_true rfl)
def fX4_hitsOf_m (x1 : Int32) (x2 : Int32) : Nat × Int32 :=
  ((fX4_cacheAsked_m x1 x2), 0)
set_option maxHeartbeats 4000000 in
set_option maxRecDepth 100000 in
theorem kX4_hitsOf_m (l : Launch) (hl : l.stackTraces = false) (K : zK) (ax : Nat) (zn : Nat) (sa : Nat) (la : Nat) (tr : Nat) (tc : Nat) (X : Nat → Int32) (f : Nat → Option Nat) (x1 : Int32) (x2 : Int32) (hfn : x1 < 4 → ¬ x1 < 0 → f x1.toNatClampNeg = none) : zMet l K yX4_hitsOf wsX4_hitsOf { frames := 8, cells := 1, slots := 6, locals := 127 } [.ref ax, .int x1, .int x2] [zXo ax zn sa la tr tc X, zSa K sa f] (some (.int ((fX4_hitsOf_m x1 x2).2))) [zXo ax zn sa la tr tc X, zSa K sa f] False (fun E => (E = zE1 ∧ (fX4_hitsOf_m x1 x2).1 = 1)) := by
  refine zMeN.of (cc := cX4_hitsOf) (maxL := 3) (ret := (some .int)) (own := RX4) (nm := "hitsOf") hl (by decide +kernel) rfl rfl rfl (Nat.le_of_ble_eq_true rfl) (lv := [(0, .ref ax), (1, .int x1), (2, .int x2)]) rfl ?_
  intro p e s m args below meth c A B
  refine z_aload_n B dX4_hitsOf_0 0 rfl ?_
  refine z_iload_n B dX4_hitsOf_1 1 rfl ?_
  refine z_iload_n B dX4_hitsOf_2 2 rfl ?_
  refine z_V1 B (kX4_cacheAsked_m l hl K ax zn sa la tr tc X f x1 x2 hfn) [0, 1] [] (br := []) (bs' := [zXo ax zn sa la tr tc X, zSa K sa f]) (st := []) (nA := 2) (zsp rfl rfl rfl) (zsp rfl rfl rfl) 0 0 rfl rfl rfl rfl gX4_hitsOf_X4_cacheAsked rfl (by decide +kernel) ⟨Nat.le_of_ble_eq_true rfl, Nat.le_of_ble_eq_true rfl⟩ rfl rfl (Nat.le_of_ble_eq_true rfl) ⟨Nat.le_of_ble_eq_true rfl, Nat.le_of_ble_eq_true rfl⟩ dX4_hitsOf_3 (fun E hE => ?_) (fun h9 => h9.elim)
  · rcases hE with ⟨rfl, hx⟩
    · have hF : fX4_hitsOf_m x1 x2 = (1, 0) := (show ((fX4_cacheAsked_m x1 x2), 0) = (1, 0) by rw [hx])
      exact z_out B (⟨rfl, by rw [hF]⟩) (Nat.le_of_ble_eq_true rfl) (Nat.le_of_ble_eq_true rfl)
def fX4_entries_m (x1 : Int32) : Nat × Int32 :=
  ((fX4_siteNumbered_m x1), 0)
set_option maxHeartbeats 4000000 in
set_option maxRecDepth 100000 in
theorem kX4_entries_m (l : Launch) (hl : l.stackTraces = false) (K : zK) (ax : Nat) (zn : Nat) (sa : Nat) (la : Nat) (tr : Nat) (tc : Nat) (X : Nat → Int32) (f : Nat → Option Nat) (x1 : Int32) (hfn : x1 < 4 → ¬ x1 < 0 → f x1.toNatClampNeg = none) : zMet l K yX4_entries wsX4_entries { frames := 7, cells := 1, slots := 6, locals := 104 } [.ref ax, .int x1] [zXo ax zn sa la tr tc X, zSa K sa f] (some (.int ((fX4_entries_m x1).2))) [zXo ax zn sa la tr tc X, zSa K sa f] False (fun E => (E = zE1 ∧ (fX4_entries_m x1).1 = 1)) := by
  refine zMeN.of (cc := cX4_entries) (maxL := 2) (ret := (some .int)) (own := RX4) (nm := "entries") hl (by decide +kernel) rfl rfl rfl (Nat.le_of_ble_eq_true rfl) (lv := [(0, .ref ax), (1, .int x1)]) rfl ?_
  intro p e s m args below meth c A B
  refine z_aload_n B dX4_entries_0 0 rfl ?_
  refine z_iload_n B dX4_entries_1 1 rfl ?_
  refine z_V1 B (kX4_siteNumbered_m l hl K ax zn sa la tr tc X f x1 hfn) [0, 1] [] (br := []) (bs' := [zXo ax zn sa la tr tc X, zSa K sa f]) (st := []) (nA := 1) (zsp rfl rfl rfl) (zsp rfl rfl rfl) 0 0 rfl rfl rfl rfl gX4_entries_X4_siteNumbered rfl (by decide +kernel) ⟨Nat.le_of_ble_eq_true rfl, Nat.le_of_ble_eq_true rfl⟩ rfl rfl (Nat.le_of_ble_eq_true rfl) ⟨Nat.le_of_ble_eq_true rfl, Nat.le_of_ble_eq_true rfl⟩ dX4_entries_2 (fun E hE => ?_) (fun h9 => h9.elim)
  · rcases hE with ⟨rfl, hx⟩
    · have hF : fX4_entries_m x1 = (1, 0) := (show ((fX4_siteNumbered_m x1), 0) = (1, 0) by rw [hx])
      exact z_out B (⟨rfl, by rw [hF]⟩) (Nat.le_of_ble_eq_true rfl) (Nat.le_of_ble_eq_true rfl)
