theorem zspN {bs bc br : zB} {isC isR : List Nat} (N : Nat) (h1 : isC.filterMap (fun i => bs[i]?) = bc) (h2 : isR.filterMap (fun i => bs[i]?) = br) (hN : bs.length = N) (h3 : (isC ++ isR).isPerm (List.range N) = true) : zSp bs bc br isC isR := ⟨h1, h2, by rw [hN]; exact h3⟩
theorem z_ca3 : Cond.castable zE3 "java/lang/IllegalStateException" ∈ zNw := by decide +kernel
theorem z_cpS {F G : Nat → Int32} {a : Nat} (h : ∀ t, t < a → F t = G t) : ∀ t, t < a + 1 → (upd F a (G a)) t = G t := by
  intro t ht
  by_cases e : t = a
  · rw [e, pk_us]
  · rw [pk_un e]; exact h t (by omega)
theorem z_cpN {F G : Nat → Int32} {a N : Nat} (h : ∀ t, t < a → t < N → F t = G t) : ∀ t, t < a + 1 → t < N → (upd F a (G a)) t = G t := by
  intro t ht hN
  by_cases e : t = a
  · rw [e, pk_us]
  · rw [pk_un e]; exact h t (by omega) hN
theorem z_cpM {F G : Nat → Int32} {a N k : Nat} (h : ∀ t, t < a → t < N → F t = G t) (ha : N ≤ a) : ∀ t, t < a + 1 → t < N → (upd F k (G k)) t = G t := by
  intro t ht hN
  by_cases e : t = k
  · rw [e, pk_us]
  · rw [pk_un e]; exact h t (by omega) hN
theorem z_ge20 {a : Nat} (h : 20 ≤ nI a) (ha : a < 24) : 20 ≤ a := by
  have h2 : nI 20 ≤ nI a := h
  rwa [nI_leI (by decide) (by omega)] at h2
theorem kL_nearest_h (l : Launch) (hl : l.stackTraces = false) (K : zK) (pn : Nat) (Gn : Nat → Int32) (ns : Nat) (x1 : Int32) (i : Nat) (hN3 : (Gn 3) = nI ns) (hns : ns ≤ 4) (hL : fL_nearest Gn ns x1 = nI i) : zMet l K yL_nearest wsL_nearest { frames := 0, cells := 0, slots := 0, locals := 0 } [.ref pn, .int x1] [[(pn, .inl (zI K, 20, .inl Gn))]] (some (.int (nI i))) [[(pn, .inl (zI K, 20, .inl Gn))]] True zNo := by
  have h := kL_nearest l hl K pn Gn ns x1 hN3 hns
  rw [hL] at h
  exact h
theorem kL_nearest_m (l : Launch) (hl : l.stackTraces = false) (K : zK) (pn : Nat) (Gn : Nat → Int32) (ns : Nat) (x1 : Int32) (hN3 : (Gn 3) = nI ns) (hns : ns ≤ 4) (hL : fL_nearest Gn ns x1 = (-3)) : zMet l K yL_nearest wsL_nearest { frames := 0, cells := 0, slots := 0, locals := 0 } [.ref pn, .int x1] [[(pn, .inl (zI K, 20, .inl Gn))]] (some (.int (-3))) [[(pn, .inl (zI K, 20, .inl Gn))]] True zNo := by
  have h := kL_nearest l hl K pn Gn ns x1 hN3 hns
  rw [hL] at h
  exact h
def fL_asks_h (Gz : Nat → Int32) (Gn : Nat → Int32) (Ge : Nat → Int32) (Gv : Nat → Int32) (Gl : Nat → Int32) (Gx : Nat → Int32) (Gh : Nat → Int32) (i : Nat) (x2 : Int32) : Int32 × (Nat → Int32) × (Nat → Int32) × (Nat → Int32) × (Nat → Int32) × (Nat → Int32) × (Nat → Int32) :=
  if ((fL_resolves Gz Gn Ge Gv Gl Gx Gh i x2).1) = (-2) then
    (((fL_resolves Gz Gn Ge Gv Gl Gx Gh i x2).1), (upd (upd (upd (upd ((fL_resolves Gz Gn Ge Gv Gl Gx Gh i x2).2.1) 10 ((((fL_resolves Gz Gn Ge Gv Gl Gx Gh i x2).2.1) 10) + 1)) 13 ((((fL_resolves Gz Gn Ge Gv Gl Gx Gh i x2).2.1) 13) + (((fL_resolves Gz Gn Ge Gv Gl Gx Gh i x2).2.1) 16))) 14 ((((fL_resolves Gz Gn Ge Gv Gl Gx Gh i x2).2.1) 14) + 1)) 15 (nI i)), ((fL_resolves Gz Gn Ge Gv Gl Gx Gh i x2).2.2.1), ((fL_resolves Gz Gn Ge Gv Gl Gx Gh i x2).2.2.2.1), ((fL_resolves Gz Gn Ge Gv Gl Gx Gh i x2).2.2.2.2.1), ((fL_resolves Gz Gn Ge Gv Gl Gx Gh i x2).2.2.2.2.2.1), ((fL_resolves Gz Gn Ge Gv Gl Gx Gh i x2).2.2.2.2.2.2))
  else
    (((fL_resolves Gz Gn Ge Gv Gl Gx Gh i x2).1), (upd (upd (upd (upd ((fL_resolves Gz Gn Ge Gv Gl Gx Gh i x2).2.1) 10 ((((fL_resolves Gz Gn Ge Gv Gl Gx Gh i x2).2.1) 10) + 1)) 13 ((((fL_resolves Gz Gn Ge Gv Gl Gx Gh i x2).2.1) 13) + (((fL_resolves Gz Gn Ge Gv Gl Gx Gh i x2).2.1) 16))) 14 ((((fL_resolves Gz Gn Ge Gv Gl Gx Gh i x2).2.1) 14) + 0)) 15 (nI i)), ((fL_resolves Gz Gn Ge Gv Gl Gx Gh i x2).2.2.1), ((fL_resolves Gz Gn Ge Gv Gl Gx Gh i x2).2.2.2.1), ((fL_resolves Gz Gn Ge Gv Gl Gx Gh i x2).2.2.2.2.1), ((fL_resolves Gz Gn Ge Gv Gl Gx Gh i x2).2.2.2.2.2.1), ((fL_resolves Gz Gn Ge Gv Gl Gx Gh i x2).2.2.2.2.2.2))
set_option maxHeartbeats 4000000 in
set_option maxRecDepth 100000 in
theorem kL_asks_h (l : Launch) (hl : l.stackTraces = false) (K : zK) (pz : Nat) (pn : Nat) (pe : Nat) (pv : Nat) (pl : Nat) (px : Nat) (ph : Nat) (Gz : Nat → Int32) (Gn : Nat → Int32) (Ge : Nat → Int32) (Gv : Nat → Int32) (Gl : Nat → Int32) (Gx : Nat → Int32) (Gh : Nat → Int32) (ns : Nat) (i : Nat) (x1 : Int32) (x2 : Int32) (hN3 : (Gn 3) = nI ns) (hns : ns ≤ 4) (hL : fL_nearest Gn ns x1 = nI i) (hi4 : i < 4) (hn : vp_in x2 16) (hz : zwz Gz) (hv : zwV Gv) : zMet l K yL_asks wsL_asks { frames := 3, cells := 2, slots := 12, locals := 89 } [.ref pz, .ref pn, .ref pe, .ref pv, .ref pl, .ref px, .ref ph, .int x1, .int x2] [[(pz, .inl (zI K, 32, .inl Gz))], [(pn, .inl (zI K, 20, .inl Gn))], [(pe, .inl (zI K, 24, .inl Ge))], [(pv, .inl (zI K, 24, .inl Gv))], [(pl, .inl (zI K, 24, .inl Gl))], [(px, .inl (zI K, 24, .inl Gx))], [(ph, .inl (zI K, 24, .inl Gh))]] (some (.int ((fL_asks_h Gz Gn Ge Gv Gl Gx Gh i x2).1))) [[(pz, .inl (zI K, 32, .inl Gz))], [(pn, .inl (zI K, 20, .inl ((fL_asks_h Gz Gn Ge Gv Gl Gx Gh i x2).2.1)))], [(pe, .inl (zI K, 24, .inl ((fL_asks_h Gz Gn Ge Gv Gl Gx Gh i x2).2.2.1)))], [(pv, .inl (zI K, 24, .inl ((fL_asks_h Gz Gn Ge Gv Gl Gx Gh i x2).2.2.2.1)))], [(pl, .inl (zI K, 24, .inl ((fL_asks_h Gz Gn Ge Gv Gl Gx Gh i x2).2.2.2.2.1)))], [(px, .inl (zI K, 24, .inl ((fL_asks_h Gz Gn Ge Gv Gl Gx Gh i x2).2.2.2.2.2.1)))], [(ph, .inl (zI K, 24, .inl ((fL_asks_h Gz Gn Ge Gv Gl Gx Gh i x2).2.2.2.2.2.2)))]] True zNo := by
  refine zMeN.of (cc := cL_asks) (maxL := 11) (ret := (some .int)) (own := RL) (nm := "asks") hl (by decide +kernel) rfl rfl rfl (Nat.le_of_ble_eq_true rfl) (lv := [(0, .ref pz), (1, .ref pn), (2, .ref pe), (3, .ref pv), (4, .ref pl), (5, .ref px), (6, .ref ph), (7, .int x1), (8, .int x2)]) rfl ?_
  intro p e s m args below meth c A B
  refine z_aload_n B dL_asks_0 1 rfl ?_
  refine z_iload B dL_asks_1 7 rfl ?_
  refine z_S1 B (kL_nearest_h l hl K pn Gn ns x1 i hN3 hns hL) [1] [0, 2, 3, 4, 5, 6] (br := [[(pz, .inl (zI K, 32, .inl Gz))], [(pe, .inl (zI K, 24, .inl Ge))], [(pv, .inl (zI K, 24, .inl Gv))], [(pl, .inl (zI K, 24, .inl Gl))], [(px, .inl (zI K, 24, .inl Gx))], [(ph, .inl (zI K, 24, .inl Gh))]]) (bs' := [[(pz, .inl (zI K, 32, .inl Gz))], [(pn, .inl (zI K, 20, .inl Gn))], [(pe, .inl (zI K, 24, .inl Ge))], [(pv, .inl (zI K, 24, .inl Gv))], [(pl, .inl (zI K, 24, .inl Gl))], [(px, .inl (zI K, 24, .inl Gx))], [(ph, .inl (zI K, 24, .inl Gh))]]) (st := []) (nA := 2) (zsp rfl rfl rfl) (zsp rfl rfl rfl) gL_asks_L_nearest rfl (by decide +kernel) ⟨Nat.le_of_ble_eq_true rfl, Nat.le_of_ble_eq_true rfl⟩ rfl rfl (Nat.le_of_ble_eq_true rfl) ⟨Nat.le_of_ble_eq_true rfl, Nat.le_of_ble_eq_true rfl⟩ dL_asks_3 z_noX (fun _ => ?_)
  refine z_istore B (lv' := [(9, .int (nI i)), (0, .ref pz), (1, .ref pn), (2, .ref pe), (3, .ref pv), (4, .ref pl), (5, .ref px), (6, .ref ph), (7, .int x1), (8, .int x2)]) dL_asks_6 (by decide) rfl ?_
  refine z_iload B dL_asks_8 0 rfl ?_
  refine z_ifge B 16 dL_asks_10 (by decide) (fun _ => ?_) (fun h => absurd (nI_pos' (by omega)) h)
  refine z_aload_n B dL_asks_16 1 rfl ?_
  refine z_aload_n B dL_asks_17 2 rfl ?_
  refine z_aload_n B dL_asks_18 3 rfl ?_
  refine z_aload_n B dL_asks_19 4 rfl ?_
  refine z_aload B dL_asks_20 5 rfl ?_
  refine z_aload B dL_asks_22 6 rfl ?_
  refine z_aload B dL_asks_24 7 rfl ?_
  refine z_iload B dL_asks_26 0 rfl ?_
  refine z_iload B dL_asks_28 9 rfl ?_
  refine z_S1 B (kL_resolves l hl K pz pn pe pv pl px ph Gz Gn Ge Gv Gl Gx Gh i x2 hi4 hn hz hv) [0, 1, 2, 3, 4, 5, 6] [] (br := []) (bs' := [[(pz, .inl (zI K, 32, .inl Gz))], [(pn, .inl (zI K, 20, .inl ((fL_resolves Gz Gn Ge Gv Gl Gx Gh i x2).2.1)))], [(pe, .inl (zI K, 24, .inl ((fL_resolves Gz Gn Ge Gv Gl Gx Gh i x2).2.2.1)))], [(pv, .inl (zI K, 24, .inl ((fL_resolves Gz Gn Ge Gv Gl Gx Gh i x2).2.2.2.1)))], [(pl, .inl (zI K, 24, .inl ((fL_resolves Gz Gn Ge Gv Gl Gx Gh i x2).2.2.2.2.1)))], [(px, .inl (zI K, 24, .inl ((fL_resolves Gz Gn Ge Gv Gl Gx Gh i x2).2.2.2.2.2.1)))], [(ph, .inl (zI K, 24, .inl ((fL_resolves Gz Gn Ge Gv Gl Gx Gh i x2).2.2.2.2.2.2)))]]) (st := []) (nA := 9) (zsp rfl rfl rfl) (zsp rfl rfl rfl) gL_asks_L_resolves rfl (by decide +kernel) ⟨Nat.le_of_ble_eq_true rfl, Nat.le_of_ble_eq_true rfl⟩ rfl rfl (Nat.le_of_ble_eq_true rfl) ⟨Nat.le_of_ble_eq_true rfl, Nat.le_of_ble_eq_true rfl⟩ dL_asks_30 z_noX (fun _ => ?_)
  refine z_istore B (lv' := [(10, .int ((fL_resolves Gz Gn Ge Gv Gl Gx Gh i x2).1)), (9, .int (nI i)), (0, .ref pz), (1, .ref pn), (2, .ref pe), (3, .ref pv), (4, .ref pl), (5, .ref px), (6, .ref ph), (7, .int x1), (8, .int x2)]) dL_asks_33 (by decide) rfl ?_
  refine z_aload_n B dL_asks_35 3 rfl ?_
  refine z_bipush B (v := 10) dL_asks_36 rfl ?_
  refine z_dup2 B dL_asks_38 rfl rfl ?_
  refine z_ialdn B (N := 20) (f := ((fL_resolves Gz Gn Ge Gv Gl Gx Gh i x2).2.1)) (k0 := 10) (v := (((fL_resolves Gz Gn Ge Gv Gl Gx Gh i x2).2.1) 10)) 1 0 rfl rfl (z_vpc (k := 10) rfl (by decide)) rfl rfl dL_asks_39 ?_
  refine z_iconst B (v := 1) dL_asks_40 rfl ?_
  refine z_iadd B dL_asks_41 ?_
  refine z_iastn B (N := 20) (f := ((fL_resolves Gz Gn Ge Gv Gl Gx Gh i x2).2.1)) (k0 := 10) 1 0 rfl rfl (z_vpc (k := 10) rfl (by decide)) rfl (bs' := [[(pz, .inl (zI K, 32, .inl Gz))], [(pn, .inl (zI K, 20, .inl (upd ((fL_resolves Gz Gn Ge Gv Gl Gx Gh i x2).2.1) 10 ((((fL_resolves Gz Gn Ge Gv Gl Gx Gh i x2).2.1) 10) + 1))))], [(pe, .inl (zI K, 24, .inl ((fL_resolves Gz Gn Ge Gv Gl Gx Gh i x2).2.2.1)))], [(pv, .inl (zI K, 24, .inl ((fL_resolves Gz Gn Ge Gv Gl Gx Gh i x2).2.2.2.1)))], [(pl, .inl (zI K, 24, .inl ((fL_resolves Gz Gn Ge Gv Gl Gx Gh i x2).2.2.2.2.1)))], [(px, .inl (zI K, 24, .inl ((fL_resolves Gz Gn Ge Gv Gl Gx Gh i x2).2.2.2.2.2.1)))], [(ph, .inl (zI K, 24, .inl ((fL_resolves Gz Gn Ge Gv Gl Gx Gh i x2).2.2.2.2.2.2)))]]) rfl dL_asks_42 ?_
  refine z_aload_n B dL_asks_43 3 rfl ?_
  refine z_bipush B (v := 13) dL_asks_44 rfl ?_
  refine z_dup2 B dL_asks_46 rfl rfl ?_
  refine z_ialdn B (N := 20) (f := (upd ((fL_resolves Gz Gn Ge Gv Gl Gx Gh i x2).2.1) 10 ((((fL_resolves Gz Gn Ge Gv Gl Gx Gh i x2).2.1) 10) + 1))) (k0 := 13) (v := (((fL_resolves Gz Gn Ge Gv Gl Gx Gh i x2).2.1) 13)) 1 0 rfl rfl (z_vpc (k := 13) rfl (by decide)) rfl rfl dL_asks_47 ?_
  refine z_aload_n B dL_asks_48 3 rfl ?_
  refine z_bipush B (v := 16) dL_asks_49 rfl ?_
  refine z_ialdn B (N := 20) (f := (upd ((fL_resolves Gz Gn Ge Gv Gl Gx Gh i x2).2.1) 10 ((((fL_resolves Gz Gn Ge Gv Gl Gx Gh i x2).2.1) 10) + 1))) (k0 := 16) (v := (((fL_resolves Gz Gn Ge Gv Gl Gx Gh i x2).2.1) 16)) 1 0 rfl rfl (z_vpc (k := 16) rfl (by decide)) rfl rfl dL_asks_51 ?_
  refine z_iadd B dL_asks_52 ?_
  refine z_iastn B (N := 20) (f := (upd ((fL_resolves Gz Gn Ge Gv Gl Gx Gh i x2).2.1) 10 ((((fL_resolves Gz Gn Ge Gv Gl Gx Gh i x2).2.1) 10) + 1))) (k0 := 13) 1 0 rfl rfl (z_vpc (k := 13) rfl (by decide)) rfl (bs' := [[(pz, .inl (zI K, 32, .inl Gz))], [(pn, .inl (zI K, 20, .inl (upd (upd ((fL_resolves Gz Gn Ge Gv Gl Gx Gh i x2).2.1) 10 ((((fL_resolves Gz Gn Ge Gv Gl Gx Gh i x2).2.1) 10) + 1)) 13 ((((fL_resolves Gz Gn Ge Gv Gl Gx Gh i x2).2.1) 13) + (((fL_resolves Gz Gn Ge Gv Gl Gx Gh i x2).2.1) 16)))))], [(pe, .inl (zI K, 24, .inl ((fL_resolves Gz Gn Ge Gv Gl Gx Gh i x2).2.2.1)))], [(pv, .inl (zI K, 24, .inl ((fL_resolves Gz Gn Ge Gv Gl Gx Gh i x2).2.2.2.1)))], [(pl, .inl (zI K, 24, .inl ((fL_resolves Gz Gn Ge Gv Gl Gx Gh i x2).2.2.2.2.1)))], [(px, .inl (zI K, 24, .inl ((fL_resolves Gz Gn Ge Gv Gl Gx Gh i x2).2.2.2.2.2.1)))], [(ph, .inl (zI K, 24, .inl ((fL_resolves Gz Gn Ge Gv Gl Gx Gh i x2).2.2.2.2.2.2)))]]) rfl dL_asks_53 ?_
  refine z_aload_n B dL_asks_54 3 rfl ?_
  refine z_bipush B (v := 14) dL_asks_55 rfl ?_
  refine z_dup2 B dL_asks_57 rfl rfl ?_
  refine z_ialdn B (N := 20) (f := (upd (upd ((fL_resolves Gz Gn Ge Gv Gl Gx Gh i x2).2.1) 10 ((((fL_resolves Gz Gn Ge Gv Gl Gx Gh i x2).2.1) 10) + 1)) 13 ((((fL_resolves Gz Gn Ge Gv Gl Gx Gh i x2).2.1) 13) + (((fL_resolves Gz Gn Ge Gv Gl Gx Gh i x2).2.1) 16)))) (k0 := 14) (v := (((fL_resolves Gz Gn Ge Gv Gl Gx Gh i x2).2.1) 14)) 1 0 rfl rfl (z_vpc (k := 14) rfl (by decide)) rfl rfl dL_asks_58 ?_
  refine z_iload B dL_asks_59 0 rfl ?_
  refine z_bipush B (v := (-2)) dL_asks_61 rfl ?_
  refine z_icne B 70 dL_asks_63 (by decide) (fun c1 => ?_) (fun c1 => ?_)
  · refine z_iconst B (v := 1) dL_asks_66 rfl ?_
    refine z_goto B (tgt := 71) dL_asks_67 (by decide) ?_
    refine z_iadd B dL_asks_71 ?_
    refine z_iastn B (N := 20) (f := (upd (upd ((fL_resolves Gz Gn Ge Gv Gl Gx Gh i x2).2.1) 10 ((((fL_resolves Gz Gn Ge Gv Gl Gx Gh i x2).2.1) 10) + 1)) 13 ((((fL_resolves Gz Gn Ge Gv Gl Gx Gh i x2).2.1) 13) + (((fL_resolves Gz Gn Ge Gv Gl Gx Gh i x2).2.1) 16)))) (k0 := 14) 1 0 rfl rfl (z_vpc (k := 14) rfl (by decide)) rfl (bs' := [[(pz, .inl (zI K, 32, .inl Gz))], [(pn, .inl (zI K, 20, .inl (upd (upd (upd ((fL_resolves Gz Gn Ge Gv Gl Gx Gh i x2).2.1) 10 ((((fL_resolves Gz Gn Ge Gv Gl Gx Gh i x2).2.1) 10) + 1)) 13 ((((fL_resolves Gz Gn Ge Gv Gl Gx Gh i x2).2.1) 13) + (((fL_resolves Gz Gn Ge Gv Gl Gx Gh i x2).2.1) 16))) 14 ((((fL_resolves Gz Gn Ge Gv Gl Gx Gh i x2).2.1) 14) + 1))))], [(pe, .inl (zI K, 24, .inl ((fL_resolves Gz Gn Ge Gv Gl Gx Gh i x2).2.2.1)))], [(pv, .inl (zI K, 24, .inl ((fL_resolves Gz Gn Ge Gv Gl Gx Gh i x2).2.2.2.1)))], [(pl, .inl (zI K, 24, .inl ((fL_resolves Gz Gn Ge Gv Gl Gx Gh i x2).2.2.2.2.1)))], [(px, .inl (zI K, 24, .inl ((fL_resolves Gz Gn Ge Gv Gl Gx Gh i x2).2.2.2.2.2.1)))], [(ph, .inl (zI K, 24, .inl ((fL_resolves Gz Gn Ge Gv Gl Gx Gh i x2).2.2.2.2.2.2)))]]) rfl dL_asks_72 ?_
    refine z_aload_n B dL_asks_73 3 rfl ?_
    refine z_bipush B (v := 15) dL_asks_74 rfl ?_
    refine z_iload B dL_asks_76 1 rfl ?_
    refine z_iastn B (N := 20) (f := (upd (upd (upd ((fL_resolves Gz Gn Ge Gv Gl Gx Gh i x2).2.1) 10 ((((fL_resolves Gz Gn Ge Gv Gl Gx Gh i x2).2.1) 10) + 1)) 13 ((((fL_resolves Gz Gn Ge Gv Gl Gx Gh i x2).2.1) 13) + (((fL_resolves Gz Gn Ge Gv Gl Gx Gh i x2).2.1) 16))) 14 ((((fL_resolves Gz Gn Ge Gv Gl Gx Gh i x2).2.1) 14) + 1))) (k0 := 15) 1 0 rfl rfl (z_vpc (k := 15) rfl (by decide)) rfl (bs' := [[(pz, .inl (zI K, 32, .inl Gz))], [(pn, .inl (zI K, 20, .inl (upd (upd (upd (upd ((fL_resolves Gz Gn Ge Gv Gl Gx Gh i x2).2.1) 10 ((((fL_resolves Gz Gn Ge Gv Gl Gx Gh i x2).2.1) 10) + 1)) 13 ((((fL_resolves Gz Gn Ge Gv Gl Gx Gh i x2).2.1) 13) + (((fL_resolves Gz Gn Ge Gv Gl Gx Gh i x2).2.1) 16))) 14 ((((fL_resolves Gz Gn Ge Gv Gl Gx Gh i x2).2.1) 14) + 1)) 15 (nI i))))], [(pe, .inl (zI K, 24, .inl ((fL_resolves Gz Gn Ge Gv Gl Gx Gh i x2).2.2.1)))], [(pv, .inl (zI K, 24, .inl ((fL_resolves Gz Gn Ge Gv Gl Gx Gh i x2).2.2.2.1)))], [(pl, .inl (zI K, 24, .inl ((fL_resolves Gz Gn Ge Gv Gl Gx Gh i x2).2.2.2.2.1)))], [(px, .inl (zI K, 24, .inl ((fL_resolves Gz Gn Ge Gv Gl Gx Gh i x2).2.2.2.2.2.1)))], [(ph, .inl (zI K, 24, .inl ((fL_resolves Gz Gn Ge Gv Gl Gx Gh i x2).2.2.2.2.2.2)))]]) rfl dL_asks_78 ?_
    refine z_iload B dL_asks_79 0 rfl ?_
    have hF : fL_asks_h Gz Gn Ge Gv Gl Gx Gh i x2 = (((fL_resolves Gz Gn Ge Gv Gl Gx Gh i x2).1), (upd (upd (upd (upd ((fL_resolves Gz Gn Ge Gv Gl Gx Gh i x2).2.1) 10 ((((fL_resolves Gz Gn Ge Gv Gl Gx Gh i x2).2.1) 10) + 1)) 13 ((((fL_resolves Gz Gn Ge Gv Gl Gx Gh i x2).2.1) 13) + (((fL_resolves Gz Gn Ge Gv Gl Gx Gh i x2).2.1) 16))) 14 ((((fL_resolves Gz Gn Ge Gv Gl Gx Gh i x2).2.1) 14) + 1)) 15 (nI i)), ((fL_resolves Gz Gn Ge Gv Gl Gx Gh i x2).2.2.1), ((fL_resolves Gz Gn Ge Gv Gl Gx Gh i x2).2.2.2.1), ((fL_resolves Gz Gn Ge Gv Gl Gx Gh i x2).2.2.2.2.1), ((fL_resolves Gz Gn Ge Gv Gl Gx Gh i x2).2.2.2.2.2.1), ((fL_resolves Gz Gn Ge Gv Gl Gx Gh i x2).2.2.2.2.2.2)) := if_pos c1
    exact z_ret1 B rfl dL_asks_81 () (trivial) (Nat.le_of_ble_eq_true rfl) (Nat.le_of_ble_eq_true rfl) (by rw [hF]) (by rw [hF])
  · refine z_iconst B (v := 0) dL_asks_70 rfl ?_
    refine z_iadd B dL_asks_71 ?_
    refine z_iastn B (N := 20) (f := (upd (upd ((fL_resolves Gz Gn Ge Gv Gl Gx Gh i x2).2.1) 10 ((((fL_resolves Gz Gn Ge Gv Gl Gx Gh i x2).2.1) 10) + 1)) 13 ((((fL_resolves Gz Gn Ge Gv Gl Gx Gh i x2).2.1) 13) + (((fL_resolves Gz Gn Ge Gv Gl Gx Gh i x2).2.1) 16)))) (k0 := 14) 1 0 rfl rfl (z_vpc (k := 14) rfl (by decide)) rfl (bs' := [[(pz, .inl (zI K, 32, .inl Gz))], [(pn, .inl (zI K, 20, .inl (upd (upd (upd ((fL_resolves Gz Gn Ge Gv Gl Gx Gh i x2).2.1) 10 ((((fL_resolves Gz Gn Ge Gv Gl Gx Gh i x2).2.1) 10) + 1)) 13 ((((fL_resolves Gz Gn Ge Gv Gl Gx Gh i x2).2.1) 13) + (((fL_resolves Gz Gn Ge Gv Gl Gx Gh i x2).2.1) 16))) 14 ((((fL_resolves Gz Gn Ge Gv Gl Gx Gh i x2).2.1) 14) + 0))))], [(pe, .inl (zI K, 24, .inl ((fL_resolves Gz Gn Ge Gv Gl Gx Gh i x2).2.2.1)))], [(pv, .inl (zI K, 24, .inl ((fL_resolves Gz Gn Ge Gv Gl Gx Gh i x2).2.2.2.1)))], [(pl, .inl (zI K, 24, .inl ((fL_resolves Gz Gn Ge Gv Gl Gx Gh i x2).2.2.2.2.1)))], [(px, .inl (zI K, 24, .inl ((fL_resolves Gz Gn Ge Gv Gl Gx Gh i x2).2.2.2.2.2.1)))], [(ph, .inl (zI K, 24, .inl ((fL_resolves Gz Gn Ge Gv Gl Gx Gh i x2).2.2.2.2.2.2)))]]) rfl dL_asks_72 ?_
    refine z_aload_n B dL_asks_73 3 rfl ?_
    refine z_bipush B (v := 15) dL_asks_74 rfl ?_
    refine z_iload B dL_asks_76 1 rfl ?_
    refine z_iastn B (N := 20) (f := (upd (upd (upd ((fL_resolves Gz Gn Ge Gv Gl Gx Gh i x2).2.1) 10 ((((fL_resolves Gz Gn Ge Gv Gl Gx Gh i x2).2.1) 10) + 1)) 13 ((((fL_resolves Gz Gn Ge Gv Gl Gx Gh i x2).2.1) 13) + (((fL_resolves Gz Gn Ge Gv Gl Gx Gh i x2).2.1) 16))) 14 ((((fL_resolves Gz Gn Ge Gv Gl Gx Gh i x2).2.1) 14) + 0))) (k0 := 15) 1 0 rfl rfl (z_vpc (k := 15) rfl (by decide)) rfl (bs' := [[(pz, .inl (zI K, 32, .inl Gz))], [(pn, .inl (zI K, 20, .inl (upd (upd (upd (upd ((fL_resolves Gz Gn Ge Gv Gl Gx Gh i x2).2.1) 10 ((((fL_resolves Gz Gn Ge Gv Gl Gx Gh i x2).2.1) 10) + 1)) 13 ((((fL_resolves Gz Gn Ge Gv Gl Gx Gh i x2).2.1) 13) + (((fL_resolves Gz Gn Ge Gv Gl Gx Gh i x2).2.1) 16))) 14 ((((fL_resolves Gz Gn Ge Gv Gl Gx Gh i x2).2.1) 14) + 0)) 15 (nI i))))], [(pe, .inl (zI K, 24, .inl ((fL_resolves Gz Gn Ge Gv Gl Gx Gh i x2).2.2.1)))], [(pv, .inl (zI K, 24, .inl ((fL_resolves Gz Gn Ge Gv Gl Gx Gh i x2).2.2.2.1)))], [(pl, .inl (zI K, 24, .inl ((fL_resolves Gz Gn Ge Gv Gl Gx Gh i x2).2.2.2.2.1)))], [(px, .inl (zI K, 24, .inl ((fL_resolves Gz Gn Ge Gv Gl Gx Gh i x2).2.2.2.2.2.1)))], [(ph, .inl (zI K, 24, .inl ((fL_resolves Gz Gn Ge Gv Gl Gx Gh i x2).2.2.2.2.2.2)))]]) rfl dL_asks_78 ?_
    refine z_iload B dL_asks_79 0 rfl ?_
    have hF : fL_asks_h Gz Gn Ge Gv Gl Gx Gh i x2 = (((fL_resolves Gz Gn Ge Gv Gl Gx Gh i x2).1), (upd (upd (upd (upd ((fL_resolves Gz Gn Ge Gv Gl Gx Gh i x2).2.1) 10 ((((fL_resolves Gz Gn Ge Gv Gl Gx Gh i x2).2.1) 10) + 1)) 13 ((((fL_resolves Gz Gn Ge Gv Gl Gx Gh i x2).2.1) 13) + (((fL_resolves Gz Gn Ge Gv Gl Gx Gh i x2).2.1) 16))) 14 ((((fL_resolves Gz Gn Ge Gv Gl Gx Gh i x2).2.1) 14) + 0)) 15 (nI i)), ((fL_resolves Gz Gn Ge Gv Gl Gx Gh i x2).2.2.1), ((fL_resolves Gz Gn Ge Gv Gl Gx Gh i x2).2.2.2.1), ((fL_resolves Gz Gn Ge Gv Gl Gx Gh i x2).2.2.2.2.1), ((fL_resolves Gz Gn Ge Gv Gl Gx Gh i x2).2.2.2.2.2.1), ((fL_resolves Gz Gn Ge Gv Gl Gx Gh i x2).2.2.2.2.2.2)) := if_neg c1
    exact z_ret1 B rfl dL_asks_81 () (trivial) (Nat.le_of_ble_eq_true rfl) (Nat.le_of_ble_eq_true rfl) (by rw [hF]) (by rw [hF])
def fL_asks_m  : Int32 :=
  (-13)
set_option maxHeartbeats 4000000 in
set_option maxRecDepth 100000 in
theorem kL_asks_m (l : Launch) (hl : l.stackTraces = false) (K : zK) (pz : Nat) (pn : Nat) (pe : Nat) (pv : Nat) (pl : Nat) (px : Nat) (ph : Nat) (Gz : Nat → Int32) (Gn : Nat → Int32) (Ge : Nat → Int32) (Gv : Nat → Int32) (Gl : Nat → Int32) (Gx : Nat → Int32) (Gh : Nat → Int32) (ns : Nat) (x1 : Int32) (x2 : Int32) (hN3 : (Gn 3) = nI ns) (hns : ns ≤ 4) (hL : fL_nearest Gn ns x1 = (-3)) : zMet l K yL_asks wsL_asks { frames := 1, cells := 0, slots := 0, locals := 25 } [.ref pz, .ref pn, .ref pe, .ref pv, .ref pl, .ref px, .ref ph, .int x1, .int x2] [[(pz, .inl (zI K, 32, .inl Gz))], [(pn, .inl (zI K, 20, .inl Gn))], [(pe, .inl (zI K, 24, .inl Ge))], [(pv, .inl (zI K, 24, .inl Gv))], [(pl, .inl (zI K, 24, .inl Gl))], [(px, .inl (zI K, 24, .inl Gx))], [(ph, .inl (zI K, 24, .inl Gh))]] (some (.int fL_asks_m)) [[(pz, .inl (zI K, 32, .inl Gz))], [(pn, .inl (zI K, 20, .inl Gn))], [(pe, .inl (zI K, 24, .inl Ge))], [(pv, .inl (zI K, 24, .inl Gv))], [(pl, .inl (zI K, 24, .inl Gl))], [(px, .inl (zI K, 24, .inl Gx))], [(ph, .inl (zI K, 24, .inl Gh))]] True zNo := by
  refine zMeN.of (cc := cL_asks) (maxL := 11) (ret := (some .int)) (own := RL) (nm := "asks") hl (by decide +kernel) rfl rfl rfl (Nat.le_of_ble_eq_true rfl) (lv := [(0, .ref pz), (1, .ref pn), (2, .ref pe), (3, .ref pv), (4, .ref pl), (5, .ref px), (6, .ref ph), (7, .int x1), (8, .int x2)]) rfl ?_
  intro p e s m args below meth c A B
  refine z_aload_n B dL_asks_0 1 rfl ?_
  refine z_iload B dL_asks_1 7 rfl ?_
  refine z_S1 B (kL_nearest_m l hl K pn Gn ns x1 hN3 hns hL) [1] [0, 2, 3, 4, 5, 6] (br := [[(pz, .inl (zI K, 32, .inl Gz))], [(pe, .inl (zI K, 24, .inl Ge))], [(pv, .inl (zI K, 24, .inl Gv))], [(pl, .inl (zI K, 24, .inl Gl))], [(px, .inl (zI K, 24, .inl Gx))], [(ph, .inl (zI K, 24, .inl Gh))]]) (bs' := [[(pz, .inl (zI K, 32, .inl Gz))], [(pn, .inl (zI K, 20, .inl Gn))], [(pe, .inl (zI K, 24, .inl Ge))], [(pv, .inl (zI K, 24, .inl Gv))], [(pl, .inl (zI K, 24, .inl Gl))], [(px, .inl (zI K, 24, .inl Gx))], [(ph, .inl (zI K, 24, .inl Gh))]]) (st := []) (nA := 2) (zsp rfl rfl rfl) (zsp rfl rfl rfl) gL_asks_L_nearest rfl (by decide +kernel) ⟨Nat.le_of_ble_eq_true rfl, Nat.le_of_ble_eq_true rfl⟩ rfl rfl (Nat.le_of_ble_eq_true rfl) ⟨Nat.le_of_ble_eq_true rfl, Nat.le_of_ble_eq_true rfl⟩ dL_asks_3 z_noX (fun _ => ?_)
  refine z_istore B (lv' := [(9, .int (-3)), (0, .ref pz), (1, .ref pn), (2, .ref pe), (3, .ref pv), (4, .ref pl), (5, .ref px), (6, .ref ph), (7, .int x1), (8, .int x2)]) dL_asks_6 (by decide) rfl ?_
  refine z_iload B dL_asks_8 0 rfl ?_
  refine z_ifge B 16 dL_asks_10 (by decide) (fun h => absurd h (by decide)) (fun _ => ?_)
  refine z_bipush B (v := (-13)) dL_asks_13 rfl ?_
  have hF : fL_asks_m = (-13) := rfl
  exact z_ret1 B rfl dL_asks_15 () (trivial) (Nat.le_of_ble_eq_true rfl) (Nat.le_of_ble_eq_true rfl) (by rw [hF]) (by rw [hF])

