theorem z_cpS {F G : Nat → Int32} {a : Nat} (h : ∀ t, t < a → F t = G t) : ∀ t, t < a + 1 → (upd F a (G a)) t = G t := by
  intro t ht
  by_cases e : t = a
  · rw [e, pk_us]
  · rw [pk_un e]; exact h t (by omega)
theorem z_cpN {F G : Nat → Int32} {a N : Nat} (h : ∀ t, t < a → t < N → F t = G t) : ∀ t, t < a + 1 → t < N → (upd F a (G a)) t = G t := by
  intro t ht hN
  by_cases e : t = a
  · rw [e, pk_us]
  · rw [pk_un e]; exact h t (by omega) hN
theorem z_cpM {F G : Nat → Int32} {a N k : Nat} (h : ∀ t, t < a → t < N → F t = G t) (ha : N ≤ a) : ∀ t, t < a + 1 → t < N → (upd F k (G k)) t = G t := by
  intro t ht hN
  by_cases e : t = k
  · rw [e, pk_us]
  · rw [pk_un e]; exact h t (by omega) hN
theorem z_ge20 {a : Nat} (h : 20 ≤ nI a) (ha : a < 24) : 20 ≤ a := by
  have h2 : nI 20 ≤ nI a := h
  rwa [nI_leI (by decide) (by omega)] at h2
theorem kL_nearest_h (l : Launch) (hl : l.stackTraces = false) (K : zK) (pn : Nat) (Gn : Nat → Int32) (ns : Nat) (x1 : Int32) (i : Nat) (hN3 : (Gn 3) = nI ns) (hns : ns ≤ 4) (hL : fL_nearest Gn ns x1 = nI i) : zMet l K yL_nearest wsL_nearest { frames := 0, cells := 0, slots := 0, locals := 0 } [.ref pn, .int x1] [[(pn, .inl (zI K, 20, .inl Gn))]] (some (.int (nI i))) [[(pn, .inl (zI K, 20, .inl Gn))]] True zNo := by
  have h := kL_nearest l hl K pn Gn ns x1 hN3 hns
  rw [hL] at h
  exact h
theorem kL_nearest_m (l : Launch) (hl : l.stackTraces = false) (K : zK) (pn : Nat) (Gn : Nat → Int32) (ns : Nat) (x1 : Int32) (hN3 : (Gn 3) = nI ns) (hns : ns ≤ 4) (hL : fL_nearest Gn ns x1 = (-3)) : zMet l K yL_nearest wsL_nearest { frames := 0, cells := 0, slots := 0, locals := 0 } [.ref pn, .int x1] [[(pn, .inl (zI K, 20, .inl Gn))]] (some (.int (-3))) [[(pn, .inl (zI K, 20, .inl Gn))]] True zNo := by
  have h := kL_nearest l hl K pn Gn ns x1 hN3 hns
  rw [hL] at h
  exact h
def fL_asks_h (Gz : Nat → Int32) (Gn : Nat → Int32) (Ge : Nat → Int32) (Gv : Nat → Int32) (Gl : Nat → Int32) (Gx : Nat → Int32) (Gh : Nat → Int32) (i : Nat) (x2 : Int32) : Int32 × (Nat → Int32) × (Nat → Int32) × (Nat → Int32) × (Nat → Int32) × (Nat → Int32) × (Nat → Int32) :=
  if ((fL_resolves Gz Gn Ge Gv Gl Gx Gh i x2).1) = (-2) then
    (((fL_resolves Gz Gn Ge Gv Gl Gx Gh i x2).1), (upd (upd (upd (upd ((fL_resolves Gz Gn Ge Gv Gl Gx Gh i x2).2.1) 10 ((((fL_resolves Gz Gn Ge Gv Gl Gx Gh i x2).2.1) 10) + 1)) 13 ((((fL_resolves Gz Gn Ge Gv Gl Gx Gh i x2).2.1) 13) + (((fL_resolves Gz Gn Ge Gv Gl Gx Gh i x2).2.1) 16))) 14 ((((fL_resolves Gz Gn Ge Gv Gl Gx Gh i x2).2.1) 14) + 1)) 15 (nI i)), ((fL_resolves Gz Gn Ge Gv Gl Gx Gh i x2).2.2.1), ((fL_resolves Gz Gn Ge Gv Gl Gx Gh i x2).2.2.2.1), ((fL_resolves Gz Gn Ge Gv Gl Gx Gh i x2).2.2.2.2.1), ((fL_resolves Gz Gn Ge Gv Gl Gx Gh i x2).2.2.2.2.2.1), ((fL_resolves Gz Gn Ge Gv Gl Gx Gh i x2).2.2.2.2.2.2))
  else
    (((fL_resolves Gz Gn Ge Gv Gl Gx Gh i x2).1), (upd (upd (upd (upd ((fL_resolves Gz Gn Ge Gv Gl Gx Gh i x2).2.1) 10 ((((fL_resolves Gz Gn Ge Gv Gl Gx Gh i x2).2.1) 10) + 1)) 13 ((((fL_resolves Gz Gn Ge Gv Gl Gx Gh i x2).2.1) 13) + (((fL_resolves Gz Gn Ge Gv Gl Gx Gh i x2).2.1) 16))) 14 ((((fL_resolves Gz Gn Ge Gv Gl Gx Gh i x2).2.1) 14) + 0)) 15 (nI i)), ((fL_resolves Gz Gn Ge Gv Gl Gx Gh i x2).2.2.1), ((fL_resolves Gz Gn Ge Gv Gl Gx Gh i x2).2.2.2.1), ((fL_resolves Gz Gn Ge Gv Gl Gx Gh i x2).2.2.2.2.1), ((fL_resolves Gz Gn Ge Gv Gl Gx Gh i x2).2.2.2.2.2.1), ((fL_resolves Gz Gn Ge Gv Gl Gx Gh i x2).2.2.2.2.2.2))
set_option maxHeartbeats 4000000 in
set_option maxRecDepth 100000 in
theorem kL_asks_h (l : Launch) (hl : l.stackTraces = false) (K : zK) (pz : Nat) (pn : Nat) (pe : Nat) (pv : Nat) (pl : Nat) (px : Nat) (ph : Nat) (Gz : Nat → Int32) (Gn : Nat → Int32) (Ge : Nat → Int32) (Gv : Nat → Int32) (Gl : Nat → Int32) (Gx : Nat → Int32) (Gh : Nat → Int32) (ns : Nat) (i : Nat) (x1 : Int32) (x2 : Int32) (hN3 : (Gn 3) = nI ns) (hns : ns ≤ 4) (hL : fL_nearest Gn ns x1 = nI i) (hi4 : i < 4) (hn : vp_in x2 16) (hz : zwz Gz) (hv : zwV Gv) : zMet l K yL_asks wsL_asks { frames := 3, cells := 2, slots := 12, locals := 89 } [.ref pz, .ref pn, .ref pe, .ref pv, .ref pl, .ref px, .ref ph, .int x1, .int x2] [[(pz, .inl (zI K, 32, .inl Gz))], [(pn, .inl (zI K, 20, .inl Gn))], [(pe, .inl (zI K, 24, .inl Ge))], [(pv, .inl (zI K, 24, .inl Gv))], [(pl, .inl (zI K, 24, .inl Gl))], [(px, .inl (zI K, 24, .inl Gx))], [(ph, .inl (zI K, 24, .inl Gh))]] (some (.int ((fL_asks_h Gz Gn Ge Gv Gl Gx Gh i x2).1))) [[(pz, .inl (zI K, 32, .inl Gz))], [(pn, .inl (zI K, 20, .inl ((fL_asks_h Gz Gn Ge Gv Gl Gx Gh i x2).2.1)))], [(pe, .inl (zI K, 24, .inl ((fL_asks_h Gz Gn Ge Gv Gl Gx Gh i x2).2.2.1)))], [(pv, .inl (zI K, 24, .inl ((fL_asks_h Gz Gn Ge Gv Gl Gx Gh i x2).2.2.2.1)))], [(pl, .inl (zI K, 24, .inl ((fL_asks_h Gz Gn Ge Gv Gl Gx Gh i x2).2.2.2.2.1)))], [(px, .inl (zI K, 24, .inl ((fL_asks_h Gz Gn Ge Gv Gl Gx Gh i x2).2.2.2.2.2.1)))], [(ph, .inl (zI K, 24, .inl ((fL_asks_h Gz Gn Ge Gv Gl Gx Gh i x2).2.2.2.2.2.2)))]] True zNo := by
  refine zMeN.of (cc := cL_asks) (maxL := 11) (ret := (some .int)) (own := RL) (nm := "asks") hl (by decide +kernel) rfl rfl rfl (Nat.le_of_ble_eq_true rfl) (lv := [(0, .ref pz), (1, .ref pn), (2, .ref pe), (3, .ref pv), (4, .ref pl), (5, .ref px), (6, .ref ph), (7, .int x1), (8, .int x2)]) rfl ?_
  intro p e s m args below meth c A B
  refine z_aload_n B dL_asks_0 1 rfl ?_
  refine z_iload B dL_asks_1 7 rfl ?_
  refine z_S1 B (kL_nearest_h l hl K pn Gn ns x1 i hN3 hns hL) [1] [0, 2, 3, 4, 5, 6] (br := [[(pz, .inl (zI K, 32, .inl Gz))], [(pe, .inl (zI K, 24, .inl Ge))], [(pv, .inl (zI K, 24, .inl Gv))], [(pl, .inl (zI K, 24, .inl Gl))], [(px, .inl (zI K, 24, .inl Gx))], [(ph, .inl (zI K, 24, .inl Gh))]]) (bs' := [[(pz, .inl (zI K, 32, .inl Gz))], [(pn, .inl (zI K, 20, .inl Gn))], [(pe, .inl (zI K, 24, .inl Ge))], [(pv, .inl (zI K, 24, .inl Gv))], [(pl, .inl (zI K, 24, .inl Gl))], [(px, .inl (zI K, 24, .inl Gx))], [(ph, .inl (zI K, 24, .inl Gh))]]) (st := []) (nA := 2) (zsp rfl rfl rfl) (zsp rfl rfl rfl) gL_asks_L_nearest rfl (by decide +kernel) ⟨Nat.le_of_ble_eq_true rfl, Nat.le_of_ble_eq_true rfl⟩ rfl rfl (Nat.le_of_ble_eq_true rfl) ⟨Nat.le_of_ble_eq_true rfl, Nat.le_of_ble_eq_true rfl⟩ dL_asks_3 z_noX (fun _ => ?_)
  refine z_istore B (lv' := [(9, .int (nI i)), (0, .ref pz), (1, .ref pn), (2, .ref pe), (3, .ref pv), (4, .ref pl), (5, .ref px), (6, .ref ph), (7, .int x1), (8, .int x2)]) dL_asks_6 (by decide) rfl ?_
  refine z_iload B dL_asks_8 0 rfl ?_
  refine z_ifge B 16 dL_asks_10 (by decide) (fun _ => ?_) (fun h => absurd (nI_pos' (by omega)) h)
  refine z_aload_n B dL_asks_16 1 rfl ?_
  refine z_aload_n B dL_asks_17 2 rfl ?_
  refine z_aload_n B dL_asks_18 3 rfl ?_
  refine z_aload_n B dL_asks_19 4 rfl ?_
  refine z_aload B dL_asks_20 5 rfl ?_
  refine z_aload B dL_asks_22 6 rfl ?_
  refine z_aload B dL_asks_24 7 rfl ?_
  refine z_iload B dL_asks_26 0 rfl ?_
  refine z_iload B dL_asks_28 9 rfl ?_
  refine z_S1 B (kL_resolves l hl K pz pn pe pv pl px ph Gz Gn Ge Gv Gl Gx Gh i x2 hi4 hn hz hv) [0, 1, 2, 3, 4, 5, 6] [] (br := []) (bs' := [[(pz, .inl (zI K, 32, .inl Gz))], [(pn, .inl (zI K, 20, .inl ((fL_resolves Gz Gn Ge Gv Gl Gx Gh i x2).2.1)))], [(pe, .inl (zI K, 24, .inl ((fL_resolves Gz Gn Ge Gv Gl Gx Gh i x2).2.2.1)))], [(pv, .inl (zI K, 24, .inl ((fL_resolves Gz Gn Ge Gv Gl Gx Gh i x2).2.2.2.1)))], [(pl, .inl (zI K, 24, .inl ((fL_resolves Gz Gn Ge Gv Gl Gx Gh i x2).2.2.2.2.1)))], [(px, .inl (zI K, 24, .inl ((fL_resolves Gz Gn Ge Gv Gl Gx Gh i x2).2.2.2.2.2.1)))], [(ph, .inl (zI K, 24, .inl ((fL_resolves Gz Gn Ge Gv Gl Gx Gh i x2).2.2.2.2.2.2)))]]) (st := []) (nA := 9) (zsp rfl rfl rfl) (zsp rfl rfl rfl) gL_asks_L_resolves rfl (by decide +kernel) ⟨Nat.le_of_ble_eq_true rfl, Nat.le_of_ble_eq_true rfl⟩ rfl rfl (Nat.le_of_ble_eq_true rfl) ⟨Nat.le_of_ble_eq_true rfl, Nat.le_of_ble_eq_true rfl⟩ dL_asks_30 z_noX (fun _ => ?_)
  refine z_istore B (lv' := [(10, .int ((fL_resolves Gz Gn Ge Gv Gl Gx Gh i x2).1)), (9, .int (nI i)), (0, .ref pz), (1, .ref pn), (2, .ref pe), (3, .ref pv), (4, .ref pl), (5, .ref px), (6, .ref ph), (7, .int x1), (8, .int x2)]) dL_asks_33 (by decide) rfl ?_
  refine z_aload_n B dL_asks_35 3 rfl ?_
  refine z_bipush B (v := 10) dL_asks_36 rfl ?_
  refine z_dup2 B dL_asks_38 rfl rfl ?_
  refine z_ialdn B (N := 20) (f := ((fL_resolves Gz Gn Ge Gv Gl Gx Gh i x2).2.1)) (k0 := 10) (v := (((fL_resolves Gz Gn Ge Gv Gl Gx Gh i x2).2.1) 10)) 1 0 rfl rfl (z_vpc (k := 10) rfl (by decide)) rfl rfl dL_asks_39 ?_
  refine z_iconst B (v := 1) dL_asks_40 rfl ?_
  refine z_iadd B dL_asks_41 ?_
  refine z_iastn B (N := 20) (f := ((fL_resolves Gz Gn Ge Gv Gl Gx Gh i x2).2.1)) (k0 := 10) 1 0 rfl rfl (z_vpc (k := 10) rfl (by decide)) rfl (bs' := [[(pz, .inl (zI K, 32, .inl Gz))], [(pn, .inl (zI K, 20, .inl (upd ((fL_resolves Gz Gn Ge Gv Gl Gx Gh i x2).2.1) 10 ((((fL_resolves Gz Gn Ge Gv Gl Gx Gh i x2).2.1) 10) + 1))))], [(pe, .inl (zI K, 24, .inl ((fL_resolves Gz Gn Ge Gv Gl Gx Gh i x2).2.2.1)))], [(pv, .inl (zI K, 24, .inl ((fL_resolves Gz Gn Ge Gv Gl Gx Gh i x2).2.2.2.1)))], [(pl, .inl (zI K, 24, .inl ((fL_resolves Gz Gn Ge Gv Gl Gx Gh i x2).2.2.2.2.1)))], [(px, .inl (zI K, 24, .inl ((fL_resolves Gz Gn Ge Gv Gl Gx Gh i x2).2.2.2.2.2.1)))], [(ph, .inl (zI K, 24, .inl ((fL_resolves Gz Gn Ge Gv Gl Gx Gh i x2).2.2.2.2.2.2)))]]) rfl dL_asks_42 ?_
  refine z_aload_n B dL_asks_43 3 rfl ?_
  refine z_bipush B (v := 13) dL_asks_44 rfl ?_
  refine z_dup2 B dL_asks_46 rfl rfl ?_
  refine z_ialdn B (N := 20) (f := (upd ((fL_resolves Gz Gn Ge Gv Gl Gx Gh i x2).2.1) 10 ((((fL_resolves Gz Gn Ge Gv Gl Gx Gh i x2).2.1) 10) + 1))) (k0 := 13) (v := (((fL_resolves Gz Gn Ge Gv Gl Gx Gh i x2).2.1) 13)) 1 0 rfl rfl (z_vpc (k := 13) rfl (by decide)) rfl rfl dL_asks_47 ?_
  refine z_aload_n B dL_asks_48 3 rfl ?_
  refine z_bipush B (v := 16) dL_asks_49 rfl ?_
  refine z_ialdn B (N := 20) (f := (upd ((fL_resolves Gz Gn Ge Gv Gl Gx Gh i x2).2.1) 10 ((((fL_resolves Gz Gn Ge Gv Gl Gx Gh i x2).2.1) 10) + 1))) (k0 := 16) (v := (((fL_resolves Gz Gn Ge Gv Gl Gx Gh i x2).2.1) 16)) 1 0 rfl rfl (z_vpc (k := 16) rfl (by decide)) rfl rfl dL_asks_51 ?_
  refine z_iadd B dL_asks_52 ?_
  refine z_iastn B (N := 20) (f := (upd ((fL_resolves Gz Gn Ge Gv Gl Gx Gh i x2).2.1) 10 ((((fL_resolves Gz Gn Ge Gv Gl Gx Gh i x2).2.1) 10) + 1))) (k0 := 13) 1 0 rfl rfl (z_vpc (k := 13) rfl (by decide)) rfl (bs' := [[(pz, .inl (zI K, 32, .inl Gz))], [(pn, .inl (zI K, 20, .inl (upd (upd ((fL_resolves Gz Gn Ge Gv Gl Gx Gh i x2).2.1) 10 ((((fL_resolves Gz Gn Ge Gv Gl Gx Gh i x2).2.1) 10) + 1)) 13 ((((fL_resolves Gz Gn Ge Gv Gl Gx Gh i x2).2.1) 13) + (((fL_resolves Gz Gn Ge Gv Gl Gx Gh i x2).2.1) 16)))))], [(pe, .inl (zI K, 24, .inl ((fL_resolves Gz Gn Ge Gv Gl Gx Gh i x2).2.2.1)))], [(pv, .inl (zI K, 24, .inl ((fL_resolves Gz Gn Ge Gv Gl Gx Gh i x2).2.2.2.1)))], [(pl, .inl (zI K, 24, .inl ((fL_resolves Gz Gn Ge Gv Gl Gx Gh i x2).2.2.2.2.1)))], [(px, .inl (zI K, 24, .inl ((fL_resolves Gz Gn Ge Gv Gl Gx Gh i x2).2.2.2.2.2.1)))], [(ph, .inl (zI K, 24, .inl ((fL_resolves Gz Gn Ge Gv Gl Gx Gh i x2).2.2.2.2.2.2)))]]) rfl dL_asks_53 ?_
  refine z_aload_n B dL_asks_54 3 rfl ?_
  refine z_bipush B (v := 14) dL_asks_55 rfl ?_
  refine z_dup2 B dL_asks_57 rfl rfl ?_
  refine z_ialdn B (N := 20) (f := (upd (upd ((fL_resolves Gz Gn Ge Gv Gl Gx Gh i x2).2.1) 10 ((((fL_resolves Gz Gn Ge Gv Gl Gx Gh i x2).2.1) 10) + 1)) 13 ((((fL_resolves Gz Gn Ge Gv Gl Gx Gh i x2).2.1) 13) + (((fL_resolves Gz Gn Ge Gv Gl Gx Gh i x2).2.1) 16)))) (k0 := 14) (v := (((fL_resolves Gz Gn Ge Gv Gl Gx Gh i x2).2.1) 14)) 1 0 rfl rfl (z_vpc (k := 14) rfl (by decide)) rfl rfl dL_asks_58 ?_
  refine z_iload B dL_asks_59 0 rfl ?_
  refine z_bipush B (v := (-2)) dL_asks_61 rfl ?_
  refine z_icne B 70 dL_asks_63 (by decide) (fun c1 => ?_) (fun c1 => ?_)
  · refine z_iconst B (v := 1) dL_asks_66 rfl ?_
    refine z_goto B (tgt := 71) dL_asks_67 (by decide) ?_
    refine z_iadd B dL_asks_71 ?_
    refine z_iastn B (N := 20) (f := (upd (upd ((fL_resolves Gz Gn Ge Gv Gl Gx Gh i x2).2.1) 10 ((((fL_resolves Gz Gn Ge Gv Gl Gx Gh i x2).2.1) 10) + 1)) 13 ((((fL_resolves Gz Gn Ge Gv Gl Gx Gh i x2).2.1) 13) + (((fL_resolves Gz Gn Ge Gv Gl Gx Gh i x2).2.1) 16)))) (k0 := 14) 1 0 rfl rfl (z_vpc (k := 14) rfl (by decide)) rfl (bs' := [[(pz, .inl (zI K, 32, .inl Gz))], [(pn, .inl (zI K, 20, .inl (upd (upd (upd ((fL_resolves Gz Gn Ge Gv Gl Gx Gh i x2).2.1) 10 ((((fL_resolves Gz Gn Ge Gv Gl Gx Gh i x2).2.1) 10) + 1)) 13 ((((fL_resolves Gz Gn Ge Gv Gl Gx Gh i x2).2.1) 13) + (((fL_resolves Gz Gn Ge Gv Gl Gx Gh i x2).2.1) 16))) 14 ((((fL_resolves Gz Gn Ge Gv Gl Gx Gh i x2).2.1) 14) + 1))))], [(pe, .inl (zI K, 24, .inl ((fL_resolves Gz Gn Ge Gv Gl Gx Gh i x2).2.2.1)))], [(pv, .inl (zI K, 24, .inl ((fL_resolves Gz Gn Ge Gv Gl Gx Gh i x2).2.2.2.1)))], [(pl, .inl (zI K, 24, .inl ((fL_resolves Gz Gn Ge Gv Gl Gx Gh i x2).2.2.2.2.1)))], [(px, .inl (zI K, 24, .inl ((fL_resolves Gz Gn Ge Gv Gl Gx Gh i x2).2.2.2.2.2.1)))], [(ph, .inl (zI K, 24, .inl ((fL_resolves Gz Gn Ge Gv Gl Gx Gh i x2).2.2.2.2.2.2)))]]) rfl dL_asks_72 ?_
    refine z_aload_n B dL_asks_73 3 rfl ?_
    refine z_bipush B (v := 15) dL_asks_74 rfl ?_
    refine z_iload B dL_asks_76 1 rfl ?_
    refine z_iastn B (N := 20) (f := (upd (upd (upd ((fL_resolves Gz Gn Ge Gv Gl Gx Gh i x2).2.1) 10 ((((fL_resolves Gz Gn Ge Gv Gl Gx Gh i x2).2.1) 10) + 1)) 13 ((((fL_resolves Gz Gn Ge Gv Gl Gx Gh i x2).2.1) 13) + (((fL_resolves Gz Gn Ge Gv Gl Gx Gh i x2).2.1) 16))) 14 ((((fL_resolves Gz Gn Ge Gv Gl Gx Gh i x2).2.1) 14) + 1))) (k0 := 15) 1 0 rfl rfl (z_vpc (k := 15) rfl (by decide)) rfl (bs' := [[(pz, .inl (zI K, 32, .inl Gz))], [(pn, .inl (zI K, 20, .inl (upd (upd (upd (upd ((fL_resolves Gz Gn Ge Gv Gl Gx Gh i x2).2.1) 10 ((((fL_resolves Gz Gn Ge Gv Gl Gx Gh i x2).2.1) 10) + 1)) 13 ((((fL_resolves Gz Gn Ge Gv Gl Gx Gh i x2).2.1) 13) + (((fL_resolves Gz Gn Ge Gv Gl Gx Gh i x2).2.1) 16))) 14 ((((fL_resolves Gz Gn Ge Gv Gl Gx Gh i x2).2.1) 14) + 1)) 15 (nI i))))], [(pe, .inl (zI K, 24, .inl ((fL_resolves Gz Gn Ge Gv Gl Gx Gh i x2).2.2.1)))], [(pv, .inl (zI K, 24, .inl ((fL_resolves Gz Gn Ge Gv Gl Gx Gh i x2).2.2.2.1)))], [(pl, .inl (zI K, 24, .inl ((fL_resolves Gz Gn Ge Gv Gl Gx Gh i x2).2.2.2.2.1)))], [(px, .inl (zI K, 24, .inl ((fL_resolves Gz Gn Ge Gv Gl Gx Gh i x2).2.2.2.2.2.1)))], [(ph, .inl (zI K, 24, .inl ((fL_resolves Gz Gn Ge Gv Gl Gx Gh i x2).2.2.2.2.2.2)))]]) rfl dL_asks_78 ?_
    refine z_iload B dL_asks_79 0 rfl ?_
    have hF : fL_asks_h Gz Gn Ge Gv Gl Gx Gh i x2 = (((fL_resolves Gz Gn Ge Gv Gl Gx Gh i x2).1), (upd (upd (upd (upd ((fL_resolves Gz Gn Ge Gv Gl Gx Gh i x2).2.1) 10 ((((fL_resolves Gz Gn Ge Gv Gl Gx Gh i x2).2.1) 10) + 1)) 13 ((((fL_resolves Gz Gn Ge Gv Gl Gx Gh i x2).2.1) 13) + (((fL_resolves Gz Gn Ge Gv Gl Gx Gh i x2).2.1) 16))) 14 ((((fL_resolves Gz Gn Ge Gv Gl Gx Gh i x2).2.1) 14) + 1)) 15 (nI i)), ((fL_resolves Gz Gn Ge Gv Gl Gx Gh i x2).2.2.1), ((fL_resolves Gz Gn Ge Gv Gl Gx Gh i x2).2.2.2.1), ((fL_resolves Gz Gn Ge Gv Gl Gx Gh i x2).2.2.2.2.1), ((fL_resolves Gz Gn Ge Gv Gl Gx Gh i x2).2.2.2.2.2.1), ((fL_resolves Gz Gn Ge Gv Gl Gx Gh i x2).2.2.2.2.2.2)) := if_pos c1
    exact z_ret1 B rfl dL_asks_81 () (trivial) (Nat.le_of_ble_eq_true rfl) (Nat.le_of_ble_eq_true rfl) (by rw [hF]) (by rw [hF])
  · refine z_iconst B (v := 0) dL_asks_70 rfl ?_
    refine z_iadd B dL_asks_71 ?_
    refine z_iastn B (N := 20) (f := (upd (upd ((fL_resolves Gz Gn Ge Gv Gl Gx Gh i x2).2.1) 10 ((((fL_resolves Gz Gn Ge Gv Gl Gx Gh i x2).2.1) 10) + 1)) 13 ((((fL_resolves Gz Gn Ge Gv Gl Gx Gh i x2).2.1) 13) + (((fL_resolves Gz Gn Ge Gv Gl Gx Gh i x2).2.1) 16)))) (k0 := 14) 1 0 rfl rfl (z_vpc (k := 14) rfl (by decide)) rfl (bs' := [[(pz, .inl (zI K, 32, .inl Gz))], [(pn, .inl (zI K, 20, .inl (upd (upd (upd ((fL_resolves Gz Gn Ge Gv Gl Gx Gh i x2).2.1) 10 ((((fL_resolves Gz Gn Ge Gv Gl Gx Gh i x2).2.1) 10) + 1)) 13 ((((fL_resolves Gz Gn Ge Gv Gl Gx Gh i x2).2.1) 13) + (((fL_resolves Gz Gn Ge Gv Gl Gx Gh i x2).2.1) 16))) 14 ((((fL_resolves Gz Gn Ge Gv Gl Gx Gh i x2).2.1) 14) + 0))))], [(pe, .inl (zI K, 24, .inl ((fL_resolves Gz Gn Ge Gv Gl Gx Gh i x2).2.2.1)))], [(pv, .inl (zI K, 24, .inl ((fL_resolves Gz Gn Ge Gv Gl Gx Gh i x2).2.2.2.1)))], [(pl, .inl (zI K, 24, .inl ((fL_resolves Gz Gn Ge Gv Gl Gx Gh i x2).2.2.2.2.1)))], [(px, .inl (zI K, 24, .inl ((fL_resolves Gz Gn Ge Gv Gl Gx Gh i x2).2.2.2.2.2.1)))], [(ph, .inl (zI K, 24, .inl ((fL_resolves Gz Gn Ge Gv Gl Gx Gh i x2).2.2.2.2.2.2)))]]) rfl dL_asks_72 ?_
    refine z_aload_n B dL_asks_73 3 rfl ?_
    refine z_bipush B (v := 15) dL_asks_74 rfl ?_
    refine z_iload B dL_asks_76 1 rfl ?_
    refine z_iastn B (N := 20) (f := (upd (upd (upd ((fL_resolves Gz Gn Ge Gv Gl Gx Gh i x2).2.1) 10 ((((fL_resolves Gz Gn Ge Gv Gl Gx Gh i x2).2.1) 10) + 1)) 13 ((((fL_resolves Gz Gn Ge Gv Gl Gx Gh i x2).2.1) 13) + (((fL_resolves Gz Gn Ge Gv Gl Gx Gh i x2).2.1) 16))) 14 ((((fL_resolves Gz Gn Ge Gv Gl Gx Gh i x2).2.1) 14) + 0))) (k0 := 15) 1 0 rfl rfl (z_vpc (k := 15) rfl (by decide)) rfl (bs' := [[(pz, .inl (zI K, 32, .inl Gz))], [(pn, .inl (zI K, 20, .inl (upd (upd (upd (upd ((fL_resolves Gz Gn Ge Gv Gl Gx Gh i x2).2.1) 10 ((((fL_resolves Gz Gn Ge Gv Gl Gx Gh i x2).2.1) 10) + 1)) 13 ((((fL_resolves Gz Gn Ge Gv Gl Gx Gh i x2).2.1) 13) + (((fL_resolves Gz Gn Ge Gv Gl Gx Gh i x2).2.1) 16))) 14 ((((fL_resolves Gz Gn Ge Gv Gl Gx Gh i x2).2.1) 14) + 0)) 15 (nI i))))], [(pe, .inl (zI K, 24, .inl ((fL_resolves Gz Gn Ge Gv Gl Gx Gh i x2).2.2.1)))], [(pv, .inl (zI K, 24, .inl ((fL_resolves Gz Gn Ge Gv Gl Gx Gh i x2).2.2.2.1)))], [(pl, .inl (zI K, 24, .inl ((fL_resolves Gz Gn Ge Gv Gl Gx Gh i x2).2.2.2.2.1)))], [(px, .inl (zI K, 24, .inl ((fL_resolves Gz Gn Ge Gv Gl Gx Gh i x2).2.2.2.2.2.1)))], [(ph, .inl (zI K, 24, .inl ((fL_resolves Gz Gn Ge Gv Gl Gx Gh i x2).2.2.2.2.2.2)))]]) rfl dL_asks_78 ?_
    refine z_iload B dL_asks_79 0 rfl ?_
    have hF : fL_asks_h Gz Gn Ge Gv Gl Gx Gh i x2 = (((fL_resolves Gz Gn Ge Gv Gl Gx Gh i x2).1), (upd (upd (upd (upd ((fL_resolves Gz Gn Ge Gv Gl Gx Gh i x2).2.1) 10 ((((fL_resolves Gz Gn Ge Gv Gl Gx Gh i x2).2.1) 10) + 1)) 13 ((((fL_resolves Gz Gn Ge Gv Gl Gx Gh i x2).2.1) 13) + (((fL_resolves Gz Gn Ge Gv Gl Gx Gh i x2).2.1) 16))) 14 ((((fL_resolves Gz Gn Ge Gv Gl Gx Gh i x2).2.1) 14) + 0)) 15 (nI i)), ((fL_resolves Gz Gn Ge Gv Gl Gx Gh i x2).2.2.1), ((fL_resolves Gz Gn Ge Gv Gl Gx Gh i x2).2.2.2.1), ((fL_resolves Gz Gn Ge Gv Gl Gx Gh i x2).2.2.2.2.1), ((fL_resolves Gz Gn Ge Gv Gl Gx Gh i x2).2.2.2.2.2.1), ((fL_resolves Gz Gn Ge Gv Gl Gx Gh i x2).2.2.2.2.2.2)) := if_neg c1
    exact z_ret1 B rfl dL_asks_81 () (trivial) (Nat.le_of_ble_eq_true rfl) (Nat.le_of_ble_eq_true rfl) (by rw [hF]) (by rw [hF])
def fL_asks_m  : Int32 :=
  (-13)
set_option maxHeartbeats 4000000 in
set_option maxRecDepth 100000 in
theorem kL_asks_m (l : Launch) (hl : l.stackTraces = false) (K : zK) (pz : Nat) (pn : Nat) (pe : Nat) (pv : Nat) (pl : Nat) (px : Nat) (ph : Nat) (Gz : Nat → Int32) (Gn : Nat → Int32) (Ge : Nat → Int32) (Gv : Nat → Int32) (Gl : Nat → Int32) (Gx : Nat → Int32) (Gh : Nat → Int32) (ns : Nat) (x1 : Int32) (x2 : Int32) (hN3 : (Gn 3) = nI ns) (hns : ns ≤ 4) (hL : fL_nearest Gn ns x1 = (-3)) : zMet l K yL_asks wsL_asks { frames := 1, cells := 0, slots := 0, locals := 25 } [.ref pz, .ref pn, .ref pe, .ref pv, .ref pl, .ref px, .ref ph, .int x1, .int x2] [[(pz, .inl (zI K, 32, .inl Gz))], [(pn, .inl (zI K, 20, .inl Gn))], [(pe, .inl (zI K, 24, .inl Ge))], [(pv, .inl (zI K, 24, .inl Gv))], [(pl, .inl (zI K, 24, .inl Gl))], [(px, .inl (zI K, 24, .inl Gx))], [(ph, .inl (zI K, 24, .inl Gh))]] (some (.int fL_asks_m)) [[(pz, .inl (zI K, 32, .inl Gz))], [(pn, .inl (zI K, 20, .inl Gn))], [(pe, .inl (zI K, 24, .inl Ge))], [(pv, .inl (zI K, 24, .inl Gv))], [(pl, .inl (zI K, 24, .inl Gl))], [(px, .inl (zI K, 24, .inl Gx))], [(ph, .inl (zI K, 24, .inl Gh))]] True zNo := by
  refine zMeN.of (cc := cL_asks) (maxL := 11) (ret := (some .int)) (own := RL) (nm := "asks") hl (by decide +kernel) rfl rfl rfl (Nat.le_of_ble_eq_true rfl) (lv := [(0, .ref pz), (1, .ref pn), (2, .ref pe), (3, .ref pv), (4, .ref pl), (5, .ref px), (6, .ref ph), (7, .int x1), (8, .int x2)]) rfl ?_
  intro p e s m args below meth c A B
  refine z_aload_n B dL_asks_0 1 rfl ?_
  refine z_iload B dL_asks_1 7 rfl ?_
  refine z_S1 B (kL_nearest_m l hl K pn Gn ns x1 hN3 hns hL) [1] [0, 2, 3, 4, 5, 6] (br := [[(pz, .inl (zI K, 32, .inl Gz))], [(pe, .inl (zI K, 24, .inl Ge))], [(pv, .inl (zI K, 24, .inl Gv))], [(pl, .inl (zI K, 24, .inl Gl))], [(px, .inl (zI K, 24, .inl Gx))], [(ph, .inl (zI K, 24, .inl Gh))]]) (bs' := [[(pz, .inl (zI K, 32, .inl Gz))], [(pn, .inl (zI K, 20, .inl Gn))], [(pe, .inl (zI K, 24, .inl Ge))], [(pv, .inl (zI K, 24, .inl Gv))], [(pl, .inl (zI K, 24, .inl Gl))], [(px, .inl (zI K, 24, .inl Gx))], [(ph, .inl (zI K, 24, .inl Gh))]]) (st := []) (nA := 2) (zsp rfl rfl rfl) (zsp rfl rfl rfl) gL_asks_L_nearest rfl (by decide +kernel) ⟨Nat.le_of_ble_eq_true rfl, Nat.le_of_ble_eq_true rfl⟩ rfl rfl (Nat.le_of_ble_eq_true rfl) ⟨Nat.le_of_ble_eq_true rfl, Nat.le_of_ble_eq_true rfl⟩ dL_asks_3 z_noX (fun _ => ?_)
  refine z_istore B (lv' := [(9, .int (-3)), (0, .ref pz), (1, .ref pn), (2, .ref pe), (3, .ref pv), (4, .ref pl), (5, .ref px), (6, .ref ph), (7, .int x1), (8, .int x2)]) dL_asks_6 (by decide) rfl ?_
  refine z_iload B dL_asks_8 0 rfl ?_
  refine z_ifge B 16 dL_asks_10 (by decide) (fun h => absurd h (by decide)) (fun _ => ?_)
  refine z_bipush B (v := (-13)) dL_asks_13 rfl ?_
  have hF : fL_asks_m = (-13) := rfl
  exact z_ret1 B rfl dL_asks_15 () (trivial) (Nat.le_of_ble_eq_true rfl) (Nat.le_of_ble_eq_true rfl) (by rw [hF]) (by rw [hF])
theorem z_lt20 {a : Nat} (h : ¬ 20 ≤ nI a) (ha : a < 24) : vp_in (nI a) 20 := by
  have h2 : ¬ nI 20 ≤ nI a := h
  rw [nI_leI (by decide) (by omega)] at h2
  exact vp_in_nI (by omega) (by decide)
def fL_tries_h_L39 (Gz : Nat → Int32) (Gn : Nat → Int32) (Ge : Nat → Int32) (Gv : Nat → Int32) (Gl : Nat → Int32) (Gx : Nat → Int32) (Gh : Nat → Int32) (i : Nat) (x2 : Int32) : Nat → Nat → (Nat → Int32) → (Nat → Int32) → (Nat → Int32) → (Nat → Int32) → (Nat → Int32) → (Nat → Int32) → Int32
  | 0, a, M1, E1, V1, L1, X1, H1 =>
    ((fL_asks_h Gz Gn Ge Gv Gl Gx Gh i x2).1)
  | n + 1, a, M1, E1, V1, L1, X1, H1 =>
    if 20 ≤ (nI a) then
      fL_tries_h_L39 Gz Gn Ge Gv Gl Gx Gh i x2 n (a + 1) (upd M1 19 (Gn 19)) (upd E1 a (Ge a)) (upd V1 a (Gv a)) (upd L1 a (Gl a)) (upd X1 a (Gx a)) (upd H1 a (Gh a))
    else
      fL_tries_h_L39 Gz Gn Ge Gv Gl Gx Gh i x2 n (a + 1) (upd M1 a (Gn a)) (upd E1 a (Ge a)) (upd V1 a (Gv a)) (upd L1 a (Gl a)) (upd X1 a (Gx a)) (upd H1 a (Gh a))
def fL_tries_h (Gz : Nat → Int32) (Gn : Nat → Int32) (Ge : Nat → Int32) (Gv : Nat → Int32) (Gl : Nat → Int32) (Gx : Nat → Int32) (Gh : Nat → Int32) (i : Nat) (x2 : Int32) : Int32 :=
  fL_tries_h_L39 Gz Gn Ge Gv Gl Gx Gh i x2 24 0 (fun _ => 0) (fun _ => 0) (fun _ => 0) (fun _ => 0) (fun _ => 0) (fun _ => 0)
theorem hwL_tries_arrint : Cond.arrayClass .int ∈ wsL_tries := by decide +kernel
set_option maxHeartbeats 4000000 in
set_option maxRecDepth 100000 in
theorem kL_tries_h_L39 (l : Launch) (hl : l.stackTraces = false) (K : zK) (pz : Nat) (pn : Nat) (pe : Nat) (pv : Nat) (pl : Nat) (px : Nat) (ph : Nat) (Gz : Nat → Int32) (Gn : Nat → Int32) (Ge : Nat → Int32) (Gv : Nat → Int32) (Gl : Nat → Int32) (Gx : Nat → Int32) (Gh : Nat → Int32) (ns : Nat) (i : Nat) (x1 : Int32) (x2 : Int32) (hN3 : (Gn 3) = nI ns) (hns : ns ≤ 4) (hL : fL_nearest Gn ns x1 = nI i) (hi4 : i < 4) (hn : vp_in x2 16) (hz : zwz Gz) (hv : zwV Gv) {p : Program} {e : Env} {s : State} {m : MethodId} {args : Array Value} {below : List Frame} {meth : Method} {c : Code} {A : Nat → Prop} (B : zF K p l s m args meth c A cL_tries 16 RL "tries" wsL_tries (some .int) []) : ∀ (n a : Nat) (cn : Nat) (ce : Nat) (cv : Nat) (cl : Nat) (cx : Nat) (ch : Nat) (M1 : Nat → Int32) (E1 : Nat → Int32) (V1 : Nat → Int32) (L1 : Nat → Int32) (X1 : Nat → Int32) (H1 : Nat → Int32), a + n = 24 → (∀ t, t < a → t < 20 → M1 t = Gn t) → (∀ t, t < a → E1 t = Ge t) → (∀ t, t < a → V1 t = Gv t) → (∀ t, t < a → L1 t = Gl t) → (∀ t, t < a → X1 t = Gx t) → (∀ t, t < a → H1 t = Gh t) → fL_tries_h Gz Gn Ge Gv Gl Gx Gh i x2 = fL_tries_h_L39 Gz Gn Ge Gv Gl Gx Gh i x2 n a M1 E1 V1 L1 X1 H1 → zW K p l e { frames := 4, cells := 8, slots := 152, locals := 119 } s m args below meth c A (vx_MQ below (zQ K A (fun _ : Unit => ((some (.int (fL_tries_h Gz Gn Ge Gv Gl Gx Gh i x2))), [[(pz, .inl (zI K, 32, .inl Gz))], [(pn, .inl (zI K, 20, .inl Gn))], [(pe, .inl (zI K, 24, .inl Ge))], [(pv, .inl (zI K, 24, .inl Gv))], [(pl, .inl (zI K, 24, .inl Gl))], [(px, .inl (zI K, 24, .inl Gx))], [(ph, .inl (zI K, 24, .inl Gh))]])) (fun _ => True)) (zX K A [[(pz, .inl (zI K, 32, .inl Gz))], [(pn, .inl (zI K, 20, .inl Gn))], [(pe, .inl (zI K, 24, .inl Ge))], [(pv, .inl (zI K, 24, .inl Gv))], [(pl, .inl (zI K, 24, .inl Gl))], [(px, .inl (zI K, 24, .inl Gx))], [(ph, .inl (zI K, 24, .inl Gh))]] zNo) args s 8 152 A) 6 140 [[(pz, .inl (zI K, 32, .inl Gz))], [(pn, .inl (zI K, 20, .inl Gn))], [(pe, .inl (zI K, 24, .inl Ge))], [(pv, .inl (zI K, 24, .inl Gv))], [(pl, .inl (zI K, 24, .inl Gl))], [(px, .inl (zI K, 24, .inl Gx))], [(ph, .inl (zI K, 24, .inl Gh))], [(cn, .inl (zI K, 20, .inl M1))], [(ce, .inl (zI K, 24, .inl E1))], [(cv, .inl (zI K, 24, .inl V1))], [(cl, .inl (zI K, 24, .inl L1))], [(cx, .inl (zI K, 24, .inl X1))], [(ch, .inl (zI K, 24, .inl H1))]] [(0, .ref pz), (1, .ref pn), (2, .ref pe), (3, .ref pv), (4, .ref pl), (5, .ref px), (6, .ref ph), (7, .int x1), (8, .int x2), (9, .ref cn), (10, .ref ce), (11, .ref cv), (12, .ref cl), (13, .ref cx), (14, .ref ch), (15, .int (nI a))] [] 39 := by
  intro n
  induction n with
  | zero =>
    intro a cn ce cv cl cx ch M1 E1 V1 L1 X1 H1 ha hM hE1 hV1 hL1 hX1 hH1 hF0
    refine z_iload B dL_tries_39 15 rfl ?_
    refine z_bipush B (v := 24) dL_tries_41 rfl ?_
    refine z_icge B 133 dL_tries_43 (by decide) (fun _ => ?_) (fun h => absurd (z_lge0 ha (by decide)) h)
    refine z_ext B (N := 20) (f := M1) (g := Gn) 7 0 rfl rfl (fun t ht => hM t (by omega) ht) (bs' := [[(pz, .inl (zI K, 32, .inl Gz))], [(pn, .inl (zI K, 20, .inl Gn))], [(pe, .inl (zI K, 24, .inl Ge))], [(pv, .inl (zI K, 24, .inl Gv))], [(pl, .inl (zI K, 24, .inl Gl))], [(px, .inl (zI K, 24, .inl Gx))], [(ph, .inl (zI K, 24, .inl Gh))], [(cn, .inl (zI K, 20, .inl Gn))], [(ce, .inl (zI K, 24, .inl E1))], [(cv, .inl (zI K, 24, .inl V1))], [(cl, .inl (zI K, 24, .inl L1))], [(cx, .inl (zI K, 24, .inl X1))], [(ch, .inl (zI K, 24, .inl H1))]]) rfl ?_
    refine z_ext B (N := 24) (f := E1) (g := Ge) 8 0 rfl rfl (fun t ht => hE1 t (by omega)) (bs' := [[(pz, .inl (zI K, 32, .inl Gz))], [(pn, .inl (zI K, 20, .inl Gn))], [(pe, .inl (zI K, 24, .inl Ge))], [(pv, .inl (zI K, 24, .inl Gv))], [(pl, .inl (zI K, 24, .inl Gl))], [(px, .inl (zI K, 24, .inl Gx))], [(ph, .inl (zI K, 24, .inl Gh))], [(cn, .inl (zI K, 20, .inl Gn))], [(ce, .inl (zI K, 24, .inl Ge))], [(cv, .inl (zI K, 24, .inl V1))], [(cl, .inl (zI K, 24, .inl L1))], [(cx, .inl (zI K, 24, .inl X1))], [(ch, .inl (zI K, 24, .inl H1))]]) rfl ?_
    refine z_ext B (N := 24) (f := V1) (g := Gv) 9 0 rfl rfl (fun t ht => hV1 t (by omega)) (bs' := [[(pz, .inl (zI K, 32, .inl Gz))], [(pn, .inl (zI K, 20, .inl Gn))], [(pe, .inl (zI K, 24, .inl Ge))], [(pv, .inl (zI K, 24, .inl Gv))], [(pl, .inl (zI K, 24, .inl Gl))], [(px, .inl (zI K, 24, .inl Gx))], [(ph, .inl (zI K, 24, .inl Gh))], [(cn, .inl (zI K, 20, .inl Gn))], [(ce, .inl (zI K, 24, .inl Ge))], [(cv, .inl (zI K, 24, .inl Gv))], [(cl, .inl (zI K, 24, .inl L1))], [(cx, .inl (zI K, 24, .inl X1))], [(ch, .inl (zI K, 24, .inl H1))]]) rfl ?_
    refine z_ext B (N := 24) (f := L1) (g := Gl) 10 0 rfl rfl (fun t ht => hL1 t (by omega)) (bs' := [[(pz, .inl (zI K, 32, .inl Gz))], [(pn, .inl (zI K, 20, .inl Gn))], [(pe, .inl (zI K, 24, .inl Ge))], [(pv, .inl (zI K, 24, .inl Gv))], [(pl, .inl (zI K, 24, .inl Gl))], [(px, .inl (zI K, 24, .inl Gx))], [(ph, .inl (zI K, 24, .inl Gh))], [(cn, .inl (zI K, 20, .inl Gn))], [(ce, .inl (zI K, 24, .inl Ge))], [(cv, .inl (zI K, 24, .inl Gv))], [(cl, .inl (zI K, 24, .inl Gl))], [(cx, .inl (zI K, 24, .inl X1))], [(ch, .inl (zI K, 24, .inl H1))]]) rfl ?_
    refine z_ext B (N := 24) (f := X1) (g := Gx) 11 0 rfl rfl (fun t ht => hX1 t (by omega)) (bs' := [[(pz, .inl (zI K, 32, .inl Gz))], [(pn, .inl (zI K, 20, .inl Gn))], [(pe, .inl (zI K, 24, .inl Ge))], [(pv, .inl (zI K, 24, .inl Gv))], [(pl, .inl (zI K, 24, .inl Gl))], [(px, .inl (zI K, 24, .inl Gx))], [(ph, .inl (zI K, 24, .inl Gh))], [(cn, .inl (zI K, 20, .inl Gn))], [(ce, .inl (zI K, 24, .inl Ge))], [(cv, .inl (zI K, 24, .inl Gv))], [(cl, .inl (zI K, 24, .inl Gl))], [(cx, .inl (zI K, 24, .inl Gx))], [(ch, .inl (zI K, 24, .inl H1))]]) rfl ?_
    refine z_ext B (N := 24) (f := H1) (g := Gh) 12 0 rfl rfl (fun t ht => hH1 t (by omega)) (bs' := [[(pz, .inl (zI K, 32, .inl Gz))], [(pn, .inl (zI K, 20, .inl Gn))], [(pe, .inl (zI K, 24, .inl Ge))], [(pv, .inl (zI K, 24, .inl Gv))], [(pl, .inl (zI K, 24, .inl Gl))], [(px, .inl (zI K, 24, .inl Gx))], [(ph, .inl (zI K, 24, .inl Gh))], [(cn, .inl (zI K, 20, .inl Gn))], [(ce, .inl (zI K, 24, .inl Ge))], [(cv, .inl (zI K, 24, .inl Gv))], [(cl, .inl (zI K, 24, .inl Gl))], [(cx, .inl (zI K, 24, .inl Gx))], [(ch, .inl (zI K, 24, .inl Gh))]]) rfl ?_
    refine z_aload_n B dL_tries_133 0 rfl ?_
    refine z_aload B dL_tries_134 9 rfl ?_
    refine z_aload B dL_tries_136 10 rfl ?_
    refine z_aload B dL_tries_138 11 rfl ?_
    refine z_aload B dL_tries_140 12 rfl ?_
    refine z_aload B dL_tries_142 13 rfl ?_
    refine z_aload B dL_tries_144 14 rfl ?_
    refine z_iload B dL_tries_146 7 rfl ?_
    refine z_iload B dL_tries_148 8 rfl ?_
    refine z_S1 B (kL_asks_h l hl K pz cn ce cv cl cx ch Gz Gn Ge Gv Gl Gx Gh ns i x1 x2 hN3 hns hL hi4 hn hz hv) [0, 7, 8, 9, 10, 11, 12] [1, 2, 3, 4, 5, 6] (br := [[(pn, .inl (zI K, 20, .inl Gn))], [(pe, .inl (zI K, 24, .inl Ge))], [(pv, .inl (zI K, 24, .inl Gv))], [(pl, .inl (zI K, 24, .inl Gl))], [(px, .inl (zI K, 24, .inl Gx))], [(ph, .inl (zI K, 24, .inl Gh))]]) (bs' := [[(pz, .inl (zI K, 32, .inl Gz))], [(pn, .inl (zI K, 20, .inl Gn))], [(pe, .inl (zI K, 24, .inl Ge))], [(pv, .inl (zI K, 24, .inl Gv))], [(pl, .inl (zI K, 24, .inl Gl))], [(px, .inl (zI K, 24, .inl Gx))], [(ph, .inl (zI K, 24, .inl Gh))], [(cn, .inl (zI K, 20, .inl ((fL_asks_h Gz Gn Ge Gv Gl Gx Gh i x2).2.1)))], [(ce, .inl (zI K, 24, .inl ((fL_asks_h Gz Gn Ge Gv Gl Gx Gh i x2).2.2.1)))], [(cv, .inl (zI K, 24, .inl ((fL_asks_h Gz Gn Ge Gv Gl Gx Gh i x2).2.2.2.1)))], [(cl, .inl (zI K, 24, .inl ((fL_asks_h Gz Gn Ge Gv Gl Gx Gh i x2).2.2.2.2.1)))], [(cx, .inl (zI K, 24, .inl ((fL_asks_h Gz Gn Ge Gv Gl Gx Gh i x2).2.2.2.2.2.1)))], [(ch, .inl (zI K, 24, .inl ((fL_asks_h Gz Gn Ge Gv Gl Gx Gh i x2).2.2.2.2.2.2)))]]) (st := []) (nA := 9) (zsp rfl rfl rfl) (zsp rfl rfl rfl) gL_tries_L_asks rfl (by decide +kernel) ⟨Nat.le_of_ble_eq_true rfl, Nat.le_of_ble_eq_true rfl⟩ rfl rfl (Nat.le_of_ble_eq_true rfl) ⟨Nat.le_of_ble_eq_true rfl, Nat.le_of_ble_eq_true rfl⟩ dL_tries_150 z_noX (fun _ => ?_)
    refine z_drop (bc := [[(pz, .inl (zI K, 32, .inl Gz))], [(pn, .inl (zI K, 20, .inl Gn))], [(pe, .inl (zI K, 24, .inl Ge))], [(pv, .inl (zI K, 24, .inl Gv))], [(pl, .inl (zI K, 24, .inl Gl))], [(px, .inl (zI K, 24, .inl Gx))], [(ph, .inl (zI K, 24, .inl Gh))]]) (br := [[(cn, .inl (zI K, 20, .inl ((fL_asks_h Gz Gn Ge Gv Gl Gx Gh i x2).2.1)))], [(ce, .inl (zI K, 24, .inl ((fL_asks_h Gz Gn Ge Gv Gl Gx Gh i x2).2.2.1)))], [(cv, .inl (zI K, 24, .inl ((fL_asks_h Gz Gn Ge Gv Gl Gx Gh i x2).2.2.2.1)))], [(cl, .inl (zI K, 24, .inl ((fL_asks_h Gz Gn Ge Gv Gl Gx Gh i x2).2.2.2.2.1)))], [(cx, .inl (zI K, 24, .inl ((fL_asks_h Gz Gn Ge Gv Gl Gx Gh i x2).2.2.2.2.2.1)))], [(ch, .inl (zI K, 24, .inl ((fL_asks_h Gz Gn Ge Gv Gl Gx Gh i x2).2.2.2.2.2.2)))]]) (isC := [0, 1, 2, 3, 4, 5, 6]) (isR := [7, 8, 9, 10, 11, 12]) (zsp rfl rfl rfl) ?_
    have hF : fL_tries_h Gz Gn Ge Gv Gl Gx Gh i x2 = ((fL_asks_h Gz Gn Ge Gv Gl Gx Gh i x2).1) := hF0
    exact z_ret1 B rfl dL_tries_153 () (trivial) (Nat.le_of_ble_eq_true rfl) (Nat.le_of_ble_eq_true rfl) (by rw [hF]) (by rw [hF])
  | succ n ih =>
    intro a cn ce cv cl cx ch M1 E1 V1 L1 X1 H1 ha hM hE1 hV1 hL1 hX1 hH1 hF0
    refine z_iload B dL_tries_39 15 rfl ?_
    refine z_bipush B (v := 24) dL_tries_41 rfl ?_
    refine z_icge B 133 dL_tries_43 (by decide) (fun h => absurd h (z_lgeS ha (by decide))) (fun _ => ?_)
    refine z_aload B dL_tries_46 9 rfl ?_
    refine z_iload B dL_tries_48 15 rfl ?_
    refine z_bipush B (v := 20) dL_tries_50 rfl ?_
    refine z_icge B 60 dL_tries_52 (by decide) (fun c7 => ?_) (fun c7 => ?_)
    · refine z_bipush B (v := 19) dL_tries_60 rfl ?_
      refine z_aload_n B dL_tries_62 1 rfl ?_
      refine z_iload B dL_tries_63 15 rfl ?_
      refine z_bipush B (v := 20) dL_tries_65 rfl ?_
      refine z_icge B 75 dL_tries_67 (by decide) (fun _ => ?_) (fun h => absurd c7 h)
      refine z_bipush B (v := 19) dL_tries_75 rfl ?_
      refine z_ialdn B (N := 20) (f := Gn) (k0 := 19) (v := (Gn 19)) 1 0 rfl rfl (z_vpc (k := 19) rfl (by decide)) rfl rfl dL_tries_77 ?_
      refine z_iastn B (N := 20) (f := M1) (k0 := 19) 7 0 rfl rfl (z_vpc (k := 19) rfl (by decide)) rfl (bs' := [[(pz, .inl (zI K, 32, .inl Gz))], [(pn, .inl (zI K, 20, .inl Gn))], [(pe, .inl (zI K, 24, .inl Ge))], [(pv, .inl (zI K, 24, .inl Gv))], [(pl, .inl (zI K, 24, .inl Gl))], [(px, .inl (zI K, 24, .inl Gx))], [(ph, .inl (zI K, 24, .inl Gh))], [(cn, .inl (zI K, 20, .inl (upd M1 19 (Gn 19))))], [(ce, .inl (zI K, 24, .inl E1))], [(cv, .inl (zI K, 24, .inl V1))], [(cl, .inl (zI K, 24, .inl L1))], [(cx, .inl (zI K, 24, .inl X1))], [(ch, .inl (zI K, 24, .inl H1))]]) rfl dL_tries_78 ?_
      refine z_aload B dL_tries_79 10 rfl ?_
      refine z_iload B dL_tries_81 15 rfl ?_
      refine z_aload_n B dL_tries_83 2 rfl ?_
      refine z_iload B dL_tries_84 15 rfl ?_
      refine z_ialdn B (N := 24) (f := Ge) (k0 := a) (v := (Ge a)) 2 0 rfl rfl (z_nIr (by omega) (by decide)) (nI_clamp (by omega)) rfl dL_tries_86 ?_
      refine z_iastn B (N := 24) (f := E1) (k0 := a) 8 0 rfl rfl (z_nIr (by omega) (by decide)) (nI_clamp (by omega)) (bs' := [[(pz, .inl (zI K, 32, .inl Gz))], [(pn, .inl (zI K, 20, .inl Gn))], [(pe, .inl (zI K, 24, .inl Ge))], [(pv, .inl (zI K, 24, .inl Gv))], [(pl, .inl (zI K, 24, .inl Gl))], [(px, .inl (zI K, 24, .inl Gx))], [(ph, .inl (zI K, 24, .inl Gh))], [(cn, .inl (zI K, 20, .inl (upd M1 19 (Gn 19))))], [(ce, .inl (zI K, 24, .inl (upd E1 a (Ge a))))], [(cv, .inl (zI K, 24, .inl V1))], [(cl, .inl (zI K, 24, .inl L1))], [(cx, .inl (zI K, 24, .inl X1))], [(ch, .inl (zI K, 24, .inl H1))]]) rfl dL_tries_87 ?_
      refine z_aload B dL_tries_88 11 rfl ?_
      refine z_iload B dL_tries_90 15 rfl ?_
      refine z_aload_n B dL_tries_92 3 rfl ?_
      refine z_iload B dL_tries_93 15 rfl ?_
      refine z_ialdn B (N := 24) (f := Gv) (k0 := a) (v := (Gv a)) 3 0 rfl rfl (z_nIr (by omega) (by decide)) (nI_clamp (by omega)) rfl dL_tries_95 ?_
      refine z_iastn B (N := 24) (f := V1) (k0 := a) 9 0 rfl rfl (z_nIr (by omega) (by decide)) (nI_clamp (by omega)) (bs' := [[(pz, .inl (zI K, 32, .inl Gz))], [(pn, .inl (zI K, 20, .inl Gn))], [(pe, .inl (zI K, 24, .inl Ge))], [(pv, .inl (zI K, 24, .inl Gv))], [(pl, .inl (zI K, 24, .inl Gl))], [(px, .inl (zI K, 24, .inl Gx))], [(ph, .inl (zI K, 24, .inl Gh))], [(cn, .inl (zI K, 20, .inl (upd M1 19 (Gn 19))))], [(ce, .inl (zI K, 24, .inl (upd E1 a (Ge a))))], [(cv, .inl (zI K, 24, .inl (upd V1 a (Gv a))))], [(cl, .inl (zI K, 24, .inl L1))], [(cx, .inl (zI K, 24, .inl X1))], [(ch, .inl (zI K, 24, .inl H1))]]) rfl dL_tries_96 ?_
      refine z_aload B dL_tries_97 12 rfl ?_
      refine z_iload B dL_tries_99 15 rfl ?_
      refine z_aload B dL_tries_101 4 rfl ?_
      refine z_iload B dL_tries_103 15 rfl ?_
      refine z_ialdn B (N := 24) (f := Gl) (k0 := a) (v := (Gl a)) 4 0 rfl rfl (z_nIr (by omega) (by decide)) (nI_clamp (by omega)) rfl dL_tries_105 ?_
      refine z_iastn B (N := 24) (f := L1) (k0 := a) 10 0 rfl rfl (z_nIr (by omega) (by decide)) (nI_clamp (by omega)) (bs' := [[(pz, .inl (zI K, 32, .inl Gz))], [(pn, .inl (zI K, 20, .inl Gn))], [(pe, .inl (zI K, 24, .inl Ge))], [(pv, .inl (zI K, 24, .inl Gv))], [(pl, .inl (zI K, 24, .inl Gl))], [(px, .inl (zI K, 24, .inl Gx))], [(ph, .inl (zI K, 24, .inl Gh))], [(cn, .inl (zI K, 20, .inl (upd M1 19 (Gn 19))))], [(ce, .inl (zI K, 24, .inl (upd E1 a (Ge a))))], [(cv, .inl (zI K, 24, .inl (upd V1 a (Gv a))))], [(cl, .inl (zI K, 24, .inl (upd L1 a (Gl a))))], [(cx, .inl (zI K, 24, .inl X1))], [(ch, .inl (zI K, 24, .inl H1))]]) rfl dL_tries_106 ?_
      refine z_aload B dL_tries_107 13 rfl ?_
      refine z_iload B dL_tries_109 15 rfl ?_
      refine z_aload B dL_tries_111 5 rfl ?_
      refine z_iload B dL_tries_113 15 rfl ?_
      refine z_ialdn B (N := 24) (f := Gx) (k0 := a) (v := (Gx a)) 5 0 rfl rfl (z_nIr (by omega) (by decide)) (nI_clamp (by omega)) rfl dL_tries_115 ?_
      refine z_iastn B (N := 24) (f := X1) (k0 := a) 11 0 rfl rfl (z_nIr (by omega) (by decide)) (nI_clamp (by omega)) (bs' := [[(pz, .inl (zI K, 32, .inl Gz))], [(pn, .inl (zI K, 20, .inl Gn))], [(pe, .inl (zI K, 24, .inl Ge))], [(pv, .inl (zI K, 24, .inl Gv))], [(pl, .inl (zI K, 24, .inl Gl))], [(px, .inl (zI K, 24, .inl Gx))], [(ph, .inl (zI K, 24, .inl Gh))], [(cn, .inl (zI K, 20, .inl (upd M1 19 (Gn 19))))], [(ce, .inl (zI K, 24, .inl (upd E1 a (Ge a))))], [(cv, .inl (zI K, 24, .inl (upd V1 a (Gv a))))], [(cl, .inl (zI K, 24, .inl (upd L1 a (Gl a))))], [(cx, .inl (zI K, 24, .inl (upd X1 a (Gx a))))], [(ch, .inl (zI K, 24, .inl H1))]]) rfl dL_tries_116 ?_
      refine z_aload B dL_tries_117 14 rfl ?_
      refine z_iload B dL_tries_119 15 rfl ?_
      refine z_aload B dL_tries_121 6 rfl ?_
      refine z_iload B dL_tries_123 15 rfl ?_
      refine z_ialdn B (N := 24) (f := Gh) (k0 := a) (v := (Gh a)) 6 0 rfl rfl (z_nIr (by omega) (by decide)) (nI_clamp (by omega)) rfl dL_tries_125 ?_
      refine z_iastn B (N := 24) (f := H1) (k0 := a) 12 0 rfl rfl (z_nIr (by omega) (by decide)) (nI_clamp (by omega)) (bs' := [[(pz, .inl (zI K, 32, .inl Gz))], [(pn, .inl (zI K, 20, .inl Gn))], [(pe, .inl (zI K, 24, .inl Ge))], [(pv, .inl (zI K, 24, .inl Gv))], [(pl, .inl (zI K, 24, .inl Gl))], [(px, .inl (zI K, 24, .inl Gx))], [(ph, .inl (zI K, 24, .inl Gh))], [(cn, .inl (zI K, 20, .inl (upd M1 19 (Gn 19))))], [(ce, .inl (zI K, 24, .inl (upd E1 a (Ge a))))], [(cv, .inl (zI K, 24, .inl (upd V1 a (Gv a))))], [(cl, .inl (zI K, 24, .inl (upd L1 a (Gl a))))], [(cx, .inl (zI K, 24, .inl (upd X1 a (Gx a))))], [(ch, .inl (zI K, 24, .inl (upd H1 a (Gh a))))]]) rfl dL_tries_126 ?_
      refine z_iinc B (v := nI (a + 1)) (lv' := [(15, .int (nI (a + 1))), (0, .ref pz), (1, .ref pn), (2, .ref pe), (3, .ref pv), (4, .ref pl), (5, .ref px), (6, .ref ph), (7, .int x1), (8, .int x2), (9, .ref cn), (10, .ref ce), (11, .ref cv), (12, .ref cl), (13, .ref cx), (14, .ref ch)]) dL_tries_127 15 rfl (nI_1 a) (by decide) rfl ?_
      refine z_goto B (tgt := 39) dL_tries_130 (by decide) ?_
      refine z_lsub [1, 2, 3, 4, 5, 6, 7, 8, 9, 10, 11, 12, 13, 14, 15, 0] rfl ?_
      have hF : fL_tries_h Gz Gn Ge Gv Gl Gx Gh i x2 = fL_tries_h_L39 Gz Gn Ge Gv Gl Gx Gh i x2 n (a + 1) (upd M1 19 (Gn 19)) (upd E1 a (Ge a)) (upd V1 a (Gv a)) (upd L1 a (Gl a)) (upd X1 a (Gx a)) (upd H1 a (Gh a)) := (hF0).trans (if_pos c7)
      exact ih (a + 1) cn ce cv cl cx ch (upd M1 19 (Gn 19)) (upd E1 a (Ge a)) (upd V1 a (Gv a)) (upd L1 a (Gl a)) (upd X1 a (Gx a)) (upd H1 a (Gh a)) (by omega) (z_cpM hM (z_ge20 c7 (by omega))) (z_cpS hE1) (z_cpS hV1) (z_cpS hL1) (z_cpS hX1) (z_cpS hH1) hF
    · refine z_iload B dL_tries_55 15 rfl ?_
      refine z_goto B (tgt := 62) dL_tries_57 (by decide) ?_
      refine z_aload_n B dL_tries_62 1 rfl ?_
      refine z_iload B dL_tries_63 15 rfl ?_
      refine z_bipush B (v := 20) dL_tries_65 rfl ?_
      refine z_icge B 75 dL_tries_67 (by decide) (fun h => absurd h c7) (fun _ => ?_)
      refine z_iload B dL_tries_70 15 rfl ?_
      refine z_goto B (tgt := 77) dL_tries_72 (by decide) ?_
      refine z_ialdn B (N := 20) (f := Gn) (k0 := a) (v := (Gn a)) 1 0 rfl rfl (z_lt20 c7 (by omega)) (nI_clamp (by omega)) rfl dL_tries_77 ?_
      refine z_iastn B (N := 20) (f := M1) (k0 := a) 7 0 rfl rfl (z_lt20 c7 (by omega)) (nI_clamp (by omega)) (bs' := [[(pz, .inl (zI K, 32, .inl Gz))], [(pn, .inl (zI K, 20, .inl Gn))], [(pe, .inl (zI K, 24, .inl Ge))], [(pv, .inl (zI K, 24, .inl Gv))], [(pl, .inl (zI K, 24, .inl Gl))], [(px, .inl (zI K, 24, .inl Gx))], [(ph, .inl (zI K, 24, .inl Gh))], [(cn, .inl (zI K, 20, .inl (upd M1 a (Gn a))))], [(ce, .inl (zI K, 24, .inl E1))], [(cv, .inl (zI K, 24, .inl V1))], [(cl, .inl (zI K, 24, .inl L1))], [(cx, .inl (zI K, 24, .inl X1))], [(ch, .inl (zI K, 24, .inl H1))]]) rfl dL_tries_78 ?_
      refine z_aload B dL_tries_79 10 rfl ?_
      refine z_iload B dL_tries_81 15 rfl ?_
      refine z_aload_n B dL_tries_83 2 rfl ?_
      refine z_iload B dL_tries_84 15 rfl ?_
      refine z_ialdn B (N := 24) (f := Ge) (k0 := a) (v := (Ge a)) 2 0 rfl rfl (z_nIr (by omega) (by decide)) (nI_clamp (by omega)) rfl dL_tries_86 ?_
      refine z_iastn B (N := 24) (f := E1) (k0 := a) 8 0 rfl rfl (z_nIr (by omega) (by decide)) (nI_clamp (by omega)) (bs' := [[(pz, .inl (zI K, 32, .inl Gz))], [(pn, .inl (zI K, 20, .inl Gn))], [(pe, .inl (zI K, 24, .inl Ge))], [(pv, .inl (zI K, 24, .inl Gv))], [(pl, .inl (zI K, 24, .inl Gl))], [(px, .inl (zI K, 24, .inl Gx))], [(ph, .inl (zI K, 24, .inl Gh))], [(cn, .inl (zI K, 20, .inl (upd M1 a (Gn a))))], [(ce, .inl (zI K, 24, .inl (upd E1 a (Ge a))))], [(cv, .inl (zI K, 24, .inl V1))], [(cl, .inl (zI K, 24, .inl L1))], [(cx, .inl (zI K, 24, .inl X1))], [(ch, .inl (zI K, 24, .inl H1))]]) rfl dL_tries_87 ?_
      refine z_aload B dL_tries_88 11 rfl ?_
      refine z_iload B dL_tries_90 15 rfl ?_
      refine z_aload_n B dL_tries_92 3 rfl ?_
      refine z_iload B dL_tries_93 15 rfl ?_
      refine z_ialdn B (N := 24) (f := Gv) (k0 := a) (v := (Gv a)) 3 0 rfl rfl (z_nIr (by omega) (by decide)) (nI_clamp (by omega)) rfl dL_tries_95 ?_
      refine z_iastn B (N := 24) (f := V1) (k0 := a) 9 0 rfl rfl (z_nIr (by omega) (by decide)) (nI_clamp (by omega)) (bs' := [[(pz, .inl (zI K, 32, .inl Gz))], [(pn, .inl (zI K, 20, .inl Gn))], [(pe, .inl (zI K, 24, .inl Ge))], [(pv, .inl (zI K, 24, .inl Gv))], [(pl, .inl (zI K, 24, .inl Gl))], [(px, .inl (zI K, 24, .inl Gx))], [(ph, .inl (zI K, 24, .inl Gh))], [(cn, .inl (zI K, 20, .inl (upd M1 a (Gn a))))], [(ce, .inl (zI K, 24, .inl (upd E1 a (Ge a))))], [(cv, .inl (zI K, 24, .inl (upd V1 a (Gv a))))], [(cl, .inl (zI K, 24, .inl L1))], [(cx, .inl (zI K, 24, .inl X1))], [(ch, .inl (zI K, 24, .inl H1))]]) rfl dL_tries_96 ?_
      refine z_aload B dL_tries_97 12 rfl ?_
      refine z_iload B dL_tries_99 15 rfl ?_
      refine z_aload B dL_tries_101 4 rfl ?_
      refine z_iload B dL_tries_103 15 rfl ?_
      refine z_ialdn B (N := 24) (f := Gl) (k0 := a) (v := (Gl a)) 4 0 rfl rfl (z_nIr (by omega) (by decide)) (nI_clamp (by omega)) rfl dL_tries_105 ?_
      refine z_iastn B (N := 24) (f := L1) (k0 := a) 10 0 rfl rfl (z_nIr (by omega) (by decide)) (nI_clamp (by omega)) (bs' := [[(pz, .inl (zI K, 32, .inl Gz))], [(pn, .inl (zI K, 20, .inl Gn))], [(pe, .inl (zI K, 24, .inl Ge))], [(pv, .inl (zI K, 24, .inl Gv))], [(pl, .inl (zI K, 24, .inl Gl))], [(px, .inl (zI K, 24, .inl Gx))], [(ph, .inl (zI K, 24, .inl Gh))], [(cn, .inl (zI K, 20, .inl (upd M1 a (Gn a))))], [(ce, .inl (zI K, 24, .inl (upd E1 a (Ge a))))], [(cv, .inl (zI K, 24, .inl (upd V1 a (Gv a))))], [(cl, .inl (zI K, 24, .inl (upd L1 a (Gl a))))], [(cx, .inl (zI K, 24, .inl X1))], [(ch, .inl (zI K, 24, .inl H1))]]) rfl dL_tries_106 ?_
      refine z_aload B dL_tries_107 13 rfl ?_
      refine z_iload B dL_tries_109 15 rfl ?_
      refine z_aload B dL_tries_111 5 rfl ?_
      refine z_iload B dL_tries_113 15 rfl ?_
      refine z_ialdn B (N := 24) (f := Gx) (k0 := a) (v := (Gx a)) 5 0 rfl rfl (z_nIr (by omega) (by decide)) (nI_clamp (by omega)) rfl dL_tries_115 ?_
      refine z_iastn B (N := 24) (f := X1) (k0 := a) 11 0 rfl rfl (z_nIr (by omega) (by decide)) (nI_clamp (by omega)) (bs' := [[(pz, .inl (zI K, 32, .inl Gz))], [(pn, .inl (zI K, 20, .inl Gn))], [(pe, .inl (zI K, 24, .inl Ge))], [(pv, .inl (zI K, 24, .inl Gv))], [(pl, .inl (zI K, 24, .inl Gl))], [(px, .inl (zI K, 24, .inl Gx))], [(ph, .inl (zI K, 24, .inl Gh))], [(cn, .inl (zI K, 20, .inl (upd M1 a (Gn a))))], [(ce, .inl (zI K, 24, .inl (upd E1 a (Ge a))))], [(cv, .inl (zI K, 24, .inl (upd V1 a (Gv a))))], [(cl, .inl (zI K, 24, .inl (upd L1 a (Gl a))))], [(cx, .inl (zI K, 24, .inl (upd X1 a (Gx a))))], [(ch, .inl (zI K, 24, .inl H1))]]) rfl dL_tries_116 ?_
      refine z_aload B dL_tries_117 14 rfl ?_
      refine z_iload B dL_tries_119 15 rfl ?_
      refine z_aload B dL_tries_121 6 rfl ?_
      refine z_iload B dL_tries_123 15 rfl ?_
      refine z_ialdn B (N := 24) (f := Gh) (k0 := a) (v := (Gh a)) 6 0 rfl rfl (z_nIr (by omega) (by decide)) (nI_clamp (by omega)) rfl dL_tries_125 ?_
      refine z_iastn B (N := 24) (f := H1) (k0 := a) 12 0 rfl rfl (z_nIr (by omega) (by decide)) (nI_clamp (by omega)) (bs' := [[(pz, .inl (zI K, 32, .inl Gz))], [(pn, .inl (zI K, 20, .inl Gn))], [(pe, .inl (zI K, 24, .inl Ge))], [(pv, .inl (zI K, 24, .inl Gv))], [(pl, .inl (zI K, 24, .inl Gl))], [(px, .inl (zI K, 24, .inl Gx))], [(ph, .inl (zI K, 24, .inl Gh))], [(cn, .inl (zI K, 20, .inl (upd M1 a (Gn a))))], [(ce, .inl (zI K, 24, .inl (upd E1 a (Ge a))))], [(cv, .inl (zI K, 24, .inl (upd V1 a (Gv a))))], [(cl, .inl (zI K, 24, .inl (upd L1 a (Gl a))))], [(cx, .inl (zI K, 24, .inl (upd X1 a (Gx a))))], [(ch, .inl (zI K, 24, .inl (upd H1 a (Gh a))))]]) rfl dL_tries_126 ?_
      refine z_iinc B (v := nI (a + 1)) (lv' := [(15, .int (nI (a + 1))), (0, .ref pz), (1, .ref pn), (2, .ref pe), (3, .ref pv), (4, .ref pl), (5, .ref px), (6, .ref ph), (7, .int x1), (8, .int x2), (9, .ref cn), (10, .ref ce), (11, .ref cv), (12, .ref cl), (13, .ref cx), (14, .ref ch)]) dL_tries_127 15 rfl (nI_1 a) (by decide) rfl ?_
      refine z_goto B (tgt := 39) dL_tries_130 (by decide) ?_
      refine z_lsub [1, 2, 3, 4, 5, 6, 7, 8, 9, 10, 11, 12, 13, 14, 15, 0] rfl ?_
      have hF : fL_tries_h Gz Gn Ge Gv Gl Gx Gh i x2 = fL_tries_h_L39 Gz Gn Ge Gv Gl Gx Gh i x2 n (a + 1) (upd M1 a (Gn a)) (upd E1 a (Ge a)) (upd V1 a (Gv a)) (upd L1 a (Gl a)) (upd X1 a (Gx a)) (upd H1 a (Gh a)) := (hF0).trans (if_neg c7)
      exact ih (a + 1) cn ce cv cl cx ch (upd M1 a (Gn a)) (upd E1 a (Ge a)) (upd V1 a (Gv a)) (upd L1 a (Gl a)) (upd X1 a (Gx a)) (upd H1 a (Gh a)) (by omega) (z_cpN hM) (z_cpS hE1) (z_cpS hV1) (z_cpS hL1) (z_cpS hX1) (z_cpS hH1) hF
set_option maxHeartbeats 4000000 in
set_option maxRecDepth 100000 in
theorem kL_tries_h (l : Launch) (hl : l.stackTraces = false) (K : zK) (pz : Nat) (pn : Nat) (pe : Nat) (pv : Nat) (pl : Nat) (px : Nat) (ph : Nat) (Gz : Nat → Int32) (Gn : Nat → Int32) (Ge : Nat → Int32) (Gv : Nat → Int32) (Gl : Nat → Int32) (Gx : Nat → Int32) (Gh : Nat → Int32) (ns : Nat) (i : Nat) (x1 : Int32) (x2 : Int32) (hN3 : (Gn 3) = nI ns) (hns : ns ≤ 4) (hL : fL_nearest Gn ns x1 = nI i) (hi4 : i < 4) (hn : vp_in x2 16) (hz : zwz Gz) (hv : zwV Gv) : zMet l K yL_tries wsL_tries { frames := 4, cells := 8, slots := 152, locals := 119 } [.ref pz, .ref pn, .ref pe, .ref pv, .ref pl, .ref px, .ref ph, .int x1, .int x2] [[(pz, .inl (zI K, 32, .inl Gz))], [(pn, .inl (zI K, 20, .inl Gn))], [(pe, .inl (zI K, 24, .inl Ge))], [(pv, .inl (zI K, 24, .inl Gv))], [(pl, .inl (zI K, 24, .inl Gl))], [(px, .inl (zI K, 24, .inl Gx))], [(ph, .inl (zI K, 24, .inl Gh))]] (some (.int (fL_tries_h Gz Gn Ge Gv Gl Gx Gh i x2))) [[(pz, .inl (zI K, 32, .inl Gz))], [(pn, .inl (zI K, 20, .inl Gn))], [(pe, .inl (zI K, 24, .inl Ge))], [(pv, .inl (zI K, 24, .inl Gv))], [(pl, .inl (zI K, 24, .inl Gl))], [(px, .inl (zI K, 24, .inl Gx))], [(ph, .inl (zI K, 24, .inl Gh))]] True zNo := by
  refine zMeN.of (cc := cL_tries) (maxL := 16) (ret := (some .int)) (own := RL) (nm := "tries") hl (by decide +kernel) rfl rfl rfl (Nat.le_of_ble_eq_true rfl) (lv := [(0, .ref pz), (1, .ref pn), (2, .ref pe), (3, .ref pv), (4, .ref pl), (5, .ref px), (6, .ref ph), (7, .int x1), (8, .int x2)]) rfl ?_
  intro p e s m args below meth c A B
  refine z_bipush B (v := 20) dL_tries_0 rfl ?_
  refine z_newI B hwL_tries_arrint (N := 20) (by decide) rfl (by decide) (Nat.le_of_ble_eq_true rfl) (Nat.le_of_ble_eq_true rfl) dL_tries_2 (fun q1 => ?_)
  refine z_astore B (lv' := [(9, .ref q1), (0, .ref pz), (1, .ref pn), (2, .ref pe), (3, .ref pv), (4, .ref pl), (5, .ref px), (6, .ref ph), (7, .int x1), (8, .int x2)]) dL_tries_4 (by decide) rfl ?_
  refine z_bipush B (v := 24) dL_tries_6 rfl ?_
  refine z_newI B hwL_tries_arrint (N := 24) (by decide) rfl (by decide) (Nat.le_of_ble_eq_true rfl) (Nat.le_of_ble_eq_true rfl) dL_tries_8 (fun q2 => ?_)
  refine z_astore B (lv' := [(10, .ref q2), (9, .ref q1), (0, .ref pz), (1, .ref pn), (2, .ref pe), (3, .ref pv), (4, .ref pl), (5, .ref px), (6, .ref ph), (7, .int x1), (8, .int x2)]) dL_tries_10 (by decide) rfl ?_
  refine z_bipush B (v := 24) dL_tries_12 rfl ?_
  refine z_newI B hwL_tries_arrint (N := 24) (by decide) rfl (by decide) (Nat.le_of_ble_eq_true rfl) (Nat.le_of_ble_eq_true rfl) dL_tries_14 (fun q3 => ?_)
  refine z_astore B (lv' := [(11, .ref q3), (10, .ref q2), (9, .ref q1), (0, .ref pz), (1, .ref pn), (2, .ref pe), (3, .ref pv), (4, .ref pl), (5, .ref px), (6, .ref ph), (7, .int x1), (8, .int x2)]) dL_tries_16 (by decide) rfl ?_
  refine z_bipush B (v := 24) dL_tries_18 rfl ?_
  refine z_newI B hwL_tries_arrint (N := 24) (by decide) rfl (by decide) (Nat.le_of_ble_eq_true rfl) (Nat.le_of_ble_eq_true rfl) dL_tries_20 (fun q4 => ?_)
  refine z_astore B (lv' := [(12, .ref q4), (11, .ref q3), (10, .ref q2), (9, .ref q1), (0, .ref pz), (1, .ref pn), (2, .ref pe), (3, .ref pv), (4, .ref pl), (5, .ref px), (6, .ref ph), (7, .int x1), (8, .int x2)]) dL_tries_22 (by decide) rfl ?_
  refine z_bipush B (v := 24) dL_tries_24 rfl ?_
  refine z_newI B hwL_tries_arrint (N := 24) (by decide) rfl (by decide) (Nat.le_of_ble_eq_true rfl) (Nat.le_of_ble_eq_true rfl) dL_tries_26 (fun q5 => ?_)
  refine z_astore B (lv' := [(13, .ref q5), (12, .ref q4), (11, .ref q3), (10, .ref q2), (9, .ref q1), (0, .ref pz), (1, .ref pn), (2, .ref pe), (3, .ref pv), (4, .ref pl), (5, .ref px), (6, .ref ph), (7, .int x1), (8, .int x2)]) dL_tries_28 (by decide) rfl ?_
  refine z_bipush B (v := 24) dL_tries_30 rfl ?_
  refine z_newI B hwL_tries_arrint (N := 24) (by decide) rfl (by decide) (Nat.le_of_ble_eq_true rfl) (Nat.le_of_ble_eq_true rfl) dL_tries_32 (fun q6 => ?_)
  refine z_astore B (lv' := [(14, .ref q6), (13, .ref q5), (12, .ref q4), (11, .ref q3), (10, .ref q2), (9, .ref q1), (0, .ref pz), (1, .ref pn), (2, .ref pe), (3, .ref pv), (4, .ref pl), (5, .ref px), (6, .ref ph), (7, .int x1), (8, .int x2)]) dL_tries_34 (by decide) rfl ?_
  refine z_iconst B (v := 0) dL_tries_36 rfl ?_
  refine z_istore B (lv' := [(15, .int 0), (14, .ref q6), (13, .ref q5), (12, .ref q4), (11, .ref q3), (10, .ref q2), (9, .ref q1), (0, .ref pz), (1, .ref pn), (2, .ref pe), (3, .ref pv), (4, .ref pl), (5, .ref px), (6, .ref ph), (7, .int x1), (8, .int x2)]) dL_tries_37 (by decide) rfl ?_
  refine z_lsub [7, 8, 9, 10, 11, 12, 13, 14, 15, 6, 5, 4, 3, 2, 1, 0] rfl ?_
  have hF : fL_tries_h Gz Gn Ge Gv Gl Gx Gh i x2 = fL_tries_h_L39 Gz Gn Ge Gv Gl Gx Gh i x2 24 0 (fun _ => 0) (fun _ => 0) (fun _ => 0) (fun _ => 0) (fun _ => 0) (fun _ => 0) := rfl
  exact kL_tries_h_L39 l hl K pz pn pe pv pl px ph Gz Gn Ge Gv Gl Gx Gh ns i x1 x2 hN3 hns hL hi4 hn hz hv B 24 0 q1 q2 q3 q4 q5 q6 (fun _ => 0) (fun _ => 0) (fun _ => 0) (fun _ => 0) (fun _ => 0) (fun _ => 0) (by omega) (fun t h => absurd h (Nat.not_lt_zero t)) (fun t h => absurd h (Nat.not_lt_zero t)) (fun t h => absurd h (Nat.not_lt_zero t)) (fun t h => absurd h (Nat.not_lt_zero t)) (fun t h => absurd h (Nat.not_lt_zero t)) (fun t h => absurd h (Nat.not_lt_zero t)) hF
def fL_tries_m_L39 (Gz : Nat → Int32) (Gn : Nat → Int32) (Ge : Nat → Int32) (Gv : Nat → Int32) (Gl : Nat → Int32) (Gx : Nat → Int32) (Gh : Nat → Int32) : Nat → Nat → (Nat → Int32) → (Nat → Int32) → (Nat → Int32) → (Nat → Int32) → (Nat → Int32) → (Nat → Int32) → Int32
  | 0, a, M1, E1, V1, L1, X1, H1 =>
    fL_asks_m
  | n + 1, a, M1, E1, V1, L1, X1, H1 =>
    if 20 ≤ (nI a) then
      fL_tries_m_L39 Gz Gn Ge Gv Gl Gx Gh n (a + 1) (upd M1 19 (Gn 19)) (upd E1 a (Ge a)) (upd V1 a (Gv a)) (upd L1 a (Gl a)) (upd X1 a (Gx a)) (upd H1 a (Gh a))
    else
      fL_tries_m_L39 Gz Gn Ge Gv Gl Gx Gh n (a + 1) (upd M1 a (Gn a)) (upd E1 a (Ge a)) (upd V1 a (Gv a)) (upd L1 a (Gl a)) (upd X1 a (Gx a)) (upd H1 a (Gh a))
def fL_tries_m (Gz : Nat → Int32) (Gn : Nat → Int32) (Ge : Nat → Int32) (Gv : Nat → Int32) (Gl : Nat → Int32) (Gx : Nat → Int32) (Gh : Nat → Int32) : Int32 :=
  fL_tries_m_L39 Gz Gn Ge Gv Gl Gx Gh 24 0 (fun _ => 0) (fun _ => 0) (fun _ => 0) (fun _ => 0) (fun _ => 0) (fun _ => 0)
set_option maxHeartbeats 4000000 in
set_option maxRecDepth 100000 in
theorem kL_tries_m_L39 (l : Launch) (hl : l.stackTraces = false) (K : zK) (pz : Nat) (pn : Nat) (pe : Nat) (pv : Nat) (pl : Nat) (px : Nat) (ph : Nat) (Gz : Nat → Int32) (Gn : Nat → Int32) (Ge : Nat → Int32) (Gv : Nat → Int32) (Gl : Nat → Int32) (Gx : Nat → Int32) (Gh : Nat → Int32) (ns : Nat) (x1 : Int32) (x2 : Int32) (hN3 : (Gn 3) = nI ns) (hns : ns ≤ 4) (hL : fL_nearest Gn ns x1 = (-3)) {p : Program} {e : Env} {s : State} {m : MethodId} {args : Array Value} {below : List Frame} {meth : Method} {c : Code} {A : Nat → Prop} (B : zF K p l s m args meth c A cL_tries 16 RL "tries" wsL_tries (some .int) []) : ∀ (n a : Nat) (cn : Nat) (ce : Nat) (cv : Nat) (cl : Nat) (cx : Nat) (ch : Nat) (M1 : Nat → Int32) (E1 : Nat → Int32) (V1 : Nat → Int32) (L1 : Nat → Int32) (X1 : Nat → Int32) (H1 : Nat → Int32), a + n = 24 → (∀ t, t < a → t < 20 → M1 t = Gn t) → (∀ t, t < a → E1 t = Ge t) → (∀ t, t < a → V1 t = Gv t) → (∀ t, t < a → L1 t = Gl t) → (∀ t, t < a → X1 t = Gx t) → (∀ t, t < a → H1 t = Gh t) → fL_tries_m Gz Gn Ge Gv Gl Gx Gh = fL_tries_m_L39 Gz Gn Ge Gv Gl Gx Gh n a M1 E1 V1 L1 X1 H1 → zW K p l e { frames := 2, cells := 6, slots := 140, locals := 55 } s m args below meth c A (vx_MQ below (zQ K A (fun _ : Unit => ((some (.int (fL_tries_m Gz Gn Ge Gv Gl Gx Gh))), [[(pz, .inl (zI K, 32, .inl Gz))], [(pn, .inl (zI K, 20, .inl Gn))], [(pe, .inl (zI K, 24, .inl Ge))], [(pv, .inl (zI K, 24, .inl Gv))], [(pl, .inl (zI K, 24, .inl Gl))], [(px, .inl (zI K, 24, .inl Gx))], [(ph, .inl (zI K, 24, .inl Gh))]])) (fun _ => True)) (zX K A [[(pz, .inl (zI K, 32, .inl Gz))], [(pn, .inl (zI K, 20, .inl Gn))], [(pe, .inl (zI K, 24, .inl Ge))], [(pv, .inl (zI K, 24, .inl Gv))], [(pl, .inl (zI K, 24, .inl Gl))], [(px, .inl (zI K, 24, .inl Gx))], [(ph, .inl (zI K, 24, .inl Gh))]] zNo) args s 6 140 A) 6 140 [[(pz, .inl (zI K, 32, .inl Gz))], [(pn, .inl (zI K, 20, .inl Gn))], [(pe, .inl (zI K, 24, .inl Ge))], [(pv, .inl (zI K, 24, .inl Gv))], [(pl, .inl (zI K, 24, .inl Gl))], [(px, .inl (zI K, 24, .inl Gx))], [(ph, .inl (zI K, 24, .inl Gh))], [(cn, .inl (zI K, 20, .inl M1))], [(ce, .inl (zI K, 24, .inl E1))], [(cv, .inl (zI K, 24, .inl V1))], [(cl, .inl (zI K, 24, .inl L1))], [(cx, .inl (zI K, 24, .inl X1))], [(ch, .inl (zI K, 24, .inl H1))]] [(0, .ref pz), (1, .ref pn), (2, .ref pe), (3, .ref pv), (4, .ref pl), (5, .ref px), (6, .ref ph), (7, .int x1), (8, .int x2), (9, .ref cn), (10, .ref ce), (11, .ref cv), (12, .ref cl), (13, .ref cx), (14, .ref ch), (15, .int (nI a))] [] 39 := by
  intro n
  induction n with
  | zero =>
    intro a cn ce cv cl cx ch M1 E1 V1 L1 X1 H1 ha hM hE1 hV1 hL1 hX1 hH1 hF0
    refine z_iload B dL_tries_39 15 rfl ?_
    refine z_bipush B (v := 24) dL_tries_41 rfl ?_
    refine z_icge B 133 dL_tries_43 (by decide) (fun _ => ?_) (fun h => absurd (z_lge0 ha (by decide)) h)
    refine z_ext B (N := 20) (f := M1) (g := Gn) 7 0 rfl rfl (fun t ht => hM t (by omega) ht) (bs' := [[(pz, .inl (zI K, 32, .inl Gz))], [(pn, .inl (zI K, 20, .inl Gn))], [(pe, .inl (zI K, 24, .inl Ge))], [(pv, .inl (zI K, 24, .inl Gv))], [(pl, .inl (zI K, 24, .inl Gl))], [(px, .inl (zI K, 24, .inl Gx))], [(ph, .inl (zI K, 24, .inl Gh))], [(cn, .inl (zI K, 20, .inl Gn))], [(ce, .inl (zI K, 24, .inl E1))], [(cv, .inl (zI K, 24, .inl V1))], [(cl, .inl (zI K, 24, .inl L1))], [(cx, .inl (zI K, 24, .inl X1))], [(ch, .inl (zI K, 24, .inl H1))]]) rfl ?_
    refine z_ext B (N := 24) (f := E1) (g := Ge) 8 0 rfl rfl (fun t ht => hE1 t (by omega)) (bs' := [[(pz, .inl (zI K, 32, .inl Gz))], [(pn, .inl (zI K, 20, .inl Gn))], [(pe, .inl (zI K, 24, .inl Ge))], [(pv, .inl (zI K, 24, .inl Gv))], [(pl, .inl (zI K, 24, .inl Gl))], [(px, .inl (zI K, 24, .inl Gx))], [(ph, .inl (zI K, 24, .inl Gh))], [(cn, .inl (zI K, 20, .inl Gn))], [(ce, .inl (zI K, 24, .inl Ge))], [(cv, .inl (zI K, 24, .inl V1))], [(cl, .inl (zI K, 24, .inl L1))], [(cx, .inl (zI K, 24, .inl X1))], [(ch, .inl (zI K, 24, .inl H1))]]) rfl ?_
    refine z_ext B (N := 24) (f := V1) (g := Gv) 9 0 rfl rfl (fun t ht => hV1 t (by omega)) (bs' := [[(pz, .inl (zI K, 32, .inl Gz))], [(pn, .inl (zI K, 20, .inl Gn))], [(pe, .inl (zI K, 24, .inl Ge))], [(pv, .inl (zI K, 24, .inl Gv))], [(pl, .inl (zI K, 24, .inl Gl))], [(px, .inl (zI K, 24, .inl Gx))], [(ph, .inl (zI K, 24, .inl Gh))], [(cn, .inl (zI K, 20, .inl Gn))], [(ce, .inl (zI K, 24, .inl Ge))], [(cv, .inl (zI K, 24, .inl Gv))], [(cl, .inl (zI K, 24, .inl L1))], [(cx, .inl (zI K, 24, .inl X1))], [(ch, .inl (zI K, 24, .inl H1))]]) rfl ?_
    refine z_ext B (N := 24) (f := L1) (g := Gl) 10 0 rfl rfl (fun t ht => hL1 t (by omega)) (bs' := [[(pz, .inl (zI K, 32, .inl Gz))], [(pn, .inl (zI K, 20, .inl Gn))], [(pe, .inl (zI K, 24, .inl Ge))], [(pv, .inl (zI K, 24, .inl Gv))], [(pl, .inl (zI K, 24, .inl Gl))], [(px, .inl (zI K, 24, .inl Gx))], [(ph, .inl (zI K, 24, .inl Gh))], [(cn, .inl (zI K, 20, .inl Gn))], [(ce, .inl (zI K, 24, .inl Ge))], [(cv, .inl (zI K, 24, .inl Gv))], [(cl, .inl (zI K, 24, .inl Gl))], [(cx, .inl (zI K, 24, .inl X1))], [(ch, .inl (zI K, 24, .inl H1))]]) rfl ?_
    refine z_ext B (N := 24) (f := X1) (g := Gx) 11 0 rfl rfl (fun t ht => hX1 t (by omega)) (bs' := [[(pz, .inl (zI K, 32, .inl Gz))], [(pn, .inl (zI K, 20, .inl Gn))], [(pe, .inl (zI K, 24, .inl Ge))], [(pv, .inl (zI K, 24, .inl Gv))], [(pl, .inl (zI K, 24, .inl Gl))], [(px, .inl (zI K, 24, .inl Gx))], [(ph, .inl (zI K, 24, .inl Gh))], [(cn, .inl (zI K, 20, .inl Gn))], [(ce, .inl (zI K, 24, .inl Ge))], [(cv, .inl (zI K, 24, .inl Gv))], [(cl, .inl (zI K, 24, .inl Gl))], [(cx, .inl (zI K, 24, .inl Gx))], [(ch, .inl (zI K, 24, .inl H1))]]) rfl ?_
    refine z_ext B (N := 24) (f := H1) (g := Gh) 12 0 rfl rfl (fun t ht => hH1 t (by omega)) (bs' := [[(pz, .inl (zI K, 32, .inl Gz))], [(pn, .inl (zI K, 20, .inl Gn))], [(pe, .inl (zI K, 24, .inl Ge))], [(pv, .inl (zI K, 24, .inl Gv))], [(pl, .inl (zI K, 24, .inl Gl))], [(px, .inl (zI K, 24, .inl Gx))], [(ph, .inl (zI K, 24, .inl Gh))], [(cn, .inl (zI K, 20, .inl Gn))], [(ce, .inl (zI K, 24, .inl Ge))], [(cv, .inl (zI K, 24, .inl Gv))], [(cl, .inl (zI K, 24, .inl Gl))], [(cx, .inl (zI K, 24, .inl Gx))], [(ch, .inl (zI K, 24, .inl Gh))]]) rfl ?_
    refine z_aload_n B dL_tries_133 0 rfl ?_
    refine z_aload B dL_tries_134 9 rfl ?_
    refine z_aload B dL_tries_136 10 rfl ?_
    refine z_aload B dL_tries_138 11 rfl ?_
    refine z_aload B dL_tries_140 12 rfl ?_
    refine z_aload B dL_tries_142 13 rfl ?_
    refine z_aload B dL_tries_144 14 rfl ?_
    refine z_iload B dL_tries_146 7 rfl ?_
    refine z_iload B dL_tries_148 8 rfl ?_
    refine z_S1 B (kL_asks_m l hl K pz cn ce cv cl cx ch Gz Gn Ge Gv Gl Gx Gh ns x1 x2 hN3 hns hL) [0, 7, 8, 9, 10, 11, 12] [1, 2, 3, 4, 5, 6] (br := [[(pn, .inl (zI K, 20, .inl Gn))], [(pe, .inl (zI K, 24, .inl Ge))], [(pv, .inl (zI K, 24, .inl Gv))], [(pl, .inl (zI K, 24, .inl Gl))], [(px, .inl (zI K, 24, .inl Gx))], [(ph, .inl (zI K, 24, .inl Gh))]]) (bs' := [[(pz, .inl (zI K, 32, .inl Gz))], [(pn, .inl (zI K, 20, .inl Gn))], [(pe, .inl (zI K, 24, .inl Ge))], [(pv, .inl (zI K, 24, .inl Gv))], [(pl, .inl (zI K, 24, .inl Gl))], [(px, .inl (zI K, 24, .inl Gx))], [(ph, .inl (zI K, 24, .inl Gh))], [(cn, .inl (zI K, 20, .inl Gn))], [(ce, .inl (zI K, 24, .inl Ge))], [(cv, .inl (zI K, 24, .inl Gv))], [(cl, .inl (zI K, 24, .inl Gl))], [(cx, .inl (zI K, 24, .inl Gx))], [(ch, .inl (zI K, 24, .inl Gh))]]) (st := []) (nA := 9) (zsp rfl rfl rfl) (zsp rfl rfl rfl) gL_tries_L_asks rfl (by decide +kernel) ⟨Nat.le_of_ble_eq_true rfl, Nat.le_of_ble_eq_true rfl⟩ rfl rfl (Nat.le_of_ble_eq_true rfl) ⟨Nat.le_of_ble_eq_true rfl, Nat.le_of_ble_eq_true rfl⟩ dL_tries_150 z_noX (fun _ => ?_)
    refine z_drop (bc := [[(pz, .inl (zI K, 32, .inl Gz))], [(pn, .inl (zI K, 20, .inl Gn))], [(pe, .inl (zI K, 24, .inl Ge))], [(pv, .inl (zI K, 24, .inl Gv))], [(pl, .inl (zI K, 24, .inl Gl))], [(px, .inl (zI K, 24, .inl Gx))], [(ph, .inl (zI K, 24, .inl Gh))]]) (br := [[(cn, .inl (zI K, 20, .inl Gn))], [(ce, .inl (zI K, 24, .inl Ge))], [(cv, .inl (zI K, 24, .inl Gv))], [(cl, .inl (zI K, 24, .inl Gl))], [(cx, .inl (zI K, 24, .inl Gx))], [(ch, .inl (zI K, 24, .inl Gh))]]) (isC := [0, 1, 2, 3, 4, 5, 6]) (isR := [7, 8, 9, 10, 11, 12]) (zsp rfl rfl rfl) ?_
    have hF : fL_tries_m Gz Gn Ge Gv Gl Gx Gh = fL_asks_m := hF0
    exact z_ret1 B rfl dL_tries_153 () (trivial) (Nat.le_of_ble_eq_true rfl) (Nat.le_of_ble_eq_true rfl) (by rw [hF]) (by rw [hF])
  | succ n ih =>
    intro a cn ce cv cl cx ch M1 E1 V1 L1 X1 H1 ha hM hE1 hV1 hL1 hX1 hH1 hF0
    refine z_iload B dL_tries_39 15 rfl ?_
    refine z_bipush B (v := 24) dL_tries_41 rfl ?_
    refine z_icge B 133 dL_tries_43 (by decide) (fun h => absurd h (z_lgeS ha (by decide))) (fun _ => ?_)
    refine z_aload B dL_tries_46 9 rfl ?_
    refine z_iload B dL_tries_48 15 rfl ?_
    refine z_bipush B (v := 20) dL_tries_50 rfl ?_
    refine z_icge B 60 dL_tries_52 (by decide) (fun c7 => ?_) (fun c7 => ?_)
    · refine z_bipush B (v := 19) dL_tries_60 rfl ?_
      refine z_aload_n B dL_tries_62 1 rfl ?_
      refine z_iload B dL_tries_63 15 rfl ?_
      refine z_bipush B (v := 20) dL_tries_65 rfl ?_
      refine z_icge B 75 dL_tries_67 (by decide) (fun _ => ?_) (fun h => absurd c7 h)
      refine z_bipush B (v := 19) dL_tries_75 rfl ?_
      refine z_ialdn B (N := 20) (f := Gn) (k0 := 19) (v := (Gn 19)) 1 0 rfl rfl (z_vpc (k := 19) rfl (by decide)) rfl rfl dL_tries_77 ?_
      refine z_iastn B (N := 20) (f := M1) (k0 := 19) 7 0 rfl rfl (z_vpc (k := 19) rfl (by decide)) rfl (bs' := [[(pz, .inl (zI K, 32, .inl Gz))], [(pn, .inl (zI K, 20, .inl Gn))], [(pe, .inl (zI K, 24, .inl Ge))], [(pv, .inl (zI K, 24, .inl Gv))], [(pl, .inl (zI K, 24, .inl Gl))], [(px, .inl (zI K, 24, .inl Gx))], [(ph, .inl (zI K, 24, .inl Gh))], [(cn, .inl (zI K, 20, .inl (upd M1 19 (Gn 19))))], [(ce, .inl (zI K, 24, .inl E1))], [(cv, .inl (zI K, 24, .inl V1))], [(cl, .inl (zI K, 24, .inl L1))], [(cx, .inl (zI K, 24, .inl X1))], [(ch, .inl (zI K, 24, .inl H1))]]) rfl dL_tries_78 ?_
      refine z_aload B dL_tries_79 10 rfl ?_
      refine z_iload B dL_tries_81 15 rfl ?_
      refine z_aload_n B dL_tries_83 2 rfl ?_
      refine z_iload B dL_tries_84 15 rfl ?_
      refine z_ialdn B (N := 24) (f := Ge) (k0 := a) (v := (Ge a)) 2 0 rfl rfl (z_nIr (by omega) (by decide)) (nI_clamp (by omega)) rfl dL_tries_86 ?_
      refine z_iastn B (N := 24) (f := E1) (k0 := a) 8 0 rfl rfl (z_nIr (by omega) (by decide)) (nI_clamp (by omega)) (bs' := [[(pz, .inl (zI K, 32, .inl Gz))], [(pn, .inl (zI K, 20, .inl Gn))], [(pe, .inl (zI K, 24, .inl Ge))], [(pv, .inl (zI K, 24, .inl Gv))], [(pl, .inl (zI K, 24, .inl Gl))], [(px, .inl (zI K, 24, .inl Gx))], [(ph, .inl (zI K, 24, .inl Gh))], [(cn, .inl (zI K, 20, .inl (upd M1 19 (Gn 19))))], [(ce, .inl (zI K, 24, .inl (upd E1 a (Ge a))))], [(cv, .inl (zI K, 24, .inl V1))], [(cl, .inl (zI K, 24, .inl L1))], [(cx, .inl (zI K, 24, .inl X1))], [(ch, .inl (zI K, 24, .inl H1))]]) rfl dL_tries_87 ?_
      refine z_aload B dL_tries_88 11 rfl ?_
      refine z_iload B dL_tries_90 15 rfl ?_
      refine z_aload_n B dL_tries_92 3 rfl ?_
      refine z_iload B dL_tries_93 15 rfl ?_
      refine z_ialdn B (N := 24) (f := Gv) (k0 := a) (v := (Gv a)) 3 0 rfl rfl (z_nIr (by omega) (by decide)) (nI_clamp (by omega)) rfl dL_tries_95 ?_
      refine z_iastn B (N := 24) (f := V1) (k0 := a) 9 0 rfl rfl (z_nIr (by omega) (by decide)) (nI_clamp (by omega)) (bs' := [[(pz, .inl (zI K, 32, .inl Gz))], [(pn, .inl (zI K, 20, .inl Gn))], [(pe, .inl (zI K, 24, .inl Ge))], [(pv, .inl (zI K, 24, .inl Gv))], [(pl, .inl (zI K, 24, .inl Gl))], [(px, .inl (zI K, 24, .inl Gx))], [(ph, .inl (zI K, 24, .inl Gh))], [(cn, .inl (zI K, 20, .inl (upd M1 19 (Gn 19))))], [(ce, .inl (zI K, 24, .inl (upd E1 a (Ge a))))], [(cv, .inl (zI K, 24, .inl (upd V1 a (Gv a))))], [(cl, .inl (zI K, 24, .inl L1))], [(cx, .inl (zI K, 24, .inl X1))], [(ch, .inl (zI K, 24, .inl H1))]]) rfl dL_tries_96 ?_
      refine z_aload B dL_tries_97 12 rfl ?_
      refine z_iload B dL_tries_99 15 rfl ?_
      refine z_aload B dL_tries_101 4 rfl ?_
      refine z_iload B dL_tries_103 15 rfl ?_
      refine z_ialdn B (N := 24) (f := Gl) (k0 := a) (v := (Gl a)) 4 0 rfl rfl (z_nIr (by omega) (by decide)) (nI_clamp (by omega)) rfl dL_tries_105 ?_
      refine z_iastn B (N := 24) (f := L1) (k0 := a) 10 0 rfl rfl (z_nIr (by omega) (by decide)) (nI_clamp (by omega)) (bs' := [[(pz, .inl (zI K, 32, .inl Gz))], [(pn, .inl (zI K, 20, .inl Gn))], [(pe, .inl (zI K, 24, .inl Ge))], [(pv, .inl (zI K, 24, .inl Gv))], [(pl, .inl (zI K, 24, .inl Gl))], [(px, .inl (zI K, 24, .inl Gx))], [(ph, .inl (zI K, 24, .inl Gh))], [(cn, .inl (zI K, 20, .inl (upd M1 19 (Gn 19))))], [(ce, .inl (zI K, 24, .inl (upd E1 a (Ge a))))], [(cv, .inl (zI K, 24, .inl (upd V1 a (Gv a))))], [(cl, .inl (zI K, 24, .inl (upd L1 a (Gl a))))], [(cx, .inl (zI K, 24, .inl X1))], [(ch, .inl (zI K, 24, .inl H1))]]) rfl dL_tries_106 ?_
      refine z_aload B dL_tries_107 13 rfl ?_
      refine z_iload B dL_tries_109 15 rfl ?_
      refine z_aload B dL_tries_111 5 rfl ?_
      refine z_iload B dL_tries_113 15 rfl ?_
      refine z_ialdn B (N := 24) (f := Gx) (k0 := a) (v := (Gx a)) 5 0 rfl rfl (z_nIr (by omega) (by decide)) (nI_clamp (by omega)) rfl dL_tries_115 ?_
      refine z_iastn B (N := 24) (f := X1) (k0 := a) 11 0 rfl rfl (z_nIr (by omega) (by decide)) (nI_clamp (by omega)) (bs' := [[(pz, .inl (zI K, 32, .inl Gz))], [(pn, .inl (zI K, 20, .inl Gn))], [(pe, .inl (zI K, 24, .inl Ge))], [(pv, .inl (zI K, 24, .inl Gv))], [(pl, .inl (zI K, 24, .inl Gl))], [(px, .inl (zI K, 24, .inl Gx))], [(ph, .inl (zI K, 24, .inl Gh))], [(cn, .inl (zI K, 20, .inl (upd M1 19 (Gn 19))))], [(ce, .inl (zI K, 24, .inl (upd E1 a (Ge a))))], [(cv, .inl (zI K, 24, .inl (upd V1 a (Gv a))))], [(cl, .inl (zI K, 24, .inl (upd L1 a (Gl a))))], [(cx, .inl (zI K, 24, .inl (upd X1 a (Gx a))))], [(ch, .inl (zI K, 24, .inl H1))]]) rfl dL_tries_116 ?_
      refine z_aload B dL_tries_117 14 rfl ?_
      refine z_iload B dL_tries_119 15 rfl ?_
      refine z_aload B dL_tries_121 6 rfl ?_
      refine z_iload B dL_tries_123 15 rfl ?_
      refine z_ialdn B (N := 24) (f := Gh) (k0 := a) (v := (Gh a)) 6 0 rfl rfl (z_nIr (by omega) (by decide)) (nI_clamp (by omega)) rfl dL_tries_125 ?_
      refine z_iastn B (N := 24) (f := H1) (k0 := a) 12 0 rfl rfl (z_nIr (by omega) (by decide)) (nI_clamp (by omega)) (bs' := [[(pz, .inl (zI K, 32, .inl Gz))], [(pn, .inl (zI K, 20, .inl Gn))], [(pe, .inl (zI K, 24, .inl Ge))], [(pv, .inl (zI K, 24, .inl Gv))], [(pl, .inl (zI K, 24, .inl Gl))], [(px, .inl (zI K, 24, .inl Gx))], [(ph, .inl (zI K, 24, .inl Gh))], [(cn, .inl (zI K, 20, .inl (upd M1 19 (Gn 19))))], [(ce, .inl (zI K, 24, .inl (upd E1 a (Ge a))))], [(cv, .inl (zI K, 24, .inl (upd V1 a (Gv a))))], [(cl, .inl (zI K, 24, .inl (upd L1 a (Gl a))))], [(cx, .inl (zI K, 24, .inl (upd X1 a (Gx a))))], [(ch, .inl (zI K, 24, .inl (upd H1 a (Gh a))))]]) rfl dL_tries_126 ?_
      refine z_iinc B (v := nI (a + 1)) (lv' := [(15, .int (nI (a + 1))), (0, .ref pz), (1, .ref pn), (2, .ref pe), (3, .ref pv), (4, .ref pl), (5, .ref px), (6, .ref ph), (7, .int x1), (8, .int x2), (9, .ref cn), (10, .ref ce), (11, .ref cv), (12, .ref cl), (13, .ref cx), (14, .ref ch)]) dL_tries_127 15 rfl (nI_1 a) (by decide) rfl ?_
      refine z_goto B (tgt := 39) dL_tries_130 (by decide) ?_
      refine z_lsub [1, 2, 3, 4, 5, 6, 7, 8, 9, 10, 11, 12, 13, 14, 15, 0] rfl ?_
      have hF : fL_tries_m Gz Gn Ge Gv Gl Gx Gh = fL_tries_m_L39 Gz Gn Ge Gv Gl Gx Gh n (a + 1) (upd M1 19 (Gn 19)) (upd E1 a (Ge a)) (upd V1 a (Gv a)) (upd L1 a (Gl a)) (upd X1 a (Gx a)) (upd H1 a (Gh a)) := (hF0).trans (if_pos c7)
      exact ih (a + 1) cn ce cv cl cx ch (upd M1 19 (Gn 19)) (upd E1 a (Ge a)) (upd V1 a (Gv a)) (upd L1 a (Gl a)) (upd X1 a (Gx a)) (upd H1 a (Gh a)) (by omega) (z_cpM hM (z_ge20 c7 (by omega))) (z_cpS hE1) (z_cpS hV1) (z_cpS hL1) (z_cpS hX1) (z_cpS hH1) hF
    · refine z_iload B dL_tries_55 15 rfl ?_
      refine z_goto B (tgt := 62) dL_tries_57 (by decide) ?_
      refine z_aload_n B dL_tries_62 1 rfl ?_
      refine z_iload B dL_tries_63 15 rfl ?_
      refine z_bipush B (v := 20) dL_tries_65 rfl ?_
      refine z_icge B 75 dL_tries_67 (by decide) (fun h => absurd h c7) (fun _ => ?_)
      refine z_iload B dL_tries_70 15 rfl ?_
      refine z_goto B (tgt := 77) dL_tries_72 (by decide) ?_
      refine z_ialdn B (N := 20) (f := Gn) (k0 := a) (v := (Gn a)) 1 0 rfl rfl (z_lt20 c7 (by omega)) (nI_clamp (by omega)) rfl dL_tries_77 ?_
      refine z_iastn B (N := 20) (f := M1) (k0 := a) 7 0 rfl rfl (z_lt20 c7 (by omega)) (nI_clamp (by omega)) (bs' := [[(pz, .inl (zI K, 32, .inl Gz))], [(pn, .inl (zI K, 20, .inl Gn))], [(pe, .inl (zI K, 24, .inl Ge))], [(pv, .inl (zI K, 24, .inl Gv))], [(pl, .inl (zI K, 24, .inl Gl))], [(px, .inl (zI K, 24, .inl Gx))], [(ph, .inl (zI K, 24, .inl Gh))], [(cn, .inl (zI K, 20, .inl (upd M1 a (Gn a))))], [(ce, .inl (zI K, 24, .inl E1))], [(cv, .inl (zI K, 24, .inl V1))], [(cl, .inl (zI K, 24, .inl L1))], [(cx, .inl (zI K, 24, .inl X1))], [(ch, .inl (zI K, 24, .inl H1))]]) rfl dL_tries_78 ?_
      refine z_aload B dL_tries_79 10 rfl ?_
      refine z_iload B dL_tries_81 15 rfl ?_
      refine z_aload_n B dL_tries_83 2 rfl ?_
      refine z_iload B dL_tries_84 15 rfl ?_
      refine z_ialdn B (N := 24) (f := Ge) (k0 := a) (v := (Ge a)) 2 0 rfl rfl (z_nIr (by omega) (by decide)) (nI_clamp (by omega)) rfl dL_tries_86 ?_
      refine z_iastn B (N := 24) (f := E1) (k0 := a) 8 0 rfl rfl (z_nIr (by omega) (by decide)) (nI_clamp (by omega)) (bs' := [[(pz, .inl (zI K, 32, .inl Gz))], [(pn, .inl (zI K, 20, .inl Gn))], [(pe, .inl (zI K, 24, .inl Ge))], [(pv, .inl (zI K, 24, .inl Gv))], [(pl, .inl (zI K, 24, .inl Gl))], [(px, .inl (zI K, 24, .inl Gx))], [(ph, .inl (zI K, 24, .inl Gh))], [(cn, .inl (zI K, 20, .inl (upd M1 a (Gn a))))], [(ce, .inl (zI K, 24, .inl (upd E1 a (Ge a))))], [(cv, .inl (zI K, 24, .inl V1))], [(cl, .inl (zI K, 24, .inl L1))], [(cx, .inl (zI K, 24, .inl X1))], [(ch, .inl (zI K, 24, .inl H1))]]) rfl dL_tries_87 ?_
      refine z_aload B dL_tries_88 11 rfl ?_
      refine z_iload B dL_tries_90 15 rfl ?_
      refine z_aload_n B dL_tries_92 3 rfl ?_
      refine z_iload B dL_tries_93 15 rfl ?_
      refine z_ialdn B (N := 24) (f := Gv) (k0 := a) (v := (Gv a)) 3 0 rfl rfl (z_nIr (by omega) (by decide)) (nI_clamp (by omega)) rfl dL_tries_95 ?_
      refine z_iastn B (N := 24) (f := V1) (k0 := a) 9 0 rfl rfl (z_nIr (by omega) (by decide)) (nI_clamp (by omega)) (bs' := [[(pz, .inl (zI K, 32, .inl Gz))], [(pn, .inl (zI K, 20, .inl Gn))], [(pe, .inl (zI K, 24, .inl Ge))], [(pv, .inl (zI K, 24, .inl Gv))], [(pl, .inl (zI K, 24, .inl Gl))], [(px, .inl (zI K, 24, .inl Gx))], [(ph, .inl (zI K, 24, .inl Gh))], [(cn, .inl (zI K, 20, .inl (upd M1 a (Gn a))))], [(ce, .inl (zI K, 24, .inl (upd E1 a (Ge a))))], [(cv, .inl (zI K, 24, .inl (upd V1 a (Gv a))))], [(cl, .inl (zI K, 24, .inl L1))], [(cx, .inl (zI K, 24, .inl X1))], [(ch, .inl (zI K, 24, .inl H1))]]) rfl dL_tries_96 ?_
      refine z_aload B dL_tries_97 12 rfl ?_
      refine z_iload B dL_tries_99 15 rfl ?_
      refine z_aload B dL_tries_101 4 rfl ?_
      refine z_iload B dL_tries_103 15 rfl ?_
      refine z_ialdn B (N := 24) (f := Gl) (k0 := a) (v := (Gl a)) 4 0 rfl rfl (z_nIr (by omega) (by decide)) (nI_clamp (by omega)) rfl dL_tries_105 ?_
      refine z_iastn B (N := 24) (f := L1) (k0 := a) 10 0 rfl rfl (z_nIr (by omega) (by decide)) (nI_clamp (by omega)) (bs' := [[(pz, .inl (zI K, 32, .inl Gz))], [(pn, .inl (zI K, 20, .inl Gn))], [(pe, .inl (zI K, 24, .inl Ge))], [(pv, .inl (zI K, 24, .inl Gv))], [(pl, .inl (zI K, 24, .inl Gl))], [(px, .inl (zI K, 24, .inl Gx))], [(ph, .inl (zI K, 24, .inl Gh))], [(cn, .inl (zI K, 20, .inl (upd M1 a (Gn a))))], [(ce, .inl (zI K, 24, .inl (upd E1 a (Ge a))))], [(cv, .inl (zI K, 24, .inl (upd V1 a (Gv a))))], [(cl, .inl (zI K, 24, .inl (upd L1 a (Gl a))))], [(cx, .inl (zI K, 24, .inl X1))], [(ch, .inl (zI K, 24, .inl H1))]]) rfl dL_tries_106 ?_
      refine z_aload B dL_tries_107 13 rfl ?_
      refine z_iload B dL_tries_109 15 rfl ?_
      refine z_aload B dL_tries_111 5 rfl ?_
      refine z_iload B dL_tries_113 15 rfl ?_
      refine z_ialdn B (N := 24) (f := Gx) (k0 := a) (v := (Gx a)) 5 0 rfl rfl (z_nIr (by omega) (by decide)) (nI_clamp (by omega)) rfl dL_tries_115 ?_
      refine z_iastn B (N := 24) (f := X1) (k0 := a) 11 0 rfl rfl (z_nIr (by omega) (by decide)) (nI_clamp (by omega)) (bs' := [[(pz, .inl (zI K, 32, .inl Gz))], [(pn, .inl (zI K, 20, .inl Gn))], [(pe, .inl (zI K, 24, .inl Ge))], [(pv, .inl (zI K, 24, .inl Gv))], [(pl, .inl (zI K, 24, .inl Gl))], [(px, .inl (zI K, 24, .inl Gx))], [(ph, .inl (zI K, 24, .inl Gh))], [(cn, .inl (zI K, 20, .inl (upd M1 a (Gn a))))], [(ce, .inl (zI K, 24, .inl (upd E1 a (Ge a))))], [(cv, .inl (zI K, 24, .inl (upd V1 a (Gv a))))], [(cl, .inl (zI K, 24, .inl (upd L1 a (Gl a))))], [(cx, .inl (zI K, 24, .inl (upd X1 a (Gx a))))], [(ch, .inl (zI K, 24, .inl H1))]]) rfl dL_tries_116 ?_
      refine z_aload B dL_tries_117 14 rfl ?_
      refine z_iload B dL_tries_119 15 rfl ?_
      refine z_aload B dL_tries_121 6 rfl ?_
      refine z_iload B dL_tries_123 15 rfl ?_
      refine z_ialdn B (N := 24) (f := Gh) (k0 := a) (v := (Gh a)) 6 0 rfl rfl (z_nIr (by omega) (by decide)) (nI_clamp (by omega)) rfl dL_tries_125 ?_
      refine z_iastn B (N := 24) (f := H1) (k0 := a) 12 0 rfl rfl (z_nIr (by omega) (by decide)) (nI_clamp (by omega)) (bs' := [[(pz, .inl (zI K, 32, .inl Gz))], [(pn, .inl (zI K, 20, .inl Gn))], [(pe, .inl (zI K, 24, .inl Ge))], [(pv, .inl (zI K, 24, .inl Gv))], [(pl, .inl (zI K, 24, .inl Gl))], [(px, .inl (zI K, 24, .inl Gx))], [(ph, .inl (zI K, 24, .inl Gh))], [(cn, .inl (zI K, 20, .inl (upd M1 a (Gn a))))], [(ce, .inl (zI K, 24, .inl (upd E1 a (Ge a))))], [(cv, .inl (zI K, 24, .inl (upd V1 a (Gv a))))], [(cl, .inl (zI K, 24, .inl (upd L1 a (Gl a))))], [(cx, .inl (zI K, 24, .inl (upd X1 a (Gx a))))], [(ch, .inl (zI K, 24, .inl (upd H1 a (Gh a))))]]) rfl dL_tries_126 ?_
      refine z_iinc B (v := nI (a + 1)) (lv' := [(15, .int (nI (a + 1))), (0, .ref pz), (1, .ref pn), (2, .ref pe), (3, .ref pv), (4, .ref pl), (5, .ref px), (6, .ref ph), (7, .int x1), (8, .int x2), (9, .ref cn), (10, .ref ce), (11, .ref cv), (12, .ref cl), (13, .ref cx), (14, .ref ch)]) dL_tries_127 15 rfl (nI_1 a) (by decide) rfl ?_
      refine z_goto B (tgt := 39) dL_tries_130 (by decide) ?_
      refine z_lsub [1, 2, 3, 4, 5, 6, 7, 8, 9, 10, 11, 12, 13, 14, 15, 0] rfl ?_
      have hF : fL_tries_m Gz Gn Ge Gv Gl Gx Gh = fL_tries_m_L39 Gz Gn Ge Gv Gl Gx Gh n (a + 1) (upd M1 a (Gn a)) (upd E1 a (Ge a)) (upd V1 a (Gv a)) (upd L1 a (Gl a)) (upd X1 a (Gx a)) (upd H1 a (Gh a)) := (hF0).trans (if_neg c7)
      exact ih (a + 1) cn ce cv cl cx ch (upd M1 a (Gn a)) (upd E1 a (Ge a)) (upd V1 a (Gv a)) (upd L1 a (Gl a)) (upd X1 a (Gx a)) (upd H1 a (Gh a)) (by omega) (z_cpN hM) (z_cpS hE1) (z_cpS hV1) (z_cpS hL1) (z_cpS hX1) (z_cpS hH1) hF
set_option maxHeartbeats 4000000 in
set_option maxRecDepth 100000 in
theorem kL_tries_m (l : Launch) (hl : l.stackTraces = false) (K : zK) (pz : Nat) (pn : Nat) (pe : Nat) (pv : Nat) (pl : Nat) (px : Nat) (ph : Nat) (Gz : Nat → Int32) (Gn : Nat → Int32) (Ge : Nat → Int32) (Gv : Nat → Int32) (Gl : Nat → Int32) (Gx : Nat → Int32) (Gh : Nat → Int32) (ns : Nat) (x1 : Int32) (x2 : Int32) (hN3 : (Gn 3) = nI ns) (hns : ns ≤ 4) (hL : fL_nearest Gn ns x1 = (-3)) : zMet l K yL_tries wsL_tries { frames := 2, cells := 6, slots := 140, locals := 55 } [.ref pz, .ref pn, .ref pe, .ref pv, .ref pl, .ref px, .ref ph, .int x1, .int x2] [[(pz, .inl (zI K, 32, .inl Gz))], [(pn, .inl (zI K, 20, .inl Gn))], [(pe, .inl (zI K, 24, .inl Ge))], [(pv, .inl (zI K, 24, .inl Gv))], [(pl, .inl (zI K, 24, .inl Gl))], [(px, .inl (zI K, 24, .inl Gx))], [(ph, .inl (zI K, 24, .inl Gh))]] (some (.int (fL_tries_m Gz Gn Ge Gv Gl Gx Gh))) [[(pz, .inl (zI K, 32, .inl Gz))], [(pn, .inl (zI K, 20, .inl Gn))], [(pe, .inl (zI K, 24, .inl Ge))], [(pv, .inl (zI K, 24, .inl Gv))], [(pl, .inl (zI K, 24, .inl Gl))], [(px, .inl (zI K, 24, .inl Gx))], [(ph, .inl (zI K, 24, .inl Gh))]] True zNo := by
  refine zMeN.of (cc := cL_tries) (maxL := 16) (ret := (some .int)) (own := RL) (nm := "tries") hl (by decide +kernel) rfl rfl rfl (Nat.le_of_ble_eq_true rfl) (lv := [(0, .ref pz), (1, .ref pn), (2, .ref pe), (3, .ref pv), (4, .ref pl), (5, .ref px), (6, .ref ph), (7, .int x1), (8, .int x2)]) rfl ?_
  intro p e s m args below meth c A B
  refine z_bipush B (v := 20) dL_tries_0 rfl ?_
  refine z_newI B hwL_tries_arrint (N := 20) (by decide) rfl (by decide) (Nat.le_of_ble_eq_true rfl) (Nat.le_of_ble_eq_true rfl) dL_tries_2 (fun q1 => ?_)
  refine z_astore B (lv' := [(9, .ref q1), (0, .ref pz), (1, .ref pn), (2, .ref pe), (3, .ref pv), (4, .ref pl), (5, .ref px), (6, .ref ph), (7, .int x1), (8, .int x2)]) dL_tries_4 (by decide) rfl ?_
  refine z_bipush B (v := 24) dL_tries_6 rfl ?_
  refine z_newI B hwL_tries_arrint (N := 24) (by decide) rfl (by decide) (Nat.le_of_ble_eq_true rfl) (Nat.le_of_ble_eq_true rfl) dL_tries_8 (fun q2 => ?_)
  refine z_astore B (lv' := [(10, .ref q2), (9, .ref q1), (0, .ref pz), (1, .ref pn), (2, .ref pe), (3, .ref pv), (4, .ref pl), (5, .ref px), (6, .ref ph), (7, .int x1), (8, .int x2)]) dL_tries_10 (by decide) rfl ?_
  refine z_bipush B (v := 24) dL_tries_12 rfl ?_
  refine z_newI B hwL_tries_arrint (N := 24) (by decide) rfl (by decide) (Nat.le_of_ble_eq_true rfl) (Nat.le_of_ble_eq_true rfl) dL_tries_14 (fun q3 => ?_)
  refine z_astore B (lv' := [(11, .ref q3), (10, .ref q2), (9, .ref q1), (0, .ref pz), (1, .ref pn), (2, .ref pe), (3, .ref pv), (4, .ref pl), (5, .ref px), (6, .ref ph), (7, .int x1), (8, .int x2)]) dL_tries_16 (by decide) rfl ?_
  refine z_bipush B (v := 24) dL_tries_18 rfl ?_
  refine z_newI B hwL_tries_arrint (N := 24) (by decide) rfl (by decide) (Nat.le_of_ble_eq_true rfl) (Nat.le_of_ble_eq_true rfl) dL_tries_20 (fun q4 => ?_)
  refine z_astore B (lv' := [(12, .ref q4), (11, .ref q3), (10, .ref q2), (9, .ref q1), (0, .ref pz), (1, .ref pn), (2, .ref pe), (3, .ref pv), (4, .ref pl), (5, .ref px), (6, .ref ph), (7, .int x1), (8, .int x2)]) dL_tries_22 (by decide) rfl ?_
  refine z_bipush B (v := 24) dL_tries_24 rfl ?_
  refine z_newI B hwL_tries_arrint (N := 24) (by decide) rfl (by decide) (Nat.le_of_ble_eq_true rfl) (Nat.le_of_ble_eq_true rfl) dL_tries_26 (fun q5 => ?_)
  refine z_astore B (lv' := [(13, .ref q5), (12, .ref q4), (11, .ref q3), (10, .ref q2), (9, .ref q1), (0, .ref pz), (1, .ref pn), (2, .ref pe), (3, .ref pv), (4, .ref pl), (5, .ref px), (6, .ref ph), (7, .int x1), (8, .int x2)]) dL_tries_28 (by decide) rfl ?_
  refine z_bipush B (v := 24) dL_tries_30 rfl ?_
  refine z_newI B hwL_tries_arrint (N := 24) (by decide) rfl (by decide) (Nat.le_of_ble_eq_true rfl) (Nat.le_of_ble_eq_true rfl) dL_tries_32 (fun q6 => ?_)
  refine z_astore B (lv' := [(14, .ref q6), (13, .ref q5), (12, .ref q4), (11, .ref q3), (10, .ref q2), (9, .ref q1), (0, .ref pz), (1, .ref pn), (2, .ref pe), (3, .ref pv), (4, .ref pl), (5, .ref px), (6, .ref ph), (7, .int x1), (8, .int x2)]) dL_tries_34 (by decide) rfl ?_
  refine z_iconst B (v := 0) dL_tries_36 rfl ?_
  refine z_istore B (lv' := [(15, .int 0), (14, .ref q6), (13, .ref q5), (12, .ref q4), (11, .ref q3), (10, .ref q2), (9, .ref q1), (0, .ref pz), (1, .ref pn), (2, .ref pe), (3, .ref pv), (4, .ref pl), (5, .ref px), (6, .ref ph), (7, .int x1), (8, .int x2)]) dL_tries_37 (by decide) rfl ?_
  refine z_lsub [7, 8, 9, 10, 11, 12, 13, 14, 15, 6, 5, 4, 3, 2, 1, 0] rfl ?_
  have hF : fL_tries_m Gz Gn Ge Gv Gl Gx Gh = fL_tries_m_L39 Gz Gn Ge Gv Gl Gx Gh 24 0 (fun _ => 0) (fun _ => 0) (fun _ => 0) (fun _ => 0) (fun _ => 0) (fun _ => 0) := rfl
  exact kL_tries_m_L39 l hl K pz pn pe pv pl px ph Gz Gn Ge Gv Gl Gx Gh ns x1 x2 hN3 hns hL B 24 0 q1 q2 q3 q4 q5 q6 (fun _ => 0) (fun _ => 0) (fun _ => 0) (fun _ => 0) (fun _ => 0) (fun _ => 0) (by omega) (fun t h => absurd h (Nat.not_lt_zero t)) (fun t h => absurd h (Nat.not_lt_zero t)) (fun t h => absurd h (Nat.not_lt_zero t)) (fun t h => absurd h (Nat.not_lt_zero t)) (fun t h => absurd h (Nat.not_lt_zero t)) (fun t h => absurd h (Nat.not_lt_zero t)) hF
def fL_told_qoh (X : Nat → Int32) (D : Nat → Nat → Int32) (i : Nat) (C : Nat → Nat → Int32) (Z : Nat → Nat → Int32) (W : Nat → Int32) (F : Nat → Int32) (O : Nat → Int32) (x1 : Int32) (x2 : Int32) : Int32 × (Nat → Int32) × (Nat → Nat → Int32) × (Nat → Int32) × (Nat → Int32) :=
  (((fX4_query_oh X D i C Z W F O x1 x2).1), ((fX4_query_oh X D i C Z W F O x1 x2).2.1), ((fX4_query_oh X D i C Z W F O x1 x2).2.2.1), ((fX4_query_oh X D i C Z W F O x1 x2).2.2.2.1), ((fX4_query_oh X D i C Z W F O x1 x2).2.2.2.2))
set_option maxHeartbeats 4000000 in
set_option maxRecDepth 100000 in
theorem kL_told_qoh (l : Launch) (hl : l.stackTraces = false) (K : zK) (ax : Nat) (az : Nat → Nat) (sa : Nat) (ak : Nat → Nat) (tr : Nat) (tc : Nat) (X : Nat → Int32) (f : Nat → Option Nat) (n : Nat) (so : Nat → Nat) (sc : Nat → Nat → Nat) (D : Nat → Nat → Int32) (i : Nat) (C : Nat → Nat → Int32) (Z : Nat → Nat → Int32) (W : Nat → Int32) (F : Nat → Int32) (O : Nat → Int32) (x1 : Int32) (x2 : Int32) (hf1 : ∀ a, a < n → f a = some (so a)) (hf2 : ∀ a, n ≤ a → a < 4 → f a = none) (hi : i < n) (hN : fX4_near n D x1 = some i) (q0 : ¬ x2 < 0) (q1 : x2 < 16) (r0 : ¬ x1 < 0) (r1 : x1 ≤ 99) : zMet l K yL_told wsL_told { frames := 7, cells := 0, slots := 0, locals := 164 } [.ref ax, .int 0, .int x1, .int x2] [zXo ax (az 0) sa (ak 0) tr tc X, zSa K sa f, zSO n so sc D, zCa K (sc i) C, zZo K az Z W, zCo K ak F O] (some (.int ((fL_told_qoh X D i C Z W F O x1 x2).1))) [zXo ax (az 0) sa (ak 0) tr tc ((fL_told_qoh X D i C Z W F O x1 x2).2.1), zSa K sa f, zSO n so sc D, zCa K (sc i) ((fL_told_qoh X D i C Z W F O x1 x2).2.2.1), zZo K az Z W, zCo K ak ((fL_told_qoh X D i C Z W F O x1 x2).2.2.2.1) ((fL_told_qoh X D i C Z W F O x1 x2).2.2.2.2)] True zNo := by
  refine zMeN.ofH (hh := [(0, 46, 47, 44)]) (cc := cL_told) (maxL := 5) (ret := (some .int)) (own := RL) (nm := "told") hl (by decide +kernel) rfl rfl rfl (Nat.le_of_ble_eq_true rfl) (lv := [(0, .ref ax), (1, .int 0), (2, .int x1), (3, .int x2)]) rfl ?_
  intro p e s m args below meth c A B
  refine z_iload_n B dL_told_0 1 rfl ?_
  refine z_ifne B 13 dL_told_1 (by decide) (fun _ => ?_) (fun h => absurd (by decide) h)
  refine z_aload_n B dL_told_4 0 rfl ?_
  refine z_iload_n B dL_told_5 2 rfl ?_
  refine z_iload_n B dL_told_6 3 rfl ?_
  refine z_V1 B (kX4_query_oh l hl K ax az sa ak tr tc X f n so sc D i C Z W F O x1 x2 hf1 hf2 hi hN q0 q1 r0 r1) [0, 1, 2, 3, 4, 5] [] (br := []) (bs' := [zXo ax (az 0) sa (ak 0) tr tc ((fX4_query_oh X D i C Z W F O x1 x2).2.1), zSa K sa f, zSO n so sc D, zCa K (sc i) ((fX4_query_oh X D i C Z W F O x1 x2).2.2.1), zZo K az Z W, zCo K ak ((fX4_query_oh X D i C Z W F O x1 x2).2.2.2.1) ((fX4_query_oh X D i C Z W F O x1 x2).2.2.2.2)]) (st := []) (nA := 2) (zsp rfl rfl rfl) (zsp rfl rfl rfl) 0 0 rfl rfl rfl rfl gL_told_X4_query rfl (by decide +kernel) ⟨Nat.le_of_ble_eq_true rfl, Nat.le_of_ble_eq_true rfl⟩ rfl rfl (Nat.le_of_ble_eq_true rfl) ⟨Nat.le_of_ble_eq_true rfl, Nat.le_of_ble_eq_true rfl⟩ dL_told_7 z_noX (fun _ => ?_)
  refine z_goto B (tgt := 46) dL_told_10 (by decide) ?_
  have hF : fL_told_qoh X D i C Z W F O x1 x2 = (((fX4_query_oh X D i C Z W F O x1 x2).1), ((fX4_query_oh X D i C Z W F O x1 x2).2.1), ((fX4_query_oh X D i C Z W F O x1 x2).2.2.1), ((fX4_query_oh X D i C Z W F O x1 x2).2.2.2.1), ((fX4_query_oh X D i C Z W F O x1 x2).2.2.2.2)) := rfl
  exact z_ret1 B rfl dL_told_46 () (trivial) (Nat.le_of_ble_eq_true rfl) (Nat.le_of_ble_eq_true rfl) (by rw [hF]) (by rw [hF])
def fL_told_qom (D : Nat → Nat → Int32) (x1 : Int32) (x2 : Int32) : Int32 :=
  (-13)
theorem hwL_told_cl44 : Cond.classLink RL 44 "java/lang/IllegalStateException" ∈ wsL_told := by decide +kernel
set_option maxHeartbeats 4000000 in
set_option maxRecDepth 100000 in
theorem kL_told_qom (l : Launch) (hl : l.stackTraces = false) (K : zK) (ax : Nat) (zn : Nat) (sa : Nat) (la : Nat) (tr : Nat) (tc : Nat) (X : Nat → Int32) (f : Nat → Option Nat) (n : Nat) (so : Nat → Nat) (sc : Nat → Nat → Nat) (D : Nat → Nat → Int32) (x1 : Int32) (x2 : Int32) (hf1 : ∀ a, a < n → f a = some (so a)) (hf2 : ∀ a, n ≤ a → a < 4 → f a = none) (hN : fX4_near n D x1 = none) (q0 : ¬ x2 < 0) (q1 : x2 < 16) (r0 : ¬ x1 < 0) (r1 : x1 ≤ 99) : zMet l K yL_told wsL_told { frames := 8, cells := 1, slots := 6, locals := 129 } [.ref ax, .int 0, .int x1, .int x2] [zXo ax zn sa la tr tc X, zSa K sa f, zSO n so sc D] (some (.int (fL_told_qom D x1 x2))) [zXo ax zn sa la tr tc X, zSa K sa f, zSO n so sc D] True zNo := by
  refine zMeN.ofH (hh := [(0, 46, 47, 44)]) (cc := cL_told) (maxL := 5) (ret := (some .int)) (own := RL) (nm := "told") hl (by decide +kernel) rfl rfl rfl (Nat.le_of_ble_eq_true rfl) (lv := [(0, .ref ax), (1, .int 0), (2, .int x1), (3, .int x2)]) rfl ?_
  intro p e s m args below meth c A B
  refine z_iload_n B dL_told_0 1 rfl ?_
  refine z_ifne B 13 dL_told_1 (by decide) (fun _ => ?_) (fun h => absurd (by decide) h)
  refine z_aload_n B dL_told_4 0 rfl ?_
  refine z_iload_n B dL_told_5 2 rfl ?_
  refine z_iload_n B dL_told_6 3 rfl ?_
  refine z_V1 B (kX4_query_om l hl K ax zn sa la tr tc X f n so sc D x1 x2 hf1 hf2 hN q0 q1 r0 r1) [0, 1, 2] [] (br := []) (bs' := [zXo ax zn sa la tr tc X, zSa K sa f, zSO n so sc D]) (st := []) (nA := 2) (zsp rfl rfl rfl) (zsp rfl rfl rfl) 0 0 rfl rfl rfl rfl gL_told_X4_query rfl (by decide +kernel) ⟨Nat.le_of_ble_eq_true rfl, Nat.le_of_ble_eq_true rfl⟩ rfl rfl (Nat.le_of_ble_eq_true rfl) ⟨Nat.le_of_ble_eq_true rfl, Nat.le_of_ble_eq_true rfl⟩ dL_told_7 (fun E hE => ?_) (fun h9 => h9.elim)
  · rcases hE with ⟨rfl, hx⟩
    · refine z_catch B [] ⟨0, 46, 47, 44⟩ [] rfl (fun _ h => absurd h List.not_mem_nil) rfl (by decide) hwL_told_cl44 z_ca3 (fun q9 => ?_)
      refine z_astore B (lv' := [(4, .ref q9), (0, .ref ax), (1, .int 0), (2, .int x1), (3, .int x2)]) dL_told_47 (by decide) rfl ?_
      refine z_bipush B (v := (-13)) dL_told_49 rfl ?_
      have hF : fL_told_qom D x1 x2 = (-13) := rfl
      exact z_ret1 B rfl dL_told_51 () (trivial) (Nat.le_of_ble_eq_true rfl) (Nat.le_of_ble_eq_true rfl) (by rw [hF]) (by rw [hF])
def fL_told_woh (X : Nat → Int32) (D : Nat → Nat → Int32) (i : Nat) (C : Nat → Nat → Int32) (Z : Nat → Nat → Int32) (W : Nat → Int32) (F : Nat → Int32) (O : Nat → Int32) (Tc : Nat → Nat → Int32) (x1 : Int32) (x2 : Int32) : Int32 × (Nat → Int32) × (Nat → Int32) × (Nat → Nat → Int32) :=
  (((fX4_wouldAnswer_oh X D i C Z W F O Tc x1 x2).1), ((fX4_wouldAnswer_oh X D i C Z W F O Tc x1 x2).2.1), ((fX4_wouldAnswer_oh X D i C Z W F O Tc x1 x2).2.2.1), ((fX4_wouldAnswer_oh X D i C Z W F O Tc x1 x2).2.2.2))
set_option maxHeartbeats 4000000 in
set_option maxRecDepth 100000 in
theorem kL_told_woh (l : Launch) (hl : l.stackTraces = false) (K : zK) (ax : Nat) (az : Nat → Nat) (sa : Nat) (la : Nat) (ak : Nat → Nat) (ad : Nat → Nat) (X : Nat → Int32) (f : Nat → Option Nat) (n : Nat) (so : Nat → Nat) (sc : Nat → Nat → Nat) (D : Nat → Nat → Int32) (i : Nat) (C : Nat → Nat → Int32) (Z : Nat → Nat → Int32) (W : Nat → Int32) (F : Nat → Int32) (O : Nat → Int32) (Tc : Nat → Nat → Int32) (x1 : Int32) (x2 : Int32) (hf1 : ∀ a, a < n → f a = some (so a)) (hf2 : ∀ a, n ≤ a → a < 4 → f a = none) (hi : i < n) (hN : fX4_near n D x1 = some i) (q0 : ¬ x2 < 0) (q1 : x2 < 16) (r0 : ¬ x1 < 0) (r1 : x1 ≤ 99) : zMet l K yL_told wsL_told { frames := 7, cells := 0, slots := 0, locals := 163 } [.ref ax, .int 1, .int x1, .int x2] [zXo ax (az 0) sa la (ak 0) (ad 0) X, zSa K sa f, zSO n so sc D, zCa K (sc i) C, zZo K az Z W, zCo K ak F O, zCa K ad Tc] (some (.int ((fL_told_woh X D i C Z W F O Tc x1 x2).1))) [zXo ax (az 0) sa la (ak 0) (ad 0) X, zSa K sa f, zSO n so sc D, zCa K (sc i) C, zZo K az Z W, zCo K ak ((fL_told_woh X D i C Z W F O Tc x1 x2).2.1) ((fL_told_woh X D i C Z W F O Tc x1 x2).2.2.1), zCa K ad ((fL_told_woh X D i C Z W F O Tc x1 x2).2.2.2)] True zNo := by
  refine zMeN.ofH (hh := [(0, 46, 47, 44)]) (cc := cL_told) (maxL := 5) (ret := (some .int)) (own := RL) (nm := "told") hl (by decide +kernel) rfl rfl rfl (Nat.le_of_ble_eq_true rfl) (lv := [(0, .ref ax), (1, .int 1), (2, .int x1), (3, .int x2)]) rfl ?_
  intro p e s m args below meth c A B
  refine z_iload_n B dL_told_0 1 rfl ?_
  refine z_ifne B 13 dL_told_1 (by decide) (fun h => absurd h (by decide)) (fun _ => ?_)
  refine z_iload_n B dL_told_13 1 rfl ?_
  refine z_iconst B (v := 1) dL_told_14 rfl ?_
  refine z_icne B 27 dL_told_15 (by decide) (fun _ => ?_) (fun h => absurd (by decide) h)
  refine z_aload_n B dL_told_18 0 rfl ?_
  refine z_iload_n B dL_told_19 2 rfl ?_
  refine z_iload_n B dL_told_20 3 rfl ?_
  refine z_V1 B (kX4_wouldAnswer_oh l hl K ax az sa la ak ad X f n so sc D i C Z W F O Tc x1 x2 hf1 hf2 hi hN q0 q1 r0 r1) [0, 1, 2, 3, 4, 5, 6] [] (br := []) (bs' := [zXo ax (az 0) sa la (ak 0) (ad 0) X, zSa K sa f, zSO n so sc D, zCa K (sc i) C, zZo K az Z W, zCo K ak ((fX4_wouldAnswer_oh X D i C Z W F O Tc x1 x2).2.1) ((fX4_wouldAnswer_oh X D i C Z W F O Tc x1 x2).2.2.1), zCa K ad ((fX4_wouldAnswer_oh X D i C Z W F O Tc x1 x2).2.2.2)]) (st := []) (nA := 2) (zsp rfl rfl rfl) (zsp rfl rfl rfl) 0 0 rfl rfl rfl rfl gL_told_X4_wouldAnswer rfl (by decide +kernel) ⟨Nat.le_of_ble_eq_true rfl, Nat.le_of_ble_eq_true rfl⟩ rfl rfl (Nat.le_of_ble_eq_true rfl) ⟨Nat.le_of_ble_eq_true rfl, Nat.le_of_ble_eq_true rfl⟩ dL_told_21 z_noX (fun _ => ?_)
  refine z_goto B (tgt := 46) dL_told_24 (by decide) ?_
  have hF : fL_told_woh X D i C Z W F O Tc x1 x2 = (((fX4_wouldAnswer_oh X D i C Z W F O Tc x1 x2).1), ((fX4_wouldAnswer_oh X D i C Z W F O Tc x1 x2).2.1), ((fX4_wouldAnswer_oh X D i C Z W F O Tc x1 x2).2.2.1), ((fX4_wouldAnswer_oh X D i C Z W F O Tc x1 x2).2.2.2)) := rfl
  exact z_ret1 B rfl dL_told_46 () (trivial) (Nat.le_of_ble_eq_true rfl) (Nat.le_of_ble_eq_true rfl) (by rw [hF]) (by rw [hF])
def fL_told_wom (D : Nat → Nat → Int32) (x1 : Int32) (x2 : Int32) : Int32 :=
  (-13)
set_option maxHeartbeats 4000000 in
set_option maxRecDepth 100000 in
theorem kL_told_wom (l : Launch) (hl : l.stackTraces = false) (K : zK) (ax : Nat) (zn : Nat) (sa : Nat) (la : Nat) (tr : Nat) (tc : Nat) (X : Nat → Int32) (f : Nat → Option Nat) (n : Nat) (so : Nat → Nat) (sc : Nat → Nat → Nat) (D : Nat → Nat → Int32) (x1 : Int32) (x2 : Int32) (hf1 : ∀ a, a < n → f a = some (so a)) (hf2 : ∀ a, n ≤ a → a < 4 → f a = none) (hN : fX4_near n D x1 = none) (q0 : ¬ x2 < 0) (q1 : x2 < 16) (r0 : ¬ x1 < 0) (r1 : x1 ≤ 99) : zMet l K yL_told wsL_told { frames := 8, cells := 1, slots := 6, locals := 128 } [.ref ax, .int 1, .int x1, .int x2] [zXo ax zn sa la tr tc X, zSa K sa f, zSO n so sc D] (some (.int (fL_told_wom D x1 x2))) [zXo ax zn sa la tr tc X, zSa K sa f, zSO n so sc D] True zNo := by
  refine zMeN.ofH (hh := [(0, 46, 47, 44)]) (cc := cL_told) (maxL := 5) (ret := (some .int)) (own := RL) (nm := "told") hl (by decide +kernel) rfl rfl rfl (Nat.le_of_ble_eq_true rfl) (lv := [(0, .ref ax), (1, .int 1), (2, .int x1), (3, .int x2)]) rfl ?_
  intro p e s m args below meth c A B
  refine z_iload_n B dL_told_0 1 rfl ?_
  refine z_ifne B 13 dL_told_1 (by decide) (fun h => absurd h (by decide)) (fun _ => ?_)
  refine z_iload_n B dL_told_13 1 rfl ?_
  refine z_iconst B (v := 1) dL_told_14 rfl ?_
  refine z_icne B 27 dL_told_15 (by decide) (fun _ => ?_) (fun h => absurd (by decide) h)
  refine z_aload_n B dL_told_18 0 rfl ?_
  refine z_iload_n B dL_told_19 2 rfl ?_
  refine z_iload_n B dL_told_20 3 rfl ?_
  refine z_V1 B (kX4_wouldAnswer_om l hl K ax zn sa la tr tc X f n so sc D x1 x2 hf1 hf2 hN q0 q1 r0 r1) [0, 1, 2] [] (br := []) (bs' := [zXo ax zn sa la tr tc X, zSa K sa f, zSO n so sc D]) (st := []) (nA := 2) (zsp rfl rfl rfl) (zsp rfl rfl rfl) 0 0 rfl rfl rfl rfl gL_told_X4_wouldAnswer rfl (by decide +kernel) ⟨Nat.le_of_ble_eq_true rfl, Nat.le_of_ble_eq_true rfl⟩ rfl rfl (Nat.le_of_ble_eq_true rfl) ⟨Nat.le_of_ble_eq_true rfl, Nat.le_of_ble_eq_true rfl⟩ dL_told_21 (fun E hE => ?_) (fun h9 => h9.elim)
  · rcases hE with ⟨rfl, hx⟩
    · refine z_catch B [] ⟨0, 46, 47, 44⟩ [] rfl (fun _ h => absurd h List.not_mem_nil) rfl (by decide) hwL_told_cl44 z_ca3 (fun q9 => ?_)
      refine z_astore B (lv' := [(4, .ref q9), (0, .ref ax), (1, .int 1), (2, .int x1), (3, .int x2)]) dL_told_47 (by decide) rfl ?_
      refine z_bipush B (v := (-13)) dL_told_49 rfl ?_
      have hF : fL_told_wom D x1 x2 = (-13) := rfl
      exact z_ret1 B rfl dL_told_51 () (trivial) (Nat.le_of_ble_eq_true rfl) (Nat.le_of_ble_eq_true rfl) (by rw [hF]) (by rw [hF])
set_option maxHeartbeats 4000000 in
set_option maxRecDepth 100000 in
theorem kX4_addSite_y (l : Launch) (hl : l.stackTraces = false) (K : zK) (ax : Nat) (zn : Nat) (sa : Nat) (la : Nat) (tr : Nat) (tc : Nat) (X : Nat → Int32) (f : Nat → Option Nat) (n : Nat) (so : Nat → Nat) (sc : Nat → Nat → Nat) (D : Nat → Nat → Int32) (Cs : Nat → Nat → Nat → Int32) (x1 : Int32) (hX2 : (X 2) = nI n) (hn4 : n ≤ 4) (r0 : ¬ x1 < 0) (r1 : x1 ≤ 99) (hx4 : (X 2) < 4) : zMeN l K yX4_addSite wsX4_addSite { frames := 3, cells := 7, slots := 90, locals := 65 } [.ref ax, .int x1] [zXo ax zn sa la tr tc X, zSa K sa f, zSO n so sc D, zSC K n sc Cs] (fun u : Nat × (Nat → Nat) => (some (.int (X 2)), ([zXo ax zn sa la tr tc (va_up X 2 ((X 2) + 1)), zSa K sa (va_up f n (some u.1)), zSO (n + 1) (va_up so n u.1) (va_up sc n u.2) (va_up D n (va_up (va_up (va_up (fun _ => 0) 0 (X 2)) 1 x1) 3 1)), zSC K (n + 1) (va_up sc n u.2) (va_up Cs n zC0)] : zB))) (fun u : Nat × (Nat → Nat) => True) zNo := by
  refine zMeN.of (cc := cX4_addSite) (maxL := 3) (ret := (some .int)) (own := RX4) (nm := "addSite") hl (by decide +kernel) rfl rfl rfl (Nat.le_of_ble_eq_true rfl) (lv := [(0, .ref ax), (1, .int x1)]) rfl ?_
  intro p e s m args below meth c A B
  refine z_iload_n B dX4_addSite_0 1 rfl ?_
  refine z_iconst B (v := 0) dX4_addSite_1 rfl ?_
  refine z_bipush B (v := 99) dX4_addSite_2 rfl ?_
  refine z_S0 B (kX4_requireWithin_o l hl K x1 0 99 r0 r1) [] [0, 1, 2, 3] (br := [zXo ax zn sa la tr tc X, zSa K sa f, zSO n so sc D, zSC K n sc Cs]) (bs' := [zXo ax zn sa la tr tc X, zSa K sa f, zSO n so sc D, zSC K n sc Cs]) (st := []) (nA := 3) (zsp rfl rfl rfl) (zsp rfl rfl rfl) gX4_addSite_X4_requireWithin rfl (by decide +kernel) ⟨Nat.le_of_ble_eq_true rfl, Nat.le_of_ble_eq_true rfl⟩ rfl rfl (Nat.le_of_ble_eq_true rfl) ⟨Nat.le_of_ble_eq_true rfl, Nat.le_of_ble_eq_true rfl⟩ dX4_addSite_4 z_noX (fun _ => ?_)
  refine z_aload_n B dX4_addSite_7 0 rfl ?_
  refine z_get B (v := .int (X 2)) 0 0 2 hiX4_addSite_4 hfX4_addSite_76 rfl rfl rfl (by decide) rfl rfl rfl rfl dX4_addSite_8 ?_
  refine z_aload_n B dX4_addSite_11 0 rfl ?_
  refine z_get B (v := .ref sa) 0 0 1 hiX4_addSite_4 hfX4_addSite_18 rfl rfl rfl (by decide) rfl rfl rfl rfl dX4_addSite_12 ?_
  refine z_alen B (v := 4) 1 0 2 rfl rfl rfl rfl dX4_addSite_15 ?_
  refine z_iclt B 29 dX4_addSite_16 (by decide) (fun _ => ?_) (fun h => absurd hx4 h)
  refine z_aload_n B dX4_addSite_29 0 rfl ?_
  refine z_get B (v := .int (X 2)) 0 0 2 hiX4_addSite_4 hfX4_addSite_76 rfl rfl rfl (by decide) rfl rfl rfl rfl dX4_addSite_30 ?_
  refine z_istore_n B (lv' := [(2, .int (X 2)), (0, .ref ax), (1, .int x1)]) dX4_addSite_33 (by decide) rfl ?_
  refine z_aload_n B dX4_addSite_34 1 rfl ?_
  refine z_get B (v := .ref sa) 0 0 1 hiX4_addSite_4 hfX4_addSite_18 rfl rfl rfl (by decide) rfl rfl rfl rfl dX4_addSite_35 ?_
  refine z_iload_n B dX4_addSite_38 0 rfl ?_
  refine z_new B (ci := 2) (fs := [.int 0, .int 0, .null, .int 0]) hiX4_addSite_2 tyX2_ok hwX4_addSite_cl16 hwX4_addSite_ins2 hwX4_addSite_init2 rfl (by decide +kernel) (Nat.le_of_ble_eq_true rfl) (Nat.le_of_ble_eq_true rfl) dX4_addSite_39 (fun q1 => ?_)
  refine z_dup B dX4_addSite_42 rfl ?_
  refine z_iload_n B dX4_addSite_43 0 rfl ?_
  refine z_iload_n B dX4_addSite_44 2 rfl ?_
  refine z_callI B (kX2_init l hl K q1 (X 2) x1) [4] [0, 1, 2, 3] (br := [zXo ax zn sa la tr tc X, zSa K sa f, zSO n so sc D, zSC K n sc Cs]) (bs' := fun u2 => [zXo ax zn sa la tr tc X, zSa K sa f, zSO n so sc D, zSC K n sc Cs, (zSi q1 (u2 0) (va_up (va_up (va_up (fun _ => 0) 0 (X 2)) 1 x1) 3 1) :: zCa K u2 zC0)]) (st := [.ref q1, .int (X 2), .ref sa]) (nA := 2) (zsp rfl rfl rfl) (fun _ => zsp rfl rfl rfl) gX4_addSite_X2_init hwX4_addSite_ml84 hwX4_addSite_miX2_init hwX4_addSite_inX2_init rfl rfl (by decide +kernel) ⟨Nat.le_of_ble_eq_true rfl, Nat.le_of_ble_eq_true rfl⟩ rfl rfl (Nat.le_of_ble_eq_true rfl) ⟨Nat.le_of_ble_eq_true rfl, Nat.le_of_ble_eq_true rfl⟩ dX4_addSite_45 (fun u2 hu2 => ?_)
  refine z_aast B (N := 4) (f := f) 1 0 4 0 rfl rfl rfl rfl (z_vp2 (M := 4) rfl (show ¬ X 2 < 0 by rw [hX2]; exact nI_pos (by omega)) hx4) (bs' := [zXo ax zn sa la tr tc X, zSa K sa (va_up f (X 2).toNatClampNeg (some q1)), zSO n so sc D, zSC K n sc Cs, (zSi q1 (u2 0) (va_up (va_up (va_up (fun _ => 0) 0 (X 2)) 1 x1) 3 1) :: zCa K u2 zC0)]) rfl dX4_addSite_48 ?_
  refine z_aload_n B dX4_addSite_49 1 rfl ?_
  refine z_dup B dX4_addSite_50 rfl ?_
  refine z_get B (v := .int (X 2)) 0 0 2 hiX4_addSite_4 hfX4_addSite_76 rfl rfl rfl (by decide) rfl rfl rfl rfl dX4_addSite_51 ?_
  refine z_iconst B (v := 1) dX4_addSite_54 rfl ?_
  refine z_iadd B dX4_addSite_55 ?_
  refine z_put B 0 0 2 hiX4_addSite_4 hfX4_addSite_76 tyX4_ok nmX4 rfl rfl rfl (by decide) rfl rfl rfl rfl rfl rfl rfl (Nat.le_of_ble_eq_true rfl) (bs' := [zXo ax zn sa la tr tc (va_up X 2 ((X 2) + 1)), zSa K sa (va_up f (X 2).toNatClampNeg (some q1)), zSO n so sc D, zSC K n sc Cs, (zSi q1 (u2 0) (va_up (va_up (va_up (fun _ => 0) 0 (X 2)) 1 x1) 3 1) :: zCa K u2 zC0)]) rfl dX4_addSite_56 ?_
  refine z_iload_n B dX4_addSite_59 0 rfl ?_
  rw [show (X 2).toNatClampNeg = n from by rw [hX2]; exact z_cl4 hn4]
  refine z_perm (bs' := [zXo ax zn sa la tr tc (va_up X 2 ((X 2) + 1)), zSa K sa (va_up f n (some q1)), zSO (n + 1) (va_up so n q1) (va_up sc n u2) (va_up D n (va_up (va_up (va_up (fun _ => 0) 0 (X 2)) 1 x1) 3 1)), zSC K (n + 1) (va_up sc n u2) (va_up Cs n zC0)]) z_permS ?_
  exact z_ret1 B rfl dX4_addSite_60 (q1, u2) trivial (Nat.le_of_ble_eq_true rfl) (Nat.le_of_ble_eq_true rfl) rfl rfl
def fX4_addSite_n (X : Nat → Int32) (x1 : Int32) : Nat × Int32 :=
  (3, 0)
set_option maxHeartbeats 4000000 in
set_option maxRecDepth 100000 in
theorem kX4_addSite_n (l : Launch) (hl : l.stackTraces = false) (K : zK) (ax : Nat) (zn : Nat) (sa : Nat) (la : Nat) (tr : Nat) (tc : Nat) (X : Nat → Int32) (f : Nat → Option Nat) (n : Nat) (so : Nat → Nat) (sc : Nat → Nat → Nat) (D : Nat → Nat → Int32) (x1 : Int32) (hX2 : (X 2) = nI n) (hn4 : n ≤ 4) (r0 : ¬ x1 < 0) (r1 : x1 ≤ 99) (hx4 : ¬ (X 2) < 4) : zMet l K yX4_addSite wsX4_addSite { frames := 6, cells := 1, slots := 6, locals := 82 } [.ref ax, .int x1] [zXo ax zn sa la tr tc X, zSa K sa f, zSO n so sc D] (some (.int ((fX4_addSite_n X x1).2))) [zXo ax zn sa la tr tc X, zSa K sa f, zSO n so sc D] False (fun E => (E = zE3 ∧ (fX4_addSite_n X x1).1 = 3)) := by
  refine zMeN.of (cc := cX4_addSite) (maxL := 3) (ret := (some .int)) (own := RX4) (nm := "addSite") hl (by decide +kernel) rfl rfl rfl (Nat.le_of_ble_eq_true rfl) (lv := [(0, .ref ax), (1, .int x1)]) rfl ?_
  intro p e s m args below meth c A B
  refine z_iload_n B dX4_addSite_0 1 rfl ?_
  refine z_iconst B (v := 0) dX4_addSite_1 rfl ?_
  refine z_bipush B (v := 99) dX4_addSite_2 rfl ?_
  refine z_S0 B (kX4_requireWithin_o l hl K x1 0 99 r0 r1) [] [0, 1, 2] (br := [zXo ax zn sa la tr tc X, zSa K sa f, zSO n so sc D]) (bs' := [zXo ax zn sa la tr tc X, zSa K sa f, zSO n so sc D]) (st := []) (nA := 3) (zsp rfl rfl rfl) (zsp rfl rfl rfl) gX4_addSite_X4_requireWithin rfl (by decide +kernel) ⟨Nat.le_of_ble_eq_true rfl, Nat.le_of_ble_eq_true rfl⟩ rfl rfl (Nat.le_of_ble_eq_true rfl) ⟨Nat.le_of_ble_eq_true rfl, Nat.le_of_ble_eq_true rfl⟩ dX4_addSite_4 z_noX (fun _ => ?_)
  refine z_aload_n B dX4_addSite_7 0 rfl ?_
  refine z_get B (v := .int (X 2)) 0 0 2 hiX4_addSite_4 hfX4_addSite_76 rfl rfl rfl (by decide) rfl rfl rfl rfl dX4_addSite_8 ?_
  refine z_aload_n B dX4_addSite_11 0 rfl ?_
  refine z_get B (v := .ref sa) 0 0 1 hiX4_addSite_4 hfX4_addSite_18 rfl rfl rfl (by decide) rfl rfl rfl rfl dX4_addSite_12 ?_
  refine z_alen B (v := 4) 1 0 2 rfl rfl rfl rfl dX4_addSite_15 ?_
  refine z_iclt B 29 dX4_addSite_16 (by decide) (fun h => absurd h hx4) (fun _ => ?_)
  have hF : fX4_addSite_n X x1 = (3, 0) := rfl
  exact z_throw B rfl ["java/lang/RuntimeException", "java/lang/Exception"] (by decide +kernel) (by decide +kernel) hwX4_addSite_cl79 hwX4_addSite_ini79 (text := "there is no room for another site") (by decide +kernel) haX4_addSite_83 hgX4_addSite_83 hoX4_addSite_83 dX4_addSite_19 dX4_addSite_22 dX4_addSite_23 dX4_addSite_25 dX4_addSite_28 (by decide) (Nat.le_of_ble_eq_true rfl) (Nat.le_of_ble_eq_true rfl) (Nat.le_of_ble_eq_true rfl) (⟨rfl, by rw [hF]⟩) (Nat.le_of_ble_eq_true rfl) (Nat.le_of_ble_eq_true rfl)
set_option maxHeartbeats 4000000 in
set_option maxRecDepth 100000 in
theorem kL_told_ay (l : Launch) (hl : l.stackTraces = false) (K : zK) (ax : Nat) (zn : Nat) (sa : Nat) (la : Nat) (tr : Nat) (tc : Nat) (X : Nat → Int32) (f : Nat → Option Nat) (n : Nat) (so : Nat → Nat) (sc : Nat → Nat → Nat) (D : Nat → Nat → Int32) (Cs : Nat → Nat → Nat → Int32) (x1 : Int32) (hX2 : (X 2) = nI n) (hn4 : n ≤ 4) (r0 : ¬ x1 < 0) (r1 : x1 ≤ 99) (hx4 : (X 2) < 4) : zMeN l K yL_told wsL_told { frames := 4, cells := 7, slots := 90, locals := 87 } [.ref ax, .int 2, .int x1, .int 0] [zXo ax zn sa la tr tc X, zSa K sa f, zSO n so sc D, zSC K n sc Cs] (fun u : Nat × (Nat → Nat) => (some (.int (X 2)), ([zXo ax zn sa la tr tc (va_up X 2 ((X 2) + 1)), zSa K sa (va_up f n (some u.1)), zSO (n + 1) (va_up so n u.1) (va_up sc n u.2) (va_up D n (va_up (va_up (va_up (fun _ => 0) 0 (X 2)) 1 x1) 3 1)), zSC K (n + 1) (va_up sc n u.2) (va_up Cs n zC0)] : zB))) (fun u : Nat × (Nat → Nat) => True) zNo := by
  refine zMeN.ofH (hh := [(0, 46, 47, 44)]) (cc := cL_told) (maxL := 5) (ret := (some .int)) (own := RL) (nm := "told") hl (by decide +kernel) rfl rfl rfl (Nat.le_of_ble_eq_true rfl) (lv := [(0, .ref ax), (1, .int 2), (2, .int x1), (3, .int 0)]) rfl ?_
  intro p e s m args below meth c A B
  refine z_iload_n B dL_told_0 1 rfl ?_
  refine z_ifne B 13 dL_told_1 (by decide) (fun h => absurd h (by decide)) (fun _ => ?_)
  refine z_iload_n B dL_told_13 1 rfl ?_
  refine z_iconst B (v := 1) dL_told_14 rfl ?_
  refine z_icne B 27 dL_told_15 (by decide) (fun h => absurd h (by decide)) (fun _ => ?_)
  refine z_iload_n B dL_told_27 1 rfl ?_
  refine z_iconst B (v := 2) dL_told_28 rfl ?_
  refine z_icne B 40 dL_told_29 (by decide) (fun _ => ?_) (fun h => absurd (by decide) h)
  refine z_aload_n B dL_told_32 0 rfl ?_
  refine z_iload_n B dL_told_33 2 rfl ?_
  refine z_callV B (kX4_addSite_y l hl K ax zn sa la tr tc X f n so sc D Cs x1 hX2 hn4 r0 r1 hx4) [0, 1, 2, 3] [] (br := []) (bs' := fun u9 => [zXo ax zn sa la tr tc (va_up X 2 ((X 2) + 1)), zSa K sa (va_up f n (some u9.1)), zSO (n + 1) (va_up so n u9.1) (va_up sc n u9.2) (va_up D n (va_up (va_up (va_up (fun _ => 0) 0 (X 2)) 1 x1) 3 1)), zSC K (n + 1) (va_up sc n u9.2) (va_up Cs n zC0)]) (st := []) (nA := 1) (zsp rfl rfl rfl) (fun _ => zsp rfl rfl rfl) 0 0 rfl rfl rfl rfl gL_told_X4_addSite rfl (by decide +kernel) ⟨Nat.le_of_ble_eq_true rfl, Nat.le_of_ble_eq_true rfl⟩ rfl rfl (Nat.le_of_ble_eq_true rfl) ⟨Nat.le_of_ble_eq_true rfl, Nat.le_of_ble_eq_true rfl⟩ dL_told_34 z_noX (fun u9 _ => ?_)
  refine z_goto B (tgt := 46) dL_told_37 (by decide) ?_
  exact z_ret1 B rfl dL_told_46 u9 trivial (Nat.le_of_ble_eq_true rfl) (Nat.le_of_ble_eq_true rfl) rfl rfl
def fL_told_an (X : Nat → Int32) (x1 : Int32) : Int32 :=
  (-13)
set_option maxHeartbeats 4000000 in
set_option maxRecDepth 100000 in
theorem kL_told_an (l : Launch) (hl : l.stackTraces = false) (K : zK) (ax : Nat) (zn : Nat) (sa : Nat) (la : Nat) (tr : Nat) (tc : Nat) (X : Nat → Int32) (f : Nat → Option Nat) (n : Nat) (so : Nat → Nat) (sc : Nat → Nat → Nat) (D : Nat → Nat → Int32) (x1 : Int32) (hX2 : (X 2) = nI n) (hn4 : n ≤ 4) (r0 : ¬ x1 < 0) (r1 : x1 ≤ 99) (hx4 : ¬ (X 2) < 4) : zMet l K yL_told wsL_told { frames := 7, cells := 1, slots := 6, locals := 104 } [.ref ax, .int 2, .int x1, .int 0] [zXo ax zn sa la tr tc X, zSa K sa f, zSO n so sc D] (some (.int (fL_told_an X x1))) [zXo ax zn sa la tr tc X, zSa K sa f, zSO n so sc D] True zNo := by
  refine zMeN.ofH (hh := [(0, 46, 47, 44)]) (cc := cL_told) (maxL := 5) (ret := (some .int)) (own := RL) (nm := "told") hl (by decide +kernel) rfl rfl rfl (Nat.le_of_ble_eq_true rfl) (lv := [(0, .ref ax), (1, .int 2), (2, .int x1), (3, .int 0)]) rfl ?_
  intro p e s m args below meth c A B
  refine z_iload_n B dL_told_0 1 rfl ?_
  refine z_ifne B 13 dL_told_1 (by decide) (fun h => absurd h (by decide)) (fun _ => ?_)
  refine z_iload_n B dL_told_13 1 rfl ?_
  refine z_iconst B (v := 1) dL_told_14 rfl ?_
  refine z_icne B 27 dL_told_15 (by decide) (fun h => absurd h (by decide)) (fun _ => ?_)
  refine z_iload_n B dL_told_27 1 rfl ?_
  refine z_iconst B (v := 2) dL_told_28 rfl ?_
  refine z_icne B 40 dL_told_29 (by decide) (fun _ => ?_) (fun h => absurd (by decide) h)
  refine z_aload_n B dL_told_32 0 rfl ?_
  refine z_iload_n B dL_told_33 2 rfl ?_
  refine z_V1 B (kX4_addSite_n l hl K ax zn sa la tr tc X f n so sc D x1 hX2 hn4 r0 r1 hx4) [0, 1, 2] [] (br := []) (bs' := [zXo ax zn sa la tr tc X, zSa K sa f, zSO n so sc D]) (st := []) (nA := 1) (zsp rfl rfl rfl) (zsp rfl rfl rfl) 0 0 rfl rfl rfl rfl gL_told_X4_addSite rfl (by decide +kernel) ⟨Nat.le_of_ble_eq_true rfl, Nat.le_of_ble_eq_true rfl⟩ rfl rfl (Nat.le_of_ble_eq_true rfl) ⟨Nat.le_of_ble_eq_true rfl, Nat.le_of_ble_eq_true rfl⟩ dL_told_34 (fun E hE => ?_) (fun h9 => h9.elim)
  · rcases hE with ⟨rfl, hx⟩
    · refine z_catch B [] ⟨0, 46, 47, 44⟩ [] rfl (fun _ h => absurd h List.not_mem_nil) rfl (by decide) hwL_told_cl44 z_ca3 (fun q9 => ?_)
      refine z_astore B (lv' := [(4, .ref q9), (0, .ref ax), (1, .int 2), (2, .int x1), (3, .int 0)]) dL_told_47 (by decide) rfl ?_
      refine z_bipush B (v := (-13)) dL_told_49 rfl ?_
      have hF : fL_told_an X x1 = (-13) := rfl
      exact z_ret1 B rfl dL_told_51 () (trivial) (Nat.le_of_ble_eq_true rfl) (Nat.le_of_ble_eq_true rfl) (by rw [hF]) (by rw [hF])
