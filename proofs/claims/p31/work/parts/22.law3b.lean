theorem z_lt20 {a : Nat} (h : ¬ 20 ≤ nI a) (ha : a < 24) : vp_in (nI a) 20 := by
  have h2 : ¬ nI 20 ≤ nI a := h
  rw [nI_leI (by decide) (by omega)] at h2
  exact vp_in_nI (by omega) (by decide)
def fL_tries_h_L39 (Gz : Nat → Int32) (Gn : Nat → Int32) (Ge : Nat → Int32) (Gv : Nat → Int32) (Gl : Nat → Int32) (Gx : Nat → Int32) (Gh : Nat → Int32) (i : Nat) (x2 : Int32) : Nat → Nat → (Nat → Int32) → (Nat → Int32) → (Nat → Int32) → (Nat → Int32) → (Nat → Int32) → (Nat → Int32) → Int32
  | 0, a, M1, E1, V1, L1, X1, H1 =>
    ((fL_asks_h Gz Gn Ge Gv Gl Gx Gh i x2).1)
  | n + 1, a, M1, E1, V1, L1, X1, H1 =>
    if 20 ≤ (nI a) then
      fL_tries_h_L39 Gz Gn Ge Gv Gl Gx Gh i x2 n (a + 1) (upd M1 19 (Gn 19)) (upd E1 a (Ge a)) (upd V1 a (Gv a)) (upd L1 a (Gl a)) (upd X1 a (Gx a)) (upd H1 a (Gh a))
    else
      fL_tries_h_L39 Gz Gn Ge Gv Gl Gx Gh i x2 n (a + 1) (upd M1 a (Gn a)) (upd E1 a (Ge a)) (upd V1 a (Gv a)) (upd L1 a (Gl a)) (upd X1 a (Gx a)) (upd H1 a (Gh a))
def fL_tries_h (Gz : Nat → Int32) (Gn : Nat → Int32) (Ge : Nat → Int32) (Gv : Nat → Int32) (Gl : Nat → Int32) (Gx : Nat → Int32) (Gh : Nat → Int32) (i : Nat) (x2 : Int32) : Int32 :=
  fL_tries_h_L39 Gz Gn Ge Gv Gl Gx Gh i x2 24 0 (fun _ => 0) (fun _ => 0) (fun _ => 0) (fun _ => 0) (fun _ => 0) (fun _ => 0)
theorem hwL_tries_arrint : Cond.arrayClass .int ∈ wsL_tries := by decide +kernel
set_option maxHeartbeats 4000000 in
set_option maxRecDepth 100000 in
theorem kL_tries_h_L39 (l : Launch) (hl : l.stackTraces = false) (K : zK) (pz : Nat) (pn : Nat) (pe : Nat) (pv : Nat) (pl : Nat) (px : Nat) (ph : Nat) (Gz : Nat → Int32) (Gn : Nat → Int32) (Ge : Nat → Int32) (Gv : Nat → Int32) (Gl : Nat → Int32) (Gx : Nat → Int32) (Gh : Nat → Int32) (ns : Nat) (i : Nat) (x1 : Int32) (x2 : Int32) (hN3 : (Gn 3) = nI ns) (hns : ns ≤ 4) (hL : fL_nearest Gn ns x1 = nI i) (hi4 : i < 4) (hn : vp_in x2 16) (hz : zwz Gz) (hv : zwV Gv) {p : Program} {e : Env} {s : State} {m : MethodId} {args : Array Value} {below : List Frame} {meth : Method} {c : Code} {A : Nat → Prop} (B : zF K p l s m args meth c A cL_tries 16 RL "tries" wsL_tries (some .int) []) : ∀ (n a : Nat) (cn : Nat) (ce : Nat) (cv : Nat) (cl : Nat) (cx : Nat) (ch : Nat) (M1 : Nat → Int32) (E1 : Nat → Int32) (V1 : Nat → Int32) (L1 : Nat → Int32) (X1 : Nat → Int32) (H1 : Nat → Int32), a + n = 24 → (∀ t, t < a → t < 20 → M1 t = Gn t) → (∀ t, t < a → E1 t = Ge t) → (∀ t, t < a → V1 t = Gv t) → (∀ t, t < a → L1 t = Gl t) → (∀ t, t < a → X1 t = Gx t) → (∀ t, t < a → H1 t = Gh t) → fL_tries_h Gz Gn Ge Gv Gl Gx Gh i x2 = fL_tries_h_L39 Gz Gn Ge Gv Gl Gx Gh i x2 n a M1 E1 V1 L1 X1 H1 → zW K p l e { frames := 4, cells := 8, slots := 152, locals := 119 } s m args below meth c A (vx_MQ below (zQ K A (fun _ : Unit => ((some (.int (fL_tries_h Gz Gn Ge Gv Gl Gx Gh i x2))), [[(pz, .inl (zI K, 32, .inl Gz))], [(pn, .inl (zI K, 20, .inl Gn))], [(pe, .inl (zI K, 24, .inl Ge))], [(pv, .inl (zI K, 24, .inl Gv))], [(pl, .inl (zI K, 24, .inl Gl))], [(px, .inl (zI K, 24, .inl Gx))], [(ph, .inl (zI K, 24, .inl Gh))]])) (fun _ => True)) (zX K A [[(pz, .inl (zI K, 32, .inl Gz))], [(pn, .inl (zI K, 20, .inl Gn))], [(pe, .inl (zI K, 24, .inl Ge))], [(pv, .inl (zI K, 24, .inl Gv))], [(pl, .inl (zI K, 24, .inl Gl))], [(px, .inl (zI K, 24, .inl Gx))], [(ph, .inl (zI K, 24, .inl Gh))]] zNo) args s 8 152 A) 6 140 [[(pz, .inl (zI K, 32, .inl Gz))], [(pn, .inl (zI K, 20, .inl Gn))], [(pe, .inl (zI K, 24, .inl Ge))], [(pv, .inl (zI K, 24, .inl Gv))], [(pl, .inl (zI K, 24, .inl Gl))], [(px, .inl (zI K, 24, .inl Gx))], [(ph, .inl (zI K, 24, .inl Gh))], [(cn, .inl (zI K, 20, .inl M1))], [(ce, .inl (zI K, 24, .inl E1))], [(cv, .inl (zI K, 24, .inl V1))], [(cl, .inl (zI K, 24, .inl L1))], [(cx, .inl (zI K, 24, .inl X1))], [(ch, .inl (zI K, 24, .inl H1))]] [(0, .ref pz), (1, .ref pn), (2, .ref pe), (3, .ref pv), (4, .ref pl), (5, .ref px), (6, .ref ph), (7, .int x1), (8, .int x2), (9, .ref cn), (10, .ref ce), (11, .ref cv), (12, .ref cl), (13, .ref cx), (14, .ref ch), (15, .int (nI a))] [] 39 := by
  intro n
  induction n with
  | zero =>
    intro a cn ce cv cl cx ch M1 E1 V1 L1 X1 H1 ha hM hE1 hV1 hL1 hX1 hH1 hF0
    refine z_iload B dL_tries_39 15 rfl ?_
    refine z_bipush B (v := 24) dL_tries_41 rfl ?_
    refine z_icge B 133 dL_tries_43 (by decide) (fun _ => ?_) (fun h => absurd (z_lge0 ha (by decide)) h)
    refine z_ext (N := 20) (f := M1) (g := Gn) 7 0 rfl rfl (fun t ht => hM t (by omega) ht) (bs' := [[(pz, .inl (zI K, 32, .inl Gz))], [(pn, .inl (zI K, 20, .inl Gn))], [(pe, .inl (zI K, 24, .inl Ge))], [(pv, .inl (zI K, 24, .inl Gv))], [(pl, .inl (zI K, 24, .inl Gl))], [(px, .inl (zI K, 24, .inl Gx))], [(ph, .inl (zI K, 24, .inl Gh))], [(cn, .inl (zI K, 20, .inl Gn))], [(ce, .inl (zI K, 24, .inl E1))], [(cv, .inl (zI K, 24, .inl V1))], [(cl, .inl (zI K, 24, .inl L1))], [(cx, .inl (zI K, 24, .inl X1))], [(ch, .inl (zI K, 24, .inl H1))]]) rfl ?_
    refine z_ext (N := 24) (f := E1) (g := Ge) 8 0 rfl rfl (fun t ht => hE1 t (by omega)) (bs' := [[(pz, .inl (zI K, 32, .inl Gz))], [(pn, .inl (zI K, 20, .inl Gn))], [(pe, .inl (zI K, 24, .inl Ge))], [(pv, .inl (zI K, 24, .inl Gv))], [(pl, .inl (zI K, 24, .inl Gl))], [(px, .inl (zI K, 24, .inl Gx))], [(ph, .inl (zI K, 24, .inl Gh))], [(cn, .inl (zI K, 20, .inl Gn))], [(ce, .inl (zI K, 24, .inl Ge))], [(cv, .inl (zI K, 24, .inl V1))], [(cl, .inl (zI K, 24, .inl L1))], [(cx, .inl (zI K, 24, .inl X1))], [(ch, .inl (zI K, 24, .inl H1))]]) rfl ?_
    refine z_ext (N := 24) (f := V1) (g := Gv) 9 0 rfl rfl (fun t ht => hV1 t (by omega)) (bs' := [[(pz, .inl (zI K, 32, .inl Gz))], [(pn, .inl (zI K, 20, .inl Gn))], [(pe, .inl (zI K, 24, .inl Ge))], [(pv, .inl (zI K, 24, .inl Gv))], [(pl, .inl (zI K, 24, .inl Gl))], [(px, .inl (zI K, 24, .inl Gx))], [(ph, .inl (zI K, 24, .inl Gh))], [(cn, .inl (zI K, 20, .inl Gn))], [(ce, .inl (zI K, 24, .inl Ge))], [(cv, .inl (zI K, 24, .inl Gv))], [(cl, .inl (zI K, 24, .inl L1))], [(cx, .inl (zI K, 24, .inl X1))], [(ch, .inl (zI K, 24, .inl H1))]]) rfl ?_
    refine z_ext (N := 24) (f := L1) (g := Gl) 10 0 rfl rfl (fun t ht => hL1 t (by omega)) (bs' := [[(pz, .inl (zI K, 32, .inl Gz))], [(pn, .inl (zI K, 20, .inl Gn))], [(pe, .inl (zI K, 24, .inl Ge))], [(pv, .inl (zI K, 24, .inl Gv))], [(pl, .inl (zI K, 24, .inl Gl))], [(px, .inl (zI K, 24, .inl Gx))], [(ph, .inl (zI K, 24, .inl Gh))], [(cn, .inl (zI K, 20, .inl Gn))], [(ce, .inl (zI K, 24, .inl Ge))], [(cv, .inl (zI K, 24, .inl Gv))], [(cl, .inl (zI K, 24, .inl Gl))], [(cx, .inl (zI K, 24, .inl X1))], [(ch, .inl (zI K, 24, .inl H1))]]) rfl ?_
    refine z_ext (N := 24) (f := X1) (g := Gx) 11 0 rfl rfl (fun t ht => hX1 t (by omega)) (bs' := [[(pz, .inl (zI K, 32, .inl Gz))], [(pn, .inl (zI K, 20, .inl Gn))], [(pe, .inl (zI K, 24, .inl Ge))], [(pv, .inl (zI K, 24, .inl Gv))], [(pl, .inl (zI K, 24, .inl Gl))], [(px, .inl (zI K, 24, .inl Gx))], [(ph, .inl (zI K, 24, .inl Gh))], [(cn, .inl (zI K, 20, .inl Gn))], [(ce, .inl (zI K, 24, .inl Ge))], [(cv, .inl (zI K, 24, .inl Gv))], [(cl, .inl (zI K, 24, .inl Gl))], [(cx, .inl (zI K, 24, .inl Gx))], [(ch, .inl (zI K, 24, .inl H1))]]) rfl ?_
    refine z_ext (N := 24) (f := H1) (g := Gh) 12 0 rfl rfl (fun t ht => hH1 t (by omega)) (bs' := [[(pz, .inl (zI K, 32, .inl Gz))], [(pn, .inl (zI K, 20, .inl Gn))], [(pe, .inl (zI K, 24, .inl Ge))], [(pv, .inl (zI K, 24, .inl Gv))], [(pl, .inl (zI K, 24, .inl Gl))], [(px, .inl (zI K, 24, .inl Gx))], [(ph, .inl (zI K, 24, .inl Gh))], [(cn, .inl (zI K, 20, .inl Gn))], [(ce, .inl (zI K, 24, .inl Ge))], [(cv, .inl (zI K, 24, .inl Gv))], [(cl, .inl (zI K, 24, .inl Gl))], [(cx, .inl (zI K, 24, .inl Gx))], [(ch, .inl (zI K, 24, .inl Gh))]]) rfl ?_
    refine z_aload_n B dL_tries_133 0 rfl ?_
    refine z_aload B dL_tries_134 9 rfl ?_
    refine z_aload B dL_tries_136 10 rfl ?_
    refine z_aload B dL_tries_138 11 rfl ?_
    refine z_aload B dL_tries_140 12 rfl ?_
    refine z_aload B dL_tries_142 13 rfl ?_
    refine z_aload B dL_tries_144 14 rfl ?_
    refine z_iload B dL_tries_146 7 rfl ?_
    refine z_iload B dL_tries_148 8 rfl ?_
    refine z_S1 B (kL_asks_h l hl K pz cn ce cv cl cx ch Gz Gn Ge Gv Gl Gx Gh ns i x1 x2 hN3 hns hL hi4 hn hz hv) [0, 7, 8, 9, 10, 11, 12] [1, 2, 3, 4, 5, 6] (br := [[(pn, .inl (zI K, 20, .inl Gn))], [(pe, .inl (zI K, 24, .inl Ge))], [(pv, .inl (zI K, 24, .inl Gv))], [(pl, .inl (zI K, 24, .inl Gl))], [(px, .inl (zI K, 24, .inl Gx))], [(ph, .inl (zI K, 24, .inl Gh))]]) (bs' := [[(pz, .inl (zI K, 32, .inl Gz))], [(pn, .inl (zI K, 20, .inl Gn))], [(pe, .inl (zI K, 24, .inl Ge))], [(pv, .inl (zI K, 24, .inl Gv))], [(pl, .inl (zI K, 24, .inl Gl))], [(px, .inl (zI K, 24, .inl Gx))], [(ph, .inl (zI K, 24, .inl Gh))], [(cn, .inl (zI K, 20, .inl ((fL_asks_h Gz Gn Ge Gv Gl Gx Gh i x2).2.1)))], [(ce, .inl (zI K, 24, .inl ((fL_asks_h Gz Gn Ge Gv Gl Gx Gh i x2).2.2.1)))], [(cv, .inl (zI K, 24, .inl ((fL_asks_h Gz Gn Ge Gv Gl Gx Gh i x2).2.2.2.1)))], [(cl, .inl (zI K, 24, .inl ((fL_asks_h Gz Gn Ge Gv Gl Gx Gh i x2).2.2.2.2.1)))], [(cx, .inl (zI K, 24, .inl ((fL_asks_h Gz Gn Ge Gv Gl Gx Gh i x2).2.2.2.2.2.1)))], [(ch, .inl (zI K, 24, .inl ((fL_asks_h Gz Gn Ge Gv Gl Gx Gh i x2).2.2.2.2.2.2)))]]) (st := []) (nA := 9) (zspN 13 rfl rfl rfl (by decide +kernel)) (zspN 13 rfl rfl rfl (by decide +kernel)) gL_tries_L_asks rfl (by decide +kernel) ⟨Nat.le_of_ble_eq_true rfl, Nat.le_of_ble_eq_true rfl⟩ rfl rfl (Nat.le_of_ble_eq_true rfl) ⟨Nat.le_of_ble_eq_true rfl, Nat.le_of_ble_eq_true rfl⟩ dL_tries_150 z_noX (fun _ => ?_)
    refine z_drop (bc := [[(pz, .inl (zI K, 32, .inl Gz))], [(pn, .inl (zI K, 20, .inl Gn))], [(pe, .inl (zI K, 24, .inl Ge))], [(pv, .inl (zI K, 24, .inl Gv))], [(pl, .inl (zI K, 24, .inl Gl))], [(px, .inl (zI K, 24, .inl Gx))], [(ph, .inl (zI K, 24, .inl Gh))]]) (br := [[(cn, .inl (zI K, 20, .inl ((fL_asks_h Gz Gn Ge Gv Gl Gx Gh i x2).2.1)))], [(ce, .inl (zI K, 24, .inl ((fL_asks_h Gz Gn Ge Gv Gl Gx Gh i x2).2.2.1)))], [(cv, .inl (zI K, 24, .inl ((fL_asks_h Gz Gn Ge Gv Gl Gx Gh i x2).2.2.2.1)))], [(cl, .inl (zI K, 24, .inl ((fL_asks_h Gz Gn Ge Gv Gl Gx Gh i x2).2.2.2.2.1)))], [(cx, .inl (zI K, 24, .inl ((fL_asks_h Gz Gn Ge Gv Gl Gx Gh i x2).2.2.2.2.2.1)))], [(ch, .inl (zI K, 24, .inl ((fL_asks_h Gz Gn Ge Gv Gl Gx Gh i x2).2.2.2.2.2.2)))]]) (isC := [0, 1, 2, 3, 4, 5, 6]) (isR := [7, 8, 9, 10, 11, 12]) (zspN 13 rfl rfl rfl (by decide +kernel)) ?_
    have hF : fL_tries_h Gz Gn Ge Gv Gl Gx Gh i x2 = ((fL_asks_h Gz Gn Ge Gv Gl Gx Gh i x2).1) := by rw [hF0, fL_tries_h_L39]
    exact z_ret1 B rfl dL_tries_153 () (trivial) (Nat.le_of_ble_eq_true rfl) (Nat.le_of_ble_eq_true rfl) (by rw [hF]) (by rw [hF])
  | succ n ih =>
    intro a cn ce cv cl cx ch M1 E1 V1 L1 X1 H1 ha hM hE1 hV1 hL1 hX1 hH1 hF0
    refine z_iload B dL_tries_39 15 rfl ?_
    refine z_bipush B (v := 24) dL_tries_41 rfl ?_
    refine z_icge B 133 dL_tries_43 (by decide) (fun h => absurd h (z_lgeS ha (by decide))) (fun _ => ?_)
    refine z_aload B dL_tries_46 9 rfl ?_
    refine z_iload B dL_tries_48 15 rfl ?_
    refine z_bipush B (v := 20) dL_tries_50 rfl ?_
    refine z_icge B 60 dL_tries_52 (by decide) (fun c7 => ?_) (fun c7 => ?_)
    · refine z_bipush B (v := 19) dL_tries_60 rfl ?_
      refine z_aload_n B dL_tries_62 1 rfl ?_
      refine z_iload B dL_tries_63 15 rfl ?_
      refine z_bipush B (v := 20) dL_tries_65 rfl ?_
      refine z_icge B 75 dL_tries_67 (by decide) (fun _ => ?_) (fun h => absurd c7 h)
      refine z_bipush B (v := 19) dL_tries_75 rfl ?_
      refine z_ialdn B (N := 20) (f := Gn) (k0 := 19) (v := (Gn 19)) 1 0 rfl rfl (z_vpc (k := 19) rfl (by decide)) rfl rfl dL_tries_77 ?_
      refine z_iastn B (N := 20) (f := M1) (k0 := 19) 7 0 rfl rfl (z_vpc (k := 19) rfl (by decide)) rfl (bs' := [[(pz, .inl (zI K, 32, .inl Gz))], [(pn, .inl (zI K, 20, .inl Gn))], [(pe, .inl (zI K, 24, .inl Ge))], [(pv, .inl (zI K, 24, .inl Gv))], [(pl, .inl (zI K, 24, .inl Gl))], [(px, .inl (zI K, 24, .inl Gx))], [(ph, .inl (zI K, 24, .inl Gh))], [(cn, .inl (zI K, 20, .inl (upd M1 19 (Gn 19))))], [(ce, .inl (zI K, 24, .inl E1))], [(cv, .inl (zI K, 24, .inl V1))], [(cl, .inl (zI K, 24, .inl L1))], [(cx, .inl (zI K, 24, .inl X1))], [(ch, .inl (zI K, 24, .inl H1))]]) rfl dL_tries_78 ?_
      refine z_aload B dL_tries_79 10 rfl ?_
      refine z_iload B dL_tries_81 15 rfl ?_
      refine z_aload_n B dL_tries_83 2 rfl ?_
      refine z_iload B dL_tries_84 15 rfl ?_
      refine z_ialdn B (N := 24) (f := Ge) (k0 := a) (v := (Ge a)) 2 0 rfl rfl (z_nIr (by omega) (by decide)) (nI_clamp (by omega)) rfl dL_tries_86 ?_
      refine z_iastn B (N := 24) (f := E1) (k0 := a) 8 0 rfl rfl (z_nIr (by omega) (by decide)) (nI_clamp (by omega)) (bs' := [[(pz, .inl (zI K, 32, .inl Gz))], [(pn, .inl (zI K, 20, .inl Gn))], [(pe, .inl (zI K, 24, .inl Ge))], [(pv, .inl (zI K, 24, .inl Gv))], [(pl, .inl (zI K, 24, .inl Gl))], [(px, .inl (zI K, 24, .inl Gx))], [(ph, .inl (zI K, 24, .inl Gh))], [(cn, .inl (zI K, 20, .inl (upd M1 19 (Gn 19))))], [(ce, .inl (zI K, 24, .inl (upd E1 a (Ge a))))], [(cv, .inl (zI K, 24, .inl V1))], [(cl, .inl (zI K, 24, .inl L1))], [(cx, .inl (zI K, 24, .inl X1))], [(ch, .inl (zI K, 24, .inl H1))]]) rfl dL_tries_87 ?_
      refine z_aload B dL_tries_88 11 rfl ?_
      refine z_iload B dL_tries_90 15 rfl ?_
      refine z_aload_n B dL_tries_92 3 rfl ?_
      refine z_iload B dL_tries_93 15 rfl ?_
      refine z_ialdn B (N := 24) (f := Gv) (k0 := a) (v := (Gv a)) 3 0 rfl rfl (z_nIr (by omega) (by decide)) (nI_clamp (by omega)) rfl dL_tries_95 ?_
      refine z_iastn B (N := 24) (f := V1) (k0 := a) 9 0 rfl rfl (z_nIr (by omega) (by decide)) (nI_clamp (by omega)) (bs' := [[(pz, .inl (zI K, 32, .inl Gz))], [(pn, .inl (zI K, 20, .inl Gn))], [(pe, .inl (zI K, 24, .inl Ge))], [(pv, .inl (zI K, 24, .inl Gv))], [(pl, .inl (zI K, 24, .inl Gl))], [(px, .inl (zI K, 24, .inl Gx))], [(ph, .inl (zI K, 24, .inl Gh))], [(cn, .inl (zI K, 20, .inl (upd M1 19 (Gn 19))))], [(ce, .inl (zI K, 24, .inl (upd E1 a (Ge a))))], [(cv, .inl (zI K, 24, .inl (upd V1 a (Gv a))))], [(cl, .inl (zI K, 24, .inl L1))], [(cx, .inl (zI K, 24, .inl X1))], [(ch, .inl (zI K, 24, .inl H1))]]) rfl dL_tries_96 ?_
      refine z_aload B dL_tries_97 12 rfl ?_
      refine z_iload B dL_tries_99 15 rfl ?_
      refine z_aload B dL_tries_101 4 rfl ?_
      refine z_iload B dL_tries_103 15 rfl ?_
      refine z_ialdn B (N := 24) (f := Gl) (k0 := a) (v := (Gl a)) 4 0 rfl rfl (z_nIr (by omega) (by decide)) (nI_clamp (by omega)) rfl dL_tries_105 ?_
      refine z_iastn B (N := 24) (f := L1) (k0 := a) 10 0 rfl rfl (z_nIr (by omega) (by decide)) (nI_clamp (by omega)) (bs' := [[(pz, .inl (zI K, 32, .inl Gz))], [(pn, .inl (zI K, 20, .inl Gn))], [(pe, .inl (zI K, 24, .inl Ge))], [(pv, .inl (zI K, 24, .inl Gv))], [(pl, .inl (zI K, 24, .inl Gl))], [(px, .inl (zI K, 24, .inl Gx))], [(ph, .inl (zI K, 24, .inl Gh))], [(cn, .inl (zI K, 20, .inl (upd M1 19 (Gn 19))))], [(ce, .inl (zI K, 24, .inl (upd E1 a (Ge a))))], [(cv, .inl (zI K, 24, .inl (upd V1 a (Gv a))))], [(cl, .inl (zI K, 24, .inl (upd L1 a (Gl a))))], [(cx, .inl (zI K, 24, .inl X1))], [(ch, .inl (zI K, 24, .inl H1))]]) rfl dL_tries_106 ?_
      refine z_aload B dL_tries_107 13 rfl ?_
      refine z_iload B dL_tries_109 15 rfl ?_
      refine z_aload B dL_tries_111 5 rfl ?_
      refine z_iload B dL_tries_113 15 rfl ?_
      refine z_ialdn B (N := 24) (f := Gx) (k0 := a) (v := (Gx a)) 5 0 rfl rfl (z_nIr (by omega) (by decide)) (nI_clamp (by omega)) rfl dL_tries_115 ?_
      refine z_iastn B (N := 24) (f := X1) (k0 := a) 11 0 rfl rfl (z_nIr (by omega) (by decide)) (nI_clamp (by omega)) (bs' := [[(pz, .inl (zI K, 32, .inl Gz))], [(pn, .inl (zI K, 20, .inl Gn))], [(pe, .inl (zI K, 24, .inl Ge))], [(pv, .inl (zI K, 24, .inl Gv))], [(pl, .inl (zI K, 24, .inl Gl))], [(px, .inl (zI K, 24, .inl Gx))], [(ph, .inl (zI K, 24, .inl Gh))], [(cn, .inl (zI K, 20, .inl (upd M1 19 (Gn 19))))], [(ce, .inl (zI K, 24, .inl (upd E1 a (Ge a))))], [(cv, .inl (zI K, 24, .inl (upd V1 a (Gv a))))], [(cl, .inl (zI K, 24, .inl (upd L1 a (Gl a))))], [(cx, .inl (zI K, 24, .inl (upd X1 a (Gx a))))], [(ch, .inl (zI K, 24, .inl H1))]]) rfl dL_tries_116 ?_
      refine z_aload B dL_tries_117 14 rfl ?_
      refine z_iload B dL_tries_119 15 rfl ?_
      refine z_aload B dL_tries_121 6 rfl ?_
      refine z_iload B dL_tries_123 15 rfl ?_
      refine z_ialdn B (N := 24) (f := Gh) (k0 := a) (v := (Gh a)) 6 0 rfl rfl (z_nIr (by omega) (by decide)) (nI_clamp (by omega)) rfl dL_tries_125 ?_
      refine z_iastn B (N := 24) (f := H1) (k0 := a) 12 0 rfl rfl (z_nIr (by omega) (by decide)) (nI_clamp (by omega)) (bs' := [[(pz, .inl (zI K, 32, .inl Gz))], [(pn, .inl (zI K, 20, .inl Gn))], [(pe, .inl (zI K, 24, .inl Ge))], [(pv, .inl (zI K, 24, .inl Gv))], [(pl, .inl (zI K, 24, .inl Gl))], [(px, .inl (zI K, 24, .inl Gx))], [(ph, .inl (zI K, 24, .inl Gh))], [(cn, .inl (zI K, 20, .inl (upd M1 19 (Gn 19))))], [(ce, .inl (zI K, 24, .inl (upd E1 a (Ge a))))], [(cv, .inl (zI K, 24, .inl (upd V1 a (Gv a))))], [(cl, .inl (zI K, 24, .inl (upd L1 a (Gl a))))], [(cx, .inl (zI K, 24, .inl (upd X1 a (Gx a))))], [(ch, .inl (zI K, 24, .inl (upd H1 a (Gh a))))]]) rfl dL_tries_126 ?_
      refine z_iinc B (v := nI (a + 1)) (lv' := [(15, .int (nI (a + 1))), (0, .ref pz), (1, .ref pn), (2, .ref pe), (3, .ref pv), (4, .ref pl), (5, .ref px), (6, .ref ph), (7, .int x1), (8, .int x2), (9, .ref cn), (10, .ref ce), (11, .ref cv), (12, .ref cl), (13, .ref cx), (14, .ref ch)]) dL_tries_127 15 rfl (nI_1 a) (by decide) rfl ?_
      refine z_goto B (tgt := 39) dL_tries_130 (by decide) ?_
      refine z_lsub [1, 2, 3, 4, 5, 6, 7, 8, 9, 10, 11, 12, 13, 14, 15, 0] rfl ?_
      have hF : fL_tries_h Gz Gn Ge Gv Gl Gx Gh i x2 = fL_tries_h_L39 Gz Gn Ge Gv Gl Gx Gh i x2 n (a + 1) (upd M1 19 (Gn 19)) (upd E1 a (Ge a)) (upd V1 a (Gv a)) (upd L1 a (Gl a)) (upd X1 a (Gx a)) (upd H1 a (Gh a)) := (hF0).trans (if_pos c7)
      exact ih (a + 1) cn ce cv cl cx ch (upd M1 19 (Gn 19)) (upd E1 a (Ge a)) (upd V1 a (Gv a)) (upd L1 a (Gl a)) (upd X1 a (Gx a)) (upd H1 a (Gh a)) (by omega) (z_cpM hM (z_ge20 c7 (by omega))) (z_cpS hE1) (z_cpS hV1) (z_cpS hL1) (z_cpS hX1) (z_cpS hH1) hF
    · refine z_iload B dL_tries_55 15 rfl ?_
      refine z_goto B (tgt := 62) dL_tries_57 (by decide) ?_
      refine z_aload_n B dL_tries_62 1 rfl ?_
      refine z_iload B dL_tries_63 15 rfl ?_
      refine z_bipush B (v := 20) dL_tries_65 rfl ?_
      refine z_icge B 75 dL_tries_67 (by decide) (fun h => absurd h c7) (fun _ => ?_)
      refine z_iload B dL_tries_70 15 rfl ?_
      refine z_goto B (tgt := 77) dL_tries_72 (by decide) ?_
      refine z_ialdn B (N := 20) (f := Gn) (k0 := a) (v := (Gn a)) 1 0 rfl rfl (z_lt20 c7 (by omega)) (nI_clamp (by omega)) rfl dL_tries_77 ?_
      refine z_iastn B (N := 20) (f := M1) (k0 := a) 7 0 rfl rfl (z_lt20 c7 (by omega)) (nI_clamp (by omega)) (bs' := [[(pz, .inl (zI K, 32, .inl Gz))], [(pn, .inl (zI K, 20, .inl Gn))], [(pe, .inl (zI K, 24, .inl Ge))], [(pv, .inl (zI K, 24, .inl Gv))], [(pl, .inl (zI K, 24, .inl Gl))], [(px, .inl (zI K, 24, .inl Gx))], [(ph, .inl (zI K, 24, .inl Gh))], [(cn, .inl (zI K, 20, .inl (upd M1 a (Gn a))))], [(ce, .inl (zI K, 24, .inl E1))], [(cv, .inl (zI K, 24, .inl V1))], [(cl, .inl (zI K, 24, .inl L1))], [(cx, .inl (zI K, 24, .inl X1))], [(ch, .inl (zI K, 24, .inl H1))]]) rfl dL_tries_78 ?_
      refine z_aload B dL_tries_79 10 rfl ?_
      refine z_iload B dL_tries_81 15 rfl ?_
      refine z_aload_n B dL_tries_83 2 rfl ?_
      refine z_iload B dL_tries_84 15 rfl ?_
      refine z_ialdn B (N := 24) (f := Ge) (k0 := a) (v := (Ge a)) 2 0 rfl rfl (z_nIr (by omega) (by decide)) (nI_clamp (by omega)) rfl dL_tries_86 ?_
      refine z_iastn B (N := 24) (f := E1) (k0 := a) 8 0 rfl rfl (z_nIr (by omega) (by decide)) (nI_clamp (by omega)) (bs' := [[(pz, .inl (zI K, 32, .inl Gz))], [(pn, .inl (zI K, 20, .inl Gn))], [(pe, .inl (zI K, 24, .inl Ge))], [(pv, .inl (zI K, 24, .inl Gv))], [(pl, .inl (zI K, 24, .inl Gl))], [(px, .inl (zI K, 24, .inl Gx))], [(ph, .inl (zI K, 24, .inl Gh))], [(cn, .inl (zI K, 20, .inl (upd M1 a (Gn a))))], [(ce, .inl (zI K, 24, .inl (upd E1 a (Ge a))))], [(cv, .inl (zI K, 24, .inl V1))], [(cl, .inl (zI K, 24, .inl L1))], [(cx, .inl (zI K, 24, .inl X1))], [(ch, .inl (zI K, 24, .inl H1))]]) rfl dL_tries_87 ?_
      refine z_aload B dL_tries_88 11 rfl ?_
      refine z_iload B dL_tries_90 15 rfl ?_
      refine z_aload_n B dL_tries_92 3 rfl ?_
      refine z_iload B dL_tries_93 15 rfl ?_
      refine z_ialdn B (N := 24) (f := Gv) (k0 := a) (v := (Gv a)) 3 0 rfl rfl (z_nIr (by omega) (by decide)) (nI_clamp (by omega)) rfl dL_tries_95 ?_
      refine z_iastn B (N := 24) (f := V1) (k0 := a) 9 0 rfl rfl (z_nIr (by omega) (by decide)) (nI_clamp (by omega)) (bs' := [[(pz, .inl (zI K, 32, .inl Gz))], [(pn, .inl (zI K, 20, .inl Gn))], [(pe, .inl (zI K, 24, .inl Ge))], [(pv, .inl (zI K, 24, .inl Gv))], [(pl, .inl (zI K, 24, .inl Gl))], [(px, .inl (zI K, 24, .inl Gx))], [(ph, .inl (zI K, 24, .inl Gh))], [(cn, .inl (zI K, 20, .inl (upd M1 a (Gn a))))], [(ce, .inl (zI K, 24, .inl (upd E1 a (Ge a))))], [(cv, .inl (zI K, 24, .inl (upd V1 a (Gv a))))], [(cl, .inl (zI K, 24, .inl L1))], [(cx, .inl (zI K, 24, .inl X1))], [(ch, .inl (zI K, 24, .inl H1))]]) rfl dL_tries_96 ?_
      refine z_aload B dL_tries_97 12 rfl ?_
      refine z_iload B dL_tries_99 15 rfl ?_
      refine z_aload B dL_tries_101 4 rfl ?_
      refine z_iload B dL_tries_103 15 rfl ?_
      refine z_ialdn B (N := 24) (f := Gl) (k0 := a) (v := (Gl a)) 4 0 rfl rfl (z_nIr (by omega) (by decide)) (nI_clamp (by omega)) rfl dL_tries_105 ?_
      refine z_iastn B (N := 24) (f := L1) (k0 := a) 10 0 rfl rfl (z_nIr (by omega) (by decide)) (nI_clamp (by omega)) (bs' := [[(pz, .inl (zI K, 32, .inl Gz))], [(pn, .inl (zI K, 20, .inl Gn))], [(pe, .inl (zI K, 24, .inl Ge))], [(pv, .inl (zI K, 24, .inl Gv))], [(pl, .inl (zI K, 24, .inl Gl))], [(px, .inl (zI K, 24, .inl Gx))], [(ph, .inl (zI K, 24, .inl Gh))], [(cn, .inl (zI K, 20, .inl (upd M1 a (Gn a))))], [(ce, .inl (zI K, 24, .inl (upd E1 a (Ge a))))], [(cv, .inl (zI K, 24, .inl (upd V1 a (Gv a))))], [(cl, .inl (zI K, 24, .inl (upd L1 a (Gl a))))], [(cx, .inl (zI K, 24, .inl X1))], [(ch, .inl (zI K, 24, .inl H1))]]) rfl dL_tries_106 ?_
      refine z_aload B dL_tries_107 13 rfl ?_
      refine z_iload B dL_tries_109 15 rfl ?_
      refine z_aload B dL_tries_111 5 rfl ?_
      refine z_iload B dL_tries_113 15 rfl ?_
      refine z_ialdn B (N := 24) (f := Gx) (k0 := a) (v := (Gx a)) 5 0 rfl rfl (z_nIr (by omega) (by decide)) (nI_clamp (by omega)) rfl dL_tries_115 ?_
      refine z_iastn B (N := 24) (f := X1) (k0 := a) 11 0 rfl rfl (z_nIr (by omega) (by decide)) (nI_clamp (by omega)) (bs' := [[(pz, .inl (zI K, 32, .inl Gz))], [(pn, .inl (zI K, 20, .inl Gn))], [(pe, .inl (zI K, 24, .inl Ge))], [(pv, .inl (zI K, 24, .inl Gv))], [(pl, .inl (zI K, 24, .inl Gl))], [(px, .inl (zI K, 24, .inl Gx))], [(ph, .inl (zI K, 24, .inl Gh))], [(cn, .inl (zI K, 20, .inl (upd M1 a (Gn a))))], [(ce, .inl (zI K, 24, .inl (upd E1 a (Ge a))))], [(cv, .inl (zI K, 24, .inl (upd V1 a (Gv a))))], [(cl, .inl (zI K, 24, .inl (upd L1 a (Gl a))))], [(cx, .inl (zI K, 24, .inl (upd X1 a (Gx a))))], [(ch, .inl (zI K, 24, .inl H1))]]) rfl dL_tries_116 ?_
      refine z_aload B dL_tries_117 14 rfl ?_
      refine z_iload B dL_tries_119 15 rfl ?_
      refine z_aload B dL_tries_121 6 rfl ?_
      refine z_iload B dL_tries_123 15 rfl ?_
      refine z_ialdn B (N := 24) (f := Gh) (k0 := a) (v := (Gh a)) 6 0 rfl rfl (z_nIr (by omega) (by decide)) (nI_clamp (by omega)) rfl dL_tries_125 ?_
      refine z_iastn B (N := 24) (f := H1) (k0 := a) 12 0 rfl rfl (z_nIr (by omega) (by decide)) (nI_clamp (by omega)) (bs' := [[(pz, .inl (zI K, 32, .inl Gz))], [(pn, .inl (zI K, 20, .inl Gn))], [(pe, .inl (zI K, 24, .inl Ge))], [(pv, .inl (zI K, 24, .inl Gv))], [(pl, .inl (zI K, 24, .inl Gl))], [(px, .inl (zI K, 24, .inl Gx))], [(ph, .inl (zI K, 24, .inl Gh))], [(cn, .inl (zI K, 20, .inl (upd M1 a (Gn a))))], [(ce, .inl (zI K, 24, .inl (upd E1 a (Ge a))))], [(cv, .inl (zI K, 24, .inl (upd V1 a (Gv a))))], [(cl, .inl (zI K, 24, .inl (upd L1 a (Gl a))))], [(cx, .inl (zI K, 24, .inl (upd X1 a (Gx a))))], [(ch, .inl (zI K, 24, .inl (upd H1 a (Gh a))))]]) rfl dL_tries_126 ?_
      refine z_iinc B (v := nI (a + 1)) (lv' := [(15, .int (nI (a + 1))), (0, .ref pz), (1, .ref pn), (2, .ref pe), (3, .ref pv), (4, .ref pl), (5, .ref px), (6, .ref ph), (7, .int x1), (8, .int x2), (9, .ref cn), (10, .ref ce), (11, .ref cv), (12, .ref cl), (13, .ref cx), (14, .ref ch)]) dL_tries_127 15 rfl (nI_1 a) (by decide) rfl ?_
      refine z_goto B (tgt := 39) dL_tries_130 (by decide) ?_
      refine z_lsub [1, 2, 3, 4, 5, 6, 7, 8, 9, 10, 11, 12, 13, 14, 15, 0] rfl ?_
      have hF : fL_tries_h Gz Gn Ge Gv Gl Gx Gh i x2 = fL_tries_h_L39 Gz Gn Ge Gv Gl Gx Gh i x2 n (a + 1) (upd M1 a (Gn a)) (upd E1 a (Ge a)) (upd V1 a (Gv a)) (upd L1 a (Gl a)) (upd X1 a (Gx a)) (upd H1 a (Gh a)) := (hF0).trans (if_neg c7)
      exact ih (a + 1) cn ce cv cl cx ch (upd M1 a (Gn a)) (upd E1 a (Ge a)) (upd V1 a (Gv a)) (upd L1 a (Gl a)) (upd X1 a (Gx a)) (upd H1 a (Gh a)) (by omega) (z_cpN hM) (z_cpS hE1) (z_cpS hV1) (z_cpS hL1) (z_cpS hX1) (z_cpS hH1) hF
set_option maxHeartbeats 4000000 in
set_option maxRecDepth 100000 in
theorem kL_tries_h (l : Launch) (hl : l.stackTraces = false) (K : zK) (pz : Nat) (pn : Nat) (pe : Nat) (pv : Nat) (pl : Nat) (px : Nat) (ph : Nat) (Gz : Nat → Int32) (Gn : Nat → Int32) (Ge : Nat → Int32) (Gv : Nat → Int32) (Gl : Nat → Int32) (Gx : Nat → Int32) (Gh : Nat → Int32) (ns : Nat) (i : Nat) (x1 : Int32) (x2 : Int32) (hN3 : (Gn 3) = nI ns) (hns : ns ≤ 4) (hL : fL_nearest Gn ns x1 = nI i) (hi4 : i < 4) (hn : vp_in x2 16) (hz : zwz Gz) (hv : zwV Gv) : zMet l K yL_tries wsL_tries { frames := 4, cells := 8, slots := 152, locals := 119 } [.ref pz, .ref pn, .ref pe, .ref pv, .ref pl, .ref px, .ref ph, .int x1, .int x2] [[(pz, .inl (zI K, 32, .inl Gz))], [(pn, .inl (zI K, 20, .inl Gn))], [(pe, .inl (zI K, 24, .inl Ge))], [(pv, .inl (zI K, 24, .inl Gv))], [(pl, .inl (zI K, 24, .inl Gl))], [(px, .inl (zI K, 24, .inl Gx))], [(ph, .inl (zI K, 24, .inl Gh))]] (some (.int (fL_tries_h Gz Gn Ge Gv Gl Gx Gh i x2))) [[(pz, .inl (zI K, 32, .inl Gz))], [(pn, .inl (zI K, 20, .inl Gn))], [(pe, .inl (zI K, 24, .inl Ge))], [(pv, .inl (zI K, 24, .inl Gv))], [(pl, .inl (zI K, 24, .inl Gl))], [(px, .inl (zI K, 24, .inl Gx))], [(ph, .inl (zI K, 24, .inl Gh))]] True zNo := by
  refine zMeN.of (cc := cL_tries) (maxL := 16) (ret := (some .int)) (own := RL) (nm := "tries") hl (by decide +kernel) rfl rfl rfl (Nat.le_of_ble_eq_true rfl) (lv := [(0, .ref pz), (1, .ref pn), (2, .ref pe), (3, .ref pv), (4, .ref pl), (5, .ref px), (6, .ref ph), (7, .int x1), (8, .int x2)]) rfl ?_
  intro p e s m args below meth c A B
  refine z_bipush B (v := 20) dL_tries_0 rfl ?_
  refine z_newI B hwL_tries_arrint (N := 20) (by decide) rfl (by decide) (Nat.le_of_ble_eq_true rfl) (Nat.le_of_ble_eq_true rfl) dL_tries_2 (fun q1 => ?_)
  refine z_astore B (lv' := [(9, .ref q1), (0, .ref pz), (1, .ref pn), (2, .ref pe), (3, .ref pv), (4, .ref pl), (5, .ref px), (6, .ref ph), (7, .int x1), (8, .int x2)]) dL_tries_4 (by decide) rfl ?_
  refine z_bipush B (v := 24) dL_tries_6 rfl ?_
  refine z_newI B hwL_tries_arrint (N := 24) (by decide) rfl (by decide) (Nat.le_of_ble_eq_true rfl) (Nat.le_of_ble_eq_true rfl) dL_tries_8 (fun q2 => ?_)
  refine z_astore B (lv' := [(10, .ref q2), (9, .ref q1), (0, .ref pz), (1, .ref pn), (2, .ref pe), (3, .ref pv), (4, .ref pl), (5, .ref px), (6, .ref ph), (7, .int x1), (8, .int x2)]) dL_tries_10 (by decide) rfl ?_
  refine z_bipush B (v := 24) dL_tries_12 rfl ?_
  refine z_newI B hwL_tries_arrint (N := 24) (by decide) rfl (by decide) (Nat.le_of_ble_eq_true rfl) (Nat.le_of_ble_eq_true rfl) dL_tries_14 (fun q3 => ?_)
  refine z_astore B (lv' := [(11, .ref q3), (10, .ref q2), (9, .ref q1), (0, .ref pz), (1, .ref pn), (2, .ref pe), (3, .ref pv), (4, .ref pl), (5, .ref px), (6, .ref ph), (7, .int x1), (8, .int x2)]) dL_tries_16 (by decide) rfl ?_
  refine z_bipush B (v := 24) dL_tries_18 rfl ?_
  refine z_newI B hwL_tries_arrint (N := 24) (by decide) rfl (by decide) (Nat.le_of_ble_eq_true rfl) (Nat.le_of_ble_eq_true rfl) dL_tries_20 (fun q4 => ?_)
  refine z_astore B (lv' := [(12, .ref q4), (11, .ref q3), (10, .ref q2), (9, .ref q1), (0, .ref pz), (1, .ref pn), (2, .ref pe), (3, .ref pv), (4, .ref pl), (5, .ref px), (6, .ref ph), (7, .int x1), (8, .int x2)]) dL_tries_22 (by decide) rfl ?_
  refine z_bipush B (v := 24) dL_tries_24 rfl ?_
  refine z_newI B hwL_tries_arrint (N := 24) (by decide) rfl (by decide) (Nat.le_of_ble_eq_true rfl) (Nat.le_of_ble_eq_true rfl) dL_tries_26 (fun q5 => ?_)
  refine z_astore B (lv' := [(13, .ref q5), (12, .ref q4), (11, .ref q3), (10, .ref q2), (9, .ref q1), (0, .ref pz), (1, .ref pn), (2, .ref pe), (3, .ref pv), (4, .ref pl), (5, .ref px), (6, .ref ph), (7, .int x1), (8, .int x2)]) dL_tries_28 (by decide) rfl ?_
  refine z_bipush B (v := 24) dL_tries_30 rfl ?_
  refine z_newI B hwL_tries_arrint (N := 24) (by decide) rfl (by decide) (Nat.le_of_ble_eq_true rfl) (Nat.le_of_ble_eq_true rfl) dL_tries_32 (fun q6 => ?_)
  refine z_astore B (lv' := [(14, .ref q6), (13, .ref q5), (12, .ref q4), (11, .ref q3), (10, .ref q2), (9, .ref q1), (0, .ref pz), (1, .ref pn), (2, .ref pe), (3, .ref pv), (4, .ref pl), (5, .ref px), (6, .ref ph), (7, .int x1), (8, .int x2)]) dL_tries_34 (by decide) rfl ?_
  refine z_iconst B (v := 0) dL_tries_36 rfl ?_
  refine z_istore B (lv' := [(15, .int 0), (14, .ref q6), (13, .ref q5), (12, .ref q4), (11, .ref q3), (10, .ref q2), (9, .ref q1), (0, .ref pz), (1, .ref pn), (2, .ref pe), (3, .ref pv), (4, .ref pl), (5, .ref px), (6, .ref ph), (7, .int x1), (8, .int x2)]) dL_tries_37 (by decide) rfl ?_
  refine z_lsub [7, 8, 9, 10, 11, 12, 13, 14, 15, 6, 5, 4, 3, 2, 1, 0] rfl ?_
  have hF : fL_tries_h Gz Gn Ge Gv Gl Gx Gh i x2 = fL_tries_h_L39 Gz Gn Ge Gv Gl Gx Gh i x2 24 0 (fun _ => 0) (fun _ => 0) (fun _ => 0) (fun _ => 0) (fun _ => 0) (fun _ => 0) := rfl
  exact kL_tries_h_L39 l hl K pz pn pe pv pl px ph Gz Gn Ge Gv Gl Gx Gh ns i x1 x2 hN3 hns hL hi4 hn hz hv B 24 0 q1 q2 q3 q4 q5 q6 (fun _ => 0) (fun _ => 0) (fun _ => 0) (fun _ => 0) (fun _ => 0) (fun _ => 0) (by omega) (fun t h => absurd h (Nat.not_lt_zero t)) (fun t h => absurd h (Nat.not_lt_zero t)) (fun t h => absurd h (Nat.not_lt_zero t)) (fun t h => absurd h (Nat.not_lt_zero t)) (fun t h => absurd h (Nat.not_lt_zero t)) (fun t h => absurd h (Nat.not_lt_zero t)) hF
def fL_tries_m_L39 (Gz : Nat → Int32) (Gn : Nat → Int32) (Ge : Nat → Int32) (Gv : Nat → Int32) (Gl : Nat → Int32) (Gx : Nat → Int32) (Gh : Nat → Int32) : Nat → Nat → (Nat → Int32) → (Nat → Int32) → (Nat → Int32) → (Nat → Int32) → (Nat → Int32) → (Nat → Int32) → Int32
  | 0, a, M1, E1, V1, L1, X1, H1 =>
    fL_asks_m
  | n + 1, a, M1, E1, V1, L1, X1, H1 =>
    if 20 ≤ (nI a) then
      fL_tries_m_L39 Gz Gn Ge Gv Gl Gx Gh n (a + 1) (upd M1 19 (Gn 19)) (upd E1 a (Ge a)) (upd V1 a (Gv a)) (upd L1 a (Gl a)) (upd X1 a (Gx a)) (upd H1 a (Gh a))
    else
      fL_tries_m_L39 Gz Gn Ge Gv Gl Gx Gh n (a + 1) (upd M1 a (Gn a)) (upd E1 a (Ge a)) (upd V1 a (Gv a)) (upd L1 a (Gl a)) (upd X1 a (Gx a)) (upd H1 a (Gh a))
def fL_tries_m (Gz : Nat → Int32) (Gn : Nat → Int32) (Ge : Nat → Int32) (Gv : Nat → Int32) (Gl : Nat → Int32) (Gx : Nat → Int32) (Gh : Nat → Int32) : Int32 :=
  fL_tries_m_L39 Gz Gn Ge Gv Gl Gx Gh 24 0 (fun _ => 0) (fun _ => 0) (fun _ => 0) (fun _ => 0) (fun _ => 0) (fun _ => 0)
set_option maxHeartbeats 4000000 in
set_option maxRecDepth 100000 in
theorem kL_tries_m_L39 (l : Launch) (hl : l.stackTraces = false) (K : zK) (pz : Nat) (pn : Nat) (pe : Nat) (pv : Nat) (pl : Nat) (px : Nat) (ph : Nat) (Gz : Nat → Int32) (Gn : Nat → Int32) (Ge : Nat → Int32) (Gv : Nat → Int32) (Gl : Nat → Int32) (Gx : Nat → Int32) (Gh : Nat → Int32) (ns : Nat) (x1 : Int32) (x2 : Int32) (hN3 : (Gn 3) = nI ns) (hns : ns ≤ 4) (hL : fL_nearest Gn ns x1 = (-3)) {p : Program} {e : Env} {s : State} {m : MethodId} {args : Array Value} {below : List Frame} {meth : Method} {c : Code} {A : Nat → Prop} (B : zF K p l s m args meth c A cL_tries 16 RL "tries" wsL_tries (some .int) []) : ∀ (n a : Nat) (cn : Nat) (ce : Nat) (cv : Nat) (cl : Nat) (cx : Nat) (ch : Nat) (M1 : Nat → Int32) (E1 : Nat → Int32) (V1 : Nat → Int32) (L1 : Nat → Int32) (X1 : Nat → Int32) (H1 : Nat → Int32), a + n = 24 → (∀ t, t < a → t < 20 → M1 t = Gn t) → (∀ t, t < a → E1 t = Ge t) → (∀ t, t < a → V1 t = Gv t) → (∀ t, t < a → L1 t = Gl t) → (∀ t, t < a → X1 t = Gx t) → (∀ t, t < a → H1 t = Gh t) → fL_tries_m Gz Gn Ge Gv Gl Gx Gh = fL_tries_m_L39 Gz Gn Ge Gv Gl Gx Gh n a M1 E1 V1 L1 X1 H1 → zW K p l e { frames := 2, cells := 6, slots := 140, locals := 55 } s m args below meth c A (vx_MQ below (zQ K A (fun _ : Unit => ((some (.int (fL_tries_m Gz Gn Ge Gv Gl Gx Gh))), [[(pz, .inl (zI K, 32, .inl Gz))], [(pn, .inl (zI K, 20, .inl Gn))], [(pe, .inl (zI K, 24, .inl Ge))], [(pv, .inl (zI K, 24, .inl Gv))], [(pl, .inl (zI K, 24, .inl Gl))], [(px, .inl (zI K, 24, .inl Gx))], [(ph, .inl (zI K, 24, .inl Gh))]])) (fun _ => True)) (zX K A [[(pz, .inl (zI K, 32, .inl Gz))], [(pn, .inl (zI K, 20, .inl Gn))], [(pe, .inl (zI K, 24, .inl Ge))], [(pv, .inl (zI K, 24, .inl Gv))], [(pl, .inl (zI K, 24, .inl Gl))], [(px, .inl (zI K, 24, .inl Gx))], [(ph, .inl (zI K, 24, .inl Gh))]] zNo) args s 6 140 A) 6 140 [[(pz, .inl (zI K, 32, .inl Gz))], [(pn, .inl (zI K, 20, .inl Gn))], [(pe, .inl (zI K, 24, .inl Ge))], [(pv, .inl (zI K, 24, .inl Gv))], [(pl, .inl (zI K, 24, .inl Gl))], [(px, .inl (zI K, 24, .inl Gx))], [(ph, .inl (zI K, 24, .inl Gh))], [(cn, .inl (zI K, 20, .inl M1))], [(ce, .inl (zI K, 24, .inl E1))], [(cv, .inl (zI K, 24, .inl V1))], [(cl, .inl (zI K, 24, .inl L1))], [(cx, .inl (zI K, 24, .inl X1))], [(ch, .inl (zI K, 24, .inl H1))]] [(0, .ref pz), (1, .ref pn), (2, .ref pe), (3, .ref pv), (4, .ref pl), (5, .ref px), (6, .ref ph), (7, .int x1), (8, .int x2), (9, .ref cn), (10, .ref ce), (11, .ref cv), (12, .ref cl), (13, .ref cx), (14, .ref ch), (15, .int (nI a))] [] 39 := by
  intro n
  induction n with
  | zero =>
    intro a cn ce cv cl cx ch M1 E1 V1 L1 X1 H1 ha hM hE1 hV1 hL1 hX1 hH1 hF0
    refine z_iload B dL_tries_39 15 rfl ?_
    refine z_bipush B (v := 24) dL_tries_41 rfl ?_
    refine z_icge B 133 dL_tries_43 (by decide) (fun _ => ?_) (fun h => absurd (z_lge0 ha (by decide)) h)
    refine z_ext (N := 20) (f := M1) (g := Gn) 7 0 rfl rfl (fun t ht => hM t (by omega) ht) (bs' := [[(pz, .inl (zI K, 32, .inl Gz))], [(pn, .inl (zI K, 20, .inl Gn))], [(pe, .inl (zI K, 24, .inl Ge))], [(pv, .inl (zI K, 24, .inl Gv))], [(pl, .inl (zI K, 24, .inl Gl))], [(px, .inl (zI K, 24, .inl Gx))], [(ph, .inl (zI K, 24, .inl Gh))], [(cn, .inl (zI K, 20, .inl Gn))], [(ce, .inl (zI K, 24, .inl E1))], [(cv, .inl (zI K, 24, .inl V1))], [(cl, .inl (zI K, 24, .inl L1))], [(cx, .inl (zI K, 24, .inl X1))], [(ch, .inl (zI K, 24, .inl H1))]]) rfl ?_
    refine z_ext (N := 24) (f := E1) (g := Ge) 8 0 rfl rfl (fun t ht => hE1 t (by omega)) (bs' := [[(pz, .inl (zI K, 32, .inl Gz))], [(pn, .inl (zI K, 20, .inl Gn))], [(pe, .inl (zI K, 24, .inl Ge))], [(pv, .inl (zI K, 24, .inl Gv))], [(pl, .inl (zI K, 24, .inl Gl))], [(px, .inl (zI K, 24, .inl Gx))], [(ph, .inl (zI K, 24, .inl Gh))], [(cn, .inl (zI K, 20, .inl Gn))], [(ce, .inl (zI K, 24, .inl Ge))], [(cv, .inl (zI K, 24, .inl V1))], [(cl, .inl (zI K, 24, .inl L1))], [(cx, .inl (zI K, 24, .inl X1))], [(ch, .inl (zI K, 24, .inl H1))]]) rfl ?_
    refine z_ext (N := 24) (f := V1) (g := Gv) 9 0 rfl rfl (fun t ht => hV1 t (by omega)) (bs' := [[(pz, .inl (zI K, 32, .inl Gz))], [(pn, .inl (zI K, 20, .inl Gn))], [(pe, .inl (zI K, 24, .inl Ge))], [(pv, .inl (zI K, 24, .inl Gv))], [(pl, .inl (zI K, 24, .inl Gl))], [(px, .inl (zI K, 24, .inl Gx))], [(ph, .inl (zI K, 24, .inl Gh))], [(cn, .inl (zI K, 20, .inl Gn))], [(ce, .inl (zI K, 24, .inl Ge))], [(cv, .inl (zI K, 24, .inl Gv))], [(cl, .inl (zI K, 24, .inl L1))], [(cx, .inl (zI K, 24, .inl X1))], [(ch, .inl (zI K, 24, .inl H1))]]) rfl ?_
    refine z_ext (N := 24) (f := L1) (g := Gl) 10 0 rfl rfl (fun t ht => hL1 t (by omega)) (bs' := [[(pz, .inl (zI K, 32, .inl Gz))], [(pn, .inl (zI K, 20, .inl Gn))], [(pe, .inl (zI K, 24, .inl Ge))], [(pv, .inl (zI K, 24, .inl Gv))], [(pl, .inl (zI K, 24, .inl Gl))], [(px, .inl (zI K, 24, .inl Gx))], [(ph, .inl (zI K, 24, .inl Gh))], [(cn, .inl (zI K, 20, .inl Gn))], [(ce, .inl (zI K, 24, .inl Ge))], [(cv, .inl (zI K, 24, .inl Gv))], [(cl, .inl (zI K, 24, .inl Gl))], [(cx, .inl (zI K, 24, .inl X1))], [(ch, .inl (zI K, 24, .inl H1))]]) rfl ?_
    refine z_ext (N := 24) (f := X1) (g := Gx) 11 0 rfl rfl (fun t ht => hX1 t (by omega)) (bs' := [[(pz, .inl (zI K, 32, .inl Gz))], [(pn, .inl (zI K, 20, .inl Gn))], [(pe, .inl (zI K, 24, .inl Ge))], [(pv, .inl (zI K, 24, .inl Gv))], [(pl, .inl (zI K, 24, .inl Gl))], [(px, .inl (zI K, 24, .inl Gx))], [(ph, .inl (zI K, 24, .inl Gh))], [(cn, .inl (zI K, 20, .inl Gn))], [(ce, .inl (zI K, 24, .inl Ge))], [(cv, .inl (zI K, 24, .inl Gv))], [(cl, .inl (zI K, 24, .inl Gl))], [(cx, .inl (zI K, 24, .inl Gx))], [(ch, .inl (zI K, 24, .inl H1))]]) rfl ?_
    refine z_ext (N := 24) (f := H1) (g := Gh) 12 0 rfl rfl (fun t ht => hH1 t (by omega)) (bs' := [[(pz, .inl (zI K, 32, .inl Gz))], [(pn, .inl (zI K, 20, .inl Gn))], [(pe, .inl (zI K, 24, .inl Ge))], [(pv, .inl (zI K, 24, .inl Gv))], [(pl, .inl (zI K, 24, .inl Gl))], [(px, .inl (zI K, 24, .inl Gx))], [(ph, .inl (zI K, 24, .inl Gh))], [(cn, .inl (zI K, 20, .inl Gn))], [(ce, .inl (zI K, 24, .inl Ge))], [(cv, .inl (zI K, 24, .inl Gv))], [(cl, .inl (zI K, 24, .inl Gl))], [(cx, .inl (zI K, 24, .inl Gx))], [(ch, .inl (zI K, 24, .inl Gh))]]) rfl ?_
    refine z_aload_n B dL_tries_133 0 rfl ?_
    refine z_aload B dL_tries_134 9 rfl ?_
    refine z_aload B dL_tries_136 10 rfl ?_
    refine z_aload B dL_tries_138 11 rfl ?_
    refine z_aload B dL_tries_140 12 rfl ?_
    refine z_aload B dL_tries_142 13 rfl ?_
    refine z_aload B dL_tries_144 14 rfl ?_
    refine z_iload B dL_tries_146 7 rfl ?_
    refine z_iload B dL_tries_148 8 rfl ?_
    refine z_S1 B (kL_asks_m l hl K pz cn ce cv cl cx ch Gz Gn Ge Gv Gl Gx Gh ns x1 x2 hN3 hns hL) [0, 7, 8, 9, 10, 11, 12] [1, 2, 3, 4, 5, 6] (br := [[(pn, .inl (zI K, 20, .inl Gn))], [(pe, .inl (zI K, 24, .inl Ge))], [(pv, .inl (zI K, 24, .inl Gv))], [(pl, .inl (zI K, 24, .inl Gl))], [(px, .inl (zI K, 24, .inl Gx))], [(ph, .inl (zI K, 24, .inl Gh))]]) (bs' := [[(pz, .inl (zI K, 32, .inl Gz))], [(pn, .inl (zI K, 20, .inl Gn))], [(pe, .inl (zI K, 24, .inl Ge))], [(pv, .inl (zI K, 24, .inl Gv))], [(pl, .inl (zI K, 24, .inl Gl))], [(px, .inl (zI K, 24, .inl Gx))], [(ph, .inl (zI K, 24, .inl Gh))], [(cn, .inl (zI K, 20, .inl Gn))], [(ce, .inl (zI K, 24, .inl Ge))], [(cv, .inl (zI K, 24, .inl Gv))], [(cl, .inl (zI K, 24, .inl Gl))], [(cx, .inl (zI K, 24, .inl Gx))], [(ch, .inl (zI K, 24, .inl Gh))]]) (st := []) (nA := 9) (zspN 13 rfl rfl rfl (by decide +kernel)) (zspN 13 rfl rfl rfl (by decide +kernel)) gL_tries_L_asks rfl (by decide +kernel) ⟨Nat.le_of_ble_eq_true rfl, Nat.le_of_ble_eq_true rfl⟩ rfl rfl (Nat.le_of_ble_eq_true rfl) ⟨Nat.le_of_ble_eq_true rfl, Nat.le_of_ble_eq_true rfl⟩ dL_tries_150 z_noX (fun _ => ?_)
    refine z_drop (bc := [[(pz, .inl (zI K, 32, .inl Gz))], [(pn, .inl (zI K, 20, .inl Gn))], [(pe, .inl (zI K, 24, .inl Ge))], [(pv, .inl (zI K, 24, .inl Gv))], [(pl, .inl (zI K, 24, .inl Gl))], [(px, .inl (zI K, 24, .inl Gx))], [(ph, .inl (zI K, 24, .inl Gh))]]) (br := [[(cn, .inl (zI K, 20, .inl Gn))], [(ce, .inl (zI K, 24, .inl Ge))], [(cv, .inl (zI K, 24, .inl Gv))], [(cl, .inl (zI K, 24, .inl Gl))], [(cx, .inl (zI K, 24, .inl Gx))], [(ch, .inl (zI K, 24, .inl Gh))]]) (isC := [0, 1, 2, 3, 4, 5, 6]) (isR := [7, 8, 9, 10, 11, 12]) (zspN 13 rfl rfl rfl (by decide +kernel)) ?_
    have hF : fL_tries_m Gz Gn Ge Gv Gl Gx Gh = fL_asks_m := by rw [hF0, fL_tries_m_L39]
    exact z_ret1 B rfl dL_tries_153 () (trivial) (Nat.le_of_ble_eq_true rfl) (Nat.le_of_ble_eq_true rfl) (by rw [hF]) (by rw [hF])
  | succ n ih =>
    intro a cn ce cv cl cx ch M1 E1 V1 L1 X1 H1 ha hM hE1 hV1 hL1 hX1 hH1 hF0
    refine z_iload B dL_tries_39 15 rfl ?_
    refine z_bipush B (v := 24) dL_tries_41 rfl ?_
    refine z_icge B 133 dL_tries_43 (by decide) (fun h => absurd h (z_lgeS ha (by decide))) (fun _ => ?_)
    refine z_aload B dL_tries_46 9 rfl ?_
    refine z_iload B dL_tries_48 15 rfl ?_
    refine z_bipush B (v := 20) dL_tries_50 rfl ?_
    refine z_icge B 60 dL_tries_52 (by decide) (fun c7 => ?_) (fun c7 => ?_)
    · refine z_bipush B (v := 19) dL_tries_60 rfl ?_
      refine z_aload_n B dL_tries_62 1 rfl ?_
      refine z_iload B dL_tries_63 15 rfl ?_
      refine z_bipush B (v := 20) dL_tries_65 rfl ?_
      refine z_icge B 75 dL_tries_67 (by decide) (fun _ => ?_) (fun h => absurd c7 h)
      refine z_bipush B (v := 19) dL_tries_75 rfl ?_
      refine z_ialdn B (N := 20) (f := Gn) (k0 := 19) (v := (Gn 19)) 1 0 rfl rfl (z_vpc (k := 19) rfl (by decide)) rfl rfl dL_tries_77 ?_
      refine z_iastn B (N := 20) (f := M1) (k0 := 19) 7 0 rfl rfl (z_vpc (k := 19) rfl (by decide)) rfl (bs' := [[(pz, .inl (zI K, 32, .inl Gz))], [(pn, .inl (zI K, 20, .inl Gn))], [(pe, .inl (zI K, 24, .inl Ge))], [(pv, .inl (zI K, 24, .inl Gv))], [(pl, .inl (zI K, 24, .inl Gl))], [(px, .inl (zI K, 24, .inl Gx))], [(ph, .inl (zI K, 24, .inl Gh))], [(cn, .inl (zI K, 20, .inl (upd M1 19 (Gn 19))))], [(ce, .inl (zI K, 24, .inl E1))], [(cv, .inl (zI K, 24, .inl V1))], [(cl, .inl (zI K, 24, .inl L1))], [(cx, .inl (zI K, 24, .inl X1))], [(ch, .inl (zI K, 24, .inl H1))]]) rfl dL_tries_78 ?_
      refine z_aload B dL_tries_79 10 rfl ?_
      refine z_iload B dL_tries_81 15 rfl ?_
      refine z_aload_n B dL_tries_83 2 rfl ?_
      refine z_iload B dL_tries_84 15 rfl ?_
      refine z_ialdn B (N := 24) (f := Ge) (k0 := a) (v := (Ge a)) 2 0 rfl rfl (z_nIr (by omega) (by decide)) (nI_clamp (by omega)) rfl dL_tries_86 ?_
      refine z_iastn B (N := 24) (f := E1) (k0 := a) 8 0 rfl rfl (z_nIr (by omega) (by decide)) (nI_clamp (by omega)) (bs' := [[(pz, .inl (zI K, 32, .inl Gz))], [(pn, .inl (zI K, 20, .inl Gn))], [(pe, .inl (zI K, 24, .inl Ge))], [(pv, .inl (zI K, 24, .inl Gv))], [(pl, .inl (zI K, 24, .inl Gl))], [(px, .inl (zI K, 24, .inl Gx))], [(ph, .inl (zI K, 24, .inl Gh))], [(cn, .inl (zI K, 20, .inl (upd M1 19 (Gn 19))))], [(ce, .inl (zI K, 24, .inl (upd E1 a (Ge a))))], [(cv, .inl (zI K, 24, .inl V1))], [(cl, .inl (zI K, 24, .inl L1))], [(cx, .inl (zI K, 24, .inl X1))], [(ch, .inl (zI K, 24, .inl H1))]]) rfl dL_tries_87 ?_
      refine z_aload B dL_tries_88 11 rfl ?_
      refine z_iload B dL_tries_90 15 rfl ?_
      refine z_aload_n B dL_tries_92 3 rfl ?_
      refine z_iload B dL_tries_93 15 rfl ?_
      refine z_ialdn B (N := 24) (f := Gv) (k0 := a) (v := (Gv a)) 3 0 rfl rfl (z_nIr (by omega) (by decide)) (nI_clamp (by omega)) rfl dL_tries_95 ?_
      refine z_iastn B (N := 24) (f := V1) (k0 := a) 9 0 rfl rfl (z_nIr (by omega) (by decide)) (nI_clamp (by omega)) (bs' := [[(pz, .inl (zI K, 32, .inl Gz))], [(pn, .inl (zI K, 20, .inl Gn))], [(pe, .inl (zI K, 24, .inl Ge))], [(pv, .inl (zI K, 24, .inl Gv))], [(pl, .inl (zI K, 24, .inl Gl))], [(px, .inl (zI K, 24, .inl Gx))], [(ph, .inl (zI K, 24, .inl Gh))], [(cn, .inl (zI K, 20, .inl (upd M1 19 (Gn 19))))], [(ce, .inl (zI K, 24, .inl (upd E1 a (Ge a))))], [(cv, .inl (zI K, 24, .inl (upd V1 a (Gv a))))], [(cl, .inl (zI K, 24, .inl L1))], [(cx, .inl (zI K, 24, .inl X1))], [(ch, .inl (zI K, 24, .inl H1))]]) rfl dL_tries_96 ?_
      refine z_aload B dL_tries_97 12 rfl ?_
      refine z_iload B dL_tries_99 15 rfl ?_
      refine z_aload B dL_tries_101 4 rfl ?_
      refine z_iload B dL_tries_103 15 rfl ?_
      refine z_ialdn B (N := 24) (f := Gl) (k0 := a) (v := (Gl a)) 4 0 rfl rfl (z_nIr (by omega) (by decide)) (nI_clamp (by omega)) rfl dL_tries_105 ?_
      refine z_iastn B (N := 24) (f := L1) (k0 := a) 10 0 rfl rfl (z_nIr (by omega) (by decide)) (nI_clamp (by omega)) (bs' := [[(pz, .inl (zI K, 32, .inl Gz))], [(pn, .inl (zI K, 20, .inl Gn))], [(pe, .inl (zI K, 24, .inl Ge))], [(pv, .inl (zI K, 24, .inl Gv))], [(pl, .inl (zI K, 24, .inl Gl))], [(px, .inl (zI K, 24, .inl Gx))], [(ph, .inl (zI K, 24, .inl Gh))], [(cn, .inl (zI K, 20, .inl (upd M1 19 (Gn 19))))], [(ce, .inl (zI K, 24, .inl (upd E1 a (Ge a))))], [(cv, .inl (zI K, 24, .inl (upd V1 a (Gv a))))], [(cl, .inl (zI K, 24, .inl (upd L1 a (Gl a))))], [(cx, .inl (zI K, 24, .inl X1))], [(ch, .inl (zI K, 24, .inl H1))]]) rfl dL_tries_106 ?_
      refine z_aload B dL_tries_107 13 rfl ?_
      refine z_iload B dL_tries_109 15 rfl ?_
      refine z_aload B dL_tries_111 5 rfl ?_
      refine z_iload B dL_tries_113 15 rfl ?_
      refine z_ialdn B (N := 24) (f := Gx) (k0 := a) (v := (Gx a)) 5 0 rfl rfl (z_nIr (by omega) (by decide)) (nI_clamp (by omega)) rfl dL_tries_115 ?_
      refine z_iastn B (N := 24) (f := X1) (k0 := a) 11 0 rfl rfl (z_nIr (by omega) (by decide)) (nI_clamp (by omega)) (bs' := [[(pz, .inl (zI K, 32, .inl Gz))], [(pn, .inl (zI K, 20, .inl Gn))], [(pe, .inl (zI K, 24, .inl Ge))], [(pv, .inl (zI K, 24, .inl Gv))], [(pl, .inl (zI K, 24, .inl Gl))], [(px, .inl (zI K, 24, .inl Gx))], [(ph, .inl (zI K, 24, .inl Gh))], [(cn, .inl (zI K, 20, .inl (upd M1 19 (Gn 19))))], [(ce, .inl (zI K, 24, .inl (upd E1 a (Ge a))))], [(cv, .inl (zI K, 24, .inl (upd V1 a (Gv a))))], [(cl, .inl (zI K, 24, .inl (upd L1 a (Gl a))))], [(cx, .inl (zI K, 24, .inl (upd X1 a (Gx a))))], [(ch, .inl (zI K, 24, .inl H1))]]) rfl dL_tries_116 ?_
      refine z_aload B dL_tries_117 14 rfl ?_
      refine z_iload B dL_tries_119 15 rfl ?_
      refine z_aload B dL_tries_121 6 rfl ?_
      refine z_iload B dL_tries_123 15 rfl ?_
      refine z_ialdn B (N := 24) (f := Gh) (k0 := a) (v := (Gh a)) 6 0 rfl rfl (z_nIr (by omega) (by decide)) (nI_clamp (by omega)) rfl dL_tries_125 ?_
      refine z_iastn B (N := 24) (f := H1) (k0 := a) 12 0 rfl rfl (z_nIr (by omega) (by decide)) (nI_clamp (by omega)) (bs' := [[(pz, .inl (zI K, 32, .inl Gz))], [(pn, .inl (zI K, 20, .inl Gn))], [(pe, .inl (zI K, 24, .inl Ge))], [(pv, .inl (zI K, 24, .inl Gv))], [(pl, .inl (zI K, 24, .inl Gl))], [(px, .inl (zI K, 24, .inl Gx))], [(ph, .inl (zI K, 24, .inl Gh))], [(cn, .inl (zI K, 20, .inl (upd M1 19 (Gn 19))))], [(ce, .inl (zI K, 24, .inl (upd E1 a (Ge a))))], [(cv, .inl (zI K, 24, .inl (upd V1 a (Gv a))))], [(cl, .inl (zI K, 24, .inl (upd L1 a (Gl a))))], [(cx, .inl (zI K, 24, .inl (upd X1 a (Gx a))))], [(ch, .inl (zI K, 24, .inl (upd H1 a (Gh a))))]]) rfl dL_tries_126 ?_
      refine z_iinc B (v := nI (a + 1)) (lv' := [(15, .int (nI (a + 1))), (0, .ref pz), (1, .ref pn), (2, .ref pe), (3, .ref pv), (4, .ref pl), (5, .ref px), (6, .ref ph), (7, .int x1), (8, .int x2), (9, .ref cn), (10, .ref ce), (11, .ref cv), (12, .ref cl), (13, .ref cx), (14, .ref ch)]) dL_tries_127 15 rfl (nI_1 a) (by decide) rfl ?_
      refine z_goto B (tgt := 39) dL_tries_130 (by decide) ?_
      refine z_lsub [1, 2, 3, 4, 5, 6, 7, 8, 9, 10, 11, 12, 13, 14, 15, 0] rfl ?_
      have hF : fL_tries_m Gz Gn Ge Gv Gl Gx Gh = fL_tries_m_L39 Gz Gn Ge Gv Gl Gx Gh n (a + 1) (upd M1 19 (Gn 19)) (upd E1 a (Ge a)) (upd V1 a (Gv a)) (upd L1 a (Gl a)) (upd X1 a (Gx a)) (upd H1 a (Gh a)) := (hF0).trans (if_pos c7)
      exact ih (a + 1) cn ce cv cl cx ch (upd M1 19 (Gn 19)) (upd E1 a (Ge a)) (upd V1 a (Gv a)) (upd L1 a (Gl a)) (upd X1 a (Gx a)) (upd H1 a (Gh a)) (by omega) (z_cpM hM (z_ge20 c7 (by omega))) (z_cpS hE1) (z_cpS hV1) (z_cpS hL1) (z_cpS hX1) (z_cpS hH1) hF
    · refine z_iload B dL_tries_55 15 rfl ?_
      refine z_goto B (tgt := 62) dL_tries_57 (by decide) ?_
      refine z_aload_n B dL_tries_62 1 rfl ?_
      refine z_iload B dL_tries_63 15 rfl ?_
      refine z_bipush B (v := 20) dL_tries_65 rfl ?_
      refine z_icge B 75 dL_tries_67 (by decide) (fun h => absurd h c7) (fun _ => ?_)
      refine z_iload B dL_tries_70 15 rfl ?_
      refine z_goto B (tgt := 77) dL_tries_72 (by decide) ?_
      refine z_ialdn B (N := 20) (f := Gn) (k0 := a) (v := (Gn a)) 1 0 rfl rfl (z_lt20 c7 (by omega)) (nI_clamp (by omega)) rfl dL_tries_77 ?_
      refine z_iastn B (N := 20) (f := M1) (k0 := a) 7 0 rfl rfl (z_lt20 c7 (by omega)) (nI_clamp (by omega)) (bs' := [[(pz, .inl (zI K, 32, .inl Gz))], [(pn, .inl (zI K, 20, .inl Gn))], [(pe, .inl (zI K, 24, .inl Ge))], [(pv, .inl (zI K, 24, .inl Gv))], [(pl, .inl (zI K, 24, .inl Gl))], [(px, .inl (zI K, 24, .inl Gx))], [(ph, .inl (zI K, 24, .inl Gh))], [(cn, .inl (zI K, 20, .inl (upd M1 a (Gn a))))], [(ce, .inl (zI K, 24, .inl E1))], [(cv, .inl (zI K, 24, .inl V1))], [(cl, .inl (zI K, 24, .inl L1))], [(cx, .inl (zI K, 24, .inl X1))], [(ch, .inl (zI K, 24, .inl H1))]]) rfl dL_tries_78 ?_
      refine z_aload B dL_tries_79 10 rfl ?_
      refine z_iload B dL_tries_81 15 rfl ?_
      refine z_aload_n B dL_tries_83 2 rfl ?_
      refine z_iload B dL_tries_84 15 rfl ?_
      refine z_ialdn B (N := 24) (f := Ge) (k0 := a) (v := (Ge a)) 2 0 rfl rfl (z_nIr (by omega) (by decide)) (nI_clamp (by omega)) rfl dL_tries_86 ?_
      refine z_iastn B (N := 24) (f := E1) (k0 := a) 8 0 rfl rfl (z_nIr (by omega) (by decide)) (nI_clamp (by omega)) (bs' := [[(pz, .inl (zI K, 32, .inl Gz))], [(pn, .inl (zI K, 20, .inl Gn))], [(pe, .inl (zI K, 24, .inl Ge))], [(pv, .inl (zI K, 24, .inl Gv))], [(pl, .inl (zI K, 24, .inl Gl))], [(px, .inl (zI K, 24, .inl Gx))], [(ph, .inl (zI K, 24, .inl Gh))], [(cn, .inl (zI K, 20, .inl (upd M1 a (Gn a))))], [(ce, .inl (zI K, 24, .inl (upd E1 a (Ge a))))], [(cv, .inl (zI K, 24, .inl V1))], [(cl, .inl (zI K, 24, .inl L1))], [(cx, .inl (zI K, 24, .inl X1))], [(ch, .inl (zI K, 24, .inl H1))]]) rfl dL_tries_87 ?_
      refine z_aload B dL_tries_88 11 rfl ?_
      refine z_iload B dL_tries_90 15 rfl ?_
      refine z_aload_n B dL_tries_92 3 rfl ?_
      refine z_iload B dL_tries_93 15 rfl ?_
      refine z_ialdn B (N := 24) (f := Gv) (k0 := a) (v := (Gv a)) 3 0 rfl rfl (z_nIr (by omega) (by decide)) (nI_clamp (by omega)) rfl dL_tries_95 ?_
      refine z_iastn B (N := 24) (f := V1) (k0 := a) 9 0 rfl rfl (z_nIr (by omega) (by decide)) (nI_clamp (by omega)) (bs' := [[(pz, .inl (zI K, 32, .inl Gz))], [(pn, .inl (zI K, 20, .inl Gn))], [(pe, .inl (zI K, 24, .inl Ge))], [(pv, .inl (zI K, 24, .inl Gv))], [(pl, .inl (zI K, 24, .inl Gl))], [(px, .inl (zI K, 24, .inl Gx))], [(ph, .inl (zI K, 24, .inl Gh))], [(cn, .inl (zI K, 20, .inl (upd M1 a (Gn a))))], [(ce, .inl (zI K, 24, .inl (upd E1 a (Ge a))))], [(cv, .inl (zI K, 24, .inl (upd V1 a (Gv a))))], [(cl, .inl (zI K, 24, .inl L1))], [(cx, .inl (zI K, 24, .inl X1))], [(ch, .inl (zI K, 24, .inl H1))]]) rfl dL_tries_96 ?_
      refine z_aload B dL_tries_97 12 rfl ?_
      refine z_iload B dL_tries_99 15 rfl ?_
      refine z_aload B dL_tries_101 4 rfl ?_
      refine z_iload B dL_tries_103 15 rfl ?_
      refine z_ialdn B (N := 24) (f := Gl) (k0 := a) (v := (Gl a)) 4 0 rfl rfl (z_nIr (by omega) (by decide)) (nI_clamp (by omega)) rfl dL_tries_105 ?_
      refine z_iastn B (N := 24) (f := L1) (k0 := a) 10 0 rfl rfl (z_nIr (by omega) (by decide)) (nI_clamp (by omega)) (bs' := [[(pz, .inl (zI K, 32, .inl Gz))], [(pn, .inl (zI K, 20, .inl Gn))], [(pe, .inl (zI K, 24, .inl Ge))], [(pv, .inl (zI K, 24, .inl Gv))], [(pl, .inl (zI K, 24, .inl Gl))], [(px, .inl (zI K, 24, .inl Gx))], [(ph, .inl (zI K, 24, .inl Gh))], [(cn, .inl (zI K, 20, .inl (upd M1 a (Gn a))))], [(ce, .inl (zI K, 24, .inl (upd E1 a (Ge a))))], [(cv, .inl (zI K, 24, .inl (upd V1 a (Gv a))))], [(cl, .inl (zI K, 24, .inl (upd L1 a (Gl a))))], [(cx, .inl (zI K, 24, .inl X1))], [(ch, .inl (zI K, 24, .inl H1))]]) rfl dL_tries_106 ?_
      refine z_aload B dL_tries_107 13 rfl ?_
      refine z_iload B dL_tries_109 15 rfl ?_
      refine z_aload B dL_tries_111 5 rfl ?_
      refine z_iload B dL_tries_113 15 rfl ?_
      refine z_ialdn B (N := 24) (f := Gx) (k0 := a) (v := (Gx a)) 5 0 rfl rfl (z_nIr (by omega) (by decide)) (nI_clamp (by omega)) rfl dL_tries_115 ?_
      refine z_iastn B (N := 24) (f := X1) (k0 := a) 11 0 rfl rfl (z_nIr (by omega) (by decide)) (nI_clamp (by omega)) (bs' := [[(pz, .inl (zI K, 32, .inl Gz))], [(pn, .inl (zI K, 20, .inl Gn))], [(pe, .inl (zI K, 24, .inl Ge))], [(pv, .inl (zI K, 24, .inl Gv))], [(pl, .inl (zI K, 24, .inl Gl))], [(px, .inl (zI K, 24, .inl Gx))], [(ph, .inl (zI K, 24, .inl Gh))], [(cn, .inl (zI K, 20, .inl (upd M1 a (Gn a))))], [(ce, .inl (zI K, 24, .inl (upd E1 a (Ge a))))], [(cv, .inl (zI K, 24, .inl (upd V1 a (Gv a))))], [(cl, .inl (zI K, 24, .inl (upd L1 a (Gl a))))], [(cx, .inl (zI K, 24, .inl (upd X1 a (Gx a))))], [(ch, .inl (zI K, 24, .inl H1))]]) rfl dL_tries_116 ?_
      refine z_aload B dL_tries_117 14 rfl ?_
      refine z_iload B dL_tries_119 15 rfl ?_
      refine z_aload B dL_tries_121 6 rfl ?_
      refine z_iload B dL_tries_123 15 rfl ?_
      refine z_ialdn B (N := 24) (f := Gh) (k0 := a) (v := (Gh a)) 6 0 rfl rfl (z_nIr (by omega) (by decide)) (nI_clamp (by omega)) rfl dL_tries_125 ?_
      refine z_iastn B (N := 24) (f := H1) (k0 := a) 12 0 rfl rfl (z_nIr (by omega) (by decide)) (nI_clamp (by omega)) (bs' := [[(pz, .inl (zI K, 32, .inl Gz))], [(pn, .inl (zI K, 20, .inl Gn))], [(pe, .inl (zI K, 24, .inl Ge))], [(pv, .inl (zI K, 24, .inl Gv))], [(pl, .inl (zI K, 24, .inl Gl))], [(px, .inl (zI K, 24, .inl Gx))], [(ph, .inl (zI K, 24, .inl Gh))], [(cn, .inl (zI K, 20, .inl (upd M1 a (Gn a))))], [(ce, .inl (zI K, 24, .inl (upd E1 a (Ge a))))], [(cv, .inl (zI K, 24, .inl (upd V1 a (Gv a))))], [(cl, .inl (zI K, 24, .inl (upd L1 a (Gl a))))], [(cx, .inl (zI K, 24, .inl (upd X1 a (Gx a))))], [(ch, .inl (zI K, 24, .inl (upd H1 a (Gh a))))]]) rfl dL_tries_126 ?_
      refine z_iinc B (v := nI (a + 1)) (lv' := [(15, .int (nI (a + 1))), (0, .ref pz), (1, .ref pn), (2, .ref pe), (3, .ref pv), (4, .ref pl), (5, .ref px), (6, .ref ph), (7, .int x1), (8, .int x2), (9, .ref cn), (10, .ref ce), (11, .ref cv), (12, .ref cl), (13, .ref cx), (14, .ref ch)]) dL_tries_127 15 rfl (nI_1 a) (by decide) rfl ?_
      refine z_goto B (tgt := 39) dL_tries_130 (by decide) ?_
      refine z_lsub [1, 2, 3, 4, 5, 6, 7, 8, 9, 10, 11, 12, 13, 14, 15, 0] rfl ?_
      have hF : fL_tries_m Gz Gn Ge Gv Gl Gx Gh = fL_tries_m_L39 Gz Gn Ge Gv Gl Gx Gh n (a + 1) (upd M1 a (Gn a)) (upd E1 a (Ge a)) (upd V1 a (Gv a)) (upd L1 a (Gl a)) (upd X1 a (Gx a)) (upd H1 a (Gh a)) := (hF0).trans (if_neg c7)
      exact ih (a + 1) cn ce cv cl cx ch (upd M1 a (Gn a)) (upd E1 a (Ge a)) (upd V1 a (Gv a)) (upd L1 a (Gl a)) (upd X1 a (Gx a)) (upd H1 a (Gh a)) (by omega) (z_cpN hM) (z_cpS hE1) (z_cpS hV1) (z_cpS hL1) (z_cpS hX1) (z_cpS hH1) hF
set_option maxHeartbeats 4000000 in
set_option maxRecDepth 100000 in
theorem kL_tries_m (l : Launch) (hl : l.stackTraces = false) (K : zK) (pz : Nat) (pn : Nat) (pe : Nat) (pv : Nat) (pl : Nat) (px : Nat) (ph : Nat) (Gz : Nat → Int32) (Gn : Nat → Int32) (Ge : Nat → Int32) (Gv : Nat → Int32) (Gl : Nat → Int32) (Gx : Nat → Int32) (Gh : Nat → Int32) (ns : Nat) (x1 : Int32) (x2 : Int32) (hN3 : (Gn 3) = nI ns) (hns : ns ≤ 4) (hL : fL_nearest Gn ns x1 = (-3)) : zMet l K yL_tries wsL_tries { frames := 2, cells := 6, slots := 140, locals := 55 } [.ref pz, .ref pn, .ref pe, .ref pv, .ref pl, .ref px, .ref ph, .int x1, .int x2] [[(pz, .inl (zI K, 32, .inl Gz))], [(pn, .inl (zI K, 20, .inl Gn))], [(pe, .inl (zI K, 24, .inl Ge))], [(pv, .inl (zI K, 24, .inl Gv))], [(pl, .inl (zI K, 24, .inl Gl))], [(px, .inl (zI K, 24, .inl Gx))], [(ph, .inl (zI K, 24, .inl Gh))]] (some (.int (fL_tries_m Gz Gn Ge Gv Gl Gx Gh))) [[(pz, .inl (zI K, 32, .inl Gz))], [(pn, .inl (zI K, 20, .inl Gn))], [(pe, .inl (zI K, 24, .inl Ge))], [(pv, .inl (zI K, 24, .inl Gv))], [(pl, .inl (zI K, 24, .inl Gl))], [(px, .inl (zI K, 24, .inl Gx))], [(ph, .inl (zI K, 24, .inl Gh))]] True zNo := by
  refine zMeN.of (cc := cL_tries) (maxL := 16) (ret := (some .int)) (own := RL) (nm := "tries") hl (by decide +kernel) rfl rfl rfl (Nat.le_of_ble_eq_true rfl) (lv := [(0, .ref pz), (1, .ref pn), (2, .ref pe), (3, .ref pv), (4, .ref pl), (5, .ref px), (6, .ref ph), (7, .int x1), (8, .int x2)]) rfl ?_
  intro p e s m args below meth c A B
  refine z_bipush B (v := 20) dL_tries_0 rfl ?_
  refine z_newI B hwL_tries_arrint (N := 20) (by decide) rfl (by decide) (Nat.le_of_ble_eq_true rfl) (Nat.le_of_ble_eq_true rfl) dL_tries_2 (fun q1 => ?_)
  refine z_astore B (lv' := [(9, .ref q1), (0, .ref pz), (1, .ref pn), (2, .ref pe), (3, .ref pv), (4, .ref pl), (5, .ref px), (6, .ref ph), (7, .int x1), (8, .int x2)]) dL_tries_4 (by decide) rfl ?_
  refine z_bipush B (v := 24) dL_tries_6 rfl ?_
  refine z_newI B hwL_tries_arrint (N := 24) (by decide) rfl (by decide) (Nat.le_of_ble_eq_true rfl) (Nat.le_of_ble_eq_true rfl) dL_tries_8 (fun q2 => ?_)
  refine z_astore B (lv' := [(10, .ref q2), (9, .ref q1), (0, .ref pz), (1, .ref pn), (2, .ref pe), (3, .ref pv), (4, .ref pl), (5, .ref px), (6, .ref ph), (7, .int x1), (8, .int x2)]) dL_tries_10 (by decide) rfl ?_
  refine z_bipush B (v := 24) dL_tries_12 rfl ?_
  refine z_newI B hwL_tries_arrint (N := 24) (by decide) rfl (by decide) (Nat.le_of_ble_eq_true rfl) (Nat.le_of_ble_eq_true rfl) dL_tries_14 (fun q3 => ?_)
  refine z_astore B (lv' := [(11, .ref q3), (10, .ref q2), (9, .ref q1), (0, .ref pz), (1, .ref pn), (2, .ref pe), (3, .ref pv), (4, .ref pl), (5, .ref px), (6, .ref ph), (7, .int x1), (8, .int x2)]) dL_tries_16 (by decide) rfl ?_
  refine z_bipush B (v := 24) dL_tries_18 rfl ?_
  refine z_newI B hwL_tries_arrint (N := 24) (by decide) rfl (by decide) (Nat.le_of_ble_eq_true rfl) (Nat.le_of_ble_eq_true rfl) dL_tries_20 (fun q4 => ?_)
  refine z_astore B (lv' := [(12, .ref q4), (11, .ref q3), (10, .ref q2), (9, .ref q1), (0, .ref pz), (1, .ref pn), (2, .ref pe), (3, .ref pv), (4, .ref pl), (5, .ref px), (6, .ref ph), (7, .int x1), (8, .int x2)]) dL_tries_22 (by decide) rfl ?_
  refine z_bipush B (v := 24) dL_tries_24 rfl ?_
  refine z_newI B hwL_tries_arrint (N := 24) (by decide) rfl (by decide) (Nat.le_of_ble_eq_true rfl) (Nat.le_of_ble_eq_true rfl) dL_tries_26 (fun q5 => ?_)
  refine z_astore B (lv' := [(13, .ref q5), (12, .ref q4), (11, .ref q3), (10, .ref q2), (9, .ref q1), (0, .ref pz), (1, .ref pn), (2, .ref pe), (3, .ref pv), (4, .ref pl), (5, .ref px), (6, .ref ph), (7, .int x1), (8, .int x2)]) dL_tries_28 (by decide) rfl ?_
  refine z_bipush B (v := 24) dL_tries_30 rfl ?_
  refine z_newI B hwL_tries_arrint (N := 24) (by decide) rfl (by decide) (Nat.le_of_ble_eq_true rfl) (Nat.le_of_ble_eq_true rfl) dL_tries_32 (fun q6 => ?_)
  refine z_astore B (lv' := [(14, .ref q6), (13, .ref q5), (12, .ref q4), (11, .ref q3), (10, .ref q2), (9, .ref q1), (0, .ref pz), (1, .ref pn), (2, .ref pe), (3, .ref pv), (4, .ref pl), (5, .ref px), (6, .ref ph), (7, .int x1), (8, .int x2)]) dL_tries_34 (by decide) rfl ?_
  refine z_iconst B (v := 0) dL_tries_36 rfl ?_
  refine z_istore B (lv' := [(15, .int 0), (14, .ref q6), (13, .ref q5), (12, .ref q4), (11, .ref q3), (10, .ref q2), (9, .ref q1), (0, .ref pz), (1, .ref pn), (2, .ref pe), (3, .ref pv), (4, .ref pl), (5, .ref px), (6, .ref ph), (7, .int x1), (8, .int x2)]) dL_tries_37 (by decide) rfl ?_
  refine z_lsub [7, 8, 9, 10, 11, 12, 13, 14, 15, 6, 5, 4, 3, 2, 1, 0] rfl ?_
  have hF : fL_tries_m Gz Gn Ge Gv Gl Gx Gh = fL_tries_m_L39 Gz Gn Ge Gv Gl Gx Gh 24 0 (fun _ => 0) (fun _ => 0) (fun _ => 0) (fun _ => 0) (fun _ => 0) (fun _ => 0) := rfl
  exact kL_tries_m_L39 l hl K pz pn pe pv pl px ph Gz Gn Ge Gv Gl Gx Gh ns x1 x2 hN3 hns hL B 24 0 q1 q2 q3 q4 q5 q6 (fun _ => 0) (fun _ => 0) (fun _ => 0) (fun _ => 0) (fun _ => 0) (fun _ => 0) (by omega) (fun t h => absurd h (Nat.not_lt_zero t)) (fun t h => absurd h (Nat.not_lt_zero t)) (fun t h => absurd h (Nat.not_lt_zero t)) (fun t h => absurd h (Nat.not_lt_zero t)) (fun t h => absurd h (Nat.not_lt_zero t)) (fun t h => absurd h (Nat.not_lt_zero t)) hF

