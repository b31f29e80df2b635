/-! THE LAW'S OWN METHODS: slot, fetches, nearest, truth -/
def fL_slot_L5 (Ge : Nat → Int32) (i : Nat) (x2 : Int32) : Nat → Nat → Int32
  | 0, a =>
    (-1)
  | n + 1, a =>
    if (Ge (6 * i + a)) = (x2 + 1) then
      nI (6 * i + a)
    else
      fL_slot_L5 Ge i x2 n (a + 1) 
def fL_slot (Ge : Nat → Int32) (i : Nat) (x2 : Int32) : Int32 :=
  fL_slot_L5 Ge i x2 6 0
set_option maxHeartbeats 4000000 in
set_option maxRecDepth 100000 in
theorem kL_slot_L5 (l : Launch) (hl : l.stackTraces = false) (K : zK) (pe : Nat) (Ge : Nat → Int32) (i : Nat) (x2 : Int32) (hi4 : i < 4) {p : Program} {e : Env} {s : State} {m : MethodId} {args : Array Value} {below : List Frame} {meth : Method} {c : Code} {A : Nat → Prop} (B : zF K p l s m args meth c A cL_slot 4 RL "slot" wsL_slot (some .int) []) : ∀ (n a : Nat), a + n = 6 → fL_slot Ge i x2 = fL_slot_L5 Ge i x2 n a  → zW K p l e { frames := 0, cells := 0, slots := 0, locals := 0 } s m args below meth c A (vx_MQ below (zQ K A (fun _ : Unit => ((some (.int (fL_slot Ge i x2))), [[(pe, .inl (zI K, 24, .inl Ge))]])) (fun _ => True)) (zX K A [[(pe, .inl (zI K, 24, .inl Ge))]] zNo) args s 0 0 A) 0 0 [[(pe, .inl (zI K, 24, .inl Ge))]] [(0, .ref pe), (1, .int (nI i)), (2, .int x2), (3, .int (nI (6 * i + a)))] [] 5 := by
  intro n
  induction n with
  | zero =>
    intro a  ha  hF0
    refine z_iload_n B dL_slot_5 3 rfl ?_
    refine z_bipush B (v := 6) dL_slot_6 rfl ?_
    refine z_iload_n B dL_slot_8 1 rfl ?_
    refine z_imulN B (a := 6) (b := i) dL_slot_9 ?_
    refine z_bipush B (v := 6) dL_slot_10 rfl ?_
    refine z_iaddN B (a := 6 * i) (b := 6) dL_slot_12 ?_
    refine z_icge B 33 dL_slot_13 (by decide) (fun _ => ?_) (fun h => absurd (nI_le (by omega) (by omega)) h)
    refine z_iconst B (v := (-1)) dL_slot_33 rfl ?_
    have hF : fL_slot Ge i x2 = (-1) := hF0
    exact z_ret1 B rfl dL_slot_34 () (trivial) (Nat.le_of_ble_eq_true rfl) (Nat.le_of_ble_eq_true rfl) (by rw [hF]) (by rw [hF])
  | succ n ih =>
    intro a  ha  hF0
    refine z_iload_n B dL_slot_5 3 rfl ?_
    refine z_bipush B (v := 6) dL_slot_6 rfl ?_
    refine z_iload_n B dL_slot_8 1 rfl ?_
    refine z_imulN B (a := 6) (b := i) dL_slot_9 ?_
    refine z_bipush B (v := 6) dL_slot_10 rfl ?_
    refine z_iaddN B (a := 6 * i) (b := 6) dL_slot_12 ?_
    refine z_icge B 33 dL_slot_13 (by decide) (fun h => absurd h (nI_ge (by omega) (by omega))) (fun _ => ?_)
    refine z_aload_n B dL_slot_16 0 rfl ?_
    refine z_iload_n B dL_slot_17 3 rfl ?_
    refine z_ialdn B (N := 24) (f := Ge) (k0 := 6 * i + a) (v := (Ge (6 * i + a))) 0 0 rfl rfl (z_nIr (by omega) (by decide)) (nI_clamp (by omega)) rfl dL_slot_18 ?_
    refine z_iload_n B dL_slot_19 2 rfl ?_
    refine z_iconst B (v := 1) dL_slot_20 rfl ?_
    refine z_iadd B dL_slot_21 ?_
    refine z_icne B 27 dL_slot_22 (by decide) (fun c1 => ?_) (fun c1 => ?_)
    · refine z_iload_n B dL_slot_25 3 rfl ?_
      have hF : fL_slot Ge i x2 = nI (6 * i + a) := (hF0).trans (if_pos c1)
      exact z_ret1 B rfl dL_slot_26 () (trivial) (Nat.le_of_ble_eq_true rfl) (Nat.le_of_ble_eq_true rfl) (by rw [hF]) (by rw [hF])
    · refine z_iinc B (v := nI (6 * i + (a + 1))) (lv' := [(3, .int (nI (6 * i + (a + 1)))), (0, .ref pe), (1, .int (nI i)), (2, .int x2)]) dL_slot_27 3 rfl (nI_1 _) (by decide) rfl ?_
      refine z_goto B (tgt := 5) dL_slot_30 (by decide) ?_
      refine z_lsub [1, 2, 3, 0] rfl ?_
      have hF : fL_slot Ge i x2 = fL_slot_L5 Ge i x2 n (a + 1)  := (hF0).trans (if_neg c1)
      exact ih (a + 1)  (by omega)  hF
set_option maxHeartbeats 4000000 in
set_option maxRecDepth 100000 in
theorem kL_slot (l : Launch) (hl : l.stackTraces = false) (K : zK) (pe : Nat) (Ge : Nat → Int32) (i : Nat) (x2 : Int32) (hi4 : i < 4) : zMet l K yL_slot wsL_slot { frames := 0, cells := 0, slots := 0, locals := 0 } [.ref pe, .int (nI i), .int x2] [[(pe, .inl (zI K, 24, .inl Ge))]] (some (.int (fL_slot Ge i x2))) [[(pe, .inl (zI K, 24, .inl Ge))]] True zNo := by
  refine zMeN.of (cc := cL_slot) (maxL := 4) (ret := (some .int)) (own := RL) (nm := "slot") hl (by decide +kernel) rfl rfl rfl (Nat.le_of_ble_eq_true rfl) (lv := [(0, .ref pe), (1, .int (nI i)), (2, .int x2)]) rfl ?_
  intro p e s m args below meth c A B
  refine z_bipush B (v := 6) dL_slot_0 rfl ?_
  refine z_iload_n B dL_slot_2 1 rfl ?_
  refine z_imulN B (a := 6) (b := i) dL_slot_3 ?_
  refine z_istore_n B (lv' := [(3, .int (nI (6 * i))), (0, .ref pe), (1, .int (nI i)), (2, .int x2)]) dL_slot_4 (by decide) rfl ?_
  refine z_lsub [1, 2, 3, 0] rfl ?_
  have hF : fL_slot Ge i x2 = fL_slot_L5 Ge i x2 6 0 := rfl
  exact kL_slot_L5 l hl K pe Ge i x2 hi4 B 6 0  (by omega)  hF
theorem z_slL {Ge : Nat → Int32} {i : Nat} {x : Int32} (hi : i < 4) : ∀ n a, a + n = 6 → fL_slot_L5 Ge i x n a = (-1) ∨ ∃ k, 6 * i ≤ k ∧ k < 6 * i + 6 ∧ fL_slot_L5 Ge i x n a = nI k
  | 0, a, h => Or.inl rfl
  | n + 1, a, h => by
    rw [fL_slot_L5]
    split
    · exact Or.inr ⟨6 * i + a, by omega, by omega, rfl⟩
    · exact z_slL hi n (a + 1) (by omega)
theorem z_sl {Ge : Nat → Int32} {i : Nat} {x : Int32} (hi : i < 4) : fL_slot Ge i x = (-1) ∨ ∃ k, 6 * i ≤ k ∧ k < 6 * i + 6 ∧ fL_slot Ge i x = nI k := z_slL hi 6 0 rfl
theorem z_slO {Ge : Nat → Int32} {i : Nat} {x : Int32} (hi : i < 4) : fL_slot Ge i x < 0 ∨ vp_in (fL_slot Ge i x) 24 := by
  rcases z_sl (Ge := Ge) (x := x) hi with h | ⟨k, h1, h2, h⟩
  · rw [h]; exact Or.inl (by decide)
  · rw [h]; exact Or.inr (vp_in_nI (by omega) (by decide))
theorem z_ofP {x : Int32} {N : Nat} (h : x < 0 ∨ vp_in x N) (h0 : 0 ≤ x) : vp_in x N := h.resolve_left (Int32.not_lt.mpr h0)
theorem z_ofN {x : Int32} {N : Nat} (h : x < 0 ∨ vp_in x N) (h0 : ¬ x < 0) : vp_in x N := h.resolve_left h0
theorem z_16 {x : Int32} (h : vp_in x 16) : vp_in (16 + x) 32 := by
  obtain ⟨j, hj, rfl⟩ := vp_in_of h (by decide)
  show vp_in (nI 16 + nI j) 32
  rw [nI_add]
  exact vp_in_nI (by omega) (by decide)
theorem z_32 {x : Int32} (h : vp_in x 16) : vp_in x 32 := by
  obtain ⟨j, hj, rfl⟩ := vp_in_of h (by decide)
  exact vp_in_nI (by omega) (by decide)
def fL_fetches_L77 (Gz : Nat → Int32) (Gn : Nat → Int32) (Ge : Nat → Int32) (Gv : Nat → Int32) (Gl : Nat → Int32) (Gx : Nat → Int32) (Gh : Nat → Int32) (i : Nat) (x2 : Int32) : Nat → Nat → (Int32) → (Nat → Int32) × (Nat → Int32) × (Nat → Int32) × (Nat → Int32) × (Nat → Int32) × (Nat → Int32)
  | 0, a, g =>
    if (Gz x2.toNatClampNeg) = 0 then
      ((upd (upd Gn 11 ((Gn 11) + 1)) 18 ((Gn 18) + 1)), (upd Ge g.toNatClampNeg (x2 + 1)), (upd Gv g.toNatClampNeg (Gz x2.toNatClampNeg)), (upd Gl g.toNatClampNeg (Gn 1)), (upd Gx g.toNatClampNeg ((Gn 0) + (Gn 1))), (upd Gh g.toNatClampNeg 0))
    else
      ((upd (upd Gn 11 ((Gn 11) + 1)) 18 ((Gn 18) + 1)), (upd Ge g.toNatClampNeg (x2 + 1)), (upd Gv g.toNatClampNeg (Gz x2.toNatClampNeg)), (upd Gl g.toNatClampNeg (Gz ((16 + x2).toNatClampNeg))), (upd Gx g.toNatClampNeg ((Gn 0) + (Gz ((16 + x2).toNatClampNeg)))), (upd Gh g.toNatClampNeg 0))
  | n + 1, a, g =>
    if (Gx (6 * i + 1 + a)) < (Gx g.toNatClampNeg) then
      fL_fetches_L77 Gz Gn Ge Gv Gl Gx Gh i x2 n (a + 1) (nI (6 * i + 1 + a))
    else
      if (Gx (6 * i + 1 + a)) = (Gx g.toNatClampNeg) then
        if (Ge g.toNatClampNeg) ≤ (Ge (6 * i + 1 + a)) then
          fL_fetches_L77 Gz Gn Ge Gv Gl Gx Gh i x2 n (a + 1) g
        else
          fL_fetches_L77 Gz Gn Ge Gv Gl Gx Gh i x2 n (a + 1) (nI (6 * i + 1 + a))
      else
        fL_fetches_L77 Gz Gn Ge Gv Gl Gx Gh i x2 n (a + 1) g
def fL_fetches_L17 (Gz : Nat → Int32) (Gn : Nat → Int32) (Ge : Nat → Int32) (Gv : Nat → Int32) (Gl : Nat → Int32) (Gx : Nat → Int32) (Gh : Nat → Int32) (i : Nat) (x2 : Int32) : Nat → Nat → (Int32) → (Nat → Int32) × (Nat → Int32) × (Nat → Int32) × (Nat → Int32) × (Nat → Int32) × (Nat → Int32)
  | 0, a, g =>
    if 0 ≤ g then
      if (Gz x2.toNatClampNeg) = 0 then
        ((upd (upd Gn 11 ((Gn 11) + 1)) 18 ((Gn 18) + 1)), (upd Ge g.toNatClampNeg (x2 + 1)), (upd Gv g.toNatClampNeg (Gz x2.toNatClampNeg)), (upd Gl g.toNatClampNeg (Gn 1)), (upd Gx g.toNatClampNeg ((Gn 0) + (Gn 1))), (upd Gh g.toNatClampNeg 0))
      else
        ((upd (upd Gn 11 ((Gn 11) + 1)) 18 ((Gn 18) + 1)), (upd Ge g.toNatClampNeg (x2 + 1)), (upd Gv g.toNatClampNeg (Gz x2.toNatClampNeg)), (upd Gl g.toNatClampNeg (Gz ((16 + x2).toNatClampNeg))), (upd Gx g.toNatClampNeg ((Gn 0) + (Gz ((16 + x2).toNatClampNeg)))), (upd Gh g.toNatClampNeg 0))
    else
      fL_fetches_L77 Gz Gn Ge Gv Gl Gx Gh i x2 5 0 (nI (6 * i))
  | n + 1, a, g =>
    if 0 ≤ g then
      if (Gz x2.toNatClampNeg) = 0 then
        ((upd (upd Gn 11 ((Gn 11) + 1)) 18 ((Gn 18) + 1)), (upd Ge g.toNatClampNeg (x2 + 1)), (upd Gv g.toNatClampNeg (Gz x2.toNatClampNeg)), (upd Gl g.toNatClampNeg (Gn 1)), (upd Gx g.toNatClampNeg ((Gn 0) + (Gn 1))), (upd Gh g.toNatClampNeg 0))
      else
        ((upd (upd Gn 11 ((Gn 11) + 1)) 18 ((Gn 18) + 1)), (upd Ge g.toNatClampNeg (x2 + 1)), (upd Gv g.toNatClampNeg (Gz x2.toNatClampNeg)), (upd Gl g.toNatClampNeg (Gz ((16 + x2).toNatClampNeg))), (upd Gx g.toNatClampNeg ((Gn 0) + (Gz ((16 + x2).toNatClampNeg)))), (upd Gh g.toNatClampNeg 0))
    else
      if (Ge (6 * i + a)) = 0 then
        fL_fetches_L17 Gz Gn Ge Gv Gl Gx Gh i x2 n (a + 1) (nI (6 * i + a))
      else
        fL_fetches_L17 Gz Gn Ge Gv Gl Gx Gh i x2 n (a + 1) (-1)
def fL_fetches (Gz : Nat → Int32) (Gn : Nat → Int32) (Ge : Nat → Int32) (Gv : Nat → Int32) (Gl : Nat → Int32) (Gx : Nat → Int32) (Gh : Nat → Int32) (i : Nat) (x2 : Int32) : (Nat → Int32) × (Nat → Int32) × (Nat → Int32) × (Nat → Int32) × (Nat → Int32) × (Nat → Int32) :=
  fL_fetches_L17 Gz Gn Ge Gv Gl Gx Gh i x2 6 0 (fL_slot Ge i x2)
set_option maxHeartbeats 4000000 in
set_option maxRecDepth 100000 in
theorem kL_fetches_L77 (l : Launch) (hl : l.stackTraces = false) (K : zK) (pz : Nat) (pn : Nat) (pe : Nat) (pv : Nat) (pl : Nat) (px : Nat) (ph : Nat) (Gz : Nat → Int32) (Gn : Nat → Int32) (Ge : Nat → Int32) (Gv : Nat → Int32) (Gl : Nat → Int32) (Gx : Nat → Int32) (Gh : Nat → Int32) (i : Nat) (x2 : Int32) (hi4 : i < 4) (hn : vp_in x2 16) {p : Program} {e : Env} {s : State} {m : MethodId} {args : Array Value} {below : List Frame} {meth : Method} {c : Code} {A : Nat → Prop} (B : zF K p l s m args meth c A cL_fetches 11 RL "fetches" wsL_fetches none []) : ∀ (n a : Nat) (g : Int32), a + n = 5 → (vp_in g 24) → fL_fetches Gz Gn Ge Gv Gl Gx Gh i x2 = fL_fetches_L77 Gz Gn Ge Gv Gl Gx Gh i x2 n a g → zW K p l e { frames := 1, cells := 0, slots := 0, locals := 23 } s m args below meth c A (vx_MQ below (zQ K A (fun _ : Unit => (none, [[(pz, .inl (zI K, 32, .inl Gz))], [(pn, .inl (zI K, 20, .inl ((fL_fetches Gz Gn Ge Gv Gl Gx Gh i x2).1)))], [(pe, .inl (zI K, 24, .inl ((fL_fetches Gz Gn Ge Gv Gl Gx Gh i x2).2.1)))], [(pv, .inl (zI K, 24, .inl ((fL_fetches Gz Gn Ge Gv Gl Gx Gh i x2).2.2.1)))], [(pl, .inl (zI K, 24, .inl ((fL_fetches Gz Gn Ge Gv Gl Gx Gh i x2).2.2.2.1)))], [(px, .inl (zI K, 24, .inl ((fL_fetches Gz Gn Ge Gv Gl Gx Gh i x2).2.2.2.2.1)))], [(ph, .inl (zI K, 24, .inl ((fL_fetches Gz Gn Ge Gv Gl Gx Gh i x2).2.2.2.2.2)))]])) (fun _ => True)) (zX K A [[(pz, .inl (zI K, 32, .inl Gz))], [(pn, .inl (zI K, 20, .inl Gn))], [(pe, .inl (zI K, 24, .inl Ge))], [(pv, .inl (zI K, 24, .inl Gv))], [(pl, .inl (zI K, 24, .inl Gl))], [(px, .inl (zI K, 24, .inl Gx))], [(ph, .inl (zI K, 24, .inl Gh))]] zNo) args s 0 0 A) 0 0 [[(pz, .inl (zI K, 32, .inl Gz))], [(pn, .inl (zI K, 20, .inl Gn))], [(pe, .inl (zI K, 24, .inl Ge))], [(pv, .inl (zI K, 24, .inl Gv))], [(pl, .inl (zI K, 24, .inl Gl))], [(px, .inl (zI K, 24, .inl Gx))], [(ph, .inl (zI K, 24, .inl Gh))]] [(0, .ref pz), (1, .ref pn), (2, .ref pe), (3, .ref pv), (4, .ref pl), (5, .ref px), (6, .ref ph), (7, .int (nI i)), (8, .int x2), (9, .int g), (10, .int (nI (6 * i + 1 + a)))] [] 77 := by
  intro n
  induction n with
  | zero =>
    intro a g ha hg hF0
    refine z_iload B dL_fetches_77 10 rfl ?_
    refine z_bipush B (v := 6) dL_fetches_79 rfl ?_
    refine z_iload B dL_fetches_81 7 rfl ?_
    refine z_imulN B (a := 6) (b := i) dL_fetches_83 ?_
    refine z_bipush B (v := 6) dL_fetches_84 rfl ?_
    refine z_iaddN B (a := 6 * i) (b := 6) dL_fetches_86 ?_
    refine z_icge B 142 dL_fetches_87 (by decide) (fun _ => ?_) (fun h => absurd (nI_le (by omega) (by omega)) h)
    refine z_aload_n B dL_fetches_142 2 rfl ?_
    refine z_iload B dL_fetches_143 9 rfl ?_
    refine z_iload B dL_fetches_145 8 rfl ?_
    refine z_iconst B (v := 1) dL_fetches_147 rfl ?_
    refine z_iadd B dL_fetches_148 ?_
    refine z_iastn B (N := 24) (f := Ge) (k0 := g.toNatClampNeg) 2 0 rfl rfl hg rfl (bs' := [[(pz, .inl (zI K, 32, .inl Gz))], [(pn, .inl (zI K, 20, .inl Gn))], [(pe, .inl (zI K, 24, .inl (upd Ge g.toNatClampNeg (x2 + 1))))], [(pv, .inl (zI K, 24, .inl Gv))], [(pl, .inl (zI K, 24, .inl Gl))], [(px, .inl (zI K, 24, .inl Gx))], [(ph, .inl (zI K, 24, .inl Gh))]]) rfl dL_fetches_149 ?_
    refine z_aload_n B dL_fetches_150 3 rfl ?_
    refine z_iload B dL_fetches_151 9 rfl ?_
    refine z_aload_n B dL_fetches_153 0 rfl ?_
    refine z_iload B dL_fetches_154 8 rfl ?_
    refine z_ialdn B (N := 32) (f := Gz) (k0 := x2.toNatClampNeg) (v := (Gz x2.toNatClampNeg)) 0 0 rfl rfl (z_32 hn) rfl rfl dL_fetches_156 ?_
    refine z_iastn B (N := 24) (f := Gv) (k0 := g.toNatClampNeg) 3 0 rfl rfl hg rfl (bs' := [[(pz, .inl (zI K, 32, .inl Gz))], [(pn, .inl (zI K, 20, .inl Gn))], [(pe, .inl (zI K, 24, .inl (upd Ge g.toNatClampNeg (x2 + 1))))], [(pv, .inl (zI K, 24, .inl (upd Gv g.toNatClampNeg (Gz x2.toNatClampNeg))))], [(pl, .inl (zI K, 24, .inl Gl))], [(px, .inl (zI K, 24, .inl Gx))], [(ph, .inl (zI K, 24, .inl Gh))]]) rfl dL_fetches_157 ?_
    refine z_aload B dL_fetches_158 4 rfl ?_
    refine z_iload B dL_fetches_160 9 rfl ?_
    refine z_aload_n B dL_fetches_162 0 rfl ?_
    refine z_iload B dL_fetches_163 8 rfl ?_
    refine z_ialdn B (N := 32) (f := Gz) (k0 := x2.toNatClampNeg) (v := (Gz x2.toNatClampNeg)) 0 0 rfl rfl (z_32 hn) rfl rfl dL_fetches_165 ?_
    refine z_ifne B 175 dL_fetches_166 (by decide) (fun c6 => ?_) (fun c6 => ?_)
    · refine z_aload_n B dL_fetches_169 1 rfl ?_
      refine z_iconst B (v := 1) dL_fetches_170 rfl ?_
      refine z_ialdn B (N := 20) (f := Gn) (k0 := 1) (v := (Gn 1)) 1 0 rfl rfl (z_vpc (k := 1) rfl (by decide)) rfl rfl dL_fetches_171 ?_
      refine z_goto B (tgt := 182) dL_fetches_172 (by decide) ?_
      refine z_iastn B (N := 24) (f := Gl) (k0 := g.toNatClampNeg) 4 0 rfl rfl hg rfl (bs' := [[(pz, .inl (zI K, 32, .inl Gz))], [(pn, .inl (zI K, 20, .inl Gn))], [(pe, .inl (zI K, 24, .inl (upd Ge g.toNatClampNeg (x2 + 1))))], [(pv, .inl (zI K, 24, .inl (upd Gv g.toNatClampNeg (Gz x2.toNatClampNeg))))], [(pl, .inl (zI K, 24, .inl (upd Gl g.toNatClampNeg (Gn 1))))], [(px, .inl (zI K, 24, .inl Gx))], [(ph, .inl (zI K, 24, .inl Gh))]]) rfl dL_fetches_182 ?_
      refine z_aload B dL_fetches_183 5 rfl ?_
      refine z_iload B dL_fetches_185 9 rfl ?_
      refine z_aload_n B dL_fetches_187 1 rfl ?_
      refine z_iconst B (v := 0) dL_fetches_188 rfl ?_
      refine z_ialdn B (N := 20) (f := Gn) (k0 := 0) (v := (Gn 0)) 1 0 rfl rfl (z_vpc (k := 0) rfl (by decide)) rfl rfl dL_fetches_189 ?_
      refine z_aload B dL_fetches_190 4 rfl ?_
      refine z_iload B dL_fetches_192 9 rfl ?_
      refine z_ialdn B (N := 24) (f := (upd Gl g.toNatClampNeg (Gn 1))) (k0 := g.toNatClampNeg) (v := (Gn 1)) 4 0 rfl rfl hg rfl pk_us dL_fetches_194 ?_
      refine z_iadd B dL_fetches_195 ?_
      refine z_iastn B (N := 24) (f := Gx) (k0 := g.toNatClampNeg) 5 0 rfl rfl hg rfl (bs' := [[(pz, .inl (zI K, 32, .inl Gz))], [(pn, .inl (zI K, 20, .inl Gn))], [(pe, .inl (zI K, 24, .inl (upd Ge g.toNatClampNeg (x2 + 1))))], [(pv, .inl (zI K, 24, .inl (upd Gv g.toNatClampNeg (Gz x2.toNatClampNeg))))], [(pl, .inl (zI K, 24, .inl (upd Gl g.toNatClampNeg (Gn 1))))], [(px, .inl (zI K, 24, .inl (upd Gx g.toNatClampNeg ((Gn 0) + (Gn 1)))))], [(ph, .inl (zI K, 24, .inl Gh))]]) rfl dL_fetches_196 ?_
      refine z_aload B dL_fetches_197 6 rfl ?_
      refine z_iload B dL_fetches_199 9 rfl ?_
      refine z_iconst B (v := 0) dL_fetches_201 rfl ?_
      refine z_iastn B (N := 24) (f := Gh) (k0 := g.toNatClampNeg) 6 0 rfl rfl hg rfl (bs' := [[(pz, .inl (zI K, 32, .inl Gz))], [(pn, .inl (zI K, 20, .inl Gn))], [(pe, .inl (zI K, 24, .inl (upd Ge g.toNatClampNeg (x2 + 1))))], [(pv, .inl (zI K, 24, .inl (upd Gv g.toNatClampNeg (Gz x2.toNatClampNeg))))], [(pl, .inl (zI K, 24, .inl (upd Gl g.toNatClampNeg (Gn 1))))], [(px, .inl (zI K, 24, .inl (upd Gx g.toNatClampNeg ((Gn 0) + (Gn 1)))))], [(ph, .inl (zI K, 24, .inl (upd Gh g.toNatClampNeg 0)))]]) rfl dL_fetches_202 ?_
      refine z_aload_n B dL_fetches_203 1 rfl ?_
      refine z_bipush B (v := 11) dL_fetches_204 rfl ?_
      refine z_dup2 B dL_fetches_206 rfl rfl ?_
      refine z_ialdn B (N := 20) (f := Gn) (k0 := 11) (v := (Gn 11)) 1 0 rfl rfl (z_vpc (k := 11) rfl (by decide)) rfl rfl dL_fetches_207 ?_
      refine z_iconst B (v := 1) dL_fetches_208 rfl ?_
      refine z_iadd B dL_fetches_209 ?_
      refine z_iastn B (N := 20) (f := Gn) (k0 := 11) 1 0 rfl rfl (z_vpc (k := 11) rfl (by decide)) rfl (bs' := [[(pz, .inl (zI K, 32, .inl Gz))], [(pn, .inl (zI K, 20, .inl (upd Gn 11 ((Gn 11) + 1))))], [(pe, .inl (zI K, 24, .inl (upd Ge g.toNatClampNeg (x2 + 1))))], [(pv, .inl (zI K, 24, .inl (upd Gv g.toNatClampNeg (Gz x2.toNatClampNeg))))], [(pl, .inl (zI K, 24, .inl (upd Gl g.toNatClampNeg (Gn 1))))], [(px, .inl (zI K, 24, .inl (upd Gx g.toNatClampNeg ((Gn 0) + (Gn 1)))))], [(ph, .inl (zI K, 24, .inl (upd Gh g.toNatClampNeg 0)))]]) rfl dL_fetches_210 ?_
      refine z_aload_n B dL_fetches_211 1 rfl ?_
      refine z_bipush B (v := 18) dL_fetches_212 rfl ?_
      refine z_dup2 B dL_fetches_214 rfl rfl ?_
      refine z_ialdn B (N := 20) (f := (upd Gn 11 ((Gn 11) + 1))) (k0 := 18) (v := (Gn 18)) 1 0 rfl rfl (z_vpc (k := 18) rfl (by decide)) rfl rfl dL_fetches_215 ?_
      refine z_iconst B (v := 1) dL_fetches_216 rfl ?_
      refine z_iadd B dL_fetches_217 ?_
      refine z_iastn B (N := 20) (f := (upd Gn 11 ((Gn 11) + 1))) (k0 := 18) 1 0 rfl rfl (z_vpc (k := 18) rfl (by decide)) rfl (bs' := [[(pz, .inl (zI K, 32, .inl Gz))], [(pn, .inl (zI K, 20, .inl (upd (upd Gn 11 ((Gn 11) + 1)) 18 ((Gn 18) + 1))))], [(pe, .inl (zI K, 24, .inl (upd Ge g.toNatClampNeg (x2 + 1))))], [(pv, .inl (zI K, 24, .inl (upd Gv g.toNatClampNeg (Gz x2.toNatClampNeg))))], [(pl, .inl (zI K, 24, .inl (upd Gl g.toNatClampNeg (Gn 1))))], [(px, .inl (zI K, 24, .inl (upd Gx g.toNatClampNeg ((Gn 0) + (Gn 1)))))], [(ph, .inl (zI K, 24, .inl (upd Gh g.toNatClampNeg 0)))]]) rfl dL_fetches_218 ?_
      have hF : fL_fetches Gz Gn Ge Gv Gl Gx Gh i x2 = ((upd (upd Gn 11 ((Gn 11) + 1)) 18 ((Gn 18) + 1)), (upd Ge g.toNatClampNeg (x2 + 1)), (upd Gv g.toNatClampNeg (Gz x2.toNatClampNeg)), (upd Gl g.toNatClampNeg (Gn 1)), (upd Gx g.toNatClampNeg ((Gn 0) + (Gn 1))), (upd Gh g.toNatClampNeg 0)) := (hF0).trans (if_pos c6)
      exact z_ret0 B dL_fetches_219 () (trivial) (Nat.le_of_ble_eq_true rfl) (Nat.le_of_ble_eq_true rfl) rfl (by rw [hF])
    · refine z_aload_n B dL_fetches_175 0 rfl ?_
      refine z_bipush B (v := 16) dL_fetches_176 rfl ?_
      refine z_iload B dL_fetches_178 8 rfl ?_
      refine z_iadd B dL_fetches_180 ?_
      refine z_ialdn B (N := 32) (f := Gz) (k0 := (16 + x2).toNatClampNeg) (v := (Gz ((16 + x2).toNatClampNeg))) 0 0 rfl rfl (z_16 hn) rfl rfl dL_fetches_181 ?_
      refine z_iastn B (N := 24) (f := Gl) (k0 := g.toNatClampNeg) 4 0 rfl rfl hg rfl (bs' := [[(pz, .inl (zI K, 32, .inl Gz))], [(pn, .inl (zI K, 20, .inl Gn))], [(pe, .inl (zI K, 24, .inl (upd Ge g.toNatClampNeg (x2 + 1))))], [(pv, .inl (zI K, 24, .inl (upd Gv g.toNatClampNeg (Gz x2.toNatClampNeg))))], [(pl, .inl (zI K, 24, .inl (upd Gl g.toNatClampNeg (Gz ((16 + x2).toNatClampNeg)))))], [(px, .inl (zI K, 24, .inl Gx))], [(ph, .inl (zI K, 24, .inl Gh))]]) rfl dL_fetches_182 ?_
      refine z_aload B dL_fetches_183 5 rfl ?_
      refine z_iload B dL_fetches_185 9 rfl ?_
      refine z_aload_n B dL_fetches_187 1 rfl ?_
      refine z_iconst B (v := 0) dL_fetches_188 rfl ?_
      refine z_ialdn B (N := 20) (f := Gn) (k0 := 0) (v := (Gn 0)) 1 0 rfl rfl (z_vpc (k := 0) rfl (by decide)) rfl rfl dL_fetches_189 ?_
      refine z_aload B dL_fetches_190 4 rfl ?_
      refine z_iload B dL_fetches_192 9 rfl ?_
      refine z_ialdn B (N := 24) (f := (upd Gl g.toNatClampNeg (Gz ((16 + x2).toNatClampNeg)))) (k0 := g.toNatClampNeg) (v := (Gz ((16 + x2).toNatClampNeg))) 4 0 rfl rfl hg rfl pk_us dL_fetches_194 ?_
      refine z_iadd B dL_fetches_195 ?_
      refine z_iastn B (N := 24) (f := Gx) (k0 := g.toNatClampNeg) 5 0 rfl rfl hg rfl (bs' := [[(pz, .inl (zI K, 32, .inl Gz))], [(pn, .inl (zI K, 20, .inl Gn))], [(pe, .inl (zI K, 24, .inl (upd Ge g.toNatClampNeg (x2 + 1))))], [(pv, .inl (zI K, 24, .inl (upd Gv g.toNatClampNeg (Gz x2.toNatClampNeg))))], [(pl, .inl (zI K, 24, .inl (upd Gl g.toNatClampNeg (Gz ((16 + x2).toNatClampNeg)))))], [(px, .inl (zI K, 24, .inl (upd Gx g.toNatClampNeg ((Gn 0) + (Gz ((16 + x2).toNatClampNeg))))))], [(ph, .inl (zI K, 24, .inl Gh))]]) rfl dL_fetches_196 ?_
      refine z_aload B dL_fetches_197 6 rfl ?_
      refine z_iload B dL_fetches_199 9 rfl ?_
      refine z_iconst B (v := 0) dL_fetches_201 rfl ?_
      refine z_iastn B (N := 24) (f := Gh) (k0 := g.toNatClampNeg) 6 0 rfl rfl hg rfl (bs' := [[(pz, .inl (zI K, 32, .inl Gz))], [(pn, .inl (zI K, 20, .inl Gn))], [(pe, .inl (zI K, 24, .inl (upd Ge g.toNatClampNeg (x2 + 1))))], [(pv, .inl (zI K, 24, .inl (upd Gv g.toNatClampNeg (Gz x2.toNatClampNeg))))], [(pl, .inl (zI K, 24, .inl (upd Gl g.toNatClampNeg (Gz ((16 + x2).toNatClampNeg)))))], [(px, .inl (zI K, 24, .inl (upd Gx g.toNatClampNeg ((Gn 0) + (Gz ((16 + x2).toNatClampNeg))))))], [(ph, .inl (zI K, 24, .inl (upd Gh g.toNatClampNeg 0)))]]) rfl dL_fetches_202 ?_
      refine z_aload_n B dL_fetches_203 1 rfl ?_
      refine z_bipush B (v := 11) dL_fetches_204 rfl ?_
      refine z_dup2 B dL_fetches_206 rfl rfl ?_
      refine z_ialdn B (N := 20) (f := Gn) (k0 := 11) (v := (Gn 11)) 1 0 rfl rfl (z_vpc (k := 11) rfl (by decide)) rfl rfl dL_fetches_207 ?_
      refine z_iconst B (v := 1) dL_fetches_208 rfl ?_
      refine z_iadd B dL_fetches_209 ?_
      refine z_iastn B (N := 20) (f := Gn) (k0 := 11) 1 0 rfl rfl (z_vpc (k := 11) rfl (by decide)) rfl (bs' := [[(pz, .inl (zI K, 32, .inl Gz))], [(pn, .inl (zI K, 20, .inl (upd Gn 11 ((Gn 11) + 1))))], [(pe, .inl (zI K, 24, .inl (upd Ge g.toNatClampNeg (x2 + 1))))], [(pv, .inl (zI K, 24, .inl (upd Gv g.toNatClampNeg (Gz x2.toNatClampNeg))))], [(pl, .inl (zI K, 24, .inl (upd Gl g.toNatClampNeg (Gz ((16 + x2).toNatClampNeg)))))], [(px, .inl (zI K, 24, .inl (upd Gx g.toNatClampNeg ((Gn 0) + (Gz ((16 + x2).toNatClampNeg))))))], [(ph, .inl (zI K, 24, .inl (upd Gh g.toNatClampNeg 0)))]]) rfl dL_fetches_210 ?_
      refine z_aload_n B dL_fetches_211 1 rfl ?_
      refine z_bipush B (v := 18) dL_fetches_212 rfl ?_
      refine z_dup2 B dL_fetches_214 rfl rfl ?_
      refine z_ialdn B (N := 20) (f := (upd Gn 11 ((Gn 11) + 1))) (k0 := 18) (v := (Gn 18)) 1 0 rfl rfl (z_vpc (k := 18) rfl (by decide)) rfl rfl dL_fetches_215 ?_
      refine z_iconst B (v := 1) dL_fetches_216 rfl ?_
      refine z_iadd B dL_fetches_217 ?_
      refine z_iastn B (N := 20) (f := (upd Gn 11 ((Gn 11) + 1))) (k0 := 18) 1 0 rfl rfl (z_vpc (k := 18) rfl (by decide)) rfl (bs' := [[(pz, .inl (zI K, 32, .inl Gz))], [(pn, .inl (zI K, 20, .inl (upd (upd Gn 11 ((Gn 11) + 1)) 18 ((Gn 18) + 1))))], [(pe, .inl (zI K, 24, .inl (upd Ge g.toNatClampNeg (x2 + 1))))], [(pv, .inl (zI K, 24, .inl (upd Gv g.toNatClampNeg (Gz x2.toNatClampNeg))))], [(pl, .inl (zI K, 24, .inl (upd Gl g.toNatClampNeg (Gz ((16 + x2).toNatClampNeg)))))], [(px, .inl (zI K, 24, .inl (upd Gx g.toNatClampNeg ((Gn 0) + (Gz ((16 + x2).toNatClampNeg))))))], [(ph, .inl (zI K, 24, .inl (upd Gh g.toNatClampNeg 0)))]]) rfl dL_fetches_218 ?_
      have hF : fL_fetches Gz Gn Ge Gv Gl Gx Gh i x2 = ((upd (upd Gn 11 ((Gn 11) + 1)) 18 ((Gn 18) + 1)), (upd Ge g.toNatClampNeg (x2 + 1)), (upd Gv g.toNatClampNeg (Gz x2.toNatClampNeg)), (upd Gl g.toNatClampNeg (Gz ((16 + x2).toNatClampNeg))), (upd Gx g.toNatClampNeg ((Gn 0) + (Gz ((16 + x2).toNatClampNeg)))), (upd Gh g.toNatClampNeg 0)) := (hF0).trans (if_neg c6)
      exact z_ret0 B dL_fetches_219 () (trivial) (Nat.le_of_ble_eq_true rfl) (Nat.le_of_ble_eq_true rfl) rfl (by rw [hF])
  | succ n ih =>
    intro a g ha hg hF0
    refine z_iload B dL_fetches_77 10 rfl ?_
    refine z_bipush B (v := 6) dL_fetches_79 rfl ?_
    refine z_iload B dL_fetches_81 7 rfl ?_
    refine z_imulN B (a := 6) (b := i) dL_fetches_83 ?_
    refine z_bipush B (v := 6) dL_fetches_84 rfl ?_
    refine z_iaddN B (a := 6 * i) (b := 6) dL_fetches_86 ?_
    refine z_icge B 142 dL_fetches_87 (by decide) (fun h => absurd h (nI_ge (by omega) (by omega))) (fun _ => ?_)
    refine z_aload B dL_fetches_90 5 rfl ?_
    refine z_iload B dL_fetches_92 10 rfl ?_
    refine z_ialdn B (N := 24) (f := Gx) (k0 := 6 * i + 1 + a) (v := (Gx (6 * i + 1 + a))) 5 0 rfl rfl (z_nIr (by omega) (by decide)) (nI_clamp (by omega)) rfl dL_fetches_94 ?_
    refine z_aload B dL_fetches_95 5 rfl ?_
    refine z_iload B dL_fetches_97 9 rfl ?_
    refine z_ialdn B (N := 24) (f := Gx) (k0 := g.toNatClampNeg) (v := (Gx g.toNatClampNeg)) 5 0 rfl rfl hg rfl rfl dL_fetches_99 ?_
    refine z_iclt B 127 dL_fetches_100 (by decide) (fun c7 => ?_) (fun c7 => ?_)
    · refine z_iload B dL_fetches_127 10 rfl ?_
      refine z_goto B (tgt := 134) dL_fetches_129 (by decide) ?_
      refine z_istore B (lv' := [(9, .int (nI (6 * i + 1 + a))), (0, .ref pz), (1, .ref pn), (2, .ref pe), (3, .ref pv), (4, .ref pl), (5, .ref px), (6, .ref ph), (7, .int (nI i)), (8, .int x2), (10, .int (nI (6 * i + 1 + a)))]) dL_fetches_134 (by decide) rfl ?_
      refine z_iinc B (v := nI (6 * i + 1 + (a + 1))) (lv' := [(10, .int (nI (6 * i + 1 + (a + 1)))), (9, .int (nI (6 * i + 1 + a))), (0, .ref pz), (1, .ref pn), (2, .ref pe), (3, .ref pv), (4, .ref pl), (5, .ref px), (6, .ref ph), (7, .int (nI i)), (8, .int x2)]) dL_fetches_136 10 rfl (nI_1 _) (by decide) rfl ?_
      refine z_goto B (tgt := 77) dL_fetches_139 (by decide) ?_
      refine z_lsub [2, 3, 4, 5, 6, 7, 8, 9, 10, 1, 0] rfl ?_
      have hF : fL_fetches Gz Gn Ge Gv Gl Gx Gh i x2 = fL_fetches_L77 Gz Gn Ge Gv Gl Gx Gh i x2 n (a + 1) (nI (6 * i + 1 + a)) := (hF0).trans (if_pos c7)
      exact ih (a + 1) (nI (6 * i + 1 + a)) (by omega) (z_nIr (by omega) (by decide)) hF
    · refine z_aload B dL_fetches_103 5 rfl ?_
      refine z_iload B dL_fetches_105 10 rfl ?_
      refine z_ialdn B (N := 24) (f := Gx) (k0 := 6 * i + 1 + a) (v := (Gx (6 * i + 1 + a))) 5 0 rfl rfl (z_nIr (by omega) (by decide)) (nI_clamp (by omega)) rfl dL_fetches_107 ?_
      refine z_aload B dL_fetches_108 5 rfl ?_
      refine z_iload B dL_fetches_110 9 rfl ?_
      refine z_ialdn B (N := 24) (f := Gx) (k0 := g.toNatClampNeg) (v := (Gx g.toNatClampNeg)) 5 0 rfl rfl hg rfl rfl dL_fetches_112 ?_
      refine z_icne B 132 dL_fetches_113 (by decide) (fun c8 => ?_) (fun c8 => ?_)
      · refine z_aload_n B dL_fetches_116 2 rfl ?_
        refine z_iload B dL_fetches_117 10 rfl ?_
        refine z_ialdn B (N := 24) (f := Ge) (k0 := 6 * i + 1 + a) (v := (Ge (6 * i + 1 + a))) 2 0 rfl rfl (z_nIr (by omega) (by decide)) (nI_clamp (by omega)) rfl dL_fetches_119 ?_
        refine z_aload_n B dL_fetches_120 2 rfl ?_
        refine z_iload B dL_fetches_121 9 rfl ?_
        refine z_ialdn B (N := 24) (f := Ge) (k0 := g.toNatClampNeg) (v := (Ge g.toNatClampNeg)) 2 0 rfl rfl hg rfl rfl dL_fetches_123 ?_
        refine z_icge B 132 dL_fetches_124 (by decide) (fun c9 => ?_) (fun c9 => ?_)
        · refine z_iload B dL_fetches_132 9 rfl ?_
          refine z_istore B (lv' := [(9, .int g), (0, .ref pz), (1, .ref pn), (2, .ref pe), (3, .ref pv), (4, .ref pl), (5, .ref px), (6, .ref ph), (7, .int (nI i)), (8, .int x2), (10, .int (nI (6 * i + 1 + a)))]) dL_fetches_134 (by decide) rfl ?_
          refine z_iinc B (v := nI (6 * i + 1 + (a + 1))) (lv' := [(10, .int (nI (6 * i + 1 + (a + 1)))), (9, .int g), (0, .ref pz), (1, .ref pn), (2, .ref pe), (3, .ref pv), (4, .ref pl), (5, .ref px), (6, .ref ph), (7, .int (nI i)), (8, .int x2)]) dL_fetches_136 10 rfl (nI_1 _) (by decide) rfl ?_
          refine z_goto B (tgt := 77) dL_fetches_139 (by decide) ?_
          refine z_lsub [2, 3, 4, 5, 6, 7, 8, 9, 10, 1, 0] rfl ?_
          have hF : fL_fetches Gz Gn Ge Gv Gl Gx Gh i x2 = fL_fetches_L77 Gz Gn Ge Gv Gl Gx Gh i x2 n (a + 1) g := (hF0).trans ((if_neg c7).trans ((if_pos c8).trans (if_pos c9)))
          exact ih (a + 1) g (by omega) hg hF
        · refine z_iload B dL_fetches_127 10 rfl ?_
          refine z_goto B (tgt := 134) dL_fetches_129 (by decide) ?_
          refine z_istore B (lv' := [(9, .int (nI (6 * i + 1 + a))), (0, .ref pz), (1, .ref pn), (2, .ref pe), (3, .ref pv), (4, .ref pl), (5, .ref px), (6, .ref ph), (7, .int (nI i)), (8, .int x2), (10, .int (nI (6 * i + 1 + a)))]) dL_fetches_134 (by decide) rfl ?_
          refine z_iinc B (v := nI (6 * i + 1 + (a + 1))) (lv' := [(10, .int (nI (6 * i + 1 + (a + 1)))), (9, .int (nI (6 * i + 1 + a))), (0, .ref pz), (1, .ref pn), (2, .ref pe), (3, .ref pv), (4, .ref pl), (5, .ref px), (6, .ref ph), (7, .int (nI i)), (8, .int x2)]) dL_fetches_136 10 rfl (nI_1 _) (by decide) rfl ?_
          refine z_goto B (tgt := 77) dL_fetches_139 (by decide) ?_
          refine z_lsub [2, 3, 4, 5, 6, 7, 8, 9, 10, 1, 0] rfl ?_
          have hF : fL_fetches Gz Gn Ge Gv Gl Gx Gh i x2 = fL_fetches_L77 Gz Gn Ge Gv Gl Gx Gh i x2 n (a + 1) (nI (6 * i + 1 + a)) := (hF0).trans ((if_neg c7).trans ((if_pos c8).trans (if_neg c9)))
          exact ih (a + 1) (nI (6 * i + 1 + a)) (by omega) (z_nIr (by omega) (by decide)) hF
      · refine z_iload B dL_fetches_132 9 rfl ?_
        refine z_istore B (lv' := [(9, .int g), (0, .ref pz), (1, .ref pn), (2, .ref pe), (3, .ref pv), (4, .ref pl), (5, .ref px), (6, .ref ph), (7, .int (nI i)), (8, .int x2), (10, .int (nI (6 * i + 1 + a)))]) dL_fetches_134 (by decide) rfl ?_
        refine z_iinc B (v := nI (6 * i + 1 + (a + 1))) (lv' := [(10, .int (nI (6 * i + 1 + (a + 1)))), (9, .int g), (0, .ref pz), (1, .ref pn), (2, .ref pe), (3, .ref pv), (4, .ref pl), (5, .ref px), (6, .ref ph), (7, .int (nI i)), (8, .int x2)]) dL_fetches_136 10 rfl (nI_1 _) (by decide) rfl ?_
        refine z_goto B (tgt := 77) dL_fetches_139 (by decide) ?_
        refine z_lsub [2, 3, 4, 5, 6, 7, 8, 9, 10, 1, 0] rfl ?_
        have hF : fL_fetches Gz Gn Ge Gv Gl Gx Gh i x2 = fL_fetches_L77 Gz Gn Ge Gv Gl Gx Gh i x2 n (a + 1) g := (hF0).trans ((if_neg c7).trans (if_neg c8))
        exact ih (a + 1) g (by omega) hg hF
set_option maxHeartbeats 4000000 in
set_option maxRecDepth 100000 in
theorem kL_fetches_L17 (l : Launch) (hl : l.stackTraces = false) (K : zK) (pz : Nat) (pn : Nat) (pe : Nat) (pv : Nat) (pl : Nat) (px : Nat) (ph : Nat) (Gz : Nat → Int32) (Gn : Nat → Int32) (Ge : Nat → Int32) (Gv : Nat → Int32) (Gl : Nat → Int32) (Gx : Nat → Int32) (Gh : Nat → Int32) (i : Nat) (x2 : Int32) (hi4 : i < 4) (hn : vp_in x2 16) {p : Program} {e : Env} {s : State} {m : MethodId} {args : Array Value} {below : List Frame} {meth : Method} {c : Code} {A : Nat → Prop} (B : zF K p l s m args meth c A cL_fetches 11 RL "fetches" wsL_fetches none []) : ∀ (n a : Nat) (g : Int32), a + n = 6 → (g < 0 ∨ vp_in g 24) → fL_fetches Gz Gn Ge Gv Gl Gx Gh i x2 = fL_fetches_L17 Gz Gn Ge Gv Gl Gx Gh i x2 n a g → zW K p l e { frames := 1, cells := 0, slots := 0, locals := 23 } s m args below meth c A (vx_MQ below (zQ K A (fun _ : Unit => (none, [[(pz, .inl (zI K, 32, .inl Gz))], [(pn, .inl (zI K, 20, .inl ((fL_fetches Gz Gn Ge Gv Gl Gx Gh i x2).1)))], [(pe, .inl (zI K, 24, .inl ((fL_fetches Gz Gn Ge Gv Gl Gx Gh i x2).2.1)))], [(pv, .inl (zI K, 24, .inl ((fL_fetches Gz Gn Ge Gv Gl Gx Gh i x2).2.2.1)))], [(pl, .inl (zI K, 24, .inl ((fL_fetches Gz Gn Ge Gv Gl Gx Gh i x2).2.2.2.1)))], [(px, .inl (zI K, 24, .inl ((fL_fetches Gz Gn Ge Gv Gl Gx Gh i x2).2.2.2.2.1)))], [(ph, .inl (zI K, 24, .inl ((fL_fetches Gz Gn Ge Gv Gl Gx Gh i x2).2.2.2.2.2)))]])) (fun _ => True)) (zX K A [[(pz, .inl (zI K, 32, .inl Gz))], [(pn, .inl (zI K, 20, .inl Gn))], [(pe, .inl (zI K, 24, .inl Ge))], [(pv, .inl (zI K, 24, .inl Gv))], [(pl, .inl (zI K, 24, .inl Gl))], [(px, .inl (zI K, 24, .inl Gx))], [(ph, .inl (zI K, 24, .inl Gh))]] zNo) args s 0 0 A) 0 0 [[(pz, .inl (zI K, 32, .inl Gz))], [(pn, .inl (zI K, 20, .inl Gn))], [(pe, .inl (zI K, 24, .inl Ge))], [(pv, .inl (zI K, 24, .inl Gv))], [(pl, .inl (zI K, 24, .inl Gl))], [(px, .inl (zI K, 24, .inl Gx))], [(ph, .inl (zI K, 24, .inl Gh))]] [(0, .ref pz), (1, .ref pn), (2, .ref pe), (3, .ref pv), (4, .ref pl), (5, .ref px), (6, .ref ph), (7, .int (nI i)), (8, .int x2), (9, .int g), (10, .int (nI (6 * i + a)))] [] 17 := by
  intro n
  induction n with
  | zero =>
    intro a g ha hg hF0
    refine z_iload B dL_fetches_17 10 rfl ?_
    refine z_bipush B (v := 6) dL_fetches_19 rfl ?_
    refine z_iload B dL_fetches_21 7 rfl ?_
    refine z_imulN B (a := 6) (b := i) dL_fetches_23 ?_
    refine z_bipush B (v := 6) dL_fetches_24 rfl ?_
    refine z_iaddN B (a := 6 * i) (b := 6) dL_fetches_26 ?_
    refine z_icge B 56 dL_fetches_27 (by decide) (fun _ => ?_) (fun h => absurd (nI_le (by omega) (by omega)) h)
    refine z_iload B dL_fetches_56 9 rfl ?_
    refine z_ifge B 142 dL_fetches_58 (by decide) (fun c1 => ?_) (fun c1 => ?_)
    · refine z_aload_n B dL_fetches_142 2 rfl ?_
      refine z_iload B dL_fetches_143 9 rfl ?_
      refine z_iload B dL_fetches_145 8 rfl ?_
      refine z_iconst B (v := 1) dL_fetches_147 rfl ?_
      refine z_iadd B dL_fetches_148 ?_
      refine z_iastn B (N := 24) (f := Ge) (k0 := g.toNatClampNeg) 2 0 rfl rfl (z_ofP hg c1) rfl (bs' := [[(pz, .inl (zI K, 32, .inl Gz))], [(pn, .inl (zI K, 20, .inl Gn))], [(pe, .inl (zI K, 24, .inl (upd Ge g.toNatClampNeg (x2 + 1))))], [(pv, .inl (zI K, 24, .inl Gv))], [(pl, .inl (zI K, 24, .inl Gl))], [(px, .inl (zI K, 24, .inl Gx))], [(ph, .inl (zI K, 24, .inl Gh))]]) rfl dL_fetches_149 ?_
      refine z_aload_n B dL_fetches_150 3 rfl ?_
      refine z_iload B dL_fetches_151 9 rfl ?_
      refine z_aload_n B dL_fetches_153 0 rfl ?_
      refine z_iload B dL_fetches_154 8 rfl ?_
      refine z_ialdn B (N := 32) (f := Gz) (k0 := x2.toNatClampNeg) (v := (Gz x2.toNatClampNeg)) 0 0 rfl rfl (z_32 hn) rfl rfl dL_fetches_156 ?_
      refine z_iastn B (N := 24) (f := Gv) (k0 := g.toNatClampNeg) 3 0 rfl rfl (z_ofP hg c1) rfl (bs' := [[(pz, .inl (zI K, 32, .inl Gz))], [(pn, .inl (zI K, 20, .inl Gn))], [(pe, .inl (zI K, 24, .inl (upd Ge g.toNatClampNeg (x2 + 1))))], [(pv, .inl (zI K, 24, .inl (upd Gv g.toNatClampNeg (Gz x2.toNatClampNeg))))], [(pl, .inl (zI K, 24, .inl Gl))], [(px, .inl (zI K, 24, .inl Gx))], [(ph, .inl (zI K, 24, .inl Gh))]]) rfl dL_fetches_157 ?_
      refine z_aload B dL_fetches_158 4 rfl ?_
      refine z_iload B dL_fetches_160 9 rfl ?_
      refine z_aload_n B dL_fetches_162 0 rfl ?_
      refine z_iload B dL_fetches_163 8 rfl ?_
      refine z_ialdn B (N := 32) (f := Gz) (k0 := x2.toNatClampNeg) (v := (Gz x2.toNatClampNeg)) 0 0 rfl rfl (z_32 hn) rfl rfl dL_fetches_165 ?_
      refine z_ifne B 175 dL_fetches_166 (by decide) (fun c2 => ?_) (fun c2 => ?_)
      · refine z_aload_n B dL_fetches_169 1 rfl ?_
        refine z_iconst B (v := 1) dL_fetches_170 rfl ?_
        refine z_ialdn B (N := 20) (f := Gn) (k0 := 1) (v := (Gn 1)) 1 0 rfl rfl (z_vpc (k := 1) rfl (by decide)) rfl rfl dL_fetches_171 ?_
        refine z_goto B (tgt := 182) dL_fetches_172 (by decide) ?_
        refine z_iastn B (N := 24) (f := Gl) (k0 := g.toNatClampNeg) 4 0 rfl rfl (z_ofP hg c1) rfl (bs' := [[(pz, .inl (zI K, 32, .inl Gz))], [(pn, .inl (zI K, 20, .inl Gn))], [(pe, .inl (zI K, 24, .inl (upd Ge g.toNatClampNeg (x2 + 1))))], [(pv, .inl (zI K, 24, .inl (upd Gv g.toNatClampNeg (Gz x2.toNatClampNeg))))], [(pl, .inl (zI K, 24, .inl (upd Gl g.toNatClampNeg (Gn 1))))], [(px, .inl (zI K, 24, .inl Gx))], [(ph, .inl (zI K, 24, .inl Gh))]]) rfl dL_fetches_182 ?_
        refine z_aload B dL_fetches_183 5 rfl ?_
        refine z_iload B dL_fetches_185 9 rfl ?_
        refine z_aload_n B dL_fetches_187 1 rfl ?_
        refine z_iconst B (v := 0) dL_fetches_188 rfl ?_
        refine z_ialdn B (N := 20) (f := Gn) (k0 := 0) (v := (Gn 0)) 1 0 rfl rfl (z_vpc (k := 0) rfl (by decide)) rfl rfl dL_fetches_189 ?_
        refine z_aload B dL_fetches_190 4 rfl ?_
        refine z_iload B dL_fetches_192 9 rfl ?_
        refine z_ialdn B (N := 24) (f := (upd Gl g.toNatClampNeg (Gn 1))) (k0 := g.toNatClampNeg) (v := (Gn 1)) 4 0 rfl rfl (z_ofP hg c1) rfl pk_us dL_fetches_194 ?_
        refine z_iadd B dL_fetches_195 ?_
        refine z_iastn B (N := 24) (f := Gx) (k0 := g.toNatClampNeg) 5 0 rfl rfl (z_ofP hg c1) rfl (bs' := [[(pz, .inl (zI K, 32, .inl Gz))], [(pn, .inl (zI K, 20, .inl Gn))], [(pe, .inl (zI K, 24, .inl (upd Ge g.toNatClampNeg (x2 + 1))))], [(pv, .inl (zI K, 24, .inl (upd Gv g.toNatClampNeg (Gz x2.toNatClampNeg))))], [(pl, .inl (zI K, 24, .inl (upd Gl g.toNatClampNeg (Gn 1))))], [(px, .inl (zI K, 24, .inl (upd Gx g.toNatClampNeg ((Gn 0) + (Gn 1)))))], [(ph, .inl (zI K, 24, .inl Gh))]]) rfl dL_fetches_196 ?_
        refine z_aload B dL_fetches_197 6 rfl ?_
        refine z_iload B dL_fetches_199 9 rfl ?_
        refine z_iconst B (v := 0) dL_fetches_201 rfl ?_
        refine z_iastn B (N := 24) (f := Gh) (k0 := g.toNatClampNeg) 6 0 rfl rfl (z_ofP hg c1) rfl (bs' := [[(pz, .inl (zI K, 32, .inl Gz))], [(pn, .inl (zI K, 20, .inl Gn))], [(pe, .inl (zI K, 24, .inl (upd Ge g.toNatClampNeg (x2 + 1))))], [(pv, .inl (zI K, 24, .inl (upd Gv g.toNatClampNeg (Gz x2.toNatClampNeg))))], [(pl, .inl (zI K, 24, .inl (upd Gl g.toNatClampNeg (Gn 1))))], [(px, .inl (zI K, 24, .inl (upd Gx g.toNatClampNeg ((Gn 0) + (Gn 1)))))], [(ph, .inl (zI K, 24, .inl (upd Gh g.toNatClampNeg 0)))]]) rfl dL_fetches_202 ?_
        refine z_aload_n B dL_fetches_203 1 rfl ?_
        refine z_bipush B (v := 11) dL_fetches_204 rfl ?_
        refine z_dup2 B dL_fetches_206 rfl rfl ?_
        refine z_ialdn B (N := 20) (f := Gn) (k0 := 11) (v := (Gn 11)) 1 0 rfl rfl (z_vpc (k := 11) rfl (by decide)) rfl rfl dL_fetches_207 ?_
        refine z_iconst B (v := 1) dL_fetches_208 rfl ?_
        refine z_iadd B dL_fetches_209 ?_
        refine z_iastn B (N := 20) (f := Gn) (k0 := 11) 1 0 rfl rfl (z_vpc (k := 11) rfl (by decide)) rfl (bs' := [[(pz, .inl (zI K, 32, .inl Gz))], [(pn, .inl (zI K, 20, .inl (upd Gn 11 ((Gn 11) + 1))))], [(pe, .inl (zI K, 24, .inl (upd Ge g.toNatClampNeg (x2 + 1))))], [(pv, .inl (zI K, 24, .inl (upd Gv g.toNatClampNeg (Gz x2.toNatClampNeg))))], [(pl, .inl (zI K, 24, .inl (upd Gl g.toNatClampNeg (Gn 1))))], [(px, .inl (zI K, 24, .inl (upd Gx g.toNatClampNeg ((Gn 0) + (Gn 1)))))], [(ph, .inl (zI K, 24, .inl (upd Gh g.toNatClampNeg 0)))]]) rfl dL_fetches_210 ?_
        refine z_aload_n B dL_fetches_211 1 rfl ?_
        refine z_bipush B (v := 18) dL_fetches_212 rfl ?_
        refine z_dup2 B dL_fetches_214 rfl rfl ?_
        refine z_ialdn B (N := 20) (f := (upd Gn 11 ((Gn 11) + 1))) (k0 := 18) (v := (Gn 18)) 1 0 rfl rfl (z_vpc (k := 18) rfl (by decide)) rfl rfl dL_fetches_215 ?_
        refine z_iconst B (v := 1) dL_fetches_216 rfl ?_
        refine z_iadd B dL_fetches_217 ?_
        refine z_iastn B (N := 20) (f := (upd Gn 11 ((Gn 11) + 1))) (k0 := 18) 1 0 rfl rfl (z_vpc (k := 18) rfl (by decide)) rfl (bs' := [[(pz, .inl (zI K, 32, .inl Gz))], [(pn, .inl (zI K, 20, .inl (upd (upd Gn 11 ((Gn 11) + 1)) 18 ((Gn 18) + 1))))], [(pe, .inl (zI K, 24, .inl (upd Ge g.toNatClampNeg (x2 + 1))))], [(pv, .inl (zI K, 24, .inl (upd Gv g.toNatClampNeg (Gz x2.toNatClampNeg))))], [(pl, .inl (zI K, 24, .inl (upd Gl g.toNatClampNeg (Gn 1))))], [(px, .inl (zI K, 24, .inl (upd Gx g.toNatClampNeg ((Gn 0) + (Gn 1)))))], [(ph, .inl (zI K, 24, .inl (upd Gh g.toNatClampNeg 0)))]]) rfl dL_fetches_218 ?_
        have hF : fL_fetches Gz Gn Ge Gv Gl Gx Gh i x2 = ((upd (upd Gn 11 ((Gn 11) + 1)) 18 ((Gn 18) + 1)), (upd Ge g.toNatClampNeg (x2 + 1)), (upd Gv g.toNatClampNeg (Gz x2.toNatClampNeg)), (upd Gl g.toNatClampNeg (Gn 1)), (upd Gx g.toNatClampNeg ((Gn 0) + (Gn 1))), (upd Gh g.toNatClampNeg 0)) := (hF0).trans ((if_pos c1).trans (if_pos c2))
        exact z_ret0 B dL_fetches_219 () (trivial) (Nat.le_of_ble_eq_true rfl) (Nat.le_of_ble_eq_true rfl) rfl (by rw [hF])
      · refine z_aload_n B dL_fetches_175 0 rfl ?_
        refine z_bipush B (v := 16) dL_fetches_176 rfl ?_
        refine z_iload B dL_fetches_178 8 rfl ?_
        refine z_iadd B dL_fetches_180 ?_
        refine z_ialdn B (N := 32) (f := Gz) (k0 := (16 + x2).toNatClampNeg) (v := (Gz ((16 + x2).toNatClampNeg))) 0 0 rfl rfl (z_16 hn) rfl rfl dL_fetches_181 ?_
        refine z_iastn B (N := 24) (f := Gl) (k0 := g.toNatClampNeg) 4 0 rfl rfl (z_ofP hg c1) rfl (bs' := [[(pz, .inl (zI K, 32, .inl Gz))], [(pn, .inl (zI K, 20, .inl Gn))], [(pe, .inl (zI K, 24, .inl (upd Ge g.toNatClampNeg (x2 + 1))))], [(pv, .inl (zI K, 24, .inl (upd Gv g.toNatClampNeg (Gz x2.toNatClampNeg))))], [(pl, .inl (zI K, 24, .inl (upd Gl g.toNatClampNeg (Gz ((16 + x2).toNatClampNeg)))))], [(px, .inl (zI K, 24, .inl Gx))], [(ph, .inl (zI K, 24, .inl Gh))]]) rfl dL_fetches_182 ?_
        refine z_aload B dL_fetches_183 5 rfl ?_
        refine z_iload B dL_fetches_185 9 rfl ?_
        refine z_aload_n B dL_fetches_187 1 rfl ?_
        refine z_iconst B (v := 0) dL_fetches_188 rfl ?_
        refine z_ialdn B (N := 20) (f := Gn) (k0 := 0) (v := (Gn 0)) 1 0 rfl rfl (z_vpc (k := 0) rfl (by decide)) rfl rfl dL_fetches_189 ?_
        refine z_aload B dL_fetches_190 4 rfl ?_
        refine z_iload B dL_fetches_192 9 rfl ?_
        refine z_ialdn B (N := 24) (f := (upd Gl g.toNatClampNeg (Gz ((16 + x2).toNatClampNeg)))) (k0 := g.toNatClampNeg) (v := (Gz ((16 + x2).toNatClampNeg))) 4 0 rfl rfl (z_ofP hg c1) rfl pk_us dL_fetches_194 ?_
        refine z_iadd B dL_fetches_195 ?_
        refine z_iastn B (N := 24) (f := Gx) (k0 := g.toNatClampNeg) 5 0 rfl rfl (z_ofP hg c1) rfl (bs' := [[(pz, .inl (zI K, 32, .inl Gz))], [(pn, .inl (zI K, 20, .inl Gn))], [(pe, .inl (zI K, 24, .inl (upd Ge g.toNatClampNeg (x2 + 1))))], [(pv, .inl (zI K, 24, .inl (upd Gv g.toNatClampNeg (Gz x2.toNatClampNeg))))], [(pl, .inl (zI K, 24, .inl (upd Gl g.toNatClampNeg (Gz ((16 + x2).toNatClampNeg)))))], [(px, .inl (zI K, 24, .inl (upd Gx g.toNatClampNeg ((Gn 0) + (Gz ((16 + x2).toNatClampNeg))))))], [(ph, .inl (zI K, 24, .inl Gh))]]) rfl dL_fetches_196 ?_
        refine z_aload B dL_fetches_197 6 rfl ?_
        refine z_iload B dL_fetches_199 9 rfl ?_
        refine z_iconst B (v := 0) dL_fetches_201 rfl ?_
        refine z_iastn B (N := 24) (f := Gh) (k0 := g.toNatClampNeg) 6 0 rfl rfl (z_ofP hg c1) rfl (bs' := [[(pz, .inl (zI K, 32, .inl Gz))], [(pn, .inl (zI K, 20, .inl Gn))], [(pe, .inl (zI K, 24, .inl (upd Ge g.toNatClampNeg (x2 + 1))))], [(pv, .inl (zI K, 24, .inl (upd Gv g.toNatClampNeg (Gz x2.toNatClampNeg))))], [(pl, .inl (zI K, 24, .inl (upd Gl g.toNatClampNeg (Gz ((16 + x2).toNatClampNeg)))))], [(px, .inl (zI K, 24, .inl (upd Gx g.toNatClampNeg ((Gn 0) + (Gz ((16 + x2).toNatClampNeg))))))], [(ph, .inl (zI K, 24, .inl (upd Gh g.toNatClampNeg 0)))]]) rfl dL_fetches_202 ?_
        refine z_aload_n B dL_fetches_203 1 rfl ?_
        refine z_bipush B (v := 11) dL_fetches_204 rfl ?_
        refine z_dup2 B dL_fetches_206 rfl rfl ?_
        refine z_ialdn B (N := 20) (f := Gn) (k0 := 11) (v := (Gn 11)) 1 0 rfl rfl (z_vpc (k := 11) rfl (by decide)) rfl rfl dL_fetches_207 ?_
        refine z_iconst B (v := 1) dL_fetches_208 rfl ?_
        refine z_iadd B dL_fetches_209 ?_
        refine z_iastn B (N := 20) (f := Gn) (k0 := 11) 1 0 rfl rfl (z_vpc (k := 11) rfl (by decide)) rfl (bs' := [[(pz, .inl (zI K, 32, .inl Gz))], [(pn, .inl (zI K, 20, .inl (upd Gn 11 ((Gn 11) + 1))))], [(pe, .inl (zI K, 24, .inl (upd Ge g.toNatClampNeg (x2 + 1))))], [(pv, .inl (zI K, 24, .inl (upd Gv g.toNatClampNeg (Gz x2.toNatClampNeg))))], [(pl, .inl (zI K, 24, .inl (upd Gl g.toNatClampNeg (Gz ((16 + x2).toNatClampNeg)))))], [(px, .inl (zI K, 24, .inl (upd Gx g.toNatClampNeg ((Gn 0) + (Gz ((16 + x2).toNatClampNeg))))))], [(ph, .inl (zI K, 24, .inl (upd Gh g.toNatClampNeg 0)))]]) rfl dL_fetches_210 ?_
        refine z_aload_n B dL_fetches_211 1 rfl ?_
        refine z_bipush B (v := 18) dL_fetches_212 rfl ?_
        refine z_dup2 B dL_fetches_214 rfl rfl ?_
        refine z_ialdn B (N := 20) (f := (upd Gn 11 ((Gn 11) + 1))) (k0 := 18) (v := (Gn 18)) 1 0 rfl rfl (z_vpc (k := 18) rfl (by decide)) rfl rfl dL_fetches_215 ?_
        refine z_iconst B (v := 1) dL_fetches_216 rfl ?_
        refine z_iadd B dL_fetches_217 ?_
        refine z_iastn B (N := 20) (f := (upd Gn 11 ((Gn 11) + 1))) (k0 := 18) 1 0 rfl rfl (z_vpc (k := 18) rfl (by decide)) rfl (bs' := [[(pz, .inl (zI K, 32, .inl Gz))], [(pn, .inl (zI K, 20, .inl (upd (upd Gn 11 ((Gn 11) + 1)) 18 ((Gn 18) + 1))))], [(pe, .inl (zI K, 24, .inl (upd Ge g.toNatClampNeg (x2 + 1))))], [(pv, .inl (zI K, 24, .inl (upd Gv g.toNatClampNeg (Gz x2.toNatClampNeg))))], [(pl, .inl (zI K, 24, .inl (upd Gl g.toNatClampNeg (Gz ((16 + x2).toNatClampNeg)))))], [(px, .inl (zI K, 24, .inl (upd Gx g.toNatClampNeg ((Gn 0) + (Gz ((16 + x2).toNatClampNeg))))))], [(ph, .inl (zI K, 24, .inl (upd Gh g.toNatClampNeg 0)))]]) rfl dL_fetches_218 ?_
        have hF : fL_fetches Gz Gn Ge Gv Gl Gx Gh i x2 = ((upd (upd Gn 11 ((Gn 11) + 1)) 18 ((Gn 18) + 1)), (upd Ge g.toNatClampNeg (x2 + 1)), (upd Gv g.toNatClampNeg (Gz x2.toNatClampNeg)), (upd Gl g.toNatClampNeg (Gz ((16 + x2).toNatClampNeg))), (upd Gx g.toNatClampNeg ((Gn 0) + (Gz ((16 + x2).toNatClampNeg)))), (upd Gh g.toNatClampNeg 0)) := (hF0).trans ((if_pos c1).trans (if_neg c2))
        exact z_ret0 B dL_fetches_219 () (trivial) (Nat.le_of_ble_eq_true rfl) (Nat.le_of_ble_eq_true rfl) rfl (by rw [hF])
    · refine z_bipush B (v := 6) dL_fetches_61 rfl ?_
      refine z_iload B dL_fetches_63 7 rfl ?_
      refine z_imulN B (a := 6) (b := i) dL_fetches_65 ?_
      refine z_istore B (lv' := [(9, .int (nI (6 * i))), (0, .ref pz), (1, .ref pn), (2, .ref pe), (3, .ref pv), (4, .ref pl), (5, .ref px), (6, .ref ph), (7, .int (nI i)), (8, .int x2), (10, .int (nI (6 * i + a)))]) dL_fetches_66 (by decide) rfl ?_
      refine z_bipush B (v := 6) dL_fetches_68 rfl ?_
      refine z_iload B dL_fetches_70 8 rfl ?_
      refine z_imulN B (a := 6) (b := i) dL_fetches_72 ?_
      refine z_iconst B (v := 1) dL_fetches_73 rfl ?_
      refine z_iaddN B (a := 6 * i) (b := 1) dL_fetches_74 ?_
      refine z_istore B (lv' := [(10, .int (nI (6 * i + 1))), (9, .int (nI (6 * i))), (0, .ref pz), (1, .ref pn), (2, .ref pe), (3, .ref pv), (4, .ref pl), (5, .ref px), (6, .ref ph), (7, .int (nI i)), (8, .int x2)]) dL_fetches_75 (by decide) rfl ?_
      refine z_lsub [2, 3, 4, 5, 6, 7, 8, 9, 10, 1, 0] rfl ?_
      have hF : fL_fetches Gz Gn Ge Gv Gl Gx Gh i x2 = fL_fetches_L77 Gz Gn Ge Gv Gl Gx Gh i x2 5 0 (nI (6 * i)) := (hF0).trans (if_neg c1)
      exact kL_fetches_L77 l hl K pz pn pe pv pl px ph Gz Gn Ge Gv Gl Gx Gh i x2 hi4 hn B 5 0 (nI (6 * i)) (by omega) (z_nIr (by omega) (by decide)) hF
  | succ n ih =>
    intro a g ha hg hF0
    refine z_iload B dL_fetches_17 10 rfl ?_
    refine z_bipush B (v := 6) dL_fetches_19 rfl ?_
    refine z_iload B dL_fetches_21 7 rfl ?_
    refine z_imulN B (a := 6) (b := i) dL_fetches_23 ?_
    refine z_bipush B (v := 6) dL_fetches_24 rfl ?_
    refine z_iaddN B (a := 6 * i) (b := 6) dL_fetches_26 ?_
    refine z_icge B 56 dL_fetches_27 (by decide) (fun h => absurd h (nI_ge (by omega) (by omega))) (fun _ => ?_)
    refine z_iload B dL_fetches_30 9 rfl ?_
    refine z_ifge B 56 dL_fetches_32 (by decide) (fun c3 => ?_) (fun c3 => ?_)
    · refine z_iload B dL_fetches_56 9 rfl ?_
      refine z_ifge B 142 dL_fetches_58 (by decide) (fun _ => ?_) (fun h => absurd c3 h)
      refine z_aload_n B dL_fetches_142 2 rfl ?_
      refine z_iload B dL_fetches_143 9 rfl ?_
      refine z_iload B dL_fetches_145 8 rfl ?_
      refine z_iconst B (v := 1) dL_fetches_147 rfl ?_
      refine z_iadd B dL_fetches_148 ?_
      refine z_iastn B (N := 24) (f := Ge) (k0 := g.toNatClampNeg) 2 0 rfl rfl (z_ofP hg c3) rfl (bs' := [[(pz, .inl (zI K, 32, .inl Gz))], [(pn, .inl (zI K, 20, .inl Gn))], [(pe, .inl (zI K, 24, .inl (upd Ge g.toNatClampNeg (x2 + 1))))], [(pv, .inl (zI K, 24, .inl Gv))], [(pl, .inl (zI K, 24, .inl Gl))], [(px, .inl (zI K, 24, .inl Gx))], [(ph, .inl (zI K, 24, .inl Gh))]]) rfl dL_fetches_149 ?_
      refine z_aload_n B dL_fetches_150 3 rfl ?_
      refine z_iload B dL_fetches_151 9 rfl ?_
      refine z_aload_n B dL_fetches_153 0 rfl ?_
      refine z_iload B dL_fetches_154 8 rfl ?_
      refine z_ialdn B (N := 32) (f := Gz) (k0 := x2.toNatClampNeg) (v := (Gz x2.toNatClampNeg)) 0 0 rfl rfl (z_32 hn) rfl rfl dL_fetches_156 ?_
      refine z_iastn B (N := 24) (f := Gv) (k0 := g.toNatClampNeg) 3 0 rfl rfl (z_ofP hg c3) rfl (bs' := [[(pz, .inl (zI K, 32, .inl Gz))], [(pn, .inl (zI K, 20, .inl Gn))], [(pe, .inl (zI K, 24, .inl (upd Ge g.toNatClampNeg (x2 + 1))))], [(pv, .inl (zI K, 24, .inl (upd Gv g.toNatClampNeg (Gz x2.toNatClampNeg))))], [(pl, .inl (zI K, 24, .inl Gl))], [(px, .inl (zI K, 24, .inl Gx))], [(ph, .inl (zI K, 24, .inl Gh))]]) rfl dL_fetches_157 ?_
      refine z_aload B dL_fetches_158 4 rfl ?_
      refine z_iload B dL_fetches_160 9 rfl ?_
      refine z_aload_n B dL_fetches_162 0 rfl ?_
      refine z_iload B dL_fetches_163 8 rfl ?_
      refine z_ialdn B (N := 32) (f := Gz) (k0 := x2.toNatClampNeg) (v := (Gz x2.toNatClampNeg)) 0 0 rfl rfl (z_32 hn) rfl rfl dL_fetches_165 ?_
      refine z_ifne B 175 dL_fetches_166 (by decide) (fun c4 => ?_) (fun c4 => ?_)
      · refine z_aload_n B dL_fetches_169 1 rfl ?_
        refine z_iconst B (v := 1) dL_fetches_170 rfl ?_
        refine z_ialdn B (N := 20) (f := Gn) (k0 := 1) (v := (Gn 1)) 1 0 rfl rfl (z_vpc (k := 1) rfl (by decide)) rfl rfl dL_fetches_171 ?_
        refine z_goto B (tgt := 182) dL_fetches_172 (by decide) ?_
        refine z_iastn B (N := 24) (f := Gl) (k0 := g.toNatClampNeg) 4 0 rfl rfl (z_ofP hg c3) rfl (bs' := [[(pz, .inl (zI K, 32, .inl Gz))], [(pn, .inl (zI K, 20, .inl Gn))], [(pe, .inl (zI K, 24, .inl (upd Ge g.toNatClampNeg (x2 + 1))))], [(pv, .inl (zI K, 24, .inl (upd Gv g.toNatClampNeg (Gz x2.toNatClampNeg))))], [(pl, .inl (zI K, 24, .inl (upd Gl g.toNatClampNeg (Gn 1))))], [(px, .inl (zI K, 24, .inl Gx))], [(ph, .inl (zI K, 24, .inl Gh))]]) rfl dL_fetches_182 ?_
        refine z_aload B dL_fetches_183 5 rfl ?_
        refine z_iload B dL_fetches_185 9 rfl ?_
        refine z_aload_n B dL_fetches_187 1 rfl ?_
        refine z_iconst B (v := 0) dL_fetches_188 rfl ?_
        refine z_ialdn B (N := 20) (f := Gn) (k0 := 0) (v := (Gn 0)) 1 0 rfl rfl (z_vpc (k := 0) rfl (by decide)) rfl rfl dL_fetches_189 ?_
        refine z_aload B dL_fetches_190 4 rfl ?_
        refine z_iload B dL_fetches_192 9 rfl ?_
        refine z_ialdn B (N := 24) (f := (upd Gl g.toNatClampNeg (Gn 1))) (k0 := g.toNatClampNeg) (v := (Gn 1)) 4 0 rfl rfl (z_ofP hg c3) rfl pk_us dL_fetches_194 ?_
        refine z_iadd B dL_fetches_195 ?_
        refine z_iastn B (N := 24) (f := Gx) (k0 := g.toNatClampNeg) 5 0 rfl rfl (z_ofP hg c3) rfl (bs' := [[(pz, .inl (zI K, 32, .inl Gz))], [(pn, .inl (zI K, 20, .inl Gn))], [(pe, .inl (zI K, 24, .inl (upd Ge g.toNatClampNeg (x2 + 1))))], [(pv, .inl (zI K, 24, .inl (upd Gv g.toNatClampNeg (Gz x2.toNatClampNeg))))], [(pl, .inl (zI K, 24, .inl (upd Gl g.toNatClampNeg (Gn 1))))], [(px, .inl (zI K, 24, .inl (upd Gx g.toNatClampNeg ((Gn 0) + (Gn 1)))))], [(ph, .inl (zI K, 24, .inl Gh))]]) rfl dL_fetches_196 ?_
        refine z_aload B dL_fetches_197 6 rfl ?_
        refine z_iload B dL_fetches_199 9 rfl ?_
        refine z_iconst B (v := 0) dL_fetches_201 rfl ?_
        refine z_iastn B (N := 24) (f := Gh) (k0 := g.toNatClampNeg) 6 0 rfl rfl (z_ofP hg c3) rfl (bs' := [[(pz, .inl (zI K, 32, .inl Gz))], [(pn, .inl (zI K, 20, .inl Gn))], [(pe, .inl (zI K, 24, .inl (upd Ge g.toNatClampNeg (x2 + 1))))], [(pv, .inl (zI K, 24, .inl (upd Gv g.toNatClampNeg (Gz x2.toNatClampNeg))))], [(pl, .inl (zI K, 24, .inl (upd Gl g.toNatClampNeg (Gn 1))))], [(px, .inl (zI K, 24, .inl (upd Gx g.toNatClampNeg ((Gn 0) + (Gn 1)))))], [(ph, .inl (zI K, 24, .inl (upd Gh g.toNatClampNeg 0)))]]) rfl dL_fetches_202 ?_
        refine z_aload_n B dL_fetches_203 1 rfl ?_
        refine z_bipush B (v := 11) dL_fetches_204 rfl ?_
        refine z_dup2 B dL_fetches_206 rfl rfl ?_
        refine z_ialdn B (N := 20) (f := Gn) (k0 := 11) (v := (Gn 11)) 1 0 rfl rfl (z_vpc (k := 11) rfl (by decide)) rfl rfl dL_fetches_207 ?_
        refine z_iconst B (v := 1) dL_fetches_208 rfl ?_
        refine z_iadd B dL_fetches_209 ?_
        refine z_iastn B (N := 20) (f := Gn) (k0 := 11) 1 0 rfl rfl (z_vpc (k := 11) rfl (by decide)) rfl (bs' := [[(pz, .inl (zI K, 32, .inl Gz))], [(pn, .inl (zI K, 20, .inl (upd Gn 11 ((Gn 11) + 1))))], [(pe, .inl (zI K, 24, .inl (upd Ge g.toNatClampNeg (x2 + 1))))], [(pv, .inl (zI K, 24, .inl (upd Gv g.toNatClampNeg (Gz x2.toNatClampNeg))))], [(pl, .inl (zI K, 24, .inl (upd Gl g.toNatClampNeg (Gn 1))))], [(px, .inl (zI K, 24, .inl (upd Gx g.toNatClampNeg ((Gn 0) + (Gn 1)))))], [(ph, .inl (zI K, 24, .inl (upd Gh g.toNatClampNeg 0)))]]) rfl dL_fetches_210 ?_
        refine z_aload_n B dL_fetches_211 1 rfl ?_
        refine z_bipush B (v := 18) dL_fetches_212 rfl ?_
        refine z_dup2 B dL_fetches_214 rfl rfl ?_
        refine z_ialdn B (N := 20) (f := (upd Gn 11 ((Gn 11) + 1))) (k0 := 18) (v := (Gn 18)) 1 0 rfl rfl (z_vpc (k := 18) rfl (by decide)) rfl rfl dL_fetches_215 ?_
        refine z_iconst B (v := 1) dL_fetches_216 rfl ?_
        refine z_iadd B dL_fetches_217 ?_
        refine z_iastn B (N := 20) (f := (upd Gn 11 ((Gn 11) + 1))) (k0 := 18) 1 0 rfl rfl (z_vpc (k := 18) rfl (by decide)) rfl (bs' := [[(pz, .inl (zI K, 32, .inl Gz))], [(pn, .inl (zI K, 20, .inl (upd (upd Gn 11 ((Gn 11) + 1)) 18 ((Gn 18) + 1))))], [(pe, .inl (zI K, 24, .inl (upd Ge g.toNatClampNeg (x2 + 1))))], [(pv, .inl (zI K, 24, .inl (upd Gv g.toNatClampNeg (Gz x2.toNatClampNeg))))], [(pl, .inl (zI K, 24, .inl (upd Gl g.toNatClampNeg (Gn 1))))], [(px, .inl (zI K, 24, .inl (upd Gx g.toNatClampNeg ((Gn 0) + (Gn 1)))))], [(ph, .inl (zI K, 24, .inl (upd Gh g.toNatClampNeg 0)))]]) rfl dL_fetches_218 ?_
        have hF : fL_fetches Gz Gn Ge Gv Gl Gx Gh i x2 = ((upd (upd Gn 11 ((Gn 11) + 1)) 18 ((Gn 18) + 1)), (upd Ge g.toNatClampNeg (x2 + 1)), (upd Gv g.toNatClampNeg (Gz x2.toNatClampNeg)), (upd Gl g.toNatClampNeg (Gn 1)), (upd Gx g.toNatClampNeg ((Gn 0) + (Gn 1))), (upd Gh g.toNatClampNeg 0)) := (hF0).trans ((if_pos c3).trans (if_pos c4))
        exact z_ret0 B dL_fetches_219 () (trivial) (Nat.le_of_ble_eq_true rfl) (Nat.le_of_ble_eq_true rfl) rfl (by rw [hF])
      · refine z_aload_n B dL_fetches_175 0 rfl ?_
        refine z_bipush B (v := 16) dL_fetches_176 rfl ?_
        refine z_iload B dL_fetches_178 8 rfl ?_
        refine z_iadd B dL_fetches_180 ?_
        refine z_ialdn B (N := 32) (f := Gz) (k0 := (16 + x2).toNatClampNeg) (v := (Gz ((16 + x2).toNatClampNeg))) 0 0 rfl rfl (z_16 hn) rfl rfl dL_fetches_181 ?_
        refine z_iastn B (N := 24) (f := Gl) (k0 := g.toNatClampNeg) 4 0 rfl rfl (z_ofP hg c3) rfl (bs' := [[(pz, .inl (zI K, 32, .inl Gz))], [(pn, .inl (zI K, 20, .inl Gn))], [(pe, .inl (zI K, 24, .inl (upd Ge g.toNatClampNeg (x2 + 1))))], [(pv, .inl (zI K, 24, .inl (upd Gv g.toNatClampNeg (Gz x2.toNatClampNeg))))], [(pl, .inl (zI K, 24, .inl (upd Gl g.toNatClampNeg (Gz ((16 + x2).toNatClampNeg)))))], [(px, .inl (zI K, 24, .inl Gx))], [(ph, .inl (zI K, 24, .inl Gh))]]) rfl dL_fetches_182 ?_
        refine z_aload B dL_fetches_183 5 rfl ?_
        refine z_iload B dL_fetches_185 9 rfl ?_
        refine z_aload_n B dL_fetches_187 1 rfl ?_
        refine z_iconst B (v := 0) dL_fetches_188 rfl ?_
        refine z_ialdn B (N := 20) (f := Gn) (k0 := 0) (v := (Gn 0)) 1 0 rfl rfl (z_vpc (k := 0) rfl (by decide)) rfl rfl dL_fetches_189 ?_
        refine z_aload B dL_fetches_190 4 rfl ?_
        refine z_iload B dL_fetches_192 9 rfl ?_
        refine z_ialdn B (N := 24) (f := (upd Gl g.toNatClampNeg (Gz ((16 + x2).toNatClampNeg)))) (k0 := g.toNatClampNeg) (v := (Gz ((16 + x2).toNatClampNeg))) 4 0 rfl rfl (z_ofP hg c3) rfl pk_us dL_fetches_194 ?_
        refine z_iadd B dL_fetches_195 ?_
        refine z_iastn B (N := 24) (f := Gx) (k0 := g.toNatClampNeg) 5 0 rfl rfl (z_ofP hg c3) rfl (bs' := [[(pz, .inl (zI K, 32, .inl Gz))], [(pn, .inl (zI K, 20, .inl Gn))], [(pe, .inl (zI K, 24, .inl (upd Ge g.toNatClampNeg (x2 + 1))))], [(pv, .inl (zI K, 24, .inl (upd Gv g.toNatClampNeg (Gz x2.toNatClampNeg))))], [(pl, .inl (zI K, 24, .inl (upd Gl g.toNatClampNeg (Gz ((16 + x2).toNatClampNeg)))))], [(px, .inl (zI K, 24, .inl (upd Gx g.toNatClampNeg ((Gn 0) + (Gz ((16 + x2).toNatClampNeg))))))], [(ph, .inl (zI K, 24, .inl Gh))]]) rfl dL_fetches_196 ?_
        refine z_aload B dL_fetches_197 6 rfl ?_
        refine z_iload B dL_fetches_199 9 rfl ?_
        refine z_iconst B (v := 0) dL_fetches_201 rfl ?_
        refine z_iastn B (N := 24) (f := Gh) (k0 := g.toNatClampNeg) 6 0 rfl rfl (z_ofP hg c3) rfl (bs' := [[(pz, .inl (zI K, 32, .inl Gz))], [(pn, .inl (zI K, 20, .inl Gn))], [(pe, .inl (zI K, 24, .inl (upd Ge g.toNatClampNeg (x2 + 1))))], [(pv, .inl (zI K, 24, .inl (upd Gv g.toNatClampNeg (Gz x2.toNatClampNeg))))], [(pl, .inl (zI K, 24, .inl (upd Gl g.toNatClampNeg (Gz ((16 + x2).toNatClampNeg)))))], [(px, .inl (zI K, 24, .inl (upd Gx g.toNatClampNeg ((Gn 0) + (Gz ((16 + x2).toNatClampNeg))))))], [(ph, .inl (zI K, 24, .inl (upd Gh g.toNatClampNeg 0)))]]) rfl dL_fetches_202 ?_
        refine z_aload_n B dL_fetches_203 1 rfl ?_
        refine z_bipush B (v := 11) dL_fetches_204 rfl ?_
        refine z_dup2 B dL_fetches_206 rfl rfl ?_
        refine z_ialdn B (N := 20) (f := Gn) (k0 := 11) (v := (Gn 11)) 1 0 rfl rfl (z_vpc (k := 11) rfl (by decide)) rfl rfl dL_fetches_207 ?_
        refine z_iconst B (v := 1) dL_fetches_208 rfl ?_
        refine z_iadd B dL_fetches_209 ?_
        refine z_iastn B (N := 20) (f := Gn) (k0 := 11) 1 0 rfl rfl (z_vpc (k := 11) rfl (by decide)) rfl (bs' := [[(pz, .inl (zI K, 32, .inl Gz))], [(pn, .inl (zI K, 20, .inl (upd Gn 11 ((Gn 11) + 1))))], [(pe, .inl (zI K, 24, .inl (upd Ge g.toNatClampNeg (x2 + 1))))], [(pv, .inl (zI K, 24, .inl (upd Gv g.toNatClampNeg (Gz x2.toNatClampNeg))))], [(pl, .inl (zI K, 24, .inl (upd Gl g.toNatClampNeg (Gz ((16 + x2).toNatClampNeg)))))], [(px, .inl (zI K, 24, .inl (upd Gx g.toNatClampNeg ((Gn 0) + (Gz ((16 + x2).toNatClampNeg))))))], [(ph, .inl (zI K, 24, .inl (upd Gh g.toNatClampNeg 0)))]]) rfl dL_fetches_210 ?_
        refine z_aload_n B dL_fetches_211 1 rfl ?_
        refine z_bipush B (v := 18) dL_fetches_212 rfl ?_
        refine z_dup2 B dL_fetches_214 rfl rfl ?_
        refine z_ialdn B (N := 20) (f := (upd Gn 11 ((Gn 11) + 1))) (k0 := 18) (v := (Gn 18)) 1 0 rfl rfl (z_vpc (k := 18) rfl (by decide)) rfl rfl dL_fetches_215 ?_
        refine z_iconst B (v := 1) dL_fetches_216 rfl ?_
        refine z_iadd B dL_fetches_217 ?_
        refine z_iastn B (N := 20) (f := (upd Gn 11 ((Gn 11) + 1))) (k0 := 18) 1 0 rfl rfl (z_vpc (k := 18) rfl (by decide)) rfl (bs' := [[(pz, .inl (zI K, 32, .inl Gz))], [(pn, .inl (zI K, 20, .inl (upd (upd Gn 11 ((Gn 11) + 1)) 18 ((Gn 18) + 1))))], [(pe, .inl (zI K, 24, .inl (upd Ge g.toNatClampNeg (x2 + 1))))], [(pv, .inl (zI K, 24, .inl (upd Gv g.toNatClampNeg (Gz x2.toNatClampNeg))))], [(pl, .inl (zI K, 24, .inl (upd Gl g.toNatClampNeg (Gz ((16 + x2).toNatClampNeg)))))], [(px, .inl (zI K, 24, .inl (upd Gx g.toNatClampNeg ((Gn 0) + (Gz ((16 + x2).toNatClampNeg))))))], [(ph, .inl (zI K, 24, .inl (upd Gh g.toNatClampNeg 0)))]]) rfl dL_fetches_218 ?_
        have hF : fL_fetches Gz Gn Ge Gv Gl Gx Gh i x2 = ((upd (upd Gn 11 ((Gn 11) + 1)) 18 ((Gn 18) + 1)), (upd Ge g.toNatClampNeg (x2 + 1)), (upd Gv g.toNatClampNeg (Gz x2.toNatClampNeg)), (upd Gl g.toNatClampNeg (Gz ((16 + x2).toNatClampNeg))), (upd Gx g.toNatClampNeg ((Gn 0) + (Gz ((16 + x2).toNatClampNeg)))), (upd Gh g.toNatClampNeg 0)) := (hF0).trans ((if_pos c3).trans (if_neg c4))
        exact z_ret0 B dL_fetches_219 () (trivial) (Nat.le_of_ble_eq_true rfl) (Nat.le_of_ble_eq_true rfl) rfl (by rw [hF])
    · refine z_aload_n B dL_fetches_35 2 rfl ?_
      refine z_iload B dL_fetches_36 10 rfl ?_
      refine z_ialdn B (N := 24) (f := Ge) (k0 := 6 * i + a) (v := (Ge (6 * i + a))) 2 0 rfl rfl (z_nIr (by omega) (by decide)) (nI_clamp (by omega)) rfl dL_fetches_38 ?_
      refine z_ifne B 47 dL_fetches_39 (by decide) (fun c5 => ?_) (fun c5 => ?_)
      · refine z_iload B dL_fetches_42 10 rfl ?_
        refine z_goto B (tgt := 48) dL_fetches_44 (by decide) ?_
        refine z_istore B (lv' := [(9, .int (nI (6 * i + a))), (0, .ref pz), (1, .ref pn), (2, .ref pe), (3, .ref pv), (4, .ref pl), (5, .ref px), (6, .ref ph), (7, .int (nI i)), (8, .int x2), (10, .int (nI (6 * i + a)))]) dL_fetches_48 (by decide) rfl ?_
        refine z_iinc B (v := nI (6 * i + (a + 1))) (lv' := [(10, .int (nI (6 * i + (a + 1)))), (9, .int (nI (6 * i + a))), (0, .ref pz), (1, .ref pn), (2, .ref pe), (3, .ref pv), (4, .ref pl), (5, .ref px), (6, .ref ph), (7, .int (nI i)), (8, .int x2)]) dL_fetches_50 10 rfl (nI_1 _) (by decide) rfl ?_
        refine z_goto B (tgt := 17) dL_fetches_53 (by decide) ?_
        refine z_lsub [2, 3, 4, 5, 6, 7, 8, 9, 10, 1, 0] rfl ?_
        have hF : fL_fetches Gz Gn Ge Gv Gl Gx Gh i x2 = fL_fetches_L17 Gz Gn Ge Gv Gl Gx Gh i x2 n (a + 1) (nI (6 * i + a)) := (hF0).trans ((if_neg c3).trans (if_pos c5))
        exact ih (a + 1) (nI (6 * i + a)) (by omega) (Or.inr (z_nIr (by omega) (by decide))) hF
      · refine z_iconst B (v := (-1)) dL_fetches_47 rfl ?_
        refine z_istore B (lv' := [(9, .int (-1)), (0, .ref pz), (1, .ref pn), (2, .ref pe), (3, .ref pv), (4, .ref pl), (5, .ref px), (6, .ref ph), (7, .int (nI i)), (8, .int x2), (10, .int (nI (6 * i + a)))]) dL_fetches_48 (by decide) rfl ?_
        refine z_iinc B (v := nI (6 * i + (a + 1))) (lv' := [(10, .int (nI (6 * i + (a + 1)))), (9, .int (-1)), (0, .ref pz), (1, .ref pn), (2, .ref pe), (3, .ref pv), (4, .ref pl), (5, .ref px), (6, .ref ph), (7, .int (nI i)), (8, .int x2)]) dL_fetches_50 10 rfl (nI_1 _) (by decide) rfl ?_
        refine z_goto B (tgt := 17) dL_fetches_53 (by decide) ?_
        refine z_lsub [2, 3, 4, 5, 6, 7, 8, 9, 10, 1, 0] rfl ?_
        have hF : fL_fetches Gz Gn Ge Gv Gl Gx Gh i x2 = fL_fetches_L17 Gz Gn Ge Gv Gl Gx Gh i x2 n (a + 1) (-1) := (hF0).trans ((if_neg c3).trans (if_neg c5))
        exact ih (a + 1) (-1) (by omega) (Or.inl (by decide)) hF
set_option maxHeartbeats 4000000 in
set_option maxRecDepth 100000 in
theorem kL_fetches (l : Launch) (hl : l.stackTraces = false) (K : zK) (pz : Nat) (pn : Nat) (pe : Nat) (pv : Nat) (pl : Nat) (px : Nat) (ph : Nat) (Gz : Nat → Int32) (Gn : Nat → Int32) (Ge : Nat → Int32) (Gv : Nat → Int32) (Gl : Nat → Int32) (Gx : Nat → Int32) (Gh : Nat → Int32) (i : Nat) (x2 : Int32) (hi4 : i < 4) (hn : vp_in x2 16) : zMet l K yL_fetches wsL_fetches { frames := 1, cells := 0, slots := 0, locals := 23 } [.ref pz, .ref pn, .ref pe, .ref pv, .ref pl, .ref px, .ref ph, .int (nI i), .int x2] [[(pz, .inl (zI K, 32, .inl Gz))], [(pn, .inl (zI K, 20, .inl Gn))], [(pe, .inl (zI K, 24, .inl Ge))], [(pv, .inl (zI K, 24, .inl Gv))], [(pl, .inl (zI K, 24, .inl Gl))], [(px, .inl (zI K, 24, .inl Gx))], [(ph, .inl (zI K, 24, .inl Gh))]] none [[(pz, .inl (zI K, 32, .inl Gz))], [(pn, .inl (zI K, 20, .inl ((fL_fetches Gz Gn Ge Gv Gl Gx Gh i x2).1)))], [(pe, .inl (zI K, 24, .inl ((fL_fetches Gz Gn Ge Gv Gl Gx Gh i x2).2.1)))], [(pv, .inl (zI K, 24, .inl ((fL_fetches Gz Gn Ge Gv Gl Gx Gh i x2).2.2.1)))], [(pl, .inl (zI K, 24, .inl ((fL_fetches Gz Gn Ge Gv Gl Gx Gh i x2).2.2.2.1)))], [(px, .inl (zI K, 24, .inl ((fL_fetches Gz Gn Ge Gv Gl Gx Gh i x2).2.2.2.2.1)))], [(ph, .inl (zI K, 24, .inl ((fL_fetches Gz Gn Ge Gv Gl Gx Gh i x2).2.2.2.2.2)))]] True zNo := by
  refine zMeN.of (cc := cL_fetches) (maxL := 11) (ret := none) (own := RL) (nm := "fetches") hl (by decide +kernel) rfl rfl rfl (Nat.le_of_ble_eq_true rfl) (lv := [(0, .ref pz), (1, .ref pn), (2, .ref pe), (3, .ref pv), (4, .ref pl), (5, .ref px), (6, .ref ph), (7, .int (nI i)), (8, .int x2)]) rfl ?_
  intro p e s m args below meth c A B
  refine z_aload_n B dL_fetches_0 2 rfl ?_
  refine z_iload B dL_fetches_1 7 rfl ?_
  refine z_iload B dL_fetches_3 8 rfl ?_
  refine z_S1 B (kL_slot l hl K pe Ge i x2 hi4) [2] [0, 1, 3, 4, 5, 6] (br := [[(pz, .inl (zI K, 32, .inl Gz))], [(pn, .inl (zI K, 20, .inl Gn))], [(pv, .inl (zI K, 24, .inl Gv))], [(pl, .inl (zI K, 24, .inl Gl))], [(px, .inl (zI K, 24, .inl Gx))], [(ph, .inl (zI K, 24, .inl Gh))]]) (bs' := [[(pz, .inl (zI K, 32, .inl Gz))], [(pn, .inl (zI K, 20, .inl Gn))], [(pe, .inl (zI K, 24, .inl Ge))], [(pv, .inl (zI K, 24, .inl Gv))], [(pl, .inl (zI K, 24, .inl Gl))], [(px, .inl (zI K, 24, .inl Gx))], [(ph, .inl (zI K, 24, .inl Gh))]]) (st := []) (nA := 3) (zsp rfl rfl rfl) (zsp rfl rfl rfl) gL_fetches_L_slot rfl (by decide +kernel) ⟨Nat.le_of_ble_eq_true rfl, Nat.le_of_ble_eq_true rfl⟩ rfl rfl (Nat.le_of_ble_eq_true rfl) ⟨Nat.le_of_ble_eq_true rfl, Nat.le_of_ble_eq_true rfl⟩ dL_fetches_5 z_noX (fun _ => ?_)
  refine z_istore B (lv' := [(9, .int (fL_slot Ge i x2)), (0, .ref pz), (1, .ref pn), (2, .ref pe), (3, .ref pv), (4, .ref pl), (5, .ref px), (6, .ref ph), (7, .int (nI i)), (8, .int x2)]) dL_fetches_8 (by decide) rfl ?_
  refine z_bipush B (v := 6) dL_fetches_10 rfl ?_
  refine z_iload B dL_fetches_12 8 rfl ?_
  refine z_imulN B (a := 6) (b := i) dL_fetches_14 ?_
  refine z_istore B (lv' := [(10, .int (nI (6 * i))), (9, .int (fL_slot Ge i x2)), (0, .ref pz), (1, .ref pn), (2, .ref pe), (3, .ref pv), (4, .ref pl), (5, .ref px), (6, .ref ph), (7, .int (nI i)), (8, .int x2)]) dL_fetches_15 (by decide) rfl ?_
  refine z_lsub [2, 3, 4, 5, 6, 7, 8, 9, 10, 1, 0] rfl ?_
  have hF : fL_fetches Gz Gn Ge Gv Gl Gx Gh i x2 = fL_fetches_L17 Gz Gn Ge Gv Gl Gx Gh i x2 6 0 (fL_slot Ge i x2) := rfl
  exact kL_fetches_L17 l hl K pz pn pe pv pl px ph Gz Gn Ge Gv Gl Gx Gh i x2 hi4 hn B 6 0 (fL_slot Ge i x2) (by omega) (z_slO hi4) hF
def fL_nearest_L10 (Gn : Nat → Int32) (ns : Nat) (x1 : Int32) : Nat → Nat → (Int32) → (Int32) → Int32
  | 0, a, g, ls =>
    g
  | n + 1, a, g, ls =>
    if (Gn (5 + a)) ≤ x1 then
      if (((Gn 4) >>> ((nI a) &&& 31)) &&& 1) = 1 then
        if ls ≤ (x1 - (Gn (5 + a))) then
          fL_nearest_L10 Gn ns x1 n (a + 1) g ls
        else
          fL_nearest_L10 Gn ns x1 n (a + 1) (nI a) (x1 - (Gn (5 + a)))
      else
        fL_nearest_L10 Gn ns x1 n (a + 1) g ls
    else
      if (((Gn 4) >>> ((nI a) &&& 31)) &&& 1) = 1 then
        if ls ≤ ((Gn (5 + a)) - x1) then
          fL_nearest_L10 Gn ns x1 n (a + 1) g ls
        else
          fL_nearest_L10 Gn ns x1 n (a + 1) (nI a) ((Gn (5 + a)) - x1)
      else
        fL_nearest_L10 Gn ns x1 n (a + 1) g ls
def fL_nearest (Gn : Nat → Int32) (ns : Nat) (x1 : Int32) : Int32 :=
  fL_nearest_L10 Gn ns x1 ns 0 (-3) 1000
set_option maxHeartbeats 4000000 in
set_option maxRecDepth 100000 in
theorem kL_nearest_L10 (l : Launch) (hl : l.stackTraces = false) (K : zK) (pn : Nat) (Gn : Nat → Int32) (ns : Nat) (x1 : Int32) (hN3 : (Gn 3) = nI ns) (hn4 : ns ≤ 4) {p : Program} {e : Env} {s : State} {m : MethodId} {args : Array Value} {below : List Frame} {meth : Method} {c : Code} {A : Nat → Prop} (B : zF K p l s m args meth c A cL_nearest 6 RL "nearest" wsL_nearest (some .int) []) : ∀ (n a : Nat) (g : Int32) (ls : Int32), a + n = ns → fL_nearest Gn ns x1 = fL_nearest_L10 Gn ns x1 n a g ls → zW K p l e { frames := 0, cells := 0, slots := 0, locals := 0 } s m args below meth c A (vx_MQ below (zQ K A (fun _ : Unit => ((some (.int (fL_nearest Gn ns x1))), [[(pn, .inl (zI K, 20, .inl Gn))]])) (fun _ => True)) (zX K A [[(pn, .inl (zI K, 20, .inl Gn))]] zNo) args s 0 0 A) 0 0 [[(pn, .inl (zI K, 20, .inl Gn))]] [(0, .ref pn), (1, .int x1), (2, .int g), (3, .int ls), (4, .int (nI a))] [] 10 := by
  intro n
  induction n with
  | zero =>
    intro a g ls ha  hF0
    refine z_iload B dL_nearest_10 4 rfl ?_
    refine z_aload_n B dL_nearest_12 0 rfl ?_
    refine z_iconst B (v := 3) dL_nearest_13 rfl ?_
    refine z_ialdn B (N := 20) (f := Gn) (k0 := 3) (v := (Gn 3)) 0 0 rfl rfl (z_vpc (k := 3) rfl (by decide)) rfl rfl dL_nearest_14 ?_
    refine z_icge B 79 dL_nearest_15 (by decide) (fun _ => ?_) (fun h => absurd (by rw [hN3]; exact nI_le (by omega) (by omega)) h)
    refine z_iload_n B dL_nearest_79 2 rfl ?_
    have hF : fL_nearest Gn ns x1 = g := hF0
    exact z_ret1 B rfl dL_nearest_80 () (trivial) (Nat.le_of_ble_eq_true rfl) (Nat.le_of_ble_eq_true rfl) (by rw [hF]) (by rw [hF])
  | succ n ih =>
    intro a g ls ha  hF0
    refine z_iload B dL_nearest_10 4 rfl ?_
    refine z_aload_n B dL_nearest_12 0 rfl ?_
    refine z_iconst B (v := 3) dL_nearest_13 rfl ?_
    refine z_ialdn B (N := 20) (f := Gn) (k0 := 3) (v := (Gn 3)) 0 0 rfl rfl (z_vpc (k := 3) rfl (by decide)) rfl rfl dL_nearest_14 ?_
    refine z_icge B 79 dL_nearest_15 (by decide) (fun h => absurd h (by rw [hN3]; exact nI_ge (by omega) (by omega))) (fun _ => ?_)
    refine z_aload_n B dL_nearest_18 0 rfl ?_
    refine z_iconst B (v := 5) dL_nearest_19 rfl ?_
    refine z_iload B dL_nearest_20 4 rfl ?_
    refine z_iaddN B (a := 5) (b := a) dL_nearest_22 ?_
    refine z_ialdn B (N := 20) (f := Gn) (k0 := 5 + a) (v := (Gn (5 + a))) 0 0 rfl rfl (z_nIr (by omega) (by decide)) (nI_clamp (by omega)) rfl dL_nearest_23 ?_
    refine z_iload_n B dL_nearest_24 1 rfl ?_
    refine z_icle B 39 dL_nearest_25 (by decide) (fun c1 => ?_) (fun c1 => ?_)
    · refine z_iload_n B dL_nearest_39 1 rfl ?_
      refine z_aload_n B dL_nearest_40 0 rfl ?_
      refine z_iconst B (v := 5) dL_nearest_41 rfl ?_
      refine z_iload B dL_nearest_42 4 rfl ?_
      refine z_iaddN B (a := 5) (b := a) dL_nearest_44 ?_
      refine z_ialdn B (N := 20) (f := Gn) (k0 := 5 + a) (v := (Gn (5 + a))) 0 0 rfl rfl (z_nIr (by omega) (by decide)) (nI_clamp (by omega)) rfl dL_nearest_45 ?_
      refine z_isub B dL_nearest_46 ?_
      refine z_istore B (lv' := [(5, .int (x1 - (Gn (5 + a)))), (0, .ref pn), (1, .int x1), (2, .int g), (3, .int ls), (4, .int (nI a))]) dL_nearest_47 (by decide) rfl ?_
      refine z_aload_n B dL_nearest_49 1 rfl ?_
      refine z_iconst B (v := 4) dL_nearest_50 rfl ?_
      refine z_ialdn B (N := 20) (f := Gn) (k0 := 4) (v := (Gn 4)) 0 0 rfl rfl (z_vpc (k := 4) rfl (by decide)) rfl rfl dL_nearest_51 ?_
      refine z_iload B dL_nearest_52 5 rfl ?_
      refine z_ishr B dL_nearest_54 ?_
      refine z_iconst B (v := 1) dL_nearest_55 rfl ?_
      refine z_iand B dL_nearest_56 ?_
      refine z_iconst B (v := 1) dL_nearest_57 rfl ?_
      refine z_icne B 73 dL_nearest_58 (by decide) (fun c2 => ?_) (fun c2 => ?_)
      · refine z_iload B dL_nearest_61 0 rfl ?_
        refine z_iload_n B dL_nearest_63 4 rfl ?_
        refine z_icge B 73 dL_nearest_64 (by decide) (fun c3 => ?_) (fun c3 => ?_)
        · refine z_iinc B (v := nI (a + 1)) (lv' := [(4, .int (nI (a + 1))), (5, .int (x1 - (Gn (5 + a)))), (0, .ref pn), (1, .int x1), (2, .int g), (3, .int ls)]) dL_nearest_73 5 rfl (nI_1 a) (by decide) rfl ?_
          refine z_goto B (tgt := 10) dL_nearest_76 (by decide) ?_
          refine z_lsub [2, 3, 4, 5, 0] rfl ?_
          have hF : fL_nearest Gn ns x1 = fL_nearest_L10 Gn ns x1 n (a + 1) g ls := (hF0).trans ((if_pos c1).trans ((if_pos c2).trans (if_pos c3)))
          exact ih (a + 1) g ls (by omega)  hF
        · refine z_iload B dL_nearest_67 0 rfl ?_
          refine z_istore_n B (lv' := [(3, .int (x1 - (Gn (5 + a)))), (5, .int (x1 - (Gn (5 + a)))), (0, .ref pn), (1, .int x1), (2, .int g), (4, .int (nI a))]) dL_nearest_69 (by decide) rfl ?_
          refine z_iload B dL_nearest_70 5 rfl ?_
          refine z_istore_n B (lv' := [(2, .int (nI a)), (3, .int (x1 - (Gn (5 + a)))), (5, .int (x1 - (Gn (5 + a)))), (0, .ref pn), (1, .int x1), (4, .int (nI a))]) dL_nearest_72 (by decide) rfl ?_
          refine z_iinc B (v := nI (a + 1)) (lv' := [(4, .int (nI (a + 1))), (2, .int (nI a)), (3, .int (x1 - (Gn (5 + a)))), (5, .int (x1 - (Gn (5 + a)))), (0, .ref pn), (1, .int x1)]) dL_nearest_73 5 rfl (nI_1 a) (by decide) rfl ?_
          refine z_goto B (tgt := 10) dL_nearest_76 (by decide) ?_
          refine z_lsub [4, 5, 1, 2, 0] rfl ?_
          have hF : fL_nearest Gn ns x1 = fL_nearest_L10 Gn ns x1 n (a + 1) (nI a) (x1 - (Gn (5 + a))) := (hF0).trans ((if_pos c1).trans ((if_pos c2).trans (if_neg c3)))
          exact ih (a + 1) (nI a) (x1 - (Gn (5 + a))) (by omega)  hF
      · refine z_iinc B (v := nI (a + 1)) (lv' := [(4, .int (nI (a + 1))), (5, .int (x1 - (Gn (5 + a)))), (0, .ref pn), (1, .int x1), (2, .int g), (3, .int ls)]) dL_nearest_73 5 rfl (nI_1 a) (by decide) rfl ?_
        refine z_goto B (tgt := 10) dL_nearest_76 (by decide) ?_
        refine z_lsub [2, 3, 4, 5, 0] rfl ?_
        have hF : fL_nearest Gn ns x1 = fL_nearest_L10 Gn ns x1 n (a + 1) g ls := (hF0).trans ((if_pos c1).trans (if_neg c2))
        exact ih (a + 1) g ls (by omega)  hF
    · refine z_aload_n B dL_nearest_28 0 rfl ?_
      refine z_iconst B (v := 5) dL_nearest_29 rfl ?_
      refine z_iload B dL_nearest_30 4 rfl ?_
      refine z_iaddN B (a := 5) (b := a) dL_nearest_32 ?_
      refine z_ialdn B (N := 20) (f := Gn) (k0 := 5 + a) (v := (Gn (5 + a))) 0 0 rfl rfl (z_nIr (by omega) (by decide)) (nI_clamp (by omega)) rfl dL_nearest_33 ?_
      refine z_iload_n B dL_nearest_34 1 rfl ?_
      refine z_isub B dL_nearest_35 ?_
      refine z_goto B (tgt := 47) dL_nearest_36 (by decide) ?_
      refine z_istore B (lv' := [(5, .int ((Gn (5 + a)) - x1)), (0, .ref pn), (1, .int x1), (2, .int g), (3, .int ls), (4, .int (nI a))]) dL_nearest_47 (by decide) rfl ?_
      refine z_aload_n B dL_nearest_49 1 rfl ?_
      refine z_iconst B (v := 4) dL_nearest_50 rfl ?_
      refine z_ialdn B (N := 20) (f := Gn) (k0 := 4) (v := (Gn 4)) 0 0 rfl rfl (z_vpc (k := 4) rfl (by decide)) rfl rfl dL_nearest_51 ?_
      refine z_iload B dL_nearest_52 5 rfl ?_
      refine z_ishr B dL_nearest_54 ?_
      refine z_iconst B (v := 1) dL_nearest_55 rfl ?_
      refine z_iand B dL_nearest_56 ?_
      refine z_iconst B (v := 1) dL_nearest_57 rfl ?_
      refine z_icne B 73 dL_nearest_58 (by decide) (fun c4 => ?_) (fun c4 => ?_)
      · refine z_iload B dL_nearest_61 0 rfl ?_
        refine z_iload_n B dL_nearest_63 4 rfl ?_
        refine z_icge B 73 dL_nearest_64 (by decide) (fun c5 => ?_) (fun c5 => ?_)
        · refine z_iinc B (v := nI (a + 1)) (lv' := [(4, .int (nI (a + 1))), (5, .int ((Gn (5 + a)) - x1)), (0, .ref pn), (1, .int x1), (2, .int g), (3, .int ls)]) dL_nearest_73 5 rfl (nI_1 a) (by decide) rfl ?_
          refine z_goto B (tgt := 10) dL_nearest_76 (by decide) ?_
          refine z_lsub [2, 3, 4, 5, 0] rfl ?_
          have hF : fL_nearest Gn ns x1 = fL_nearest_L10 Gn ns x1 n (a + 1) g ls := (hF0).trans ((if_neg c1).trans ((if_pos c4).trans (if_pos c5)))
          exact ih (a + 1) g ls (by omega)  hF
        · refine z_iload B dL_nearest_67 0 rfl ?_
          refine z_istore_n B (lv' := [(3, .int ((Gn (5 + a)) - x1)), (5, .int ((Gn (5 + a)) - x1)), (0, .ref pn), (1, .int x1), (2, .int g), (4, .int (nI a))]) dL_nearest_69 (by decide) rfl ?_
          refine z_iload B dL_nearest_70 5 rfl ?_
          refine z_istore_n B (lv' := [(2, .int (nI a)), (3, .int ((Gn (5 + a)) - x1)), (5, .int ((Gn (5 + a)) - x1)), (0, .ref pn), (1, .int x1), (4, .int (nI a))]) dL_nearest_72 (by decide) rfl ?_
          refine z_iinc B (v := nI (a + 1)) (lv' := [(4, .int (nI (a + 1))), (2, .int (nI a)), (3, .int ((Gn (5 + a)) - x1)), (5, .int ((Gn (5 + a)) - x1)), (0, .ref pn), (1, .int x1)]) dL_nearest_73 5 rfl (nI_1 a) (by decide) rfl ?_
          refine z_goto B (tgt := 10) dL_nearest_76 (by decide) ?_
          refine z_lsub [4, 5, 1, 2, 0] rfl ?_
          have hF : fL_nearest Gn ns x1 = fL_nearest_L10 Gn ns x1 n (a + 1) (nI a) ((Gn (5 + a)) - x1) := (hF0).trans ((if_neg c1).trans ((if_pos c4).trans (if_neg c5)))
          exact ih (a + 1) (nI a) ((Gn (5 + a)) - x1) (by omega)  hF
      · refine z_iinc B (v := nI (a + 1)) (lv' := [(4, .int (nI (a + 1))), (5, .int ((Gn (5 + a)) - x1)), (0, .ref pn), (1, .int x1), (2, .int g), (3, .int ls)]) dL_nearest_73 5 rfl (nI_1 a) (by decide) rfl ?_
        refine z_goto B (tgt := 10) dL_nearest_76 (by decide) ?_
        refine z_lsub [2, 3, 4, 5, 0] rfl ?_
        have hF : fL_nearest Gn ns x1 = fL_nearest_L10 Gn ns x1 n (a + 1) g ls := (hF0).trans ((if_neg c1).trans (if_neg c4))
        exact ih (a + 1) g ls (by omega)  hF
set_option maxHeartbeats 4000000 in
set_option maxRecDepth 100000 in
theorem kL_nearest (l : Launch) (hl : l.stackTraces = false) (K : zK) (pn : Nat) (Gn : Nat → Int32) (ns : Nat) (x1 : Int32) (hN3 : (Gn 3) = nI ns) (hn4 : ns ≤ 4) : zMet l K yL_nearest wsL_nearest { frames := 0, cells := 0, slots := 0, locals := 0 } [.ref pn, .int x1] [[(pn, .inl (zI K, 20, .inl Gn))]] (some (.int (fL_nearest Gn ns x1))) [[(pn, .inl (zI K, 20, .inl Gn))]] True zNo := by
  refine zMeN.of (cc := cL_nearest) (maxL := 6) (ret := (some .int)) (own := RL) (nm := "nearest") hl (by decide +kernel) rfl rfl rfl (Nat.le_of_ble_eq_true rfl) (lv := [(0, .ref pn), (1, .int x1)]) rfl ?_
  intro p e s m args below meth c A B
  refine z_bipush B (v := (-3)) dL_nearest_0 rfl ?_
  refine z_istore_n B (lv' := [(2, .int (-3)), (0, .ref pn), (1, .int x1)]) dL_nearest_2 (by decide) rfl ?_
  refine z_sipush B (v := 1000) dL_nearest_3 rfl ?_
  refine z_istore_n B (lv' := [(3, .int 1000), (2, .int (-3)), (0, .ref pn), (1, .int x1)]) dL_nearest_6 (by decide) rfl ?_
  refine z_iconst B (v := 0) dL_nearest_7 rfl ?_
  refine z_istore B (lv' := [(4, .int 0), (3, .int 1000), (2, .int (-3)), (0, .ref pn), (1, .int x1)]) dL_nearest_8 (by decide) rfl ?_
  refine z_lsub [3, 4, 2, 1, 0] rfl ?_
  have hF : fL_nearest Gn ns x1 = fL_nearest_L10 Gn ns x1 ns 0 (-3) 1000 := rfl
  exact kL_nearest_L10 l hl K pn Gn ns x1 hN3 hn4 B ns 0 (-3) 1000 (by omega)  hF
def zwz (Gz : Nat → Int32) : Prop := ∀ j, j < 16 → Gz j < 0 → vp_in ((-1) - Gz j) 16
theorem z_wz {Gz : Nat → Int32} {x : Int32} (h : zwz Gz) (hx : vp_in x 16) (h0 : Gz x.toNatClampNeg < 0) : vp_in ((-1) - Gz x.toNatClampNeg) 16 := by
  obtain ⟨j, hj, rfl⟩ := vp_in_of hx (by decide)
  rw [nI_clamp (by omega)] at h0 ⊢
  exact h j hj h0
theorem z_lt0 {x : Int32} (h : ¬ 0 ≤ x) : x < 0 := Int32.not_le.mp h
theorem z_n5 {a n : Nat} (h : a + (n + 1) = 5) : ¬ nI a = 5 := by
  show ¬ nI a = nI 5
  rw [nI_eq (by omega) (by decide)]
  omega
theorem z_n50 {a : Nat} (h : a + 0 = 5) : nI a = 5 := by
  have e : a = 5 := by omega
  subst e
  rfl
def fL_truth_L4 (Gz : Nat → Int32) (x2 : Int32) : Nat → Nat → (Int32) → Int32
  | 0, a, cur =>
    if 0 ≤ (Gz cur.toNatClampNeg) then
      (-2)
    else
      (-2)
  | n + 1, a, cur =>
    if 0 ≤ (Gz cur.toNatClampNeg) then
      if (Gz cur.toNatClampNeg) = 0 then
        (-1)
      else
        (Gz cur.toNatClampNeg)
    else
      fL_truth_L4 Gz x2 n (a + 1) ((-1) - (Gz cur.toNatClampNeg))
def fL_truth (Gz : Nat → Int32) (x2 : Int32) : Int32 :=
  fL_truth_L4 Gz x2 5 0 x2
set_option maxHeartbeats 4000000 in
set_option maxRecDepth 100000 in
theorem kL_truth_L4 (l : Launch) (hl : l.stackTraces = false) (K : zK) (pz : Nat) (Gz : Nat → Int32) (x2 : Int32) (hn : vp_in x2 16) (hz : zwz Gz) {p : Program} {e : Env} {s : State} {m : MethodId} {args : Array Value} {below : List Frame} {meth : Method} {c : Code} {A : Nat → Prop} (B : zF K p l s m args meth c A cL_truth 4 RL "truth" wsL_truth (some .int) []) : ∀ (n a : Nat) (cur : Int32), a + n = 5 → (vp_in cur 16) → fL_truth Gz x2 = fL_truth_L4 Gz x2 n a cur → zW K p l e { frames := 0, cells := 0, slots := 0, locals := 0 } s m args below meth c A (vx_MQ below (zQ K A (fun _ : Unit => ((some (.int (fL_truth Gz x2))), [[(pz, .inl (zI K, 32, .inl Gz))]])) (fun _ => True)) (zX K A [[(pz, .inl (zI K, 32, .inl Gz))]] zNo) args s 0 0 A) 0 0 [[(pz, .inl (zI K, 32, .inl Gz))]] [(0, .ref pz), (1, .int x2), (2, .int cur), (3, .int (nI a))] [] 4 := by
  intro n
  induction n with
  | zero =>
    intro a cur ha hc hF0
    refine z_aload_n B dL_truth_4 0 rfl ?_
    refine z_iload_n B dL_truth_5 2 rfl ?_
    refine z_ialdn B (N := 32) (f := Gz) (k0 := cur.toNatClampNeg) (v := (Gz cur.toNatClampNeg)) 0 0 rfl rfl (z_32 hc) rfl rfl dL_truth_6 ?_
    refine z_ifge B 27 dL_truth_7 (by decide) (fun c1 => ?_) (fun c1 => ?_)
    · refine z_iload_n B dL_truth_27 3 rfl ?_
      refine z_iconst B (v := 5) dL_truth_28 rfl ?_
      refine z_icne B 37 dL_truth_29 (by decide) (fun _ => ?_) (fun h => absurd (z_n50 ha) h)
      refine z_bipush B (v := (-2)) dL_truth_32 rfl ?_
      refine z_goto B (tgt := 50) dL_truth_34 (by decide) ?_
      have hF : fL_truth Gz x2 = (-2) := (hF0).trans (if_pos c1)
      exact z_ret1 B rfl dL_truth_50 () (trivial) (Nat.le_of_ble_eq_true rfl) (Nat.le_of_ble_eq_true rfl) (by rw [hF]) (by rw [hF])
    · refine z_iload_n B dL_truth_10 3 rfl ?_
      refine z_iconst B (v := 5) dL_truth_11 rfl ?_
      refine z_icge B 27 dL_truth_12 (by decide) (fun _ => ?_) (fun h => absurd (z_lge0 ha (by decide)) h)
      refine z_iload_n B dL_truth_27 3 rfl ?_
      refine z_iconst B (v := 5) dL_truth_28 rfl ?_
      refine z_icne B 37 dL_truth_29 (by decide) (fun _ => ?_) (fun h => absurd (z_n50 ha) h)
      refine z_bipush B (v := (-2)) dL_truth_32 rfl ?_
      refine z_goto B (tgt := 50) dL_truth_34 (by decide) ?_
      have hF : fL_truth Gz x2 = (-2) := (hF0).trans (if_neg c1)
      exact z_ret1 B rfl dL_truth_50 () (trivial) (Nat.le_of_ble_eq_true rfl) (Nat.le_of_ble_eq_true rfl) (by rw [hF]) (by rw [hF])
  | succ n ih =>
    intro a cur ha hc hF0
    refine z_aload_n B dL_truth_4 0 rfl ?_
    refine z_iload_n B dL_truth_5 2 rfl ?_
    refine z_ialdn B (N := 32) (f := Gz) (k0 := cur.toNatClampNeg) (v := (Gz cur.toNatClampNeg)) 0 0 rfl rfl (z_32 hc) rfl rfl dL_truth_6 ?_
    refine z_ifge B 27 dL_truth_7 (by decide) (fun c2 => ?_) (fun c2 => ?_)
    · refine z_iload_n B dL_truth_27 3 rfl ?_
      refine z_iconst B (v := 5) dL_truth_28 rfl ?_
      refine z_icne B 37 dL_truth_29 (by decide) (fun h => absurd h (z_n5 ha)) (fun _ => ?_)
      refine z_aload_n B dL_truth_37 0 rfl ?_
      refine z_iload_n B dL_truth_38 2 rfl ?_
      refine z_ialdn B (N := 32) (f := Gz) (k0 := cur.toNatClampNeg) (v := (Gz cur.toNatClampNeg)) 0 0 rfl rfl (z_32 hc) rfl rfl dL_truth_39 ?_
      refine z_ifne B 47 dL_truth_40 (by decide) (fun c3 => ?_) (fun c3 => ?_)
      · refine z_iconst B (v := (-1)) dL_truth_43 rfl ?_
        refine z_goto B (tgt := 50) dL_truth_44 (by decide) ?_
        have hF : fL_truth Gz x2 = (-1) := (hF0).trans ((if_pos c2).trans (if_pos c3))
        exact z_ret1 B rfl dL_truth_50 () (trivial) (Nat.le_of_ble_eq_true rfl) (Nat.le_of_ble_eq_true rfl) (by rw [hF]) (by rw [hF])
      · refine z_aload_n B dL_truth_47 0 rfl ?_
        refine z_iload_n B dL_truth_48 2 rfl ?_
        refine z_ialdn B (N := 32) (f := Gz) (k0 := cur.toNatClampNeg) (v := (Gz cur.toNatClampNeg)) 0 0 rfl rfl (z_32 hc) rfl rfl dL_truth_49 ?_
        have hF : fL_truth Gz x2 = (Gz cur.toNatClampNeg) := (hF0).trans ((if_pos c2).trans (if_neg c3))
        exact z_ret1 B rfl dL_truth_50 () (trivial) (Nat.le_of_ble_eq_true rfl) (Nat.le_of_ble_eq_true rfl) (by rw [hF]) (by rw [hF])
    · refine z_iload_n B dL_truth_10 3 rfl ?_
      refine z_iconst B (v := 5) dL_truth_11 rfl ?_
      refine z_icge B 27 dL_truth_12 (by decide) (fun h => absurd h (z_lgeS ha (by decide))) (fun _ => ?_)
      refine z_iconst B (v := (-1)) dL_truth_15 rfl ?_
      refine z_aload_n B dL_truth_16 0 rfl ?_
      refine z_iload_n B dL_truth_17 2 rfl ?_
      refine z_ialdn B (N := 32) (f := Gz) (k0 := cur.toNatClampNeg) (v := (Gz cur.toNatClampNeg)) 0 0 rfl rfl (z_32 hc) rfl rfl dL_truth_18 ?_
      refine z_isub B dL_truth_19 ?_
      refine z_istore_n B (lv' := [(2, .int ((-1) - (Gz cur.toNatClampNeg))), (0, .ref pz), (1, .int x2), (3, .int (nI a))]) dL_truth_20 (by decide) rfl ?_
      refine z_iinc B (v := nI (a + 1)) (lv' := [(3, .int (nI (a + 1))), (2, .int ((-1) - (Gz cur.toNatClampNeg))), (0, .ref pz), (1, .int x2)]) dL_truth_21 3 rfl (nI_1 a) (by decide) rfl ?_
      refine z_goto B (tgt := 4) dL_truth_24 (by decide) ?_
      refine z_lsub [2, 3, 1, 0] rfl ?_
      have hF : fL_truth Gz x2 = fL_truth_L4 Gz x2 n (a + 1) ((-1) - (Gz cur.toNatClampNeg)) := (hF0).trans (if_neg c2)
      exact ih (a + 1) ((-1) - (Gz cur.toNatClampNeg)) (by omega) (z_wz hz hc (z_lt0 c2)) hF
set_option maxHeartbeats 4000000 in
set_option maxRecDepth 100000 in
theorem kL_truth (l : Launch) (hl : l.stackTraces = false) (K : zK) (pz : Nat) (Gz : Nat → Int32) (x2 : Int32) (hn : vp_in x2 16) (hz : zwz Gz) : zMet l K yL_truth wsL_truth { frames := 0, cells := 0, slots := 0, locals := 0 } [.ref pz, .int x2] [[(pz, .inl (zI K, 32, .inl Gz))]] (some (.int (fL_truth Gz x2))) [[(pz, .inl (zI K, 32, .inl Gz))]] True zNo := by
  refine zMeN.of (cc := cL_truth) (maxL := 4) (ret := (some .int)) (own := RL) (nm := "truth") hl (by decide +kernel) rfl rfl rfl (Nat.le_of_ble_eq_true rfl) (lv := [(0, .ref pz), (1, .int x2)]) rfl ?_
  intro p e s m args below meth c A B
  refine z_iload_n B dL_truth_0 1 rfl ?_
  refine z_istore_n B (lv' := [(2, .int x2), (0, .ref pz), (1, .int x2)]) dL_truth_1 (by decide) rfl ?_
  refine z_iconst B (v := 0) dL_truth_2 rfl ?_
  refine z_istore_n B (lv' := [(3, .int 0), (2, .int x2), (0, .ref pz), (1, .int x2)]) dL_truth_3 (by decide) rfl ?_
  refine z_lsub [2, 3, 1, 0] rfl ?_
  have hF : fL_truth Gz x2 = fL_truth_L4 Gz x2 5 0 x2 := rfl
  exact kL_truth_L4 l hl K pz Gz x2 hn hz B 5 0 x2 (by omega) hn hF
